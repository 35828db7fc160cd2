/-! general: the reference's calls that ask: safe -/
theorem r_I.w7 {M : am_M} {v : Int32} (h : r_I M) (hv : v = -1 ∨ am_in v 5) : r_I (am_wI M 200 7 v) := by
  obtain ⟨-, h1, h2⟩ := h
  refine ⟨(), h1.cg (fun b => by rw [am_wI_1, if_neg (fun q => absurd q.1 (by decide))]), ?_⟩
  unfold r_S
  rw [am_wI_self]
  exact hv
theorem r_sc.w7 {M N : am_M} {q y : Int32} (c : r_sc (am_wI (am_wI M 200 7 q) 200 8 y) N) (e : M.1 200 7 = -1) : r_sc M (am_wI N 200 7 (-1)) := by
  have o : ∀ a b, ¬ (a = 200 ∧ (b = 7 ∨ b = 8)) → (am_wI (am_wI M 200 7 q) 200 8 y).1 a b = M.1 a b := fun a b z => by
    rw [am_wI_1, if_neg (fun w => z ⟨w.1, Or.inr w.2⟩), am_wI_1, if_neg (fun w => z ⟨w.1, Or.inl w.2⟩)]
  refine ⟨(), fun a b z => ⟨?_, (c.g a b z).2⟩, ?_, ?_⟩
  · rw [am_wI_1, if_neg (fun w => by omega), (c.g a b z).1, o a b (fun w => by omega)]
  · rw [am_wI_1, if_neg (fun w => absurd w.2 (by decide)), c.f3, o _ _ (fun w => absurd w.2 (by decide))]
  · rw [am_wI_self, e]
theorem r_sc.w3 {M N : am_M} {p w v f : Int32} (c : r_sc (am_wI (am_wI (am_wI (am_wI M 200 3 p) 200 4 w) 200 5 v) 200 6 f) N) (e : M.1 200 3 = -1) : r_sc M (am_wI N 200 3 (-1)) := by
  have o : ∀ a b, ¬ (a = 200 ∧ (b = 3 ∨ b = 4 ∨ b = 5 ∨ b = 6)) → (am_wI (am_wI (am_wI (am_wI M 200 3 p) 200 4 w) 200 5 v) 200 6 f).1 a b = M.1 a b := fun a b z => by
    rw [am_wI_1, if_neg (fun w => z ⟨w.1, by omega⟩), am_wI_1, if_neg (fun w => z ⟨w.1, by omega⟩), am_wI_1, if_neg (fun w => z ⟨w.1, by omega⟩), am_wI_1, if_neg (fun w => z ⟨w.1, by omega⟩)]
  refine ⟨(), fun a b z => ⟨?_, (c.g a b z).2⟩, ?_, ?_⟩
  · rw [am_wI_1, if_neg (fun w => by omega), (c.g a b z).1, o a b (fun w => by omega)]
  · rw [am_wI_self, e]
  · rw [am_wI_1, if_neg (fun w => absurd w.2 (by decide)), c.f7, o _ _ (fun w => absurd w.2 (by decide))]
def rwX8_far : List dz_r := [(0, .iload_n 0, 1), (1, .iload_n 1, 1), (2, .if_icmp .ge 9, 3), (5, .iload_n 1, 1), (6, .iload_n 0, 1), (7, .isub, 1), (8, .goto 6, 3), (11, .iload_n 0, 1), (12, .iload_n 1, 1), (13, .isub, 1), (14, .ireturn, 1)]
theorem dzX8_far : dz cX8_far rwX8_far := dz_all 0 (by decide +kernel)
def kX8_far (live : am_E) (Ret : am_R) : am_code := [(0, am_iload 0 1), (1, am_iload 1 2), (2, am_if2 (fun x y => y ≤ x) 11 5), (5, am_iload 1 6), (6, am_iload 0 7), (7, am_i2 (fun x y => x - y) 8), (8, am_goto 14), (11, am_iload 0 12), (12, am_iload 1 13), (13, am_i2 (fun x y => x - y) 14), (14, am_retI Ret)]
theorem koX8_far (live : am_E) (Ret : am_R) : ∀ q ∈ kX8_far live Ret, am_ok RX8 cX8_far 2 (some .int) 0 0 live Ret q.1 q.2 :=
  am_kz dzX8_far <|
  am_kd (fun d => ak_iload_n d rfl rfl) <|
  am_kd (fun d => ak_iload_n d rfl rfl) <|
  am_kd (fun d => ak_icmp_ge d (by decide +kernel) rfl) <|
  am_kd (fun d => ak_iload_n d rfl rfl) <|
  am_kd (fun d => ak_iload_n d rfl rfl) <|
  am_kd (fun d => ak_isub d rfl) <|
  am_kd (fun d => ak_goto d (by decide +kernel)) <|
  am_kd (fun d => ak_iload_n d rfl rfl) <|
  am_kd (fun d => ak_iload_n d rfl rfl) <|
  am_kd (fun d => ak_isub d rfl) <|
  am_kd (fun d => ak_retI d) <| am_kdn
def TX8_far : am_T := fun _ as M R => match as with
  | [.int a, .int b] => ∀ v, R (some (.int v)) M
  | _ => False
set_option maxRecDepth 100000 in
set_option maxHeartbeats 4000000 in
theorem metX8_far : am_Met yX8_far cX8_far 2 (some .int) (0) (0) TX8_far := by
  refine am_met (own := RX8) (by decide +kernel) rfl kX8_far koX8_far 60 (fun _ _ _ _ _ => none) (fun live as M Ret h => ?_) (fun _ _ _ _ _ _ _ _ hI => by cases hI)
  unfold TX8_far at h
  split at h
  · next a b =>
    refine ⟨Nat.le_of_ble_eq_true rfl, ?_⟩
    change am_wp _ _ _ _ [(0, Value.int a), (1, Value.int b)] _ _
    repeat' (first | apply And.intro | exact rfl | intro hx | (refine Exists.intro _ (And.intro rfl ?_)))
    all_goals try first | (with_reducible change am_tI _ _) | (change Ret _ _) | (change Ret _ _ _) | (change Exists _)
    all_goals try dsimp only at *
    all_goals try (with_reducible exact absurd ‹(1000 : Int64) = 0› am_z1000)
    all_goals exact h _
  · exact h.elim
def rwX8_chanceOf : List dz_r := [(0, .iload_n 1, 1), (1, .iconst 3, 1), (2, .if_icmp .ne 17, 3), (5, .iload_n 2, 1), (6, .iconst 3, 1), (7, .if_icmp .ne 8, 3), (10, .bipush 10, 2), (12, .goto 21, 3), (15, .iconst 0, 1), (16, .goto 17, 3), (19, .aload_n 0, 1), (20, .getfield 7, 3), (23, .sipush 3733, 3), (26, .iconst 4, 1), (27, .iload_n 1, 1), (28, .imul, 1), (29, .iadd, 1), (30, .iload_n 2, 1), (31, .iadd, 1), (32, .iaload, 1), (33, .ireturn, 1)]
theorem dzX8_chanceOf : dz cX8_chanceOf rwX8_chanceOf := dz_all 0 (by decide +kernel)
def kX8_chanceOf (live : am_E) (Ret : am_R) : am_code := [(0, am_iload 1 1), (1, am_const (.int 3) 2), (2, am_if2 (fun x y => x = y) 5 19), (5, am_iload 2 6), (6, am_const (.int 3) 7), (7, am_if2 (fun x y => x = y) 10 15), (10, am_const (.int 10) 12), (12, am_goto 33), (15, am_const (.int 0) 16), (16, am_goto 33), (19, am_aload 0 20), (20, am_getR live 8 0 23), (23, am_const (.int 3733) 26), (26, am_const (.int 4) 27), (27, am_iload 1 28), (28, am_i2 (fun x y => x * y) 29), (29, am_i2 (fun x y => x + y) 30), (30, am_iload 2 31), (31, am_i2 (fun x y => x + y) 32), (32, am_ald live 0 33), (33, am_retI Ret)]
theorem koX8_chanceOf (live : am_E) (Ret : am_R) : ∀ q ∈ kX8_chanceOf live Ret, am_ok RX8 cX8_chanceOf 3 (some .int) 0 0 live Ret q.1 q.2 :=
  am_kz dzX8_chanceOf <|
  am_kd (fun d => ak_iload_n d rfl rfl) <|
  am_kd (fun d => ak_iconst d (by decide +kernel) rfl) <|
  am_kd (fun d => ak_icmp_ne d (by decide +kernel) rfl) <|
  am_kd (fun d => ak_iload_n d rfl rfl) <|
  am_kd (fun d => ak_iconst d (by decide +kernel) rfl) <|
  am_kd (fun d => ak_icmp_ne d (by decide +kernel) rfl) <|
  am_kd (fun d => ak_bipush d (by decide +kernel) rfl) <|
  am_kd (fun d => ak_goto d (by decide +kernel)) <|
  am_kd (fun d => ak_iconst d (by decide +kernel) rfl) <|
  am_kd (fun d => ak_goto d (by decide +kernel)) <|
  am_kd (fun d => ak_aload_n d rfl rfl) <|
  am_kd (fun d => ak_getR (C := RX8) (T := TX8) (N := 27) rfl inX8w (by decide) rfl rfl rfl wd_895 d rfl) <|
  am_kd (fun d => ak_sipush d (by decide +kernel) rfl) <|
  am_kd (fun d => ak_iconst d (by decide +kernel) rfl) <|
  am_kd (fun d => ak_iload_n d rfl rfl) <|
  am_kd (fun d => ak_imul d rfl) <|
  am_kd (fun d => ak_iadd d rfl) <|
  am_kd (fun d => ak_iload_n d rfl rfl) <|
  am_kd (fun d => ak_iadd d rfl) <|
  am_kd (fun d => ak_iald (t := 0) (fun _ => rfl) rfl d rfl) <|
  am_kd (fun d => ak_retI d) <| am_kdn
def TX8_chanceOf : am_T := fun live as M R => match as with
  | [.ref n, .int a, .int b] => am_mn live ∧ n = 200 ∧ am_in a 4 ∧ am_in b 4 ∧ ∀ v, R (some (.int v)) M
  | _ => False
set_option maxRecDepth 100000 in
set_option maxHeartbeats 4000000 in
theorem metX8_chanceOf : am_Met yX8_chanceOf cX8_chanceOf 3 (some .int) (0) (0) TX8_chanceOf := by
  refine am_met (own := RX8) (by decide +kernel) rfl kX8_chanceOf koX8_chanceOf 60 (fun _ _ _ _ _ => none) (fun live as M Ret h => ?_) (fun _ _ _ _ _ _ _ _ hI => by cases hI)
  unfold TX8_chanceOf at h
  split at h
  · next n a b =>
    refine ⟨Nat.le_of_ble_eq_true rfl, ?_⟩
    change am_wp _ _ _ _ [(0, Value.ref n), (1, Value.int a), (2, Value.int b)] _ _
    obtain ⟨⟨i1, i2, rfl⟩, rfl, ha, hb, h⟩ := h
    have l201 : am_len 201 = 3760 := rfl
    have a1 := ha.1
    have a2 := ha.2
    have b1 := hb.1
    have b2 := hb.2
    have e4 := r_mul (c := 4) (x := a) ⟨by decide, by decide⟩ ⟨by omega, by omega⟩
    simp only [Int32.reduceToInt] at e4
    have ea := r_off (c := 3733) (x := 4 * a) ⟨by decide, by decide⟩ ⟨by omega, by omega⟩
    simp only [e4, Int32.reduceToInt] at ea
    have eb := r_off (c := 3733 + 4 * a) (x := b) ⟨by omega, by omega⟩ ⟨by omega, by omega⟩
    repeat' (first | apply And.intro | exact rfl | intro hx | (refine Exists.intro _ (And.intro rfl ?_)))
    all_goals try first | (with_reducible change am_tI _ _) | (change Ret _ _) | (change Ret _ _ _) | (change Exists _)
    all_goals try dsimp only at *
    all_goals try (with_reducible exact absurd ‹(1000 : Int64) = 0› am_z1000)
    all_goals first
      | (with_reducible exact h _)
      | omega
      | (rw [l201]; omega)
      | exact h _
  · exact h.elim
def rwX8_keep : List dz_r := [(0, .iconst 0, 1), (1, .istore_n 1, 1), (2, .iload_n 1, 1), (3, .bipush 30, 2), (5, .if_icmp .ge 33, 3), (8, .aload_n 0, 1), (9, .getfield 51, 3), (12, .iload_n 1, 1), (13, .aload_n 0, 1), (14, .getfield 30, 3), (17, .iload_n 1, 1), (18, .laload, 1), (19, .lastore, 1), (20, .aload_n 0, 1), (21, .getfield 54, 3), (24, .iload_n 1, 1), (25, .aload_n 0, 1), (26, .getfield 48, 3), (29, .iload_n 1, 1), (30, .baload, 1), (31, .bastore, 1), (32, .iinc 1 1, 3), (35, .goto (-33), 3), (38, .return_, 1)]
theorem dzX8_keep : dz cX8_keep rwX8_keep := dz_all 0 (by decide +kernel)
def kX8_keep (live : am_E) (Ret : am_R) : am_code := [(0, am_const (.int 0) 1), (1, am_istore 1 2 2), (2, am_iload 1 3), (3, am_const (.int 30) 5), (5, am_if2 (fun x y => y ≤ x) 38 8), (8, am_aload 0 9), (9, am_getR live 8 23 12), (12, am_iload 1 13), (13, am_aload 0 14), (14, am_getR live 8 15 17), (17, am_iload 1 18), (18, am_lald live 1 19), (19, am_last live 1 20), (20, am_aload 0 21), (21, am_getR live 8 24 24), (24, am_iload 1 25), (25, am_aload 0 26), (26, am_getR live 8 21 29), (29, am_iload 1 30), (30, am_ald live 2 31), (31, am_zst live 2 32), (32, am_iinc 1 2 1 35), (35, am_goto 2), (38, am_retV Ret)]
theorem koX8_keep (live : am_E) (Ret : am_R) : ∀ q ∈ kX8_keep live Ret, am_ok RX8 cX8_keep 2 none 0 0 live Ret q.1 q.2 :=
  am_kz dzX8_keep <|
  am_kd (fun d => ak_iconst d (by decide +kernel) rfl) <|
  am_kd (fun d => ak_istore_n d rfl rfl) <|
  am_kd (fun d => ak_iload_n d rfl rfl) <|
  am_kd (fun d => ak_bipush d (by decide +kernel) rfl) <|
  am_kd (fun d => ak_icmp_ge d (by decide +kernel) rfl) <|
  am_kd (fun d => ak_aload_n d rfl rfl) <|
  am_kd (fun d => ak_getR (C := RX8) (T := TX8) (N := 27) rfl inX8w (by decide) rfl rfl rfl wd_918 d rfl) <|
  am_kd (fun d => ak_iload_n d rfl rfl) <|
  am_kd (fun d => ak_aload_n d rfl rfl) <|
  am_kd (fun d => ak_getR (C := RX8) (T := TX8) (N := 27) rfl inX8w (by decide) rfl rfl rfl wd_910 d rfl) <|
  am_kd (fun d => ak_iload_n d rfl rfl) <|
  am_kd (fun d => ak_lald (t := 1) (fun _ => rfl) rfl d rfl) <|
  am_kd (fun d => ak_last (t := 1) (fun _ => rfl) rfl d rfl) <|
  am_kd (fun d => ak_aload_n d rfl rfl) <|
  am_kd (fun d => ak_getR (C := RX8) (T := TX8) (N := 27) rfl inX8w (by decide) rfl rfl rfl wd_919 d rfl) <|
  am_kd (fun d => ak_iload_n d rfl rfl) <|
  am_kd (fun d => ak_aload_n d rfl rfl) <|
  am_kd (fun d => ak_getR (C := RX8) (T := TX8) (N := 27) rfl inX8w (by decide) rfl rfl rfl wd_916 d rfl) <|
  am_kd (fun d => ak_iload_n d rfl rfl) <|
  am_kd (fun d => ak_zald (t := 2) (fun _ => rfl) rfl d rfl) <|
  am_kd (fun d => ak_zast (t := 2) (fun _ => rfl) rfl d rfl) <|
  am_kd (fun d => ak_iinc d (by decide +kernel) rfl) <|
  am_kd (fun d => ak_goto d (by decide +kernel)) <|
  am_kd (fun d => ak_retV d) <| am_kdn
def TX8_keep : am_T := fun live as M R => match as with
  | [.ref n] => am_mn live ∧ n = 200 ∧ r_I M ∧ ∀ M', r_sc M M' → r_I M' → R none M'
  | _ => False
def JX8_keep : am_E → List Value → am_M → am_R → am_inv := fun live as M0 _ pc => match as with
  | [.ref n] => (match pc with
    | 2 => some ([0, 1], fun k L st M => ∃ i : Int32, L = [(0, .ref 200), (1, .int i)] ∧ st = [] ∧ k = ((31 - i.toInt).toNat, 0) ∧ 0 ≤ i.toInt ∧ r_sc M0 M ∧ r_I M)
    | _ => none)
  | _ => none
set_option maxRecDepth 100000 in
set_option maxHeartbeats 4000000 in
theorem metX8_keep : am_Met yX8_keep cX8_keep 2 none (0) (0) TX8_keep := by
  refine am_met (own := RX8) (by decide +kernel) rfl kX8_keep koX8_keep 100 JX8_keep ?_ ?_
  · intro live as M Ret h
    unfold TX8_keep at h
    split at h
    · next n =>
      refine ⟨Nat.le_of_ble_eq_true rfl, ?_⟩
      change am_wp _ _ _ _ [(0, Value.ref n)] _ _
      obtain ⟨hmn, rfl, hR, h⟩ := h
      repeat' (first | apply And.intro | exact rfl | intro hx | (refine Exists.intro _ (And.intro rfl ?_)))
      all_goals try first | (with_reducible change am_tI _ _) | (change Ret _ _) | (change Ret _ _ _) | (change Exists _)
      all_goals try dsimp only at *
      all_goals try (with_reducible exact absurd ‹(1000 : Int64) = 0› am_z1000)
      exact ⟨_, _, rfl, rfl, rfl, by decide, r_sc.rf, hR⟩
    · exact h.elim
  · intro live as M0 Ret h k pc I hI L st M hi
    unfold TX8_keep at h
    split at h
    · next n =>
      obtain ⟨hmn, rfl, hR, h⟩ := h
      obtain ⟨i1, i2, rfl⟩ := hmn
      change (match pc with | 2 => _ | _ => none) = _ at hI
      split at hI
      · cases hI
        obtain ⟨i, rfl, rfl, rfl, e1, e2, e3⟩ := hi
        by_cases hz : (30 : Int32) ≤ i
        · skip
          repeat' (first | apply And.intro | exact rfl | (intro hx; with_reducible exact absurd hz hx) | intro hx | (refine Exists.intro _ (And.intro rfl ?_)))
          all_goals try first | (with_reducible change am_tI _ _) | (change Ret _ _) | (change Ret _ _ _) | (change Exists _)
          all_goals try dsimp only at *
          all_goals try (with_reducible exact absurd ‹(1000 : Int64) = 0› am_z1000)
          exact h _ e2 e3
        · have hz2 := hz
          simp only [i_le, Int32.reduceToInt] at hz2
          have hi := i_inc (x := i) (by omega) (by omega)
          have x2 : i.toInt < ((30 : Nat) : Int) := by omega
          repeat' (first | (with_reducible exact e1) | apply And.intro | exact rfl | (intro hx; with_reducible exact absurd hx hz) | intro hx | (refine Exists.intro _ (And.intro rfl ?_)))
          all_goals try first | (with_reducible change am_tI _ _) | (change Ret _ _) | (change Ret _ _ _) | (change Exists _)
          all_goals try dsimp only at *
          all_goals try (with_reducible exact absurd ‹(1000 : Int64) = 0› am_z1000)
          all_goals first
            | (with_reducible exact x2)
            | exact x2
            | exact ⟨_, am_lt_l (by omega), _, rfl, rfl, rfl, by omega, by (repeat' (first | (with_reducible exact r_sc.rf) | (with_reducible assumption) | ((with_reducible change r_sc _ (am_wI _ _ _ _)); refine r_sc.wI ?_ rfl) | ((with_reducible change r_sc _ (am_wJ _ _ _ _)); refine r_sc.wJ ?_ rfl) | (refine r_sc.tr ?_ (by with_reducible assumption)))), by (repeat' (first | (with_reducible assumption) | ((with_reducible change r_I (am_wJ _ _ _ _)); refine r_I.wJ ?_) | ((with_reducible change r_I (am_wI _ _ _ _)); refine r_I.wI ?_ rfl)))⟩
            | skip
      · cases hI
    · exact h.elim
def rwX8_back : List dz_r := [(0, .iconst 0, 1), (1, .istore_n 1, 1), (2, .iload_n 1, 1), (3, .bipush 30, 2), (5, .if_icmp .ge 33, 3), (8, .aload_n 0, 1), (9, .getfield 30, 3), (12, .iload_n 1, 1), (13, .aload_n 0, 1), (14, .getfield 51, 3), (17, .iload_n 1, 1), (18, .laload, 1), (19, .lastore, 1), (20, .aload_n 0, 1), (21, .getfield 48, 3), (24, .iload_n 1, 1), (25, .aload_n 0, 1), (26, .getfield 54, 3), (29, .iload_n 1, 1), (30, .baload, 1), (31, .bastore, 1), (32, .iinc 1 1, 3), (35, .goto (-33), 3), (38, .return_, 1)]
theorem dzX8_back : dz cX8_back rwX8_back := dz_all 0 (by decide +kernel)
def kX8_back (live : am_E) (Ret : am_R) : am_code := [(0, am_const (.int 0) 1), (1, am_istore 1 2 2), (2, am_iload 1 3), (3, am_const (.int 30) 5), (5, am_if2 (fun x y => y ≤ x) 38 8), (8, am_aload 0 9), (9, am_getR live 8 15 12), (12, am_iload 1 13), (13, am_aload 0 14), (14, am_getR live 8 23 17), (17, am_iload 1 18), (18, am_lald live 1 19), (19, am_last live 1 20), (20, am_aload 0 21), (21, am_getR live 8 21 24), (24, am_iload 1 25), (25, am_aload 0 26), (26, am_getR live 8 24 29), (29, am_iload 1 30), (30, am_ald live 2 31), (31, am_zst live 2 32), (32, am_iinc 1 2 1 35), (35, am_goto 2), (38, am_retV Ret)]
theorem koX8_back (live : am_E) (Ret : am_R) : ∀ q ∈ kX8_back live Ret, am_ok RX8 cX8_back 2 none 0 0 live Ret q.1 q.2 :=
  am_kz dzX8_back <|
  am_kd (fun d => ak_iconst d (by decide +kernel) rfl) <|
  am_kd (fun d => ak_istore_n d rfl rfl) <|
  am_kd (fun d => ak_iload_n d rfl rfl) <|
  am_kd (fun d => ak_bipush d (by decide +kernel) rfl) <|
  am_kd (fun d => ak_icmp_ge d (by decide +kernel) rfl) <|
  am_kd (fun d => ak_aload_n d rfl rfl) <|
  am_kd (fun d => ak_getR (C := RX8) (T := TX8) (N := 27) rfl inX8w (by decide) rfl rfl rfl wd_910 d rfl) <|
  am_kd (fun d => ak_iload_n d rfl rfl) <|
  am_kd (fun d => ak_aload_n d rfl rfl) <|
  am_kd (fun d => ak_getR (C := RX8) (T := TX8) (N := 27) rfl inX8w (by decide) rfl rfl rfl wd_918 d rfl) <|
  am_kd (fun d => ak_iload_n d rfl rfl) <|
  am_kd (fun d => ak_lald (t := 1) (fun _ => rfl) rfl d rfl) <|
  am_kd (fun d => ak_last (t := 1) (fun _ => rfl) rfl d rfl) <|
  am_kd (fun d => ak_aload_n d rfl rfl) <|
  am_kd (fun d => ak_getR (C := RX8) (T := TX8) (N := 27) rfl inX8w (by decide) rfl rfl rfl wd_916 d rfl) <|
  am_kd (fun d => ak_iload_n d rfl rfl) <|
  am_kd (fun d => ak_aload_n d rfl rfl) <|
  am_kd (fun d => ak_getR (C := RX8) (T := TX8) (N := 27) rfl inX8w (by decide) rfl rfl rfl wd_919 d rfl) <|
  am_kd (fun d => ak_iload_n d rfl rfl) <|
  am_kd (fun d => ak_zald (t := 2) (fun _ => rfl) rfl d rfl) <|
  am_kd (fun d => ak_zast (t := 2) (fun _ => rfl) rfl d rfl) <|
  am_kd (fun d => ak_iinc d (by decide +kernel) rfl) <|
  am_kd (fun d => ak_goto d (by decide +kernel)) <|
  am_kd (fun d => ak_retV d) <| am_kdn
def TX8_back : am_T := fun live as M R => match as with
  | [.ref n] => am_mn live ∧ n = 200 ∧ r_I M ∧ ∀ M', r_sc M M' → r_I M' → R none M'
  | _ => False
def JX8_back : am_E → List Value → am_M → am_R → am_inv := fun live as M0 _ pc => match as with
  | [.ref n] => (match pc with
    | 2 => some ([0, 1], fun k L st M => ∃ i : Int32, L = [(0, .ref 200), (1, .int i)] ∧ st = [] ∧ k = ((31 - i.toInt).toNat, 0) ∧ 0 ≤ i.toInt ∧ r_sc M0 M ∧ r_I M)
    | _ => none)
  | _ => none
set_option maxRecDepth 100000 in
set_option maxHeartbeats 4000000 in
theorem metX8_back : am_Met yX8_back cX8_back 2 none (0) (0) TX8_back := by
  refine am_met (own := RX8) (by decide +kernel) rfl kX8_back koX8_back 100 JX8_back ?_ ?_
  · intro live as M Ret h
    unfold TX8_back at h
    split at h
    · next n =>
      refine ⟨Nat.le_of_ble_eq_true rfl, ?_⟩
      change am_wp _ _ _ _ [(0, Value.ref n)] _ _
      obtain ⟨hmn, rfl, hR, h⟩ := h
      repeat' (first | apply And.intro | exact rfl | intro hx | (refine Exists.intro _ (And.intro rfl ?_)))
      all_goals try first | (with_reducible change am_tI _ _) | (change Ret _ _) | (change Ret _ _ _) | (change Exists _)
      all_goals try dsimp only at *
      all_goals try (with_reducible exact absurd ‹(1000 : Int64) = 0› am_z1000)
      exact ⟨_, _, rfl, rfl, rfl, by decide, r_sc.rf, hR⟩
    · exact h.elim
  · intro live as M0 Ret h k pc I hI L st M hi
    unfold TX8_back at h
    split at h
    · next n =>
      obtain ⟨hmn, rfl, hR, h⟩ := h
      obtain ⟨i1, i2, rfl⟩ := hmn
      change (match pc with | 2 => _ | _ => none) = _ at hI
      split at hI
      · cases hI
        obtain ⟨i, rfl, rfl, rfl, e1, e2, e3⟩ := hi
        by_cases hz : (30 : Int32) ≤ i
        · skip
          repeat' (first | apply And.intro | exact rfl | (intro hx; with_reducible exact absurd hz hx) | intro hx | (refine Exists.intro _ (And.intro rfl ?_)))
          all_goals try first | (with_reducible change am_tI _ _) | (change Ret _ _) | (change Ret _ _ _) | (change Exists _)
          all_goals try dsimp only at *
          all_goals try (with_reducible exact absurd ‹(1000 : Int64) = 0› am_z1000)
          exact h _ e2 e3
        · have hz2 := hz
          simp only [i_le, Int32.reduceToInt] at hz2
          have hi := i_inc (x := i) (by omega) (by omega)
          have x2 : i.toInt < ((30 : Nat) : Int) := by omega
          repeat' (first | (with_reducible exact e1) | apply And.intro | exact rfl | (intro hx; with_reducible exact absurd hx hz) | intro hx | (refine Exists.intro _ (And.intro rfl ?_)))
          all_goals try first | (with_reducible change am_tI _ _) | (change Ret _ _) | (change Ret _ _ _) | (change Exists _)
          all_goals try dsimp only at *
          all_goals try (with_reducible exact absurd ‹(1000 : Int64) = 0› am_z1000)
          all_goals first
            | (with_reducible exact x2)
            | exact x2
            | exact ⟨_, am_lt_l (by omega), _, rfl, rfl, rfl, by omega, by (repeat' (first | (with_reducible exact r_sc.rf) | (with_reducible assumption) | ((with_reducible change r_sc _ (am_wI _ _ _ _)); refine r_sc.wI ?_ rfl) | ((with_reducible change r_sc _ (am_wJ _ _ _ _)); refine r_sc.wJ ?_ rfl) | (refine r_sc.tr ?_ (by with_reducible assumption)))), by (repeat' (first | (with_reducible assumption) | ((with_reducible change r_I (am_wJ _ _ _ _)); refine r_I.wJ ?_) | ((with_reducible change r_I (am_wI _ _ _ _)); refine r_I.wI ?_ rfl)))⟩
            | skip
      · cases hI
    · exact h.elim
def rwX8_force : List dz_r := [(0, .iload_n 1, 1), (1, .invokestatic 104, 3), (4, .ifCond .eq 38, 3), (7, .iload_n 2, 1), (8, .invokestatic 107, 3), (11, .ifCond .eq 31, 3), (14, .aload_n 0, 1), (15, .iload_n 3, 1), (16, .invokevirtual 76, 3), (19, .ifCond .eq 23, 3), (22, .iload 4, 2), (24, .invokestatic 72, 3), (27, .ifCond .eq 15, 3), (30, .aload_n 0, 1), (31, .iload_n 1, 1), (32, .iload_n 2, 1), (33, .iload_n 3, 1), (34, .iload 4, 2), (36, .invokevirtual 127, 3), (39, .goto 5, 3), (42, .bipush (-2), 2), (44, .ireturn, 1)]
theorem dzX8_force : dz cX8_force rwX8_force := dz_all 0 (by decide +kernel)
def kX8_force (live : am_E) (Ret : am_R) : am_code := [(0, am_iload 1 1), (1, am_callS live 1 TX8_isPlan 4), (4, am_if1 (fun x => x = 0) 42 7), (7, am_iload 2 8), (8, am_callS live 1 TX8_isWhat 11), (11, am_if1 (fun x => x = 0) 42 14), (14, am_aload 0 15), (15, am_iload 3 16), (16, am_callV live 8 1 TX8_isPerson 19), (19, am_if1 (fun x => x = 0) 42 22), (22, am_iload 4 24), (24, am_callS live 1 TX8_isYear 27), (27, am_if1 (fun x => x = 0) 42 30), (30, am_aload 0 31), (31, am_iload 1 32), (32, am_iload 2 33), (33, am_iload 3 34), (34, am_iload 4 36), (36, am_callV live 8 4 TX8_inForce 39), (39, am_goto 44), (42, am_const (.int (-2)) 44), (44, am_retI Ret)]
theorem koX8_force (live : am_E) (Ret : am_R) : ∀ q ∈ kX8_force live Ret, am_ok RX8 cX8_force 5 (some .int) 2 53 live Ret q.1 q.2 :=
  am_kz dzX8_force <|
  am_kd (fun d => ak_iload_n d rfl rfl) <|
  am_kd (fun d => ak_callS metX8_isPlan ⟨rfl, hy_X8_isPlan⟩ (am_w4 wd_1034 wd_1035 wd_67 wd_1036) (by decide) d rfl) <|
  am_kd (fun d => ak_if_eq d (by decide +kernel) rfl) <|
  am_kd (fun d => ak_iload_n d rfl rfl) <|
  am_kd (fun d => ak_callS metX8_isWhat ⟨rfl, hy_X8_isWhat⟩ (am_w4 wd_1038 wd_1039 wd_67 wd_1040) (by decide) d rfl) <|
  am_kd (fun d => ak_if_eq d (by decide +kernel) rfl) <|
  am_kd (fun d => ak_aload_n d rfl rfl) <|
  am_kd (fun d => ak_iload_n d rfl rfl) <|
  am_kd (fun d => ak_callV (C := RX8) (F := TX8) (N := 27) metX8_isPerson rfl ⟨rfl, hy_X8_isPerson⟩ (am_w5 wd_993 wd_995 wd_27 wd_67 wd_996) (by decide) d rfl) <|
  am_kd (fun d => ak_if_eq d (by decide +kernel) rfl) <|
  am_kd (fun d => ak_iload d rfl) <|
  am_kd (fun d => ak_callS metX8_isYear ⟨rfl, hy_X8_isYear⟩ (am_w4 wd_982 wd_983 wd_67 wd_984) (by decide) d rfl) <|
  am_kd (fun d => ak_if_eq d (by decide +kernel) rfl) <|
  am_kd (fun d => ak_aload_n d rfl rfl) <|
  am_kd (fun d => ak_iload_n d rfl rfl) <|
  am_kd (fun d => ak_iload_n d rfl rfl) <|
  am_kd (fun d => ak_iload_n d rfl rfl) <|
  am_kd (fun d => ak_iload d rfl) <|
  am_kd (fun d => ak_callV (C := RX8) (F := TX8) (N := 27) metX8_inForce rfl ⟨rfl, hy_X8_inForce⟩ (am_w5 wd_1053 wd_1055 wd_29 wd_67 wd_1056) (by decide) d rfl) <|
  am_kd (fun d => ak_goto d (by decide +kernel)) <|
  am_kd (fun d => ak_bipush d (by decide +kernel) rfl) <|
  am_kd (fun d => ak_retI d) <| am_kdn
def TX8_force : am_T := fun live as M R => match as with
  | [.ref n, .int pl, .int w, .int p, .int y] => am_mn live ∧ n = 200 ∧ r_I M ∧ ∀ v M', r_sc M M' → r_I M' → R (some (.int v)) M'
  | _ => False
set_option maxRecDepth 100000 in
set_option maxHeartbeats 4000000 in
theorem metX8_force : am_Met yX8_force cX8_force 5 (some .int) (2) (53) TX8_force := by
  refine am_met (own := RX8) (by decide +kernel) rfl kX8_force koX8_force 150 (fun _ _ _ _ _ => none) (fun live as M Ret h => ?_) (fun _ _ _ _ _ _ _ _ hI => by cases hI)
  unfold TX8_force at h
  split at h
  · next n pl w p y =>
    refine ⟨Nat.le_of_ble_eq_true rfl, ?_⟩
    change am_wp _ _ _ _ [(0, Value.ref n), (1, Value.int pl), (2, Value.int w), (3, Value.int p), (4, Value.int y)] _ _
    obtain ⟨hmn, rfl, hR, h⟩ := h
    have hmn2 := hmn
    obtain ⟨i1, i2, rfl⟩ := hmn2
    have l201 : am_len 201 = 3760 := rfl
    have n0 := hR.n0
    have n1 := hR.n1
    have n030 : 0 ≤ (M.1 201 0).toInt ∧ (M.1 201 0).toInt ≤ 30 := ⟨n0.1, by omega⟩
    by_cases z0 : 0 ≤ pl ∧ pl < 5
    rotate_left
    · skip
      have q0 : (if 0 ≤ pl ∧ pl < 5 then (1 : Int32) else 0) = 0 := if_neg z0
      repeat' (first | (with_reducible exact hmn) | (with_reducible exact n030) | (with_reducible exact n1) | apply And.intro | exact rfl | (intro hx; with_reducible exact absurd q0 hx) | (intro hx; exact absurd hx (by decide)) | (intro hx; exact absurd (by decide) hx) | decide | intro hx | (refine Exists.intro _ (And.intro rfl ?_)))
      all_goals try first | (with_reducible change am_tI _ _) | (change Ret _ _) | (change Ret _ _ _) | (change Exists _)
      all_goals try dsimp only at *
      all_goals try (with_reducible exact absurd ‹(1000 : Int64) = 0› am_z1000)
      all_goals exact h _ _ r_sc.rf hR
    · skip
      have q0 : ¬ ((if 0 ≤ pl ∧ pl < 5 then (1 : Int32) else 0) = 0) := by rw [if_pos z0]; decide
      by_cases z1 : 0 ≤ w ∧ w < 6
      rotate_left
      · skip
        have q1 : (if 0 ≤ w ∧ w < 6 then (1 : Int32) else 0) = 0 := if_neg z1
        repeat' (first | (with_reducible exact hmn) | (with_reducible exact n030) | (with_reducible exact n1) | apply And.intro | exact rfl | (intro hx; with_reducible exact absurd hx q0) | (intro hx; with_reducible exact absurd q1 hx) | (intro hx; exact absurd hx (by decide)) | (intro hx; exact absurd (by decide) hx) | decide | intro hx | (refine Exists.intro _ (And.intro rfl ?_)))
        all_goals try first | (with_reducible change am_tI _ _) | (change Ret _ _) | (change Ret _ _ _) | (change Exists _)
        all_goals try dsimp only at *
        all_goals try (with_reducible exact absurd ‹(1000 : Int64) = 0› am_z1000)
        all_goals exact h _ _ r_sc.rf hR
      · skip
        have q1 : ¬ ((if 0 ≤ w ∧ w < 6 then (1 : Int32) else 0) = 0) := by rw [if_pos z1]; decide
        by_cases z2 : 0 ≤ p ∧ p < M.1 201 0
        rotate_left
        · skip
          have q2 : (if 0 ≤ p ∧ p < M.1 201 0 then (1 : Int32) else 0) = 0 := if_neg z2
          repeat' (first | (with_reducible exact hmn) | (with_reducible exact n030) | (with_reducible exact n1) | apply And.intro | exact rfl | (intro hx; with_reducible exact absurd hx q0) | (intro hx; with_reducible exact absurd hx q1) | (intro hx; with_reducible exact absurd q2 hx) | (intro hx; exact absurd hx (by decide)) | (intro hx; exact absurd (by decide) hx) | decide | intro hx | (refine Exists.intro _ (And.intro rfl ?_)))
          all_goals try first | (with_reducible change am_tI _ _) | (change Ret _ _) | (change Ret _ _ _) | (change Exists _)
          all_goals try dsimp only at *
          all_goals try (with_reducible exact absurd ‹(1000 : Int64) = 0› am_z1000)
          all_goals exact h _ _ r_sc.rf hR
        · skip
          have q2 : ¬ ((if 0 ≤ p ∧ p < M.1 201 0 then (1 : Int32) else 0) = 0) := by rw [if_pos z2]; decide
          by_cases z3 : 0 ≤ y ∧ y < 40
          rotate_left
          · skip
            have q3 : (if 0 ≤ y ∧ y < 40 then (1 : Int32) else 0) = 0 := if_neg z3
            repeat' (first | (with_reducible exact hmn) | (with_reducible exact n030) | (with_reducible exact n1) | apply And.intro | exact rfl | (intro hx; with_reducible exact absurd hx q0) | (intro hx; with_reducible exact absurd hx q1) | (intro hx; with_reducible exact absurd hx q2) | (intro hx; with_reducible exact absurd q3 hx) | (intro hx; exact absurd hx (by decide)) | (intro hx; exact absurd (by decide) hx) | decide | intro hx | (refine Exists.intro _ (And.intro rfl ?_)))
            all_goals try first | (with_reducible change am_tI _ _) | (change Ret _ _) | (change Ret _ _ _) | (change Exists _)
            all_goals try dsimp only at *
            all_goals try (with_reducible exact absurd ‹(1000 : Int64) = 0› am_z1000)
            all_goals exact h _ _ r_sc.rf hR
          · skip
            have q3 : ¬ ((if 0 ≤ y ∧ y < 40 then (1 : Int32) else 0) = 0) := by rw [if_pos z3]; decide
            have hp : am_in p 12 := ⟨by have q := z2.1; simp only [i_le, Int32.reduceToInt] at q; omega, by have q := z2.2; simp only [i_lt] at q; omega⟩
            repeat' (first | (with_reducible exact hmn) | (with_reducible exact hR) | (with_reducible exact n030) | (with_reducible exact n1) | (with_reducible exact hp) | apply And.intro | exact rfl | (intro hx; with_reducible exact absurd hx q0) | (intro hx; with_reducible exact absurd hx q1) | (intro hx; with_reducible exact absurd hx q2) | (intro hx; with_reducible exact absurd hx q3) | ((with_reducible change r_I _); (with_reducible assumption)) | (intro hx; exact absurd hx (by decide)) | (intro hx; exact absurd (by decide) hx) | decide | intro hx | (refine Exists.intro _ (And.intro rfl ?_)))
            all_goals try first | (with_reducible change am_tI _ _) | (change Ret _ _) | (change Ret _ _ _) | (change Exists _)
            all_goals try dsimp only at *
            all_goals try (with_reducible exact absurd ‹(1000 : Int64) = 0› am_z1000)
            all_goals first | (change r_I _; (repeat' (first | (with_reducible assumption) | ((with_reducible change r_I (am_wJ _ _ _ _)); refine r_I.wJ ?_) | ((with_reducible change r_I (am_wI _ _ _ _)); refine r_I.wI ?_ rfl)))) | ((with_reducible change Ret _ _); exact h _ _ (by (repeat' (first | (with_reducible exact r_sc.rf) | (with_reducible assumption) | ((with_reducible change r_sc _ (am_wI _ _ _ _)); refine r_sc.wI ?_ rfl) | ((with_reducible change r_sc _ (am_wJ _ _ _ _)); refine r_sc.wJ ?_ rfl) | (refine r_sc.tr ?_ (by with_reducible assumption))))) (by (repeat' (first | (with_reducible assumption) | ((with_reducible change r_I (am_wJ _ _ _ _)); refine r_I.wJ ?_) | ((with_reducible change r_I (am_wI _ _ _ _)); refine r_I.wI ?_ rfl))))) | skip
  · exact h.elim
def rwX8_planOf : List dz_r := [(0, .aload_n 0, 1), (1, .iload_n 1, 1), (2, .invokevirtual 131, 3), (5, .ifCond .eq 19, 3), (8, .iload_n 2, 1), (9, .invokestatic 72, 3), (12, .ifCond .eq 12, 3), (15, .aload_n 0, 1), (16, .iload_n 1, 1), (17, .iload_n 2, 1), (18, .invokevirtual 141, 3), (21, .goto 5, 3), (24, .bipush (-2), 2), (26, .ireturn, 1)]
theorem dzX8_planOf : dz cX8_planOf rwX8_planOf := dz_all 0 (by decide +kernel)
def kX8_planOf (live : am_E) (Ret : am_R) : am_code := [(0, am_aload 0 1), (1, am_iload 1 2), (2, am_callV live 8 1 TX8_isLoan 5), (5, am_if1 (fun x => x = 0) 24 8), (8, am_iload 2 9), (9, am_callS live 1 TX8_isYear 12), (12, am_if1 (fun x => x = 0) 24 15), (15, am_aload 0 16), (16, am_iload 1 17), (17, am_iload 2 18), (18, am_callV live 8 2 TX8_planAt 21), (21, am_goto 26), (24, am_const (.int (-2)) 26), (26, am_retI Ret)]
theorem koX8_planOf (live : am_E) (Ret : am_R) : ∀ q ∈ kX8_planOf live Ret, am_ok RX8 cX8_planOf 3 (some .int) 2 46 live Ret q.1 q.2 :=
  am_kz dzX8_planOf <|
  am_kd (fun d => ak_aload_n d rfl rfl) <|
  am_kd (fun d => ak_iload_n d rfl rfl) <|
  am_kd (fun d => ak_callV (C := RX8) (F := TX8) (N := 27) metX8_isLoan rfl ⟨rfl, hy_X8_isLoan⟩ (am_w5 wd_1069 wd_1071 wd_30 wd_67 wd_1072) (by decide) d rfl) <|
  am_kd (fun d => ak_if_eq d (by decide +kernel) rfl) <|
  am_kd (fun d => ak_iload_n d rfl rfl) <|
  am_kd (fun d => ak_callS metX8_isYear ⟨rfl, hy_X8_isYear⟩ (am_w4 wd_982 wd_983 wd_67 wd_984) (by decide) d rfl) <|
  am_kd (fun d => ak_if_eq d (by decide +kernel) rfl) <|
  am_kd (fun d => ak_aload_n d rfl rfl) <|
  am_kd (fun d => ak_iload_n d rfl rfl) <|
  am_kd (fun d => ak_iload_n d rfl rfl) <|
  am_kd (fun d => ak_callV (C := RX8) (F := TX8) (N := 27) metX8_planAt rfl ⟨rfl, hy_X8_planAt⟩ (am_w5 wd_1085 wd_1087 wd_32 wd_67 wd_1088) (by decide) d rfl) <|
  am_kd (fun d => ak_goto d (by decide +kernel)) <|
  am_kd (fun d => ak_bipush d (by decide +kernel) rfl) <|
  am_kd (fun d => ak_retI d) <| am_kdn
def TX8_planOf : am_T := fun live as M R => match as with
  | [.ref n, .int l, .int y] => am_mn live ∧ n = 200 ∧ r_I M ∧ ∀ v M', r_sc M M' → r_I M' → R (some (.int v)) M'
  | _ => False
set_option maxRecDepth 100000 in
set_option maxHeartbeats 4000000 in
theorem metX8_planOf : am_Met yX8_planOf cX8_planOf 3 (some .int) (2) (46) TX8_planOf := by
  refine am_met (own := RX8) (by decide +kernel) rfl kX8_planOf koX8_planOf 150 (fun _ _ _ _ _ => none) (fun live as M Ret h => ?_) (fun _ _ _ _ _ _ _ _ hI => by cases hI)
  unfold TX8_planOf at h
  split at h
  · next n l y =>
    refine ⟨Nat.le_of_ble_eq_true rfl, ?_⟩
    change am_wp _ _ _ _ [(0, Value.ref n), (1, Value.int l), (2, Value.int y)] _ _
    obtain ⟨hmn, rfl, hR, h⟩ := h
    have hmn2 := hmn
    obtain ⟨i1, i2, rfl⟩ := hmn2
    have l201 : am_len 201 = 3760 := rfl
    have n0 := hR.n0
    have n1 := hR.n1
    have n030 : 0 ≤ (M.1 201 0).toInt ∧ (M.1 201 0).toInt ≤ 30 := ⟨n0.1, by omega⟩
    by_cases z0 : 0 ≤ l ∧ l < M.1 201 1
    rotate_left
    · skip
      have q0 : (if 0 ≤ l ∧ l < M.1 201 1 then (1 : Int32) else 0) = 0 := if_neg z0
      repeat' (first | (with_reducible exact hmn) | (with_reducible exact n030) | (with_reducible exact n1) | apply And.intro | exact rfl | (intro hx; with_reducible exact absurd q0 hx) | (intro hx; exact absurd hx (by decide)) | (intro hx; exact absurd (by decide) hx) | decide | intro hx | (refine Exists.intro _ (And.intro rfl ?_)))
      all_goals try first | (with_reducible change am_tI _ _) | (change Ret _ _) | (change Ret _ _ _) | (change Exists _)
      all_goals try dsimp only at *
      all_goals try (with_reducible exact absurd ‹(1000 : Int64) = 0› am_z1000)
      all_goals exact h _ _ r_sc.rf hR
    · skip
      have q0 : ¬ ((if 0 ≤ l ∧ l < M.1 201 1 then (1 : Int32) else 0) = 0) := by rw [if_pos z0]; decide
      by_cases z1 : 0 ≤ y ∧ y < 40
      rotate_left
      · skip
        have q1 : (if 0 ≤ y ∧ y < 40 then (1 : Int32) else 0) = 0 := if_neg z1
        repeat' (first | (with_reducible exact hmn) | (with_reducible exact n030) | (with_reducible exact n1) | apply And.intro | exact rfl | (intro hx; with_reducible exact absurd hx q0) | (intro hx; with_reducible exact absurd q1 hx) | (intro hx; exact absurd hx (by decide)) | (intro hx; exact absurd (by decide) hx) | decide | intro hx | (refine Exists.intro _ (And.intro rfl ?_)))
        all_goals try first | (with_reducible change am_tI _ _) | (change Ret _ _) | (change Ret _ _ _) | (change Exists _)
        all_goals try dsimp only at *
        all_goals try (with_reducible exact absurd ‹(1000 : Int64) = 0› am_z1000)
        all_goals exact h _ _ r_sc.rf hR
      · skip
        have q1 : ¬ ((if 0 ≤ y ∧ y < 40 then (1 : Int32) else 0) = 0) := by rw [if_pos z1]; decide
        have hl : am_in l 30 := ⟨by have q := z0.1; simp only [i_le, Int32.reduceToInt] at q; omega, by have q := z0.2; simp only [i_lt] at q; omega⟩
        repeat' (first | (with_reducible exact hmn) | (with_reducible exact hR) | (with_reducible exact n030) | (with_reducible exact n1) | (with_reducible exact hl) | apply And.intro | exact rfl | (intro hx; with_reducible exact absurd hx q0) | (intro hx; with_reducible exact absurd hx q1) | ((with_reducible change r_I _); (with_reducible assumption)) | (intro hx; exact absurd hx (by decide)) | (intro hx; exact absurd (by decide) hx) | decide | intro hx | (refine Exists.intro _ (And.intro rfl ?_)))
        all_goals try first | (with_reducible change am_tI _ _) | (change Ret _ _) | (change Ret _ _ _) | (change Exists _)
        all_goals try dsimp only at *
        all_goals try (with_reducible exact absurd ‹(1000 : Int64) = 0› am_z1000)
        all_goals first | (change r_I _; (repeat' (first | (with_reducible assumption) | ((with_reducible change r_I (am_wJ _ _ _ _)); refine r_I.wJ ?_) | ((with_reducible change r_I (am_wI _ _ _ _)); refine r_I.wI ?_ rfl)))) | ((with_reducible change Ret _ _); exact h _ _ (by (repeat' (first | (with_reducible exact r_sc.rf) | (with_reducible assumption) | ((with_reducible change r_sc _ (am_wI _ _ _ _)); refine r_sc.wI ?_ rfl) | ((with_reducible change r_sc _ (am_wJ _ _ _ _)); refine r_sc.wJ ?_ rfl) | (refine r_sc.tr ?_ (by with_reducible assumption))))) (by (repeat' (first | (with_reducible assumption) | ((with_reducible change r_I (am_wJ _ _ _ _)); refine r_I.wJ ?_) | ((with_reducible change r_I (am_wI _ _ _ _)); refine r_I.wI ?_ rfl))))) | skip
  · exact h.elim
set_option maxRecDepth 100000 in
theorem wd_1153 : Cond.constantLong "LearnLoansModel" 237 (-2) ∈ am_ws := am_wt5 (List.mem_of_getElem? (i := 136) (by rfl)) (by decide +kernel)
theorem hy_X8_run : yX8_run.cls ≠ "java/lang/invoke/MethodHandle" ∧ yX8_run.cls ≠ "java/lang/invoke/VarHandle" ∧ (parseMethodDescriptor yX8_run.desc).map (fun d => d.parameters.length) = some 3 := ⟨by decide +kernel, by decide +kernel, by decide +kernel⟩
set_option maxRecDepth 100000 in
theorem wd_1158 : Cond.methodLink "LearnLoansModel" 239 yX8_run ∈ am_ws := am_wt5 (List.mem_of_getElem? (i := 141) (by rfl)) (by decide +kernel)
set_option maxRecDepth 100000 in
theorem wd_1160 : Cond.instanceMethod yX8_run ∈ am_ws := am_wt5 (List.mem_of_getElem? (i := 143) (by rfl)) (by decide +kernel)
set_option maxRecDepth 100000 in
theorem wd_42 : Cond.selects "LearnLoansModel" yX8_run yX8_run ∈ am_ws := am_wsi (List.mem_of_getElem? (i := 42) (by rfl)) (by decide +kernel)
set_option maxRecDepth 100000 in
theorem wd_1161 : Cond.code yX8_run cX8_run 6 none ∈ am_ws := am_wt5 (List.mem_of_getElem? (i := 144) (by rfl)) (by decide +kernel)
def rwX8_owes : List dz_r := [(0, .aload_n 0, 1), (1, .iload_n 1, 1), (2, .invokevirtual 131, 3), (5, .ifCond .eq 30, 3), (8, .iload_n 2, 1), (9, .invokestatic 72, 3), (12, .ifCond .eq 23, 3), (15, .iload_n 3, 1), (16, .invokestatic 72, 3), (19, .ifCond .eq 16, 3), (22, .iload 4, 2), (24, .i2l, 1), (25, .lconst 0, 1), (26, .ldc2_w 70, 3), (29, .invokestatic 66, 3), (32, .ifCond .ne 7, 3), (35, .ldc2_w 237, 3), (38, .lreturn, 1), (39, .aload_n 0, 1), (40, .aload_n 0, 1), (41, .iload_n 1, 1), (42, .iconst 0, 1), (43, .invokevirtual 202, 3), (46, .iload_n 2, 1), (47, .iload_n 3, 1), (48, .invokevirtual 239, 3), (51, .aload_n 0, 1), (52, .iload_n 1, 1), (53, .iload 4, 2), (55, .invokevirtual 233, 3), (58, .lreturn, 1)]
theorem dzX8_owes : dz cX8_owes rwX8_owes := dz_all 0 (by decide +kernel)
def kX8_owes (live : am_E) (Ret : am_R) : am_code := [(0, am_aload 0 1), (1, am_iload 1 2), (2, am_callV live 8 1 TX8_isLoan 5), (5, am_if1 (fun x => x = 0) 35 8), (8, am_iload 2 9), (9, am_callS live 1 TX8_isYear 12), (12, am_if1 (fun x => x = 0) 35 15), (15, am_iload 3 16), (16, am_callS live 1 TX8_isYear 19), (19, am_if1 (fun x => x = 0) 35 22), (22, am_iload 4 24), (24, am_i2l 25), (25, am_const (.long 0) 26), (26, am_const (.long 4) 29), (29, am_callS live 3 TX8_in 32), (32, am_if1 (fun x => x = 0) 35 39), (35, am_const (.long (-2)) 38), (38, am_retL Ret), (39, am_aload 0 40), (40, am_aload 0 41), (41, am_iload 1 42), (42, am_const (.int 0) 43), (43, am_callV live 8 2 TX8_ofLoan 46), (46, am_iload 2 47), (47, am_iload 3 48), (48, am_callV live 8 3 TX8_run 51), (51, am_aload 0 52), (52, am_iload 1 53), (53, am_iload 4 55), (55, am_callV live 8 2 TX8_runOf 58), (58, am_retL Ret)]
theorem koX8_owes (live : am_E) (Ret : am_R) : ∀ q ∈ kX8_owes live Ret, am_ok RX8 cX8_owes 5 (some .long) 10 253 live Ret q.1 q.2 :=
  am_kz dzX8_owes <|
  am_kd (fun d => ak_aload_n d rfl rfl) <|
  am_kd (fun d => ak_iload_n d rfl rfl) <|
  am_kd (fun d => ak_callV (C := RX8) (F := TX8) (N := 27) metX8_isLoan rfl ⟨rfl, hy_X8_isLoan⟩ (am_w5 wd_1069 wd_1071 wd_30 wd_67 wd_1072) (by decide) d rfl) <|
  am_kd (fun d => ak_if_eq d (by decide +kernel) rfl) <|
  am_kd (fun d => ak_iload_n d rfl rfl) <|
  am_kd (fun d => ak_callS metX8_isYear ⟨rfl, hy_X8_isYear⟩ (am_w4 wd_982 wd_983 wd_67 wd_984) (by decide) d rfl) <|
  am_kd (fun d => ak_if_eq d (by decide +kernel) rfl) <|
  am_kd (fun d => ak_iload_n d rfl rfl) <|
  am_kd (fun d => ak_callS metX8_isYear ⟨rfl, hy_X8_isYear⟩ (am_w4 wd_982 wd_983 wd_67 wd_984) (by decide) d rfl) <|
  am_kd (fun d => ak_if_eq d (by decide +kernel) rfl) <|
  am_kd (fun d => ak_iload d rfl) <|
  am_kd (fun d => ak_i2l d rfl) <|
  am_kd (fun d => ak_lconst d (by decide +kernel) rfl) <|
  am_kd (fun d => ak_ldc2 wd_1037 d rfl) <|
  am_kd (fun d => ak_callS metX8_in ⟨rfl, hy_X8_in⟩ (am_w4 wd_986 wd_987 wd_67 wd_988) (by decide) d rfl) <|
  am_kd (fun d => ak_if_ne d (by decide +kernel) rfl) <|
  am_kd (fun d => ak_ldc2 wd_1153 d rfl) <|
  am_kd (fun d => ak_retL d) <|
  am_kd (fun d => ak_aload_n d rfl rfl) <|
  am_kd (fun d => ak_aload_n d rfl rfl) <|
  am_kd (fun d => ak_iload_n d rfl rfl) <|
  am_kd (fun d => ak_iconst d (by decide +kernel) rfl) <|
  am_kd (fun d => ak_callV (C := RX8) (F := TX8) (N := 27) metX8_ofLoan rfl ⟨rfl, hy_X8_ofLoan⟩ (am_w5 wd_1154 wd_1156 wd_41 wd_67 wd_1157) (by decide) d rfl) <|
  am_kd (fun d => ak_iload_n d rfl rfl) <|
  am_kd (fun d => ak_iload_n d rfl rfl) <|
  am_kd (fun d => ak_callV (C := RX8) (F := TX8) (N := 27) metX8_run rfl ⟨rfl, hy_X8_run⟩ (am_w5 wd_1158 wd_1160 wd_42 wd_67 wd_1161) (by decide) d rfl) <|
  am_kd (fun d => ak_aload_n d rfl rfl) <|
  am_kd (fun d => ak_iload_n d rfl rfl) <|
  am_kd (fun d => ak_iload d rfl) <|
  am_kd (fun d => ak_callV (C := RX8) (F := TX8) (N := 27) metX8_runOf rfl ⟨rfl, hy_X8_runOf⟩ (am_w5 wd_1187 wd_1189 wd_49 wd_67 wd_1190) (by decide) d rfl) <|
  am_kd (fun d => ak_retL d) <| am_kdn
def TX8_owes : am_T := fun live as M R => match as with
  | [.ref n, .int l, .int y, .int k, .int w] => am_mn live ∧ n = 200 ∧ r_I M ∧ ∀ v M', r_sc M M' → r_I M' → R (some (.long v)) M'
  | _ => False
set_option maxRecDepth 100000 in
set_option maxHeartbeats 4000000 in
theorem metX8_owes : am_Met yX8_owes cX8_owes 5 (some .long) (10) (253) TX8_owes := by
  refine am_met (own := RX8) (by decide +kernel) rfl kX8_owes koX8_owes 150 (fun _ _ _ _ _ => none) (fun live as M Ret h => ?_) (fun _ _ _ _ _ _ _ _ hI => by cases hI)
  unfold TX8_owes at h
  split at h
  · next n l y k w =>
    refine ⟨Nat.le_of_ble_eq_true rfl, ?_⟩
    change am_wp _ _ _ _ [(0, Value.ref n), (1, Value.int l), (2, Value.int y), (3, Value.int k), (4, Value.int w)] _ _
    obtain ⟨hmn, rfl, hR, h⟩ := h
    have hmn2 := hmn
    obtain ⟨i1, i2, rfl⟩ := hmn2
    have l201 : am_len 201 = 3760 := rfl
    have n0 := hR.n0
    have n1 := hR.n1
    have n030 : 0 ≤ (M.1 201 0).toInt ∧ (M.1 201 0).toInt ≤ 30 := ⟨n0.1, by omega⟩
    by_cases z0 : 0 ≤ l ∧ l < M.1 201 1
    rotate_left
    · skip
      have q0 : (if 0 ≤ l ∧ l < M.1 201 1 then (1 : Int32) else 0) = 0 := if_neg z0
      repeat' (first | (with_reducible exact hmn) | (with_reducible exact n030) | (with_reducible exact n1) | apply And.intro | exact rfl | (intro hx; with_reducible exact absurd q0 hx) | (intro hx; exact absurd hx (by decide)) | (intro hx; exact absurd (by decide) hx) | decide | intro hx | (refine Exists.intro _ (And.intro rfl ?_)))
      all_goals try first | (with_reducible change am_tI _ _) | (change Ret _ _) | (change Ret _ _ _) | (change Exists _)
      all_goals try dsimp only at *
      all_goals try (with_reducible exact absurd ‹(1000 : Int64) = 0› am_z1000)
      all_goals exact h _ _ r_sc.rf hR
    · skip
      have q0 : ¬ ((if 0 ≤ l ∧ l < M.1 201 1 then (1 : Int32) else 0) = 0) := by rw [if_pos z0]; decide
      by_cases z1 : 0 ≤ y ∧ y < 40
      rotate_left
      · skip
        have q1 : (if 0 ≤ y ∧ y < 40 then (1 : Int32) else 0) = 0 := if_neg z1
        repeat' (first | (with_reducible exact hmn) | (with_reducible exact n030) | (with_reducible exact n1) | apply And.intro | exact rfl | (intro hx; with_reducible exact absurd hx q0) | (intro hx; with_reducible exact absurd q1 hx) | (intro hx; exact absurd hx (by decide)) | (intro hx; exact absurd (by decide) hx) | decide | intro hx | (refine Exists.intro _ (And.intro rfl ?_)))
        all_goals try first | (with_reducible change am_tI _ _) | (change Ret _ _) | (change Ret _ _ _) | (change Exists _)
        all_goals try dsimp only at *
        all_goals try (with_reducible exact absurd ‹(1000 : Int64) = 0› am_z1000)
        all_goals exact h _ _ r_sc.rf hR
      · skip
        have q1 : ¬ ((if 0 ≤ y ∧ y < 40 then (1 : Int32) else 0) = 0) := by rw [if_pos z1]; decide
        by_cases z2 : 0 ≤ k ∧ k < 40
        rotate_left
        · skip
          have q2 : (if 0 ≤ k ∧ k < 40 then (1 : Int32) else 0) = 0 := if_neg z2
          repeat' (first | (with_reducible exact hmn) | (with_reducible exact n030) | (with_reducible exact n1) | apply And.intro | exact rfl | (intro hx; with_reducible exact absurd hx q0) | (intro hx; with_reducible exact absurd hx q1) | (intro hx; with_reducible exact absurd q2 hx) | (intro hx; exact absurd hx (by decide)) | (intro hx; exact absurd (by decide) hx) | decide | intro hx | (refine Exists.intro _ (And.intro rfl ?_)))
          all_goals try first | (with_reducible change am_tI _ _) | (change Ret _ _) | (change Ret _ _ _) | (change Exists _)
          all_goals try dsimp only at *
          all_goals try (with_reducible exact absurd ‹(1000 : Int64) = 0› am_z1000)
          all_goals exact h _ _ r_sc.rf hR
        · skip
          have q2 : ¬ ((if 0 ≤ k ∧ k < 40 then (1 : Int32) else 0) = 0) := by rw [if_pos z2]; decide
          by_cases z3 : 0 ≤ w ∧ w ≤ 4
          rotate_left
          · skip
            have q3 : (if (0 : Int64) ≤ w.toInt64 ∧ w.toInt64 ≤ (4 : Int64) then (1 : Int32) else 0) = 0 := if_neg (fun r => z3 (by simp only [i_le, i_lt, j_le, Int32.toInt_toInt64, Int32.reduceToInt, Int64.reduceToInt] at r ⊢; omega))
            repeat' (first | (with_reducible exact hmn) | (with_reducible exact n030) | (with_reducible exact n1) | apply And.intro | exact rfl | (intro hx; with_reducible exact absurd hx q0) | (intro hx; with_reducible exact absurd hx q1) | (intro hx; with_reducible exact absurd hx q2) | (intro hx; with_reducible exact absurd q3 hx) | (intro hx; exact absurd hx (by decide)) | (intro hx; exact absurd (by decide) hx) | decide | intro hx | (refine Exists.intro _ (And.intro rfl ?_)))
            all_goals try first | (with_reducible change am_tI _ _) | (change Ret _ _) | (change Ret _ _ _) | (change Exists _)
            all_goals try dsimp only at *
            all_goals try (with_reducible exact absurd ‹(1000 : Int64) = 0› am_z1000)
            all_goals exact h _ _ r_sc.rf hR
          · skip
            have q3 : ¬ ((if (0 : Int64) ≤ w.toInt64 ∧ w.toInt64 ≤ (4 : Int64) then (1 : Int32) else 0) = 0) := by rw [if_pos (by have q := z3; simp only [i_le, i_lt, j_le, Int32.toInt_toInt64, Int32.reduceToInt, Int64.reduceToInt] at q ⊢; omega)]; decide
            have hl : am_in l 30 := ⟨by have q := z0.1; simp only [i_le, Int32.reduceToInt] at q; omega, by have q := z0.2; simp only [i_lt] at q; omega⟩
            have hy : am_in y 40 := ⟨by have q := z1.1; simp only [i_le, Int32.reduceToInt] at q; omega, by have q := z1.2; simp only [i_lt, Int32.reduceToInt] at q; omega⟩
            have hp := r_pers hR hl
            have w0 : 0 ≤ (0 : Int32).toInt ∧ (0 : Int32).toInt ≤ 7 := ⟨by decide, by decide⟩
            have y39 : y.toInt ≤ 39 := by have q := hy.2; omega
            repeat' (first | (with_reducible exact hmn) | (with_reducible exact hR) | (with_reducible exact n030) | (with_reducible exact n1) | (with_reducible exact hl) | (with_reducible exact hp) | (with_reducible exact w0) | (with_reducible exact y39) | apply And.intro | exact rfl | (intro hx; with_reducible exact absurd hx q0) | (intro hx; with_reducible exact absurd hx q1) | (intro hx; with_reducible exact absurd hx q2) | (intro hx; with_reducible exact absurd hx q3) | ((with_reducible change r_I _); (with_reducible assumption)) | (intro hx; exact absurd hx (by decide)) | (intro hx; exact absurd (by decide) hx) | decide | intro hx | (refine Exists.intro _ (And.intro rfl ?_)))
            all_goals try first | (with_reducible change am_tI _ _) | (change Ret _ _) | (change Ret _ _ _) | (change Exists _)
            all_goals try dsimp only at *
            all_goals try (with_reducible exact absurd ‹(1000 : Int64) = 0› am_z1000)
            all_goals first | (change r_I _; (repeat' (first | (with_reducible assumption) | ((with_reducible change r_I (am_wJ _ _ _ _)); refine r_I.wJ ?_) | ((with_reducible change r_I (am_wI _ _ _ _)); refine r_I.wI ?_ rfl)))) | ((with_reducible change Ret _ _); exact h _ _ (by (repeat' (first | (with_reducible exact r_sc.rf) | (with_reducible assumption) | ((with_reducible change r_sc _ (am_wI _ _ _ _)); refine r_sc.wI ?_ rfl) | ((with_reducible change r_sc _ (am_wJ _ _ _ _)); refine r_sc.wJ ?_ rfl) | (refine r_sc.tr ?_ (by with_reducible assumption))))) (by (repeat' (first | (with_reducible assumption) | ((with_reducible change r_I (am_wJ _ _ _ _)); refine r_I.wJ ?_) | ((with_reducible change r_I (am_wI _ _ _ _)); refine r_I.wI ?_ rfl))))) | skip
  · exact h.elim
theorem hy_X8_allOf : yX8_allOf.cls ≠ "java/lang/invoke/MethodHandle" ∧ yX8_allOf.cls ≠ "java/lang/invoke/VarHandle" ∧ (parseMethodDescriptor yX8_allOf.desc).map (fun d => d.parameters.length) = some 2 := ⟨by decide +kernel, by decide +kernel, by decide +kernel⟩
set_option maxRecDepth 100000 in
theorem wd_1195 : Cond.methodLink "LearnLoansModel" 243 yX8_allOf ∈ am_ws := am_wt5 (List.mem_of_getElem? (i := 178) (by rfl)) (by decide +kernel)
set_option maxRecDepth 100000 in
theorem wd_1197 : Cond.instanceMethod yX8_allOf ∈ am_ws := am_wt5 (List.mem_of_getElem? (i := 180) (by rfl)) (by decide +kernel)
set_option maxRecDepth 100000 in
theorem wd_50 : Cond.selects "LearnLoansModel" yX8_allOf yX8_allOf ∈ am_ws := am_wsi (List.mem_of_getElem? (i := 50) (by rfl)) (by decide +kernel)
set_option maxRecDepth 100000 in
theorem wd_1198 : Cond.code yX8_allOf cX8_allOf 6 (some .long) ∈ am_ws := am_wt5 (List.mem_of_getElem? (i := 181) (by rfl)) (by decide +kernel)
def rwX8_all : List dz_r := [(0, .aload_n 0, 1), (1, .iload_n 1, 1), (2, .invokevirtual 76, 3), (5, .ifCond .eq 30, 3), (8, .iload_n 2, 1), (9, .invokestatic 72, 3), (12, .ifCond .eq 23, 3), (15, .iload_n 3, 1), (16, .invokestatic 72, 3), (19, .ifCond .eq 16, 3), (22, .iload 4, 2), (24, .i2l, 1), (25, .lconst 0, 1), (26, .ldc2_w 70, 3), (29, .invokestatic 66, 3), (32, .ifCond .ne 7, 3), (35, .ldc2_w 237, 3), (38, .lreturn, 1), (39, .aload_n 0, 1), (40, .iload_n 1, 1), (41, .iload_n 2, 1), (42, .iload_n 3, 1), (43, .invokevirtual 239, 3), (46, .aload_n 0, 1), (47, .iload_n 1, 1), (48, .iload 4, 2), (50, .invokevirtual 243, 3), (53, .lreturn, 1)]
theorem dzX8_all : dz cX8_all rwX8_all := dz_all 0 (by decide +kernel)
def kX8_all (live : am_E) (Ret : am_R) : am_code := [(0, am_aload 0 1), (1, am_iload 1 2), (2, am_callV live 8 1 TX8_isPerson 5), (5, am_if1 (fun x => x = 0) 35 8), (8, am_iload 2 9), (9, am_callS live 1 TX8_isYear 12), (12, am_if1 (fun x => x = 0) 35 15), (15, am_iload 3 16), (16, am_callS live 1 TX8_isYear 19), (19, am_if1 (fun x => x = 0) 35 22), (22, am_iload 4 24), (24, am_i2l 25), (25, am_const (.long 0) 26), (26, am_const (.long 4) 29), (29, am_callS live 3 TX8_in 32), (32, am_if1 (fun x => x = 0) 35 39), (35, am_const (.long (-2)) 38), (38, am_retL Ret), (39, am_aload 0 40), (40, am_iload 1 41), (41, am_iload 2 42), (42, am_iload 3 43), (43, am_callV live 8 3 TX8_run 46), (46, am_aload 0 47), (47, am_iload 1 48), (48, am_iload 4 50), (50, am_callV live 8 2 TX8_allOf 53), (53, am_retL Ret)]
theorem koX8_all (live : am_E) (Ret : am_R) : ∀ q ∈ kX8_all live Ret, am_ok RX8 cX8_all 5 (some .long) 10 253 live Ret q.1 q.2 :=
  am_kz dzX8_all <|
  am_kd (fun d => ak_aload_n d rfl rfl) <|
  am_kd (fun d => ak_iload_n d rfl rfl) <|
  am_kd (fun d => ak_callV (C := RX8) (F := TX8) (N := 27) metX8_isPerson rfl ⟨rfl, hy_X8_isPerson⟩ (am_w5 wd_993 wd_995 wd_27 wd_67 wd_996) (by decide) d rfl) <|
  am_kd (fun d => ak_if_eq d (by decide +kernel) rfl) <|
  am_kd (fun d => ak_iload_n d rfl rfl) <|
  am_kd (fun d => ak_callS metX8_isYear ⟨rfl, hy_X8_isYear⟩ (am_w4 wd_982 wd_983 wd_67 wd_984) (by decide) d rfl) <|
  am_kd (fun d => ak_if_eq d (by decide +kernel) rfl) <|
  am_kd (fun d => ak_iload_n d rfl rfl) <|
  am_kd (fun d => ak_callS metX8_isYear ⟨rfl, hy_X8_isYear⟩ (am_w4 wd_982 wd_983 wd_67 wd_984) (by decide) d rfl) <|
  am_kd (fun d => ak_if_eq d (by decide +kernel) rfl) <|
  am_kd (fun d => ak_iload d rfl) <|
  am_kd (fun d => ak_i2l d rfl) <|
  am_kd (fun d => ak_lconst d (by decide +kernel) rfl) <|
  am_kd (fun d => ak_ldc2 wd_1037 d rfl) <|
  am_kd (fun d => ak_callS metX8_in ⟨rfl, hy_X8_in⟩ (am_w4 wd_986 wd_987 wd_67 wd_988) (by decide) d rfl) <|
  am_kd (fun d => ak_if_ne d (by decide +kernel) rfl) <|
  am_kd (fun d => ak_ldc2 wd_1153 d rfl) <|
  am_kd (fun d => ak_retL d) <|
  am_kd (fun d => ak_aload_n d rfl rfl) <|
  am_kd (fun d => ak_iload_n d rfl rfl) <|
  am_kd (fun d => ak_iload_n d rfl rfl) <|
  am_kd (fun d => ak_iload_n d rfl rfl) <|
  am_kd (fun d => ak_callV (C := RX8) (F := TX8) (N := 27) metX8_run rfl ⟨rfl, hy_X8_run⟩ (am_w5 wd_1158 wd_1160 wd_42 wd_67 wd_1161) (by decide) d rfl) <|
  am_kd (fun d => ak_aload_n d rfl rfl) <|
  am_kd (fun d => ak_iload_n d rfl rfl) <|
  am_kd (fun d => ak_iload d rfl) <|
  am_kd (fun d => ak_callV (C := RX8) (F := TX8) (N := 27) metX8_allOf rfl ⟨rfl, hy_X8_allOf⟩ (am_w5 wd_1195 wd_1197 wd_50 wd_67 wd_1198) (by decide) d rfl) <|
  am_kd (fun d => ak_retL d) <| am_kdn
def TX8_all : am_T := fun live as M R => match as with
  | [.ref n, .int p, .int y, .int k, .int w] => am_mn live ∧ n = 200 ∧ r_I M ∧ ∀ v M', r_sc M M' → r_I M' → R (some (.long v)) M'
  | _ => False
set_option maxRecDepth 100000 in
set_option maxHeartbeats 4000000 in
theorem metX8_all : am_Met yX8_all cX8_all 5 (some .long) (10) (253) TX8_all := by
  refine am_met (own := RX8) (by decide +kernel) rfl kX8_all koX8_all 150 (fun _ _ _ _ _ => none) (fun live as M Ret h => ?_) (fun _ _ _ _ _ _ _ _ hI => by cases hI)
  unfold TX8_all at h
  split at h
  · next n p y k w =>
    refine ⟨Nat.le_of_ble_eq_true rfl, ?_⟩
    change am_wp _ _ _ _ [(0, Value.ref n), (1, Value.int p), (2, Value.int y), (3, Value.int k), (4, Value.int w)] _ _
    obtain ⟨hmn, rfl, hR, h⟩ := h
    have hmn2 := hmn
    obtain ⟨i1, i2, rfl⟩ := hmn2
    have l201 : am_len 201 = 3760 := rfl
    have n0 := hR.n0
    have n1 := hR.n1
    have n030 : 0 ≤ (M.1 201 0).toInt ∧ (M.1 201 0).toInt ≤ 30 := ⟨n0.1, by omega⟩
    by_cases z0 : 0 ≤ p ∧ p < M.1 201 0
    rotate_left
    · skip
      have q0 : (if 0 ≤ p ∧ p < M.1 201 0 then (1 : Int32) else 0) = 0 := if_neg z0
      repeat' (first | (with_reducible exact hmn) | (with_reducible exact n030) | (with_reducible exact n1) | apply And.intro | exact rfl | (intro hx; with_reducible exact absurd q0 hx) | (intro hx; exact absurd hx (by decide)) | (intro hx; exact absurd (by decide) hx) | decide | intro hx | (refine Exists.intro _ (And.intro rfl ?_)))
      all_goals try first | (with_reducible change am_tI _ _) | (change Ret _ _) | (change Ret _ _ _) | (change Exists _)
      all_goals try dsimp only at *
      all_goals try (with_reducible exact absurd ‹(1000 : Int64) = 0› am_z1000)
      all_goals exact h _ _ r_sc.rf hR
    · skip
      have q0 : ¬ ((if 0 ≤ p ∧ p < M.1 201 0 then (1 : Int32) else 0) = 0) := by rw [if_pos z0]; decide
      by_cases z1 : 0 ≤ y ∧ y < 40
      rotate_left
      · skip
        have q1 : (if 0 ≤ y ∧ y < 40 then (1 : Int32) else 0) = 0 := if_neg z1
        repeat' (first | (with_reducible exact hmn) | (with_reducible exact n030) | (with_reducible exact n1) | apply And.intro | exact rfl | (intro hx; with_reducible exact absurd hx q0) | (intro hx; with_reducible exact absurd q1 hx) | (intro hx; exact absurd hx (by decide)) | (intro hx; exact absurd (by decide) hx) | decide | intro hx | (refine Exists.intro _ (And.intro rfl ?_)))
        all_goals try first | (with_reducible change am_tI _ _) | (change Ret _ _) | (change Ret _ _ _) | (change Exists _)
        all_goals try dsimp only at *
        all_goals try (with_reducible exact absurd ‹(1000 : Int64) = 0› am_z1000)
        all_goals exact h _ _ r_sc.rf hR
      · skip
        have q1 : ¬ ((if 0 ≤ y ∧ y < 40 then (1 : Int32) else 0) = 0) := by rw [if_pos z1]; decide
        by_cases z2 : 0 ≤ k ∧ k < 40
        rotate_left
        · skip
          have q2 : (if 0 ≤ k ∧ k < 40 then (1 : Int32) else 0) = 0 := if_neg z2
          repeat' (first | (with_reducible exact hmn) | (with_reducible exact n030) | (with_reducible exact n1) | apply And.intro | exact rfl | (intro hx; with_reducible exact absurd hx q0) | (intro hx; with_reducible exact absurd hx q1) | (intro hx; with_reducible exact absurd q2 hx) | (intro hx; exact absurd hx (by decide)) | (intro hx; exact absurd (by decide) hx) | decide | intro hx | (refine Exists.intro _ (And.intro rfl ?_)))
          all_goals try first | (with_reducible change am_tI _ _) | (change Ret _ _) | (change Ret _ _ _) | (change Exists _)
          all_goals try dsimp only at *
          all_goals try (with_reducible exact absurd ‹(1000 : Int64) = 0› am_z1000)
          all_goals exact h _ _ r_sc.rf hR
        · skip
          have q2 : ¬ ((if 0 ≤ k ∧ k < 40 then (1 : Int32) else 0) = 0) := by rw [if_pos z2]; decide
          by_cases z3 : 0 ≤ w ∧ w ≤ 4
          rotate_left
          · skip
            have q3 : (if (0 : Int64) ≤ w.toInt64 ∧ w.toInt64 ≤ (4 : Int64) then (1 : Int32) else 0) = 0 := if_neg (fun r => z3 (by simp only [i_le, i_lt, j_le, Int32.toInt_toInt64, Int32.reduceToInt, Int64.reduceToInt] at r ⊢; omega))
            repeat' (first | (with_reducible exact hmn) | (with_reducible exact n030) | (with_reducible exact n1) | apply And.intro | exact rfl | (intro hx; with_reducible exact absurd hx q0) | (intro hx; with_reducible exact absurd hx q1) | (intro hx; with_reducible exact absurd hx q2) | (intro hx; with_reducible exact absurd q3 hx) | (intro hx; exact absurd hx (by decide)) | (intro hx; exact absurd (by decide) hx) | decide | intro hx | (refine Exists.intro _ (And.intro rfl ?_)))
            all_goals try first | (with_reducible change am_tI _ _) | (change Ret _ _) | (change Ret _ _ _) | (change Exists _)
            all_goals try dsimp only at *
            all_goals try (with_reducible exact absurd ‹(1000 : Int64) = 0› am_z1000)
            all_goals exact h _ _ r_sc.rf hR
          · skip
            have q3 : ¬ ((if (0 : Int64) ≤ w.toInt64 ∧ w.toInt64 ≤ (4 : Int64) then (1 : Int32) else 0) = 0) := by rw [if_pos (by have q := z3; simp only [i_le, i_lt, j_le, Int32.toInt_toInt64, Int32.reduceToInt, Int64.reduceToInt] at q ⊢; omega)]; decide
            have hp : am_in p 12 := ⟨by have q := z0.1; simp only [i_le, Int32.reduceToInt] at q; omega, by have q := z0.2; simp only [i_lt] at q; omega⟩
            have hy : am_in y 40 := ⟨by have q := z1.1; simp only [i_le, Int32.reduceToInt] at q; omega, by have q := z1.2; simp only [i_lt, Int32.reduceToInt] at q; omega⟩
            have y39 : y.toInt ≤ 39 := by have q := hy.2; omega
            repeat' (first | (with_reducible exact hmn) | (with_reducible exact hR) | (with_reducible exact n030) | (with_reducible exact n1) | (with_reducible exact hp) | (with_reducible exact y39) | apply And.intro | exact rfl | (intro hx; with_reducible exact absurd hx q0) | (intro hx; with_reducible exact absurd hx q1) | (intro hx; with_reducible exact absurd hx q2) | (intro hx; with_reducible exact absurd hx q3) | ((with_reducible change r_I _); (with_reducible assumption)) | (intro hx; exact absurd hx (by decide)) | (intro hx; exact absurd (by decide) hx) | decide | intro hx | (refine Exists.intro _ (And.intro rfl ?_)))
            all_goals try first | (with_reducible change am_tI _ _) | (change Ret _ _) | (change Ret _ _ _) | (change Exists _)
            all_goals try dsimp only at *
            all_goals try (with_reducible exact absurd ‹(1000 : Int64) = 0› am_z1000)
            all_goals first | (change r_I _; (repeat' (first | (with_reducible assumption) | ((with_reducible change r_I (am_wJ _ _ _ _)); refine r_I.wJ ?_) | ((with_reducible change r_I (am_wI _ _ _ _)); refine r_I.wI ?_ rfl)))) | ((with_reducible change Ret _ _); exact h _ _ (by (repeat' (first | (with_reducible exact r_sc.rf) | (with_reducible assumption) | ((with_reducible change r_sc _ (am_wI _ _ _ _)); refine r_sc.wI ?_ rfl) | ((with_reducible change r_sc _ (am_wJ _ _ _ _)); refine r_sc.wJ ?_ rfl) | (refine r_sc.tr ?_ (by with_reducible assumption))))) (by (repeat' (first | (with_reducible assumption) | ((with_reducible change r_I (am_wJ _ _ _ _)); refine r_I.wJ ?_) | ((with_reducible change r_I (am_wI _ _ _ _)); refine r_I.wI ?_ rfl))))) | skip
  · exact h.elim
set_option maxRecDepth 100000 in
theorem wd_1207 : Cond.constantLong "LearnLoansModel" 246 (-1000000000000000) ∈ am_ws := am_wt5 (List.mem_of_getElem? (i := 190) (by rfl)) (by decide +kernel)
def rwX8_over : List dz_r := [(0, .aload_n 0, 1), (1, .iload_n 1, 1), (2, .invokevirtual 76, 3), (5, .ifCond .eq 17, 3), (8, .iload_n 2, 1), (9, .invokestatic 72, 3), (12, .ifCond .eq 10, 3), (15, .iload_n 3, 1), (16, .invokestatic 72, 3), (19, .ifCond .ne 7, 3), (22, .ldc2_w 246, 3), (25, .lreturn, 1), (26, .aload_n 0, 1), (27, .iload_n 1, 1), (28, .iload_n 2, 1), (29, .iload_n 2, 1), (30, .invokevirtual 239, 3), (33, .aload_n 0, 1), (34, .iload_n 1, 1), (35, .iconst 1, 1), (36, .invokevirtual 243, 3), (39, .lstore 4, 2), (41, .aload_n 0, 1), (42, .iload_n 1, 1), (43, .iload_n 2, 1), (44, .iload_n 3, 1), (45, .invokevirtual 239, 3), (48, .lload 4, 2), (50, .aload_n 0, 1), (51, .iload_n 1, 1), (52, .iconst 1, 1), (53, .invokevirtual 243, 3), (56, .lsub, 1), (57, .lreturn, 1)]
theorem dzX8_over : dz cX8_over rwX8_over := dz_all 0 (by decide +kernel)
def kX8_over (live : am_E) (Ret : am_R) : am_code := [(0, am_aload 0 1), (1, am_iload 1 2), (2, am_callV live 8 1 TX8_isPerson 5), (5, am_if1 (fun x => x = 0) 22 8), (8, am_iload 2 9), (9, am_callS live 1 TX8_isYear 12), (12, am_if1 (fun x => x = 0) 22 15), (15, am_iload 3 16), (16, am_callS live 1 TX8_isYear 19), (19, am_if1 (fun x => x = 0) 22 26), (22, am_const (.long (-1000000000000000)) 25), (25, am_retL Ret), (26, am_aload 0 27), (27, am_iload 1 28), (28, am_iload 2 29), (29, am_iload 2 30), (30, am_callV live 8 3 TX8_run 33), (33, am_aload 0 34), (34, am_iload 1 35), (35, am_const (.int 1) 36), (36, am_callV live 8 2 TX8_allOf 39), (39, am_lstore 4 6 41), (41, am_aload 0 42), (42, am_iload 1 43), (43, am_iload 2 44), (44, am_iload 3 45), (45, am_callV live 8 3 TX8_run 48), (48, am_lload 4 50), (50, am_aload 0 51), (51, am_iload 1 52), (52, am_const (.int 1) 53), (53, am_callV live 8 2 TX8_allOf 56), (56, am_l2 (fun x y => x - y) 57), (57, am_retL Ret)]
theorem koX8_over (live : am_E) (Ret : am_R) : ∀ q ∈ kX8_over live Ret, am_ok RX8 cX8_over 6 (some .long) 10 253 live Ret q.1 q.2 :=
  am_kz dzX8_over <|
  am_kd (fun d => ak_aload_n d rfl rfl) <|
  am_kd (fun d => ak_iload_n d rfl rfl) <|
  am_kd (fun d => ak_callV (C := RX8) (F := TX8) (N := 27) metX8_isPerson rfl ⟨rfl, hy_X8_isPerson⟩ (am_w5 wd_993 wd_995 wd_27 wd_67 wd_996) (by decide) d rfl) <|
  am_kd (fun d => ak_if_eq d (by decide +kernel) rfl) <|
  am_kd (fun d => ak_iload_n d rfl rfl) <|
  am_kd (fun d => ak_callS metX8_isYear ⟨rfl, hy_X8_isYear⟩ (am_w4 wd_982 wd_983 wd_67 wd_984) (by decide) d rfl) <|
  am_kd (fun d => ak_if_eq d (by decide +kernel) rfl) <|
  am_kd (fun d => ak_iload_n d rfl rfl) <|
  am_kd (fun d => ak_callS metX8_isYear ⟨rfl, hy_X8_isYear⟩ (am_w4 wd_982 wd_983 wd_67 wd_984) (by decide) d rfl) <|
  am_kd (fun d => ak_if_ne d (by decide +kernel) rfl) <|
  am_kd (fun d => ak_ldc2 wd_1207 d rfl) <|
  am_kd (fun d => ak_retL d) <|
  am_kd (fun d => ak_aload_n d rfl rfl) <|
  am_kd (fun d => ak_iload_n d rfl rfl) <|
  am_kd (fun d => ak_iload_n d rfl rfl) <|
  am_kd (fun d => ak_iload_n d rfl rfl) <|
  am_kd (fun d => ak_callV (C := RX8) (F := TX8) (N := 27) metX8_run rfl ⟨rfl, hy_X8_run⟩ (am_w5 wd_1158 wd_1160 wd_42 wd_67 wd_1161) (by decide) d rfl) <|
  am_kd (fun d => ak_aload_n d rfl rfl) <|
  am_kd (fun d => ak_iload_n d rfl rfl) <|
  am_kd (fun d => ak_iconst d (by decide +kernel) rfl) <|
  am_kd (fun d => ak_callV (C := RX8) (F := TX8) (N := 27) metX8_allOf rfl ⟨rfl, hy_X8_allOf⟩ (am_w5 wd_1195 wd_1197 wd_50 wd_67 wd_1198) (by decide) d rfl) <|
  am_kd (fun d => ak_lstore d rfl) <|
  am_kd (fun d => ak_aload_n d rfl rfl) <|
  am_kd (fun d => ak_iload_n d rfl rfl) <|
  am_kd (fun d => ak_iload_n d rfl rfl) <|
  am_kd (fun d => ak_iload_n d rfl rfl) <|
  am_kd (fun d => ak_callV (C := RX8) (F := TX8) (N := 27) metX8_run rfl ⟨rfl, hy_X8_run⟩ (am_w5 wd_1158 wd_1160 wd_42 wd_67 wd_1161) (by decide) d rfl) <|
  am_kd (fun d => ak_lload d rfl) <|
  am_kd (fun d => ak_aload_n d rfl rfl) <|
  am_kd (fun d => ak_iload_n d rfl rfl) <|
  am_kd (fun d => ak_iconst d (by decide +kernel) rfl) <|
  am_kd (fun d => ak_callV (C := RX8) (F := TX8) (N := 27) metX8_allOf rfl ⟨rfl, hy_X8_allOf⟩ (am_w5 wd_1195 wd_1197 wd_50 wd_67 wd_1198) (by decide) d rfl) <|
  am_kd (fun d => ak_lsub d rfl) <|
  am_kd (fun d => ak_retL d) <| am_kdn
def TX8_over : am_T := fun live as M R => match as with
  | [.ref n, .int p, .int y, .int k] => am_mn live ∧ n = 200 ∧ r_I M ∧ ∀ v M', r_sc M M' → r_I M' → R (some (.long v)) M'
  | _ => False
set_option maxRecDepth 100000 in
set_option maxHeartbeats 4000000 in
theorem metX8_over : am_Met yX8_over cX8_over 6 (some .long) (10) (253) TX8_over := by
  refine am_met (own := RX8) (by decide +kernel) rfl kX8_over koX8_over 150 (fun _ _ _ _ _ => none) (fun live as M Ret h => ?_) (fun _ _ _ _ _ _ _ _ hI => by cases hI)
  unfold TX8_over at h
  split at h
  · next n p y k =>
    refine ⟨Nat.le_of_ble_eq_true rfl, ?_⟩
    change am_wp _ _ _ _ [(0, Value.ref n), (1, Value.int p), (2, Value.int y), (3, Value.int k)] _ _
    obtain ⟨hmn, rfl, hR, h⟩ := h
    have hmn2 := hmn
    obtain ⟨i1, i2, rfl⟩ := hmn2
    have l201 : am_len 201 = 3760 := rfl
    have n0 := hR.n0
    have n1 := hR.n1
    have n030 : 0 ≤ (M.1 201 0).toInt ∧ (M.1 201 0).toInt ≤ 30 := ⟨n0.1, by omega⟩
    by_cases z0 : 0 ≤ p ∧ p < M.1 201 0
    rotate_left
    · skip
      have q0 : (if 0 ≤ p ∧ p < M.1 201 0 then (1 : Int32) else 0) = 0 := if_neg z0
      repeat' (first | (with_reducible exact hmn) | (with_reducible exact n030) | (with_reducible exact n1) | apply And.intro | exact rfl | (intro hx; with_reducible exact absurd q0 hx) | (intro hx; exact absurd hx (by decide)) | (intro hx; exact absurd (by decide) hx) | decide | intro hx | (refine Exists.intro _ (And.intro rfl ?_)))
      all_goals try first | (with_reducible change am_tI _ _) | (change Ret _ _) | (change Ret _ _ _) | (change Exists _)
      all_goals try dsimp only at *
      all_goals try (with_reducible exact absurd ‹(1000 : Int64) = 0› am_z1000)
      all_goals exact h _ _ r_sc.rf hR
    · skip
      have q0 : ¬ ((if 0 ≤ p ∧ p < M.1 201 0 then (1 : Int32) else 0) = 0) := by rw [if_pos z0]; decide
      by_cases z1 : 0 ≤ y ∧ y < 40
      rotate_left
      · skip
        have q1 : (if 0 ≤ y ∧ y < 40 then (1 : Int32) else 0) = 0 := if_neg z1
        repeat' (first | (with_reducible exact hmn) | (with_reducible exact n030) | (with_reducible exact n1) | apply And.intro | exact rfl | (intro hx; with_reducible exact absurd hx q0) | (intro hx; with_reducible exact absurd q1 hx) | (intro hx; exact absurd hx (by decide)) | (intro hx; exact absurd (by decide) hx) | decide | intro hx | (refine Exists.intro _ (And.intro rfl ?_)))
        all_goals try first | (with_reducible change am_tI _ _) | (change Ret _ _) | (change Ret _ _ _) | (change Exists _)
        all_goals try dsimp only at *
        all_goals try (with_reducible exact absurd ‹(1000 : Int64) = 0› am_z1000)
        all_goals exact h _ _ r_sc.rf hR
      · skip
        have q1 : ¬ ((if 0 ≤ y ∧ y < 40 then (1 : Int32) else 0) = 0) := by rw [if_pos z1]; decide
        by_cases z2 : 0 ≤ k ∧ k < 40
        rotate_left
        · skip
          have q2 : (if 0 ≤ k ∧ k < 40 then (1 : Int32) else 0) = 0 := if_neg z2
          repeat' (first | (with_reducible exact hmn) | (with_reducible exact n030) | (with_reducible exact n1) | apply And.intro | exact rfl | (intro hx; with_reducible exact absurd hx q0) | (intro hx; with_reducible exact absurd hx q1) | (intro hx; with_reducible exact absurd q2 hx) | (intro hx; exact absurd hx (by decide)) | (intro hx; exact absurd (by decide) hx) | decide | intro hx | (refine Exists.intro _ (And.intro rfl ?_)))
          all_goals try first | (with_reducible change am_tI _ _) | (change Ret _ _) | (change Ret _ _ _) | (change Exists _)
          all_goals try dsimp only at *
          all_goals try (with_reducible exact absurd ‹(1000 : Int64) = 0› am_z1000)
          all_goals exact h _ _ r_sc.rf hR
        · skip
          have q2 : ¬ ((if 0 ≤ k ∧ k < 40 then (1 : Int32) else 0) = 0) := by rw [if_pos z2]; decide
          have hp : am_in p 12 := ⟨by have q := z0.1; simp only [i_le, Int32.reduceToInt] at q; omega, by have q := z0.2; simp only [i_lt] at q; omega⟩
          have hy : am_in y 40 := ⟨by have q := z1.1; simp only [i_le, Int32.reduceToInt] at q; omega, by have q := z1.2; simp only [i_lt, Int32.reduceToInt] at q; omega⟩
          have y39 : y.toInt ≤ 39 := by have q := hy.2; omega
          repeat' (first | (with_reducible exact hmn) | (with_reducible exact hR) | (with_reducible exact n030) | (with_reducible exact n1) | (with_reducible exact hp) | (with_reducible exact y39) | apply And.intro | exact rfl | (intro hx; with_reducible exact absurd hx q0) | (intro hx; with_reducible exact absurd hx q1) | (intro hx; with_reducible exact absurd hx q2) | ((with_reducible change r_I _); (with_reducible assumption)) | (intro hx; exact absurd hx (by decide)) | (intro hx; exact absurd (by decide) hx) | decide | intro hx | (refine Exists.intro _ (And.intro rfl ?_)))
          all_goals try first | (with_reducible change am_tI _ _) | (change Ret _ _) | (change Ret _ _ _) | (change Exists _)
          all_goals try dsimp only at *
          all_goals try (with_reducible exact absurd ‹(1000 : Int64) = 0› am_z1000)
          all_goals first | (change r_I _; (repeat' (first | (with_reducible assumption) | ((with_reducible change r_I (am_wJ _ _ _ _)); refine r_I.wJ ?_) | ((with_reducible change r_I (am_wI _ _ _ _)); refine r_I.wI ?_ rfl)))) | ((with_reducible change Ret _ _); exact h _ _ (by (repeat' (first | (with_reducible exact r_sc.rf) | (with_reducible assumption) | ((with_reducible change r_sc _ (am_wI _ _ _ _)); refine r_sc.wI ?_ rfl) | ((with_reducible change r_sc _ (am_wJ _ _ _ _)); refine r_sc.wJ ?_ rfl) | (refine r_sc.tr ?_ (by with_reducible assumption))))) (by (repeat' (first | (with_reducible assumption) | ((with_reducible change r_I (am_wJ _ _ _ _)); refine r_I.wJ ?_) | ((with_reducible change r_I (am_wI _ _ _ _)); refine r_I.wI ?_ rfl))))) | skip
  · exact h.elim
def rwX8_rate : List dz_r := [(0, .aload_n 0, 1), (1, .iload_n 1, 1), (2, .invokevirtual 131, 3), (5, .ifCond .eq 17, 3), (8, .iload_n 2, 1), (9, .invokestatic 72, 3), (12, .ifCond .eq 10, 3), (15, .iload_n 3, 1), (16, .invokestatic 72, 3), (19, .ifCond .ne 6, 3), (22, .bipush (-2), 2), (24, .ireturn, 1), (25, .aload_n 0, 1), (26, .iload_n 1, 1), (27, .iconst 0, 1), (28, .invokevirtual 202, 3), (31, .istore 4, 2), (33, .aload_n 0, 1), (34, .iload 4, 2), (36, .iload_n 2, 1), (37, .iconst 1, 1), (38, .isub, 1), (39, .iload_n 3, 1), (40, .invokevirtual 239, 3), (43, .aload_n 0, 1), (44, .iload_n 1, 1), (45, .iload_n 2, 1), (46, .aload_n 0, 1), (47, .iload 4, 2), (49, .iload_n 2, 1), (50, .iload_n 3, 1), (51, .invokevirtual 89, 3), (54, .aload_n 0, 1), (55, .getfield 7, 3), (58, .bipush 34, 2), (60, .bipush 40, 2), (62, .iload 4, 2), (64, .imul, 1), (65, .iadd, 1), (66, .iload_n 2, 1), (67, .iadd, 1), (68, .iaload, 1), (69, .invokevirtual 205, 3), (72, .ireturn, 1)]
theorem dzX8_rate : dz cX8_rate rwX8_rate := dz_all 0 (by decide +kernel)
def kX8_rate (live : am_E) (Ret : am_R) : am_code := [(0, am_aload 0 1), (1, am_iload 1 2), (2, am_callV live 8 1 TX8_isLoan 5), (5, am_if1 (fun x => x = 0) 22 8), (8, am_iload 2 9), (9, am_callS live 1 TX8_isYear 12), (12, am_if1 (fun x => x = 0) 22 15), (15, am_iload 3 16), (16, am_callS live 1 TX8_isYear 19), (19, am_if1 (fun x => x = 0) 22 25), (22, am_const (.int (-2)) 24), (24, am_retI Ret), (25, am_aload 0 26), (26, am_iload 1 27), (27, am_const (.int 0) 28), (28, am_callV live 8 2 TX8_ofLoan 31), (31, am_istore 4 5 33), (33, am_aload 0 34), (34, am_iload 4 36), (36, am_iload 2 37), (37, am_const (.int 1) 38), (38, am_i2 (fun x y => x - y) 39), (39, am_iload 3 40), (40, am_callV live 8 3 TX8_run 43), (43, am_aload 0 44), (44, am_iload 1 45), (45, am_iload 2 46), (46, am_aload 0 47), (47, am_iload 4 49), (49, am_iload 2 50), (50, am_iload 3 51), (51, am_callV live 8 3 TX8_earningsOf 54), (54, am_aload 0 55), (55, am_getR live 8 0 58), (58, am_const (.int 34) 60), (60, am_const (.int 40) 62), (62, am_iload 4 64), (64, am_i2 (fun x y => x * y) 65), (65, am_i2 (fun x y => x + y) 66), (66, am_iload 2 67), (67, am_i2 (fun x y => x + y) 68), (68, am_ald live 0 69), (69, am_callV live 8 4 TX8_rateOf 72), (72, am_retI Ret)]
theorem koX8_rate (live : am_E) (Ret : am_R) : ∀ q ∈ kX8_rate live Ret, am_ok RX8 cX8_rate 5 (some .int) 10 253 live Ret q.1 q.2 :=
  am_kz dzX8_rate <|
  am_kd (fun d => ak_aload_n d rfl rfl) <|
  am_kd (fun d => ak_iload_n d rfl rfl) <|
  am_kd (fun d => ak_callV (C := RX8) (F := TX8) (N := 27) metX8_isLoan rfl ⟨rfl, hy_X8_isLoan⟩ (am_w5 wd_1069 wd_1071 wd_30 wd_67 wd_1072) (by decide) d rfl) <|
  am_kd (fun d => ak_if_eq d (by decide +kernel) rfl) <|
  am_kd (fun d => ak_iload_n d rfl rfl) <|
  am_kd (fun d => ak_callS metX8_isYear ⟨rfl, hy_X8_isYear⟩ (am_w4 wd_982 wd_983 wd_67 wd_984) (by decide) d rfl) <|
  am_kd (fun d => ak_if_eq d (by decide +kernel) rfl) <|
  am_kd (fun d => ak_iload_n d rfl rfl) <|
  am_kd (fun d => ak_callS metX8_isYear ⟨rfl, hy_X8_isYear⟩ (am_w4 wd_982 wd_983 wd_67 wd_984) (by decide) d rfl) <|
  am_kd (fun d => ak_if_ne d (by decide +kernel) rfl) <|
  am_kd (fun d => ak_bipush d (by decide +kernel) rfl) <|
  am_kd (fun d => ak_retI d) <|
  am_kd (fun d => ak_aload_n d rfl rfl) <|
  am_kd (fun d => ak_iload_n d rfl rfl) <|
  am_kd (fun d => ak_iconst d (by decide +kernel) rfl) <|
  am_kd (fun d => ak_callV (C := RX8) (F := TX8) (N := 27) metX8_ofLoan rfl ⟨rfl, hy_X8_ofLoan⟩ (am_w5 wd_1154 wd_1156 wd_41 wd_67 wd_1157) (by decide) d rfl) <|
  am_kd (fun d => ak_istore d rfl) <|
  am_kd (fun d => ak_aload_n d rfl rfl) <|
  am_kd (fun d => ak_iload d rfl) <|
  am_kd (fun d => ak_iload_n d rfl rfl) <|
  am_kd (fun d => ak_iconst d (by decide +kernel) rfl) <|
  am_kd (fun d => ak_isub d rfl) <|
  am_kd (fun d => ak_iload_n d rfl rfl) <|
  am_kd (fun d => ak_callV (C := RX8) (F := TX8) (N := 27) metX8_run rfl ⟨rfl, hy_X8_run⟩ (am_w5 wd_1158 wd_1160 wd_42 wd_67 wd_1161) (by decide) d rfl) <|
  am_kd (fun d => ak_aload_n d rfl rfl) <|
  am_kd (fun d => ak_iload_n d rfl rfl) <|
  am_kd (fun d => ak_iload_n d rfl rfl) <|
  am_kd (fun d => ak_aload_n d rfl rfl) <|
  am_kd (fun d => ak_iload d rfl) <|
  am_kd (fun d => ak_iload_n d rfl rfl) <|
  am_kd (fun d => ak_iload_n d rfl rfl) <|
  am_kd (fun d => ak_callV (C := RX8) (F := TX8) (N := 27) metX8_earningsOf rfl ⟨rfl, hy_X8_earningsOf⟩ (am_w5 wd_1026 wd_1028 wd_28 wd_67 wd_1029) (by decide) d rfl) <|
  am_kd (fun d => ak_aload_n d rfl rfl) <|
  am_kd (fun d => ak_getR (C := RX8) (T := TX8) (N := 27) rfl inX8w (by decide) rfl rfl rfl wd_895 d rfl) <|
  am_kd (fun d => ak_bipush d (by decide +kernel) rfl) <|
  am_kd (fun d => ak_bipush d (by decide +kernel) rfl) <|
  am_kd (fun d => ak_iload d rfl) <|
  am_kd (fun d => ak_imul d rfl) <|
  am_kd (fun d => ak_iadd d rfl) <|
  am_kd (fun d => ak_iload_n d rfl rfl) <|
  am_kd (fun d => ak_iadd d rfl) <|
  am_kd (fun d => ak_iald (t := 0) (fun _ => rfl) rfl d rfl) <|
  am_kd (fun d => ak_callV (C := RX8) (F := TX8) (N := 27) metX8_rateOf rfl ⟨rfl, hy_X8_rateOf⟩ (am_w5 wd_1174 wd_1176 wd_46 wd_67 wd_1177) (by decide) d rfl) <|
  am_kd (fun d => ak_retI d) <| am_kdn
def TX8_rate : am_T := fun live as M R => match as with
  | [.ref n, .int l, .int y, .int k] => am_mn live ∧ n = 200 ∧ r_I M ∧ ∀ v M', r_sc M M' → r_I M' → R (some (.int v)) M'
  | _ => False
set_option maxRecDepth 100000 in
set_option maxHeartbeats 4000000 in
theorem metX8_rate : am_Met yX8_rate cX8_rate 5 (some .int) (10) (253) TX8_rate := by
  refine am_met (own := RX8) (by decide +kernel) rfl kX8_rate koX8_rate 150 (fun _ _ _ _ _ => none) (fun live as M Ret h => ?_) (fun _ _ _ _ _ _ _ _ hI => by cases hI)
  unfold TX8_rate at h
  split at h
  · next n l y k =>
    refine ⟨Nat.le_of_ble_eq_true rfl, ?_⟩
    change am_wp _ _ _ _ [(0, Value.ref n), (1, Value.int l), (2, Value.int y), (3, Value.int k)] _ _
    obtain ⟨hmn, rfl, hR, h⟩ := h
    have hmn2 := hmn
    obtain ⟨i1, i2, rfl⟩ := hmn2
    have l201 : am_len 201 = 3760 := rfl
    have n0 := hR.n0
    have n1 := hR.n1
    have n030 : 0 ≤ (M.1 201 0).toInt ∧ (M.1 201 0).toInt ≤ 30 := ⟨n0.1, by omega⟩
    by_cases z0 : 0 ≤ l ∧ l < M.1 201 1
    rotate_left
    · skip
      have q0 : (if 0 ≤ l ∧ l < M.1 201 1 then (1 : Int32) else 0) = 0 := if_neg z0
      repeat' (first | (with_reducible exact hmn) | (with_reducible exact n030) | (with_reducible exact n1) | apply And.intro | exact rfl | (intro hx; with_reducible exact absurd q0 hx) | (intro hx; exact absurd hx (by decide)) | (intro hx; exact absurd (by decide) hx) | decide | intro hx | (refine Exists.intro _ (And.intro rfl ?_)))
      all_goals try first | (with_reducible change am_tI _ _) | (change Ret _ _) | (change Ret _ _ _) | (change Exists _)
      all_goals try dsimp only at *
      all_goals try (with_reducible exact absurd ‹(1000 : Int64) = 0› am_z1000)
      all_goals exact h _ _ r_sc.rf hR
    · skip
      have q0 : ¬ ((if 0 ≤ l ∧ l < M.1 201 1 then (1 : Int32) else 0) = 0) := by rw [if_pos z0]; decide
      by_cases z1 : 0 ≤ y ∧ y < 40
      rotate_left
      · skip
        have q1 : (if 0 ≤ y ∧ y < 40 then (1 : Int32) else 0) = 0 := if_neg z1
        repeat' (first | (with_reducible exact hmn) | (with_reducible exact n030) | (with_reducible exact n1) | apply And.intro | exact rfl | (intro hx; with_reducible exact absurd hx q0) | (intro hx; with_reducible exact absurd q1 hx) | (intro hx; exact absurd hx (by decide)) | (intro hx; exact absurd (by decide) hx) | decide | intro hx | (refine Exists.intro _ (And.intro rfl ?_)))
        all_goals try first | (with_reducible change am_tI _ _) | (change Ret _ _) | (change Ret _ _ _) | (change Exists _)
        all_goals try dsimp only at *
        all_goals try (with_reducible exact absurd ‹(1000 : Int64) = 0› am_z1000)
        all_goals exact h _ _ r_sc.rf hR
      · skip
        have q1 : ¬ ((if 0 ≤ y ∧ y < 40 then (1 : Int32) else 0) = 0) := by rw [if_pos z1]; decide
        by_cases z2 : 0 ≤ k ∧ k < 40
        rotate_left
        · skip
          have q2 : (if 0 ≤ k ∧ k < 40 then (1 : Int32) else 0) = 0 := if_neg z2
          repeat' (first | (with_reducible exact hmn) | (with_reducible exact n030) | (with_reducible exact n1) | apply And.intro | exact rfl | (intro hx; with_reducible exact absurd hx q0) | (intro hx; with_reducible exact absurd hx q1) | (intro hx; with_reducible exact absurd q2 hx) | (intro hx; exact absurd hx (by decide)) | (intro hx; exact absurd (by decide) hx) | decide | intro hx | (refine Exists.intro _ (And.intro rfl ?_)))
          all_goals try first | (with_reducible change am_tI _ _) | (change Ret _ _) | (change Ret _ _ _) | (change Exists _)
          all_goals try dsimp only at *
          all_goals try (with_reducible exact absurd ‹(1000 : Int64) = 0› am_z1000)
          all_goals exact h _ _ r_sc.rf hR
        · skip
          have q2 : ¬ ((if 0 ≤ k ∧ k < 40 then (1 : Int32) else 0) = 0) := by rw [if_pos z2]; decide
          have hl : am_in l 30 := ⟨by have q := z0.1; simp only [i_le, Int32.reduceToInt] at q; omega, by have q := z0.2; simp only [i_lt] at q; omega⟩
          have hy : am_in y 40 := ⟨by have q := z1.1; simp only [i_le, Int32.reduceToInt] at q; omega, by have q := z1.2; simp only [i_lt, Int32.reduceToInt] at q; omega⟩
          have hp := r_pers hR hl
          have w0 : 0 ≤ (0 : Int32).toInt ∧ (0 : Int32).toInt ≤ 7 := ⟨by decide, by decide⟩
          have em := i_sub (x := y) (y := 1) (by simp only [Int32.reduceToInt]; have := hy.1; omega) (by simp only [Int32.reduceToInt]; have := hy.2; omega)
          simp only [Int32.reduceToInt] at em
          have ym : (y - 1).toInt ≤ 39 := by have q := hy.2; omega
          have p1 := hp.1
          have p2 := hp.2
          have y1 := hy.1
          have y2 := hy.2
          have e40 := r_mul (c := 40) (x := M.1 201 (2838 + 8 * l + 0).toNatClampNeg) ⟨by decide, by decide⟩ ⟨by omega, by omega⟩
          simp only [Int32.reduceToInt] at e40
          have ea := r_off (c := 34) (x := 40 * M.1 201 (2838 + 8 * l + 0).toNatClampNeg) ⟨by decide, by decide⟩ ⟨by omega, by omega⟩
          simp only [e40, Int32.reduceToInt] at ea
          have eb := r_off (c := 34 + 40 * M.1 201 (2838 + 8 * l + 0).toNatClampNeg) (x := y) ⟨by omega, by omega⟩ ⟨by omega, by omega⟩
          rw [ea] at eb
          have x1 : 0 ≤ (34 + 40 * M.1 201 (2838 + 8 * l + 0).toNatClampNeg + y).toInt := by omega
          have x2 : (34 + 40 * M.1 201 (2838 + 8 * l + 0).toNatClampNeg + y).toInt < (am_len 201 : Int) := by rw [l201]; omega
          repeat' (first | (with_reducible exact hmn) | (with_reducible exact hR) | (with_reducible exact n030) | (with_reducible exact n1) | (with_reducible exact hl) | (with_reducible exact hp) | (with_reducible exact hy) | (with_reducible exact w0) | (with_reducible exact ym) | (with_reducible exact x1) | (with_reducible exact x2) | apply And.intro | exact rfl | (intro hx; with_reducible exact absurd hx q0) | (intro hx; with_reducible exact absurd hx q1) | (intro hx; with_reducible exact absurd hx q2) | ((with_reducible change r_I _); (with_reducible assumption)) | (intro hx; exact absurd hx (by decide)) | (intro hx; exact absurd (by decide) hx) | decide | intro hx | (refine Exists.intro _ (And.intro rfl ?_)))
          all_goals try first | (with_reducible change am_tI _ _) | (change Ret _ _) | (change Ret _ _ _) | (change Exists _)
          all_goals try dsimp only at *
          all_goals try (with_reducible exact absurd ‹(1000 : Int64) = 0› am_z1000)
          all_goals first | (change r_I _; (repeat' (first | (with_reducible assumption) | ((with_reducible change r_I (am_wJ _ _ _ _)); refine r_I.wJ ?_) | ((with_reducible change r_I (am_wI _ _ _ _)); refine r_I.wI ?_ rfl)))) | ((with_reducible change Ret _ _); exact h _ _ (by (repeat' (first | (with_reducible exact r_sc.rf) | (with_reducible assumption) | ((with_reducible change r_sc _ (am_wI _ _ _ _)); refine r_sc.wI ?_ rfl) | ((with_reducible change r_sc _ (am_wJ _ _ _ _)); refine r_sc.wJ ?_ rfl) | (refine r_sc.tr ?_ (by with_reducible assumption))))) (by (repeat' (first | (with_reducible assumption) | ((with_reducible change r_I (am_wJ _ _ _ _)); refine r_I.wJ ?_) | ((with_reducible change r_I (am_wI _ _ _ _)); refine r_I.wI ?_ rfl))))) | skip
  · exact h.elim
def rwX8_lived : List dz_r := [(0, .aload_n 0, 1), (1, .iload_n 1, 1), (2, .iload_n 3, 1), (3, .iconst 1, 1), (4, .isub, 1), (5, .iload 4, 2), (7, .invokevirtual 239, 3), (10, .lconst 0, 1), (11, .lstore 7, 2), (13, .iload_n 3, 1), (14, .istore 9, 2), (16, .iload 9, 2), (18, .bipush 40, 2), (20, .if_icmp .ge 62, 3), (23, .aload_n 0, 1), (24, .iload_n 1, 1), (25, .iload 9, 2), (27, .aload_n 0, 1), (28, .getfield 7, 3), (31, .sipush 3573, 3), (34, .bipush 40, 2), (36, .iload_n 2, 1), (37, .imul, 1), (38, .iadd, 1), (39, .iload 9, 2), (41, .iadd, 1), (42, .iaload, 1), (43, .iconst 0, 1), (44, .iconst 0, 1), (45, .iload 9, 2), (47, .iload_n 3, 1), (48, .if_icmp .ne 8, 3), (51, .lload 5, 2), (53, .goto 4, 3), (56, .lconst 0, 1), (57, .invokevirtual 229, 3), (60, .lload 7, 2), (62, .aload_n 0, 1), (63, .iload_n 1, 1), (64, .iconst 1, 1), (65, .invokevirtual 243, 3), (68, .aload_n 0, 1), (69, .getfield 218, 3), (72, .ladd, 1), (73, .ladd, 1), (74, .lstore 7, 2), (76, .iinc 9 1, 3), (79, .goto (-63), 3), (82, .lload 7, 2), (84, .lreturn, 1)]
theorem dzX8_lived : dz cX8_lived rwX8_lived := dz_all 0 (by decide +kernel)
def kX8_lived (live : am_E) (Ret : am_R) : am_code := [(0, am_aload 0 1), (1, am_iload 1 2), (2, am_iload 3 3), (3, am_const (.int 1) 4), (4, am_i2 (fun x y => x - y) 5), (5, am_iload 4 7), (7, am_callV live 8 3 TX8_run 10), (10, am_const (.long 0) 11), (11, am_lstore 7 10 13), (13, am_iload 3 14), (14, am_istore 9 10 16), (16, am_iload 9 18), (18, am_const (.int 40) 20), (20, am_if2 (fun x y => y ≤ x) 82 23), (23, am_aload 0 24), (24, am_iload 1 25), (25, am_iload 9 27), (27, am_aload 0 28), (28, am_getR live 8 0 31), (31, am_const (.int 3573) 34), (34, am_const (.int 40) 36), (36, am_iload 2 37), (37, am_i2 (fun x y => x * y) 38), (38, am_i2 (fun x y => x + y) 39), (39, am_iload 9 41), (41, am_i2 (fun x y => x + y) 42), (42, am_ald live 0 43), (43, am_const (.int 0) 44), (44, am_const (.int 0) 45), (45, am_iload 9 47), (47, am_iload 3 48), (48, am_if2 (fun x y => x = y) 51 56), (51, am_lload 5 53), (53, am_goto 57), (56, am_const (.long 0) 57), (57, am_callV live 8 6 TX8_stepYear 60), (60, am_lload 7 62), (62, am_aload 0 63), (63, am_iload 1 64), (64, am_const (.int 1) 65), (65, am_callV live 8 2 TX8_allOf 68), (68, am_aload 0 69), (69, am_getJ live 8 22 72), (72, am_l2 (fun x y => x + y) 73), (73, am_l2 (fun x y => x + y) 74), (74, am_lstore 7 10 76), (76, am_iinc 9 10 1 79), (79, am_goto 16), (82, am_lload 7 84), (84, am_retL Ret)]
theorem koX8_lived (live : am_E) (Ret : am_R) : ∀ q ∈ kX8_lived live Ret, am_ok RX8 cX8_lived 10 (some .long) 10 253 live Ret q.1 q.2 :=
  am_kz dzX8_lived <|
  am_kd (fun d => ak_aload_n d rfl rfl) <|
  am_kd (fun d => ak_iload_n d rfl rfl) <|
  am_kd (fun d => ak_iload_n d rfl rfl) <|
  am_kd (fun d => ak_iconst d (by decide +kernel) rfl) <|
  am_kd (fun d => ak_isub d rfl) <|
  am_kd (fun d => ak_iload d rfl) <|
  am_kd (fun d => ak_callV (C := RX8) (F := TX8) (N := 27) metX8_run rfl ⟨rfl, hy_X8_run⟩ (am_w5 wd_1158 wd_1160 wd_42 wd_67 wd_1161) (by decide) d rfl) <|
  am_kd (fun d => ak_lconst d (by decide +kernel) rfl) <|
  am_kd (fun d => ak_lstore d rfl) <|
  am_kd (fun d => ak_iload_n d rfl rfl) <|
  am_kd (fun d => ak_istore d rfl) <|
  am_kd (fun d => ak_iload d rfl) <|
  am_kd (fun d => ak_bipush d (by decide +kernel) rfl) <|
  am_kd (fun d => ak_icmp_ge d (by decide +kernel) rfl) <|
  am_kd (fun d => ak_aload_n d rfl rfl) <|
  am_kd (fun d => ak_iload_n d rfl rfl) <|
  am_kd (fun d => ak_iload d rfl) <|
  am_kd (fun d => ak_aload_n d rfl rfl) <|
  am_kd (fun d => ak_getR (C := RX8) (T := TX8) (N := 27) rfl inX8w (by decide) rfl rfl rfl wd_895 d rfl) <|
  am_kd (fun d => ak_sipush d (by decide +kernel) rfl) <|
  am_kd (fun d => ak_bipush d (by decide +kernel) rfl) <|
  am_kd (fun d => ak_iload_n d rfl rfl) <|
  am_kd (fun d => ak_imul d rfl) <|
  am_kd (fun d => ak_iadd d rfl) <|
  am_kd (fun d => ak_iload d rfl) <|
  am_kd (fun d => ak_iadd d rfl) <|
  am_kd (fun d => ak_iald (t := 0) (fun _ => rfl) rfl d rfl) <|
  am_kd (fun d => ak_iconst d (by decide +kernel) rfl) <|
  am_kd (fun d => ak_iconst d (by decide +kernel) rfl) <|
  am_kd (fun d => ak_iload d rfl) <|
  am_kd (fun d => ak_iload_n d rfl rfl) <|
  am_kd (fun d => ak_icmp_ne d (by decide +kernel) rfl) <|
  am_kd (fun d => ak_lload d rfl) <|
  am_kd (fun d => ak_goto d (by decide +kernel)) <|
  am_kd (fun d => ak_lconst d (by decide +kernel) rfl) <|
  am_kd (fun d => ak_callV (C := RX8) (F := TX8) (N := 27) metX8_stepYear rfl ⟨rfl, hy_X8_stepYear⟩ (am_w5 wd_1166 wd_1168 wd_44 wd_67 wd_1169) (by decide) d rfl) <|
  am_kd (fun d => ak_lload d rfl) <|
  am_kd (fun d => ak_aload_n d rfl rfl) <|
  am_kd (fun d => ak_iload_n d rfl rfl) <|
  am_kd (fun d => ak_iconst d (by decide +kernel) rfl) <|
  am_kd (fun d => ak_callV (C := RX8) (F := TX8) (N := 27) metX8_allOf rfl ⟨rfl, hy_X8_allOf⟩ (am_w5 wd_1195 wd_1197 wd_50 wd_67 wd_1198) (by decide) d rfl) <|
  am_kd (fun d => ak_aload_n d rfl rfl) <|
  am_kd (fun d => ak_getJ (C := RX8) (T := TX8) (N := 27) rfl inX8w (by decide) rfl rfl rfl wd_917 d rfl) <|
  am_kd (fun d => ak_ladd d rfl) <|
  am_kd (fun d => ak_ladd d rfl) <|
  am_kd (fun d => ak_lstore d rfl) <|
  am_kd (fun d => ak_iinc d (by decide +kernel) rfl) <|
  am_kd (fun d => ak_goto d (by decide +kernel)) <|
  am_kd (fun d => ak_lload d rfl) <|
  am_kd (fun d => ak_retL d) <| am_kdn
def TX8_lived : am_T := fun live as M R => match as with
  | [.ref n, .int p, .int l, .int y, .int k, .long q] => am_mn live ∧ n = 200 ∧ am_in p 12 ∧ am_in l 4 ∧ am_in y 40 ∧ r_I M ∧ ∀ v M', r_sc M M' → r_I M' → R (some (.long v)) M'
  | _ => False
def JX8_lived : am_E → List Value → am_M → am_R → am_inv := fun live as M0 _ pc => match as with
  | [.ref n, .int p, .int l, .int y, .int k, .long q] => (match pc with
    | 16 => some ([0, 1, 2, 3, 5, 7, 9], fun k L st M => ∃ (v : Int64) (i : Int32), L = [(0, .ref 200), (1, .int p), (2, .int l), (3, .int y), (5, .long q), (7, .long v), (9, .int i)] ∧ st = [] ∧ k = ((41 - i.toInt).toNat, 0) ∧ 0 ≤ i.toInt ∧ r_sc M0 M ∧ r_I M)
    | _ => none)
  | _ => none
set_option maxRecDepth 100000 in
set_option maxHeartbeats 4000000 in
theorem metX8_lived : am_Met yX8_lived cX8_lived 10 (some .long) (10) (253) TX8_lived := by
  refine am_met (own := RX8) (by decide +kernel) rfl kX8_lived koX8_lived 100 JX8_lived ?_ ?_
  · intro live as M Ret h
    unfold TX8_lived at h
    split at h
    · next n p l y k q =>
      refine ⟨Nat.le_of_ble_eq_true rfl, ?_⟩
      change am_wp _ _ _ _ [(0, Value.ref n), (1, Value.int p), (2, Value.int l), (3, Value.int y), (4, Value.int k), (5, Value.long q)] _ _
      obtain ⟨hmn, rfl, hp, hl, hy, hR, h⟩ := h
      have hmn2 := hmn
      obtain ⟨i1, i2, rfl⟩ := hmn2
      have em := i_sub (x := y) (y := 1) (by simp only [Int32.reduceToInt]; have := hy.1; omega) (by simp only [Int32.reduceToInt]; have := hy.2; omega)
      simp only [Int32.reduceToInt] at em
      have ym : (y - 1).toInt ≤ 39 := by have q := hy.2; omega
      repeat' (first | (with_reducible exact hmn) | (with_reducible exact hp) | (with_reducible exact ym) | (with_reducible exact hR) | apply And.intro | exact rfl | ((with_reducible change r_I _); (with_reducible assumption)) | intro hx | (refine Exists.intro _ (And.intro rfl ?_)))
      all_goals try first | (with_reducible change am_tI _ _) | (change Ret _ _) | (change Ret _ _ _) | (change Exists _)
      all_goals try dsimp only at *
      all_goals try (with_reducible exact absurd ‹(1000 : Int64) = 0› am_z1000)
      exact ⟨_, _, _, rfl, rfl, rfl, hy.1, by (repeat' (first | (with_reducible exact r_sc.rf) | (with_reducible assumption) | ((with_reducible change r_sc _ (am_wI _ _ _ _)); refine r_sc.wI ?_ rfl) | ((with_reducible change r_sc _ (am_wJ _ _ _ _)); refine r_sc.wJ ?_ rfl) | (refine r_sc.tr ?_ (by with_reducible assumption)))), by (repeat' (first | (with_reducible assumption) | ((with_reducible change r_I (am_wJ _ _ _ _)); refine r_I.wJ ?_) | ((with_reducible change r_I (am_wI _ _ _ _)); refine r_I.wI ?_ rfl)))⟩
    · exact h.elim
  · intro live as M0 Ret h k pc I hI L st M hi
    unfold TX8_lived at h
    split at h
    · next n p l y k q =>
      obtain ⟨hmn, rfl, hp, hl, hy, hR, h⟩ := h
      have hmn2 := hmn
      obtain ⟨i1, i2, rfl⟩ := hmn2
      have l201 : am_len 201 = 3760 := rfl
      have l1 := hl.1
      have l2 := hl.2
      have a0 : am_in (0 : Int32) 4 := ⟨by decide, by decide⟩
      change (match pc with | 16 => _ | _ => none) = _ at hI
      split at hI
      · cases hI
        obtain ⟨v, i, rfl, rfl, rfl, e1, e2, e3⟩ := hi
        by_cases hz : (40 : Int32) ≤ i
        · skip
          repeat' (first | apply And.intro | exact rfl | (intro hx; with_reducible exact absurd hz hx) | intro hx | (refine Exists.intro _ (And.intro rfl ?_)))
          all_goals try first | (with_reducible change am_tI _ _) | (change Ret _ _) | (change Ret _ _ _) | (change Exists _)
          all_goals try dsimp only at *
          all_goals try (with_reducible exact absurd ‹(1000 : Int64) = 0› am_z1000)
          exact h _ _ e2 e3
        · have hz2 := hz
          simp only [i_le, Int32.reduceToInt] at hz2
          have hi := i_inc (x := i) (by omega) (by omega)
          have hyi : am_in i 40 := ⟨e1, by omega⟩
          have e40 := r_mul (c := 40) (x := l) ⟨by decide, by decide⟩ ⟨by omega, by omega⟩
          simp only [Int32.reduceToInt] at e40
          have ea := r_off (c := 3573) (x := 40 * l) ⟨by decide, by decide⟩ ⟨by omega, by omega⟩
          simp only [e40, Int32.reduceToInt] at ea
          have eb := r_off (c := 3573 + 40 * l) (x := i) ⟨by omega, by omega⟩ ⟨by omega, by omega⟩
          rw [ea] at eb
          have x1 : 0 ≤ (3573 + 40 * l + i).toInt := by omega
          have x2 : (3573 + 40 * l + i).toInt < (am_len 201 : Int) := by rw [l201]; omega
          repeat' (first | (with_reducible exact x1) | (with_reducible exact x2) | (with_reducible exact hmn) | (with_reducible exact hp) | (with_reducible exact hyi) | (with_reducible exact a0) | (with_reducible exact e3) | apply And.intro | exact rfl | (intro hx; with_reducible exact absurd hx hz) | ((with_reducible change r_I _); (with_reducible assumption)) | (intro hx; exact absurd hx (by decide)) | (intro hx; exact absurd (by decide) hx) | decide | intro hx | (refine Exists.intro _ (And.intro rfl ?_)))
          all_goals try first | (with_reducible change am_tI _ _) | (change Ret _ _) | (change Ret _ _ _) | (change Exists _)
          all_goals try dsimp only at *
          all_goals try (with_reducible exact absurd ‹(1000 : Int64) = 0› am_z1000)
          all_goals first
            | exact ⟨_, am_lt_l (by omega), _, _, rfl, rfl, rfl, by omega, by (repeat' (first | (with_reducible exact r_sc.rf) | (with_reducible assumption) | ((with_reducible change r_sc _ (am_wI _ _ _ _)); refine r_sc.wI ?_ rfl) | ((with_reducible change r_sc _ (am_wJ _ _ _ _)); refine r_sc.wJ ?_ rfl) | (refine r_sc.tr ?_ (by with_reducible assumption)))), by (repeat' (first | (with_reducible assumption) | ((with_reducible change r_I (am_wJ _ _ _ _)); refine r_I.wJ ?_) | ((with_reducible change r_I (am_wI _ _ _ _)); refine r_I.wI ?_ rfl)))⟩
            | skip
      · cases hI
    · exact h.elim
theorem hy_X8_lived : yX8_lived.cls ≠ "java/lang/invoke/MethodHandle" ∧ yX8_lived.cls ≠ "java/lang/invoke/VarHandle" ∧ (parseMethodDescriptor yX8_lived.desc).map (fun d => d.parameters.length) = some 5 := ⟨by decide +kernel, by decide +kernel, by decide +kernel⟩
set_option maxRecDepth 100000 in
theorem wd_1232 : Cond.methodLink "LearnLoansModel" 253 yX8_lived ∈ am_ws := am_wt5 (List.mem_of_getElem? (i := 215) (by rfl)) (by decide +kernel)
set_option maxRecDepth 100000 in
theorem wd_1234 : Cond.instanceMethod yX8_lived ∈ am_ws := am_wt5 (List.mem_of_getElem? (i := 217) (by rfl)) (by decide +kernel)
set_option maxRecDepth 100000 in
theorem wd_51 : Cond.selects "LearnLoansModel" yX8_lived yX8_lived ∈ am_ws := am_wsi (List.mem_of_getElem? (i := 51) (by rfl)) (by decide +kernel)
set_option maxRecDepth 100000 in
theorem wd_1235 : Cond.code yX8_lived cX8_lived 10 (some .long) ∈ am_ws := am_wt5 (List.mem_of_getElem? (i := 218) (by rfl)) (by decide +kernel)
def rwX8_early : List dz_r := [(0, .aload_n 0, 1), (1, .iload_n 1, 1), (2, .invokevirtual 76, 3), (5, .ifCond .eq 30, 3), (8, .iload_n 2, 1), (9, .i2l, 1), (10, .lconst 1, 1), (11, .ldc2_w 248, 3), (14, .invokestatic 66, 3), (17, .ifCond .eq 18, 3), (20, .iload_n 3, 1), (21, .invokestatic 72, 3), (24, .ifCond .eq 11, 3), (27, .iload 4, 2), (29, .invokestatic 72, 3), (32, .ifCond .ne 6, 3), (35, .bipush (-2), 2), (37, .ireturn, 1), (38, .iconst 0, 1), (39, .istore 5, 2), (41, .iconst 0, 1), (42, .istore 6, 2), (44, .iload 6, 2), (46, .iconst 4, 1), (47, .if_icmp .ge 49, 3), (50, .iload 5, 2), (52, .aload_n 0, 1), (53, .iload_n 1, 1), (54, .iload 6, 2), (56, .iload_n 3, 1), (57, .iload 4, 2), (59, .iload_n 2, 1), (60, .i2l, 1), (61, .invokevirtual 253, 3), (64, .aload_n 0, 1), (65, .iload_n 1, 1), (66, .iload 6, 2), (68, .iload_n 3, 1), (69, .iload 4, 2), (71, .lconst 0, 1), (72, .invokevirtual 253, 3), (75, .lcmp, 1), (76, .ifCond .ge 10, 3), (79, .iconst 1, 1), (80, .iload 6, 2), (82, .ishl, 1), (83, .goto 4, 3), (86, .iconst 0, 1), (87, .ior, 1), (88, .istore 5, 2), (90, .iinc 6 1, 3), (93, .goto (-49), 3), (96, .iload 5, 2), (98, .ireturn, 1)]
theorem dzX8_early : dz cX8_early rwX8_early := dz_all 0 (by decide +kernel)
def kX8_early (live : am_E) (Ret : am_R) : am_code := [(0, am_aload 0 1), (1, am_iload 1 2), (2, am_callV live 8 1 TX8_isPerson 5), (5, am_if1 (fun x => x = 0) 35 8), (8, am_iload 2 9), (9, am_i2l 10), (10, am_const (.long 1) 11), (11, am_const (.long 1000000000) 14), (14, am_callS live 3 TX8_in 17), (17, am_if1 (fun x => x = 0) 35 20), (20, am_iload 3 21), (21, am_callS live 1 TX8_isYear 24), (24, am_if1 (fun x => x = 0) 35 27), (27, am_iload 4 29), (29, am_callS live 1 TX8_isYear 32), (32, am_if1 (fun x => x = 0) 35 38), (35, am_const (.int (-2)) 37), (37, am_retI Ret), (38, am_const (.int 0) 39), (39, am_istore 5 7 41), (41, am_const (.int 0) 42), (42, am_istore 6 7 44), (44, am_iload 6 46), (46, am_const (.int 4) 47), (47, am_if2 (fun x y => y ≤ x) 96 50), (50, am_iload 5 52), (52, am_aload 0 53), (53, am_iload 1 54), (54, am_iload 6 56), (56, am_iload 3 57), (57, am_iload 4 59), (59, am_iload 2 60), (60, am_i2l 61), (61, am_callV live 8 5 TX8_lived 64), (64, am_aload 0 65), (65, am_iload 1 66), (66, am_iload 6 68), (68, am_iload 3 69), (69, am_iload 4 71), (71, am_const (.long 0) 72), (72, am_callV live 8 5 TX8_lived 75), (75, am_lcmp 76), (76, am_if1 (fun x => 0 ≤ x) 86 79), (79, am_const (.int 1) 80), (80, am_iload 6 82), (82, am_i2 (fun x y => x <<< (y &&& 31)) 83), (83, am_goto 87), (86, am_const (.int 0) 87), (87, am_i2 (fun x y => x ||| y) 88), (88, am_istore 5 7 90), (90, am_iinc 6 7 1 93), (93, am_goto 44), (96, am_iload 5 98), (98, am_retI Ret)]
theorem koX8_early (live : am_E) (Ret : am_R) : ∀ q ∈ kX8_early live Ret, am_ok RX8 cX8_early 7 (some .int) 11 282 live Ret q.1 q.2 :=
  am_kz dzX8_early <|
  am_kd (fun d => ak_aload_n d rfl rfl) <|
  am_kd (fun d => ak_iload_n d rfl rfl) <|
  am_kd (fun d => ak_callV (C := RX8) (F := TX8) (N := 27) metX8_isPerson rfl ⟨rfl, hy_X8_isPerson⟩ (am_w5 wd_993 wd_995 wd_27 wd_67 wd_996) (by decide) d rfl) <|
  am_kd (fun d => ak_if_eq d (by decide +kernel) rfl) <|
  am_kd (fun d => ak_iload_n d rfl rfl) <|
  am_kd (fun d => ak_i2l d rfl) <|
  am_kd (fun d => ak_lconst d (by decide +kernel) rfl) <|
  am_kd (fun d => ak_ldc2 wd_1216 d rfl) <|
  am_kd (fun d => ak_callS metX8_in ⟨rfl, hy_X8_in⟩ (am_w4 wd_986 wd_987 wd_67 wd_988) (by decide) d rfl) <|
  am_kd (fun d => ak_if_eq d (by decide +kernel) rfl) <|
  am_kd (fun d => ak_iload_n d rfl rfl) <|
  am_kd (fun d => ak_callS metX8_isYear ⟨rfl, hy_X8_isYear⟩ (am_w4 wd_982 wd_983 wd_67 wd_984) (by decide) d rfl) <|
  am_kd (fun d => ak_if_eq d (by decide +kernel) rfl) <|
  am_kd (fun d => ak_iload d rfl) <|
  am_kd (fun d => ak_callS metX8_isYear ⟨rfl, hy_X8_isYear⟩ (am_w4 wd_982 wd_983 wd_67 wd_984) (by decide) d rfl) <|
  am_kd (fun d => ak_if_ne d (by decide +kernel) rfl) <|
  am_kd (fun d => ak_bipush d (by decide +kernel) rfl) <|
  am_kd (fun d => ak_retI d) <|
  am_kd (fun d => ak_iconst d (by decide +kernel) rfl) <|
  am_kd (fun d => ak_istore d rfl) <|
  am_kd (fun d => ak_iconst d (by decide +kernel) rfl) <|
  am_kd (fun d => ak_istore d rfl) <|
  am_kd (fun d => ak_iload d rfl) <|
  am_kd (fun d => ak_iconst d (by decide +kernel) rfl) <|
  am_kd (fun d => ak_icmp_ge d (by decide +kernel) rfl) <|
  am_kd (fun d => ak_iload d rfl) <|
  am_kd (fun d => ak_aload_n d rfl rfl) <|
  am_kd (fun d => ak_iload_n d rfl rfl) <|
  am_kd (fun d => ak_iload d rfl) <|
  am_kd (fun d => ak_iload_n d rfl rfl) <|
  am_kd (fun d => ak_iload d rfl) <|
  am_kd (fun d => ak_iload_n d rfl rfl) <|
  am_kd (fun d => ak_i2l d rfl) <|
  am_kd (fun d => ak_callV (C := RX8) (F := TX8) (N := 27) metX8_lived rfl ⟨rfl, hy_X8_lived⟩ (am_w5 wd_1232 wd_1234 wd_51 wd_67 wd_1235) (by decide) d rfl) <|
  am_kd (fun d => ak_aload_n d rfl rfl) <|
  am_kd (fun d => ak_iload_n d rfl rfl) <|
  am_kd (fun d => ak_iload d rfl) <|
  am_kd (fun d => ak_iload_n d rfl rfl) <|
  am_kd (fun d => ak_iload d rfl) <|
  am_kd (fun d => ak_lconst d (by decide +kernel) rfl) <|
  am_kd (fun d => ak_callV (C := RX8) (F := TX8) (N := 27) metX8_lived rfl ⟨rfl, hy_X8_lived⟩ (am_w5 wd_1232 wd_1234 wd_51 wd_67 wd_1235) (by decide) d rfl) <|
  am_kd (fun d => ak_lcmp d rfl) <|
  am_kd (fun d => ak_if_ge d (by decide +kernel) rfl) <|
  am_kd (fun d => ak_iconst d (by decide +kernel) rfl) <|
  am_kd (fun d => ak_iload d rfl) <|
  am_kd (fun d => ak_ishl d rfl) <|
  am_kd (fun d => ak_goto d (by decide +kernel)) <|
  am_kd (fun d => ak_iconst d (by decide +kernel) rfl) <|
  am_kd (fun d => ak_ior d rfl) <|
  am_kd (fun d => ak_istore d rfl) <|
  am_kd (fun d => ak_iinc d (by decide +kernel) rfl) <|
  am_kd (fun d => ak_goto d (by decide +kernel)) <|
  am_kd (fun d => ak_iload d rfl) <|
  am_kd (fun d => ak_retI d) <| am_kdn
def TX8_early : am_T := fun live as M R => match as with
  | [.ref n, .int p, .int s, .int y, .int k] => am_mn live ∧ n = 200 ∧ r_I M ∧ ∀ v M', r_sc M M' → r_I M' → R (some (.int v)) M'
  | _ => False
def JX8_early : am_E → List Value → am_M → am_R → am_inv := fun live as M0 _ pc => match as with
  | [.ref n, .int p, .int s, .int y, .int k] => (match pc with
    | 44 => some ([0, 1, 2, 3, 4, 5, 6], fun u L st M => ∃ o i : Int32, L = [(0, .ref 200), (1, .int p), (2, .int s), (3, .int y), (4, .int k), (5, .int o), (6, .int i)] ∧ st = [] ∧ u = ((5 - i.toInt).toNat, 0) ∧ 0 ≤ i.toInt ∧ (am_in p 12 ∧ am_in y 40) ∧ r_sc M0 M ∧ r_I M)
    | _ => none)
  | _ => none
set_option maxRecDepth 100000 in
set_option maxHeartbeats 4000000 in
theorem metX8_early : am_Met yX8_early cX8_early 7 (some .int) (11) (282) TX8_early := by
  refine am_met (own := RX8) (by decide +kernel) rfl kX8_early koX8_early 150 JX8_early ?_ ?_
  · intro live as M Ret h
    unfold TX8_early at h
    split at h
    · next n p s y k =>
      refine ⟨Nat.le_of_ble_eq_true rfl, ?_⟩
      change am_wp _ _ _ _ [(0, Value.ref n), (1, Value.int p), (2, Value.int s), (3, Value.int y), (4, Value.int k)] _ _
      obtain ⟨hmn, rfl, hR, h⟩ := h
      have hmn2 := hmn
      obtain ⟨i1, i2, rfl⟩ := hmn2
      have l201 : am_len 201 = 3760 := rfl
      have n0 := hR.n0
      have n1 := hR.n1
      have n030 : 0 ≤ (M.1 201 0).toInt ∧ (M.1 201 0).toInt ≤ 30 := ⟨n0.1, by omega⟩
      by_cases z0 : 0 ≤ p ∧ p < M.1 201 0
      rotate_left
      · skip
        have q0 : (if 0 ≤ p ∧ p < M.1 201 0 then (1 : Int32) else 0) = 0 := if_neg z0
        repeat' (first | (with_reducible exact hmn) | (with_reducible exact n030) | (with_reducible exact n1) | apply And.intro | exact rfl | (intro hx; with_reducible exact absurd q0 hx) | (intro hx; exact absurd hx (by decide)) | (intro hx; exact absurd (by decide) hx) | decide | intro hx | (refine Exists.intro _ (And.intro rfl ?_)))
        all_goals try first | (with_reducible change am_tI _ _) | (change Ret _ _) | (change Ret _ _ _) | (change Exists _)
        all_goals try dsimp only at *
        all_goals try (with_reducible exact absurd ‹(1000 : Int64) = 0› am_z1000)
        all_goals exact h _ _ r_sc.rf hR
      · skip
        have q0 : ¬ ((if 0 ≤ p ∧ p < M.1 201 0 then (1 : Int32) else 0) = 0) := by rw [if_pos z0]; decide
        by_cases z1 : 1 ≤ s ∧ s ≤ 1000000000
        rotate_left
        · skip
          have q1 : (if (1 : Int64) ≤ s.toInt64 ∧ s.toInt64 ≤ (1000000000 : Int64) then (1 : Int32) else 0) = 0 := if_neg (fun r => z1 (by simp only [i_le, i_lt, j_le, Int32.toInt_toInt64, Int32.reduceToInt, Int64.reduceToInt] at r ⊢; omega))
          repeat' (first | (with_reducible exact hmn) | (with_reducible exact n030) | (with_reducible exact n1) | apply And.intro | exact rfl | (intro hx; with_reducible exact absurd hx q0) | (intro hx; with_reducible exact absurd q1 hx) | (intro hx; exact absurd hx (by decide)) | (intro hx; exact absurd (by decide) hx) | decide | intro hx | (refine Exists.intro _ (And.intro rfl ?_)))
          all_goals try first | (with_reducible change am_tI _ _) | (change Ret _ _) | (change Ret _ _ _) | (change Exists _)
          all_goals try dsimp only at *
          all_goals try (with_reducible exact absurd ‹(1000 : Int64) = 0› am_z1000)
          all_goals exact h _ _ r_sc.rf hR
        · skip
          have q1 : ¬ ((if (1 : Int64) ≤ s.toInt64 ∧ s.toInt64 ≤ (1000000000 : Int64) then (1 : Int32) else 0) = 0) := by rw [if_pos (by have q := z1; simp only [i_le, i_lt, j_le, Int32.toInt_toInt64, Int32.reduceToInt, Int64.reduceToInt] at q ⊢; omega)]; decide
          by_cases z2 : 0 ≤ y ∧ y < 40
          rotate_left
          · skip
            have q2 : (if 0 ≤ y ∧ y < 40 then (1 : Int32) else 0) = 0 := if_neg z2
            repeat' (first | (with_reducible exact hmn) | (with_reducible exact n030) | (with_reducible exact n1) | apply And.intro | exact rfl | (intro hx; with_reducible exact absurd hx q0) | (intro hx; with_reducible exact absurd hx q1) | (intro hx; with_reducible exact absurd q2 hx) | (intro hx; exact absurd hx (by decide)) | (intro hx; exact absurd (by decide) hx) | decide | intro hx | (refine Exists.intro _ (And.intro rfl ?_)))
            all_goals try first | (with_reducible change am_tI _ _) | (change Ret _ _) | (change Ret _ _ _) | (change Exists _)
            all_goals try dsimp only at *
            all_goals try (with_reducible exact absurd ‹(1000 : Int64) = 0› am_z1000)
            all_goals exact h _ _ r_sc.rf hR
          · skip
            have q2 : ¬ ((if 0 ≤ y ∧ y < 40 then (1 : Int32) else 0) = 0) := by rw [if_pos z2]; decide
            by_cases z3 : 0 ≤ k ∧ k < 40
            rotate_left
            · skip
              have q3 : (if 0 ≤ k ∧ k < 40 then (1 : Int32) else 0) = 0 := if_neg z3
              repeat' (first | (with_reducible exact hmn) | (with_reducible exact n030) | (with_reducible exact n1) | apply And.intro | exact rfl | (intro hx; with_reducible exact absurd hx q0) | (intro hx; with_reducible exact absurd hx q1) | (intro hx; with_reducible exact absurd hx q2) | (intro hx; with_reducible exact absurd q3 hx) | (intro hx; exact absurd hx (by decide)) | (intro hx; exact absurd (by decide) hx) | decide | intro hx | (refine Exists.intro _ (And.intro rfl ?_)))
              all_goals try first | (with_reducible change am_tI _ _) | (change Ret _ _) | (change Ret _ _ _) | (change Exists _)
              all_goals try dsimp only at *
              all_goals try (with_reducible exact absurd ‹(1000 : Int64) = 0› am_z1000)
              all_goals exact h _ _ r_sc.rf hR
            · skip
              have q3 : ¬ ((if 0 ≤ k ∧ k < 40 then (1 : Int32) else 0) = 0) := by rw [if_pos z3]; decide
              have hp : am_in p 12 := ⟨by have q := z0.1; simp only [i_le, Int32.reduceToInt] at q; omega, by have q := z0.2; simp only [i_lt] at q; omega⟩
              have hy : am_in y 40 := ⟨by have q := z2.1; simp only [i_le, Int32.reduceToInt] at q; omega, by have q := z2.2; simp only [i_lt, Int32.reduceToInt] at q; omega⟩
              repeat' (first | (with_reducible exact hmn) | (with_reducible exact hR) | (with_reducible exact n030) | (with_reducible exact n1) | apply And.intro | exact rfl | (intro hx; with_reducible exact absurd hx q0) | (intro hx; with_reducible exact absurd hx q1) | (intro hx; with_reducible exact absurd hx q2) | (intro hx; with_reducible exact absurd hx q3) | ((with_reducible change r_I _); (with_reducible assumption)) | (intro hx; exact absurd hx (by decide)) | (intro hx; exact absurd (by decide) hx) | decide | intro hx | (refine Exists.intro _ (And.intro rfl ?_)))
              all_goals try first | (with_reducible change am_tI _ _) | (change Ret _ _) | (change Ret _ _ _) | (change Exists _)
              all_goals try dsimp only at *
              all_goals try (with_reducible exact absurd ‹(1000 : Int64) = 0› am_z1000)
              all_goals first | exact ⟨_, _, _, rfl, rfl, rfl, by decide, ⟨hp, hy⟩, r_sc.rf, hR⟩ | (change r_I _; (repeat' (first | (with_reducible assumption) | ((with_reducible change r_I (am_wJ _ _ _ _)); refine r_I.wJ ?_) | ((with_reducible change r_I (am_wI _ _ _ _)); refine r_I.wI ?_ rfl)))) | ((with_reducible change Ret _ _); exact h _ _ (by (repeat' (first | (with_reducible exact r_sc.rf) | (with_reducible assumption) | ((with_reducible change r_sc _ (am_wI _ _ _ _)); refine r_sc.wI ?_ rfl) | ((with_reducible change r_sc _ (am_wJ _ _ _ _)); refine r_sc.wJ ?_ rfl) | (refine r_sc.tr ?_ (by with_reducible assumption))))) (by (repeat' (first | (with_reducible assumption) | ((with_reducible change r_I (am_wJ _ _ _ _)); refine r_I.wJ ?_) | ((with_reducible change r_I (am_wI _ _ _ _)); refine r_I.wI ?_ rfl))))) | skip
    · exact h.elim
  · intro live as M0 Ret h k pc I hI L st M hi
    unfold TX8_early at h
    split at h
    · next n p s y k =>
      obtain ⟨hmn, rfl, hR, h⟩ := h
      have hmn2 := hmn
      obtain ⟨i1, i2, rfl⟩ := hmn2
      change (match pc with | 44 => _ | _ => none) = _ at hI
      split at hI
      · cases hI
        obtain ⟨o, i, rfl, rfl, rfl, e1, ⟨hp, hy⟩, e2, e3⟩ := hi
        by_cases hz : (4 : Int32) ≤ i
        · skip
          repeat' (first | apply And.intro | exact rfl | (intro hx; with_reducible exact absurd hz hx) | intro hx | (refine Exists.intro _ (And.intro rfl ?_)))
          all_goals try first | (with_reducible change am_tI _ _) | (change Ret _ _) | (change Ret _ _ _) | (change Exists _)
          all_goals try dsimp only at *
          all_goals try (with_reducible exact absurd ‹(1000 : Int64) = 0› am_z1000)
          exact h _ _ e2 e3
        · have hz2 := hz
          simp only [i_le, Int32.reduceToInt] at hz2
          have hi := i_inc (x := i) (by omega) (by omega)
          have hl : am_in i 4 := ⟨e1, by omega⟩
          repeat' (first | (with_reducible exact hmn) | (with_reducible exact hp) | (with_reducible exact hl) | (with_reducible exact hy) | (with_reducible exact e3) | apply And.intro | exact rfl | (intro hx; with_reducible exact absurd hx hz) | ((with_reducible change r_I _); (with_reducible assumption)) | intro hx | (refine Exists.intro _ (And.intro rfl ?_)))
          all_goals try first | (with_reducible change am_tI _ _) | (change Ret _ _) | (change Ret _ _ _) | (change Exists _)
          all_goals try dsimp only at *
          all_goals try (with_reducible exact absurd ‹(1000 : Int64) = 0› am_z1000)
          all_goals exact ⟨_, am_lt_l (by omega), _, _, rfl, rfl, rfl, by omega, ⟨hp, hy⟩, by (repeat' (first | (with_reducible exact r_sc.rf) | (with_reducible assumption) | ((with_reducible change r_sc _ (am_wI _ _ _ _)); refine r_sc.wI ?_ rfl) | ((with_reducible change r_sc _ (am_wJ _ _ _ _)); refine r_sc.wJ ?_ rfl) | (refine r_sc.tr ?_ (by with_reducible assumption)))), by (repeat' (first | (with_reducible assumption) | ((with_reducible change r_I (am_wJ _ _ _ _)); refine r_I.wJ ?_) | ((with_reducible change r_I (am_wI _ _ _ _)); refine r_I.wI ?_ rfl)))⟩
      · cases hI
    · exact h.elim
def rwX8_choice : List dz_r := [(0, .aload_n 0, 1), (1, .iload_n 1, 1), (2, .invokevirtual 76, 3), (5, .ifCond .eq 38, 3), (8, .iload_n 2, 1), (9, .iconst (-1), 1), (10, .if_icmp .eq 10, 3), (13, .iload_n 2, 1), (14, .invokestatic 104, 3), (17, .ifCond .eq 26, 3), (20, .iload_n 3, 1), (21, .invokestatic 250, 3), (24, .ifCond .eq 19, 3), (27, .iload 4, 2), (29, .invokestatic 72, 3), (32, .ifCond .eq 11, 3), (35, .iload 5, 2), (37, .invokestatic 72, 3), (40, .ifCond .ne 7, 3), (43, .ldc2_w 237, 3), (46, .lreturn, 1), (47, .aload_n 0, 1), (48, .iload_n 2, 1), (49, .putfield 61, 3), (52, .aload_n 0, 1), (53, .iload 4, 2), (55, .putfield 138, 3), (58, .aload_n 0, 1), (59, .iload_n 1, 1), (60, .iload_n 3, 1), (61, .iload 4, 2), (63, .iload 5, 2), (65, .lconst 0, 1), (66, .invokevirtual 253, 3), (69, .lstore 6, 2), (71, .aload_n 0, 1), (72, .iconst (-1), 1), (73, .putfield 61, 3), (76, .lload 6, 2), (78, .lreturn, 1)]
theorem dzX8_choice : dz cX8_choice rwX8_choice := dz_all 0 (by decide +kernel)
def kX8_choice (live : am_E) (Ret : am_R) : am_code := [(0, am_aload 0 1), (1, am_iload 1 2), (2, am_callV live 8 1 TX8_isPerson 5), (5, am_if1 (fun x => x = 0) 43 8), (8, am_iload 2 9), (9, am_const (.int (-1)) 10), (10, am_if2 (fun x y => x = y) 20 13), (13, am_iload 2 14), (14, am_callS live 1 TX8_isPlan 17), (17, am_if1 (fun x => x = 0) 43 20), (20, am_iload 3 21), (21, am_callS live 1 TX8_isLife 24), (24, am_if1 (fun x => x = 0) 43 27), (27, am_iload 4 29), (29, am_callS live 1 TX8_isYear 32), (32, am_if1 (fun x => x = 0) 43 35), (35, am_iload 5 37), (37, am_callS live 1 TX8_isYear 40), (40, am_if1 (fun x => x = 0) 43 47), (43, am_const (.long (-2)) 46), (46, am_retL Ret), (47, am_aload 0 48), (48, am_iload 2 49), (49, am_putI live 8 7 52), (52, am_aload 0 53), (53, am_iload 4 55), (55, am_putI live 8 8 58), (58, am_aload 0 59), (59, am_iload 1 60), (60, am_iload 3 61), (61, am_iload 4 63), (63, am_iload 5 65), (65, am_const (.long 0) 66), (66, am_callV live 8 5 TX8_lived 69), (69, am_lstore 6 8 71), (71, am_aload 0 72), (72, am_const (.int (-1)) 73), (73, am_putI live 8 7 76), (76, am_lload 6 78), (78, am_retL Ret)]
theorem koX8_choice (live : am_E) (Ret : am_R) : ∀ q ∈ kX8_choice live Ret, am_ok RX8 cX8_choice 8 (some .long) 11 282 live Ret q.1 q.2 :=
  am_kz dzX8_choice <|
  am_kd (fun d => ak_aload_n d rfl rfl) <|
  am_kd (fun d => ak_iload_n d rfl rfl) <|
  am_kd (fun d => ak_callV (C := RX8) (F := TX8) (N := 27) metX8_isPerson rfl ⟨rfl, hy_X8_isPerson⟩ (am_w5 wd_993 wd_995 wd_27 wd_67 wd_996) (by decide) d rfl) <|
  am_kd (fun d => ak_if_eq d (by decide +kernel) rfl) <|
  am_kd (fun d => ak_iload_n d rfl rfl) <|
  am_kd (fun d => ak_iconst d (by decide +kernel) rfl) <|
  am_kd (fun d => ak_icmp_eq d (by decide +kernel) rfl) <|
  am_kd (fun d => ak_iload_n d rfl rfl) <|
  am_kd (fun d => ak_callS metX8_isPlan ⟨rfl, hy_X8_isPlan⟩ (am_w4 wd_1034 wd_1035 wd_67 wd_1036) (by decide) d rfl) <|
  am_kd (fun d => ak_if_eq d (by decide +kernel) rfl) <|
  am_kd (fun d => ak_iload_n d rfl rfl) <|
  am_kd (fun d => ak_callS metX8_isLife ⟨rfl, hy_X8_isLife⟩ (am_w4 wd_1225 wd_1226 wd_67 wd_1227) (by decide) d rfl) <|
  am_kd (fun d => ak_if_eq d (by decide +kernel) rfl) <|
  am_kd (fun d => ak_iload d rfl) <|
  am_kd (fun d => ak_callS metX8_isYear ⟨rfl, hy_X8_isYear⟩ (am_w4 wd_982 wd_983 wd_67 wd_984) (by decide) d rfl) <|
  am_kd (fun d => ak_if_eq d (by decide +kernel) rfl) <|
  am_kd (fun d => ak_iload d rfl) <|
  am_kd (fun d => ak_callS metX8_isYear ⟨rfl, hy_X8_isYear⟩ (am_w4 wd_982 wd_983 wd_67 wd_984) (by decide) d rfl) <|
  am_kd (fun d => ak_if_ne d (by decide +kernel) rfl) <|
  am_kd (fun d => ak_ldc2 wd_1153 d rfl) <|
  am_kd (fun d => ak_retL d) <|
  am_kd (fun d => ak_aload_n d rfl rfl) <|
  am_kd (fun d => ak_iload_n d rfl rfl) <|
  am_kd (fun d => ak_putI (C := RX8) (T := TX8) (N := 27) rfl inX8w tyX8_ok nmX8 (by decide) rfl rfl rfl rfl (by decide +kernel) wd_902 d rfl) <|
  am_kd (fun d => ak_aload_n d rfl rfl) <|
  am_kd (fun d => ak_iload d rfl) <|
  am_kd (fun d => ak_putI (C := RX8) (T := TX8) (N := 27) rfl inX8w tyX8_ok nmX8 (by decide) rfl rfl rfl rfl (by decide +kernel) wd_903 d rfl) <|
  am_kd (fun d => ak_aload_n d rfl rfl) <|
  am_kd (fun d => ak_iload_n d rfl rfl) <|
  am_kd (fun d => ak_iload_n d rfl rfl) <|
  am_kd (fun d => ak_iload d rfl) <|
  am_kd (fun d => ak_iload d rfl) <|
  am_kd (fun d => ak_lconst d (by decide +kernel) rfl) <|
  am_kd (fun d => ak_callV (C := RX8) (F := TX8) (N := 27) metX8_lived rfl ⟨rfl, hy_X8_lived⟩ (am_w5 wd_1232 wd_1234 wd_51 wd_67 wd_1235) (by decide) d rfl) <|
  am_kd (fun d => ak_lstore d rfl) <|
  am_kd (fun d => ak_aload_n d rfl rfl) <|
  am_kd (fun d => ak_iconst d (by decide +kernel) rfl) <|
  am_kd (fun d => ak_putI (C := RX8) (T := TX8) (N := 27) rfl inX8w tyX8_ok nmX8 (by decide) rfl rfl rfl rfl (by decide +kernel) wd_902 d rfl) <|
  am_kd (fun d => ak_lload d rfl) <|
  am_kd (fun d => ak_retL d) <| am_kdn
def TX8_choice : am_T := fun live as M R => match as with
  | [.ref n, .int p, .int q, .int l, .int y, .int k] => am_mn live ∧ n = 200 ∧ r_I M ∧ M.1 200 7 = -1 ∧ ∀ v M', r_sc M M' → r_I M' → R (some (.long v)) M'
  | _ => False
set_option maxRecDepth 100000 in
set_option maxHeartbeats 4000000 in
theorem metX8_choice : am_Met yX8_choice cX8_choice 8 (some .long) (11) (282) TX8_choice := by
  refine am_met (own := RX8) (by decide +kernel) rfl kX8_choice koX8_choice 150 (fun _ _ _ _ _ => none) (fun live as M Ret h => ?_) (fun _ _ _ _ _ _ _ _ hI => by cases hI)
  unfold TX8_choice at h
  split at h
  · next n p q l y k =>
    refine ⟨Nat.le_of_ble_eq_true rfl, ?_⟩
    change am_wp _ _ _ _ [(0, Value.ref n), (1, Value.int p), (2, Value.int q), (3, Value.int l), (4, Value.int y), (5, Value.int k)] _ _
    obtain ⟨hmn, rfl, hR, hn3, h⟩ := h
    have hmn2 := hmn
    obtain ⟨i1, i2, rfl⟩ := hmn2
    have l201 : am_len 201 = 3760 := rfl
    have n0 := hR.n0
    have n1 := hR.n1
    have n030 : 0 ≤ (M.1 201 0).toInt ∧ (M.1 201 0).toInt ≤ 30 := ⟨n0.1, by omega⟩
    by_cases z0 : 0 ≤ p ∧ p < M.1 201 0
    rotate_left
    · skip
      have q0 : (if 0 ≤ p ∧ p < M.1 201 0 then (1 : Int32) else 0) = 0 := if_neg z0
      repeat' (first | (with_reducible exact hmn) | (with_reducible exact n030) | (with_reducible exact n1) | apply And.intro | exact rfl | (intro hx; with_reducible exact absurd q0 hx) | (intro hx; exact absurd hx (by decide)) | (intro hx; exact absurd (by decide) hx) | decide | intro hx | (refine Exists.intro _ (And.intro rfl ?_)))
      all_goals try first | (with_reducible change am_tI _ _) | (change Ret _ _) | (change Ret _ _ _) | (change Exists _)
      all_goals try dsimp only at *
      all_goals try (with_reducible exact absurd ‹(1000 : Int64) = 0› am_z1000)
      all_goals exact h _ _ r_sc.rf hR
    · skip
      have q0 : ¬ ((if 0 ≤ p ∧ p < M.1 201 0 then (1 : Int32) else 0) = 0) := by rw [if_pos z0]; decide
      have hp : am_in p 12 := ⟨by have q := z0.1; simp only [i_le, Int32.reduceToInt] at q; omega, by have q := z0.2; simp only [i_lt] at q; omega⟩
      by_cases zz : q = -1 ∨ (0 ≤ q ∧ q < 5)
      rotate_left
      · have q8 : ¬ q = -1 := fun z => zz (Or.inl z)
        have q9 : (if 0 ≤ q ∧ q < 5 then (1 : Int32) else 0) = 0 := if_neg (fun z => zz (Or.inr z))
        repeat' (first | (with_reducible exact hmn) | (with_reducible exact n030) | (with_reducible exact n1) | apply And.intro | exact rfl | (intro hx; with_reducible exact absurd hx q0) | (intro hx; with_reducible exact absurd hx q8) | (intro hx; with_reducible exact absurd q9 hx) | (intro hx; exact absurd hx (by decide)) | (intro hx; exact absurd (by decide) hx) | decide | intro hx | (refine Exists.intro _ (And.intro rfl ?_)))
        all_goals try first | (with_reducible change am_tI _ _) | (change Ret _ _) | (change Ret _ _ _) | (change Exists _)
        all_goals try dsimp only at *
        all_goals try (with_reducible exact absurd ‹(1000 : Int64) = 0› am_z1000)
        all_goals exact h _ _ r_sc.rf hR
      have hq : q = -1 ∨ am_in q 5 := zz.imp id (fun z => ⟨by have q := z.1; simp only [i_le, Int32.reduceToInt] at q; omega, by have q := z.2; simp only [i_lt, Int32.reduceToInt] at q; omega⟩)
      by_cases z1 : 0 ≤ l ∧ l ≤ 3
      rotate_left
      · skip
        have q1 : (if 0 ≤ l ∧ l ≤ 3 then (1 : Int32) else 0) = 0 := if_neg z1
        repeat' (first | (with_reducible exact hmn) | (with_reducible exact n030) | (with_reducible exact n1) | apply And.intro | exact rfl | (intro hx; with_reducible exact absurd hx q0) | (intro hx; with_reducible exact absurd q1 hx) | (intro hx; exact absurd hx (by decide)) | (intro hx; exact absurd (by decide) hx) | decide | intro hx | (refine Exists.intro _ (And.intro rfl ?_)))
        all_goals try first | (with_reducible change am_tI _ _) | (change Ret _ _) | (change Ret _ _ _) | (change Exists _)
        all_goals try dsimp only at *
        all_goals try (with_reducible exact absurd ‹(1000 : Int64) = 0› am_z1000)
        all_goals exact h _ _ r_sc.rf hR
      · skip
        have q1 : ¬ ((if 0 ≤ l ∧ l ≤ 3 then (1 : Int32) else 0) = 0) := by rw [if_pos z1]; decide
        by_cases z2 : 0 ≤ y ∧ y < 40
        rotate_left
        · skip
          have q2 : (if 0 ≤ y ∧ y < 40 then (1 : Int32) else 0) = 0 := if_neg z2
          repeat' (first | (with_reducible exact hmn) | (with_reducible exact n030) | (with_reducible exact n1) | apply And.intro | exact rfl | (intro hx; with_reducible exact absurd hx q0) | (intro hx; with_reducible exact absurd hx q1) | (intro hx; with_reducible exact absurd q2 hx) | (intro hx; exact absurd hx (by decide)) | (intro hx; exact absurd (by decide) hx) | decide | intro hx | (refine Exists.intro _ (And.intro rfl ?_)))
          all_goals try first | (with_reducible change am_tI _ _) | (change Ret _ _) | (change Ret _ _ _) | (change Exists _)
          all_goals try dsimp only at *
          all_goals try (with_reducible exact absurd ‹(1000 : Int64) = 0› am_z1000)
          all_goals exact h _ _ r_sc.rf hR
        · skip
          have q2 : ¬ ((if 0 ≤ y ∧ y < 40 then (1 : Int32) else 0) = 0) := by rw [if_pos z2]; decide
          by_cases z3 : 0 ≤ k ∧ k < 40
          rotate_left
          · skip
            have q3 : (if 0 ≤ k ∧ k < 40 then (1 : Int32) else 0) = 0 := if_neg z3
            repeat' (first | (with_reducible exact hmn) | (with_reducible exact n030) | (with_reducible exact n1) | apply And.intro | exact rfl | (intro hx; with_reducible exact absurd hx q0) | (intro hx; with_reducible exact absurd hx q1) | (intro hx; with_reducible exact absurd hx q2) | (intro hx; with_reducible exact absurd q3 hx) | (intro hx; exact absurd hx (by decide)) | (intro hx; exact absurd (by decide) hx) | decide | intro hx | (refine Exists.intro _ (And.intro rfl ?_)))
            all_goals try first | (with_reducible change am_tI _ _) | (change Ret _ _) | (change Ret _ _ _) | (change Exists _)
            all_goals try dsimp only at *
            all_goals try (with_reducible exact absurd ‹(1000 : Int64) = 0› am_z1000)
            all_goals exact h _ _ r_sc.rf hR
          · skip
            have q3 : ¬ ((if 0 ≤ k ∧ k < 40 then (1 : Int32) else 0) = 0) := by rw [if_pos z3]; decide
            have hl : am_in l 4 := ⟨by have q := z1.1; simp only [i_le, Int32.reduceToInt] at q; omega, by have q := z1.2; simp only [i_le, Int32.reduceToInt] at q; omega⟩
            have hy : am_in y 40 := ⟨by have q := z2.1; simp only [i_le, Int32.reduceToInt] at q; omega, by have q := z2.2; simp only [i_lt, Int32.reduceToInt] at q; omega⟩
            have hr7 : r_I (am_wI (am_wI M 200 7 q) 200 8 y) := (hR.w7 hq).wI rfl
            repeat' (first | (with_reducible exact hmn) | (with_reducible exact hR) | (with_reducible exact n030) | (with_reducible exact n1) | (with_reducible exact hp) | (with_reducible exact hl) | (with_reducible exact hy) | (with_reducible exact hr7) | apply And.intro | exact rfl | (intro hx; with_reducible exact absurd hx q0) | (intro hx; with_reducible exact absurd hx q1) | (intro hx; with_reducible exact absurd hx q2) | (intro hx; with_reducible exact absurd hx q3) | ((with_reducible change r_I _); (with_reducible assumption)) | (intro hx; exact absurd hx (by decide)) | (intro hx; exact absurd (by decide) hx) | decide | intro hx | (refine Exists.intro _ (And.intro rfl ?_)))
            all_goals try first | (with_reducible change am_tI _ _) | (change Ret _ _) | (change Ret _ _ _) | (change Exists _)
            all_goals try dsimp only at *
            all_goals try (with_reducible exact absurd ‹(1000 : Int64) = 0› am_z1000)
            all_goals first | (with_reducible exact h _ _ r_sc.rf hR) | exact h _ _ r_sc.rf hR | ((with_reducible change Ret _ _); exact h _ _ (r_sc.w7 (by with_reducible assumption) hn3) (r_I.w7 (by with_reducible assumption) (Or.inl rfl))) | skip
  · exact h.elim
def rwX8_triedOf : List dz_r := [(0, .aload_n 0, 1), (1, .iload_n 1, 1), (2, .putfield 57, 3), (5, .aload_n 0, 1), (6, .iload_n 2, 1), (7, .putfield 114, 3), (10, .aload_n 0, 1), (11, .iload_n 3, 1), (12, .putfield 120, 3), (15, .aload_n 0, 1), (16, .iload 4, 2), (18, .putfield 117, 3), (21, .lconst 0, 1), (22, .lstore 6, 2), (24, .iconst 0, 1), (25, .istore 8, 2), (27, .iload 8, 2), (29, .aload_n 0, 1), (30, .getfield 7, 3), (33, .iconst 0, 1), (34, .iaload, 1), (35, .if_icmp .ge 31, 3), (38, .aload_n 0, 1), (39, .iload 8, 2), (41, .iload 5, 2), (43, .bipush 39, 2), (45, .invokevirtual 239, 3), (48, .lload 6, 2), (50, .aload_n 0, 1), (51, .iload 8, 2), (53, .iconst 1, 1), (54, .invokevirtual 243, 3), (57, .ladd, 1), (58, .lstore 6, 2), (60, .iinc 8 1, 3), (63, .goto (-36), 3), (66, .aload_n 0, 1), (67, .iconst (-1), 1), (68, .putfield 57, 3), (71, .lload 6, 2), (73, .lreturn, 1)]
theorem dzX8_triedOf : dz cX8_triedOf rwX8_triedOf := dz_all 0 (by decide +kernel)
def kX8_triedOf (live : am_E) (Ret : am_R) : am_code := [(0, am_aload 0 1), (1, am_iload 1 2), (2, am_putI live 8 3 5), (5, am_aload 0 6), (6, am_iload 2 7), (7, am_putI live 8 4 10), (10, am_aload 0 11), (11, am_iload 3 12), (12, am_putI live 8 5 15), (15, am_aload 0 16), (16, am_iload 4 18), (18, am_putI live 8 6 21), (21, am_const (.long 0) 22), (22, am_lstore 6 9 24), (24, am_const (.int 0) 25), (25, am_istore 8 9 27), (27, am_iload 8 29), (29, am_aload 0 30), (30, am_getR live 8 0 33), (33, am_const (.int 0) 34), (34, am_ald live 0 35), (35, am_if2 (fun x y => y ≤ x) 66 38), (38, am_aload 0 39), (39, am_iload 8 41), (41, am_iload 5 43), (43, am_const (.int 39) 45), (45, am_callV live 8 3 TX8_run 48), (48, am_lload 6 50), (50, am_aload 0 51), (51, am_iload 8 53), (53, am_const (.int 1) 54), (54, am_callV live 8 2 TX8_allOf 57), (57, am_l2 (fun x y => x + y) 58), (58, am_lstore 6 9 60), (60, am_iinc 8 9 1 63), (63, am_goto 27), (66, am_aload 0 67), (67, am_const (.int (-1)) 68), (68, am_putI live 8 3 71), (71, am_lload 6 73), (73, am_retL Ret)]
theorem koX8_triedOf (live : am_E) (Ret : am_R) : ∀ q ∈ kX8_triedOf live Ret, am_ok RX8 cX8_triedOf 9 (some .long) 10 253 live Ret q.1 q.2 :=
  am_kz dzX8_triedOf <|
  am_kd (fun d => ak_aload_n d rfl rfl) <|
  am_kd (fun d => ak_iload_n d rfl rfl) <|
  am_kd (fun d => ak_putI (C := RX8) (T := TX8) (N := 27) rfl inX8w tyX8_ok nmX8 (by decide) rfl rfl rfl rfl (by decide +kernel) wd_898 d rfl) <|
  am_kd (fun d => ak_aload_n d rfl rfl) <|
  am_kd (fun d => ak_iload_n d rfl rfl) <|
  am_kd (fun d => ak_putI (C := RX8) (T := TX8) (N := 27) rfl inX8w tyX8_ok nmX8 (by decide) rfl rfl rfl rfl (by decide +kernel) wd_899 d rfl) <|
  am_kd (fun d => ak_aload_n d rfl rfl) <|
  am_kd (fun d => ak_iload_n d rfl rfl) <|
  am_kd (fun d => ak_putI (C := RX8) (T := TX8) (N := 27) rfl inX8w tyX8_ok nmX8 (by decide) rfl rfl rfl rfl (by decide +kernel) wd_900 d rfl) <|
  am_kd (fun d => ak_aload_n d rfl rfl) <|
  am_kd (fun d => ak_iload d rfl) <|
  am_kd (fun d => ak_putI (C := RX8) (T := TX8) (N := 27) rfl inX8w tyX8_ok nmX8 (by decide) rfl rfl rfl rfl (by decide +kernel) wd_901 d rfl) <|
  am_kd (fun d => ak_lconst d (by decide +kernel) rfl) <|
  am_kd (fun d => ak_lstore d rfl) <|
  am_kd (fun d => ak_iconst d (by decide +kernel) rfl) <|
  am_kd (fun d => ak_istore d rfl) <|
  am_kd (fun d => ak_iload d rfl) <|
  am_kd (fun d => ak_aload_n d rfl rfl) <|
  am_kd (fun d => ak_getR (C := RX8) (T := TX8) (N := 27) rfl inX8w (by decide) rfl rfl rfl wd_895 d rfl) <|
  am_kd (fun d => ak_iconst d (by decide +kernel) rfl) <|
  am_kd (fun d => ak_iald (t := 0) (fun _ => rfl) rfl d rfl) <|
  am_kd (fun d => ak_icmp_ge d (by decide +kernel) rfl) <|
  am_kd (fun d => ak_aload_n d rfl rfl) <|
  am_kd (fun d => ak_iload d rfl) <|
  am_kd (fun d => ak_iload d rfl) <|
  am_kd (fun d => ak_bipush d (by decide +kernel) rfl) <|
  am_kd (fun d => ak_callV (C := RX8) (F := TX8) (N := 27) metX8_run rfl ⟨rfl, hy_X8_run⟩ (am_w5 wd_1158 wd_1160 wd_42 wd_67 wd_1161) (by decide) d rfl) <|
  am_kd (fun d => ak_lload d rfl) <|
  am_kd (fun d => ak_aload_n d rfl rfl) <|
  am_kd (fun d => ak_iload d rfl) <|
  am_kd (fun d => ak_iconst d (by decide +kernel) rfl) <|
  am_kd (fun d => ak_callV (C := RX8) (F := TX8) (N := 27) metX8_allOf rfl ⟨rfl, hy_X8_allOf⟩ (am_w5 wd_1195 wd_1197 wd_50 wd_67 wd_1198) (by decide) d rfl) <|
  am_kd (fun d => ak_ladd d rfl) <|
  am_kd (fun d => ak_lstore d rfl) <|
  am_kd (fun d => ak_iinc d (by decide +kernel) rfl) <|
  am_kd (fun d => ak_goto d (by decide +kernel)) <|
  am_kd (fun d => ak_aload_n d rfl rfl) <|
  am_kd (fun d => ak_iconst d (by decide +kernel) rfl) <|
  am_kd (fun d => ak_putI (C := RX8) (T := TX8) (N := 27) rfl inX8w tyX8_ok nmX8 (by decide) rfl rfl rfl rfl (by decide +kernel) wd_898 d rfl) <|
  am_kd (fun d => ak_lload d rfl) <|
  am_kd (fun d => ak_retL d) <| am_kdn
def TX8_triedOf : am_T := fun live as M R => match as with
  | [.ref n, .int pl, .int w, .int v, .int f, .int y] => am_mn live ∧ n = 200 ∧ y.toInt ≤ 39 ∧ r_I M ∧ M.1 200 3 = -1 ∧ ∀ v M', r_sc M M' → r_I M' → R (some (.long v)) M'
  | _ => False
def JX8_triedOf : am_E → List Value → am_M → am_R → am_inv := fun live as M0 _ pc => match as with
  | [.ref n, .int pl, .int w, .int v, .int f, .int y] => (match pc with
    | 27 => some ([0, 5, 6, 8], fun k L st M => ∃ (u : Int64) (i : Int32), L = [(0, .ref 200), (5, .int y), (6, .long u), (8, .int i)] ∧ st = [] ∧ k = ((13 - i.toInt).toNat, 0) ∧ 0 ≤ i.toInt ∧ r_sc (am_wI (am_wI (am_wI (am_wI M0 200 3 pl) 200 4 w) 200 5 v) 200 6 f) M ∧ r_I M)
    | _ => none)
  | _ => none
set_option maxRecDepth 100000 in
set_option maxHeartbeats 4000000 in
theorem metX8_triedOf : am_Met yX8_triedOf cX8_triedOf 9 (some .long) (10) (253) TX8_triedOf := by
  refine am_met (own := RX8) (by decide +kernel) rfl kX8_triedOf koX8_triedOf 100 JX8_triedOf ?_ ?_
  · intro live as M Ret h
    unfold TX8_triedOf at h
    split at h
    · next n pl w v f y =>
      refine ⟨Nat.le_of_ble_eq_true rfl, ?_⟩
      change am_wp _ _ _ _ [(0, Value.ref n), (1, Value.int pl), (2, Value.int w), (3, Value.int v), (4, Value.int f), (5, Value.int y)] _ _
      obtain ⟨hmn, rfl, hy, hR, hn3, h⟩ := h
      have hmn2 := hmn
      obtain ⟨i1, i2, rfl⟩ := hmn2
      repeat' (first | apply And.intro | exact rfl | intro hx | (refine Exists.intro _ (And.intro rfl ?_)))
      all_goals try first | (with_reducible change am_tI _ _) | (change Ret _ _) | (change Ret _ _ _) | (change Exists _)
      all_goals try dsimp only at *
      all_goals try (with_reducible exact absurd ‹(1000 : Int64) = 0› am_z1000)
      exact ⟨_, _, _, rfl, rfl, rfl, by decide, by (repeat' (first | (with_reducible exact r_sc.rf) | (with_reducible assumption) | ((with_reducible change r_sc _ (am_wI _ _ _ _)); refine r_sc.wI ?_ rfl) | ((with_reducible change r_sc _ (am_wJ _ _ _ _)); refine r_sc.wJ ?_ rfl) | (refine r_sc.tr ?_ (by with_reducible assumption)))), by (repeat' (first | (with_reducible assumption) | ((with_reducible change r_I (am_wJ _ _ _ _)); refine r_I.wJ ?_) | ((with_reducible change r_I (am_wI _ _ _ _)); refine r_I.wI ?_ rfl)))⟩
    · exact h.elim
  · intro live as M0 Ret h k pc I hI L st M hi
    unfold TX8_triedOf at h
    split at h
    · next n pl w v f y =>
      obtain ⟨hmn, rfl, hy, hR, hn3, h⟩ := h
      have hmn2 := hmn
      obtain ⟨i1, i2, rfl⟩ := hmn2
      have l201 : am_len 201 = 3760 := rfl
      have x0l : (0 : Int32).toInt < (am_len 201 : Int) := by rw [l201]; decide
      change (match pc with | 27 => _ | _ => none) = _ at hI
      split at hI
      · cases hI
        obtain ⟨u, i, rfl, rfl, rfl, e1, e2, e3⟩ := hi
        have n0 : 0 ≤ (M.1 201 (Int32.toNatClampNeg 0)).toInt ∧ (M.1 201 (Int32.toNatClampNeg 0)).toInt ≤ 12 := e3.n0
        by_cases hz : M.1 201 (Int32.toNatClampNeg 0) ≤ i
        · skip
          repeat' (first | (with_reducible exact x0l) | apply And.intro | exact rfl | (intro hx; with_reducible exact absurd hz hx) | (intro hx; exact absurd hx (by decide)) | (intro hx; exact absurd (by decide) hx) | decide | intro hx | (refine Exists.intro _ (And.intro rfl ?_)))
          all_goals try first | (with_reducible change am_tI _ _) | (change Ret _ _) | (change Ret _ _ _) | (change Exists _)
          all_goals try dsimp only at *
          all_goals try (with_reducible exact absurd ‹(1000 : Int64) = 0› am_z1000)
          all_goals exact h _ _ (r_sc.w3 e2 hn3) (by (repeat' (first | (with_reducible assumption) | ((with_reducible change r_I (am_wJ _ _ _ _)); refine r_I.wJ ?_) | ((with_reducible change r_I (am_wI _ _ _ _)); refine r_I.wI ?_ rfl))))
        · have hz2 := hz
          simp only [i_le] at hz2
          have hp : am_in i 12 := ⟨e1, by omega⟩
          have hi := i_inc (x := i) (by omega) (by omega)
          repeat' (first | (with_reducible exact x0l) | (with_reducible exact hmn) | (with_reducible exact hp) | (with_reducible exact hy) | (with_reducible exact e3) | apply And.intro | exact rfl | (intro hx; with_reducible exact absurd hx hz) | ((with_reducible change r_I _); (with_reducible assumption)) | (intro hx; exact absurd hx (by decide)) | (intro hx; exact absurd (by decide) hx) | decide | intro hx | (refine Exists.intro _ (And.intro rfl ?_)))
          all_goals try first | (with_reducible change am_tI _ _) | (change Ret _ _) | (change Ret _ _ _) | (change Exists _)
          all_goals try dsimp only at *
          all_goals try (with_reducible exact absurd ‹(1000 : Int64) = 0› am_z1000)
          all_goals exact ⟨_, am_lt_l (by omega), _, _, rfl, rfl, rfl, by omega, by (repeat' (first | (with_reducible exact r_sc.rf) | (with_reducible assumption) | ((with_reducible change r_sc _ (am_wI _ _ _ _)); refine r_sc.wI ?_ rfl) | ((with_reducible change r_sc _ (am_wJ _ _ _ _)); refine r_sc.wJ ?_ rfl) | (refine r_sc.tr ?_ (by with_reducible assumption)))), by (repeat' (first | (with_reducible assumption) | ((with_reducible change r_I (am_wJ _ _ _ _)); refine r_I.wJ ?_) | ((with_reducible change r_I (am_wI _ _ _ _)); refine r_I.wI ?_ rfl)))⟩
      · cases hI
    · exact h.elim
theorem hy_X8_triedOf : yX8_triedOf.cls ≠ "java/lang/invoke/MethodHandle" ∧ yX8_triedOf.cls ≠ "java/lang/invoke/VarHandle" ∧ (parseMethodDescriptor yX8_triedOf.desc).map (fun d => d.parameters.length) = some 5 := ⟨by decide +kernel, by decide +kernel, by decide +kernel⟩
set_option maxRecDepth 100000 in
theorem wd_1270 : Cond.methodLink "LearnLoansModel" 280 yX8_triedOf ∈ am_ws := am_wt6 (List.mem_of_getElem? (i := 13) (by rfl)) (by decide +kernel)
set_option maxRecDepth 100000 in
theorem wd_1272 : Cond.instanceMethod yX8_triedOf ∈ am_ws := am_wt6 (List.mem_of_getElem? (i := 15) (by rfl)) (by decide +kernel)
set_option maxRecDepth 100000 in
theorem wd_56 : Cond.selects "LearnLoansModel" yX8_triedOf yX8_triedOf ∈ am_ws := am_wsi (List.mem_of_getElem? (i := 56) (by rfl)) (by decide +kernel)
set_option maxRecDepth 100000 in
theorem wd_1273 : Cond.code yX8_triedOf cX8_triedOf 9 (some .long) ∈ am_ws := am_wt6 (List.mem_of_getElem? (i := 16) (by rfl)) (by decide +kernel)
def rwX8_tried : List dz_r := [(0, .iload_n 1, 1), (1, .invokestatic 104, 3), (4, .ifCond .eq 34, 3), (7, .iload_n 2, 1), (8, .invokestatic 107, 3), (11, .ifCond .eq 27, 3), (14, .iload_n 2, 1), (15, .iload_n 3, 1), (16, .invokestatic 110, 3), (19, .ifCond .eq 19, 3), (22, .iload 4, 2), (24, .invokestatic 72, 3), (27, .ifCond .eq 11, 3), (30, .iload 5, 2), (32, .invokestatic 72, 3), (35, .ifCond .ne 7, 3), (38, .ldc2_w 237, 3), (41, .lreturn, 1), (42, .aload_n 0, 1), (43, .iload_n 1, 1), (44, .iload_n 2, 1), (45, .iload_n 3, 1), (46, .iload 4, 2), (48, .iload 5, 2), (50, .invokevirtual 280, 3), (53, .lreturn, 1)]
theorem dzX8_tried : dz cX8_tried rwX8_tried := dz_all 0 (by decide +kernel)
def kX8_tried (live : am_E) (Ret : am_R) : am_code := [(0, am_iload 1 1), (1, am_callS live 1 TX8_isPlan 4), (4, am_if1 (fun x => x = 0) 38 7), (7, am_iload 2 8), (8, am_callS live 1 TX8_isWhat 11), (11, am_if1 (fun x => x = 0) 38 14), (14, am_iload 2 15), (15, am_iload 3 16), (16, am_callS live 2 TX8_mayBe 19), (19, am_if1 (fun x => x = 0) 38 22), (22, am_iload 4 24), (24, am_callS live 1 TX8_isYear 27), (27, am_if1 (fun x => x = 0) 38 30), (30, am_iload 5 32), (32, am_callS live 1 TX8_isYear 35), (35, am_if1 (fun x => x = 0) 38 42), (38, am_const (.long (-2)) 41), (41, am_retL Ret), (42, am_aload 0 43), (43, am_iload 1 44), (44, am_iload 2 45), (45, am_iload 3 46), (46, am_iload 4 48), (48, am_iload 5 50), (50, am_callV live 8 5 TX8_triedOf 53), (53, am_retL Ret)]
theorem koX8_tried (live : am_E) (Ret : am_R) : ∀ q ∈ kX8_tried live Ret, am_ok RX8 cX8_tried 6 (some .long) 11 281 live Ret q.1 q.2 :=
  am_kz dzX8_tried <|
  am_kd (fun d => ak_iload_n d rfl rfl) <|
  am_kd (fun d => ak_callS metX8_isPlan ⟨rfl, hy_X8_isPlan⟩ (am_w4 wd_1034 wd_1035 wd_67 wd_1036) (by decide) d rfl) <|
  am_kd (fun d => ak_if_eq d (by decide +kernel) rfl) <|
  am_kd (fun d => ak_iload_n d rfl rfl) <|
  am_kd (fun d => ak_callS metX8_isWhat ⟨rfl, hy_X8_isWhat⟩ (am_w4 wd_1038 wd_1039 wd_67 wd_1040) (by decide) d rfl) <|
  am_kd (fun d => ak_if_eq d (by decide +kernel) rfl) <|
  am_kd (fun d => ak_iload_n d rfl rfl) <|
  am_kd (fun d => ak_iload_n d rfl rfl) <|
  am_kd (fun d => ak_callS metX8_mayBe ⟨rfl, hy_X8_mayBe⟩ (am_w4 wd_1042 wd_1043 wd_67 wd_1044) (by decide) d rfl) <|
  am_kd (fun d => ak_if_eq d (by decide +kernel) rfl) <|
  am_kd (fun d => ak_iload d rfl) <|
  am_kd (fun d => ak_callS metX8_isYear ⟨rfl, hy_X8_isYear⟩ (am_w4 wd_982 wd_983 wd_67 wd_984) (by decide) d rfl) <|
  am_kd (fun d => ak_if_eq d (by decide +kernel) rfl) <|
  am_kd (fun d => ak_iload d rfl) <|
  am_kd (fun d => ak_callS metX8_isYear ⟨rfl, hy_X8_isYear⟩ (am_w4 wd_982 wd_983 wd_67 wd_984) (by decide) d rfl) <|
  am_kd (fun d => ak_if_ne d (by decide +kernel) rfl) <|
  am_kd (fun d => ak_ldc2 wd_1153 d rfl) <|
  am_kd (fun d => ak_retL d) <|
  am_kd (fun d => ak_aload_n d rfl rfl) <|
  am_kd (fun d => ak_iload_n d rfl rfl) <|
  am_kd (fun d => ak_iload_n d rfl rfl) <|
  am_kd (fun d => ak_iload_n d rfl rfl) <|
  am_kd (fun d => ak_iload d rfl) <|
  am_kd (fun d => ak_iload d rfl) <|
  am_kd (fun d => ak_callV (C := RX8) (F := TX8) (N := 27) metX8_triedOf rfl ⟨rfl, hy_X8_triedOf⟩ (am_w5 wd_1270 wd_1272 wd_56 wd_67 wd_1273) (by decide) d rfl) <|
  am_kd (fun d => ak_retL d) <| am_kdn
def TX8_tried : am_T := fun live as M R => match as with
  | [.ref n, .int pl, .int w, .int v, .int f, .int y] => am_mn live ∧ n = 200 ∧ r_I M ∧ M.1 200 3 = -1 ∧ ∀ v M', r_sc M M' → r_I M' → R (some (.long v)) M'
  | _ => False
set_option maxRecDepth 100000 in
set_option maxHeartbeats 4000000 in
theorem metX8_tried : am_Met yX8_tried cX8_tried 6 (some .long) (11) (281) TX8_tried := by
  refine am_met (own := RX8) (by decide +kernel) rfl kX8_tried koX8_tried 150 (fun _ _ _ _ _ => none) (fun live as M Ret h => ?_) (fun _ _ _ _ _ _ _ _ hI => by cases hI)
  unfold TX8_tried at h
  split at h
  · next n pl w v f y =>
    refine ⟨Nat.le_of_ble_eq_true rfl, ?_⟩
    change am_wp _ _ _ _ [(0, Value.ref n), (1, Value.int pl), (2, Value.int w), (3, Value.int v), (4, Value.int f), (5, Value.int y)] _ _
    obtain ⟨hmn, rfl, hR, hn3, h⟩ := h
    have hmn2 := hmn
    obtain ⟨i1, i2, rfl⟩ := hmn2
    have l201 : am_len 201 = 3760 := rfl
    have n0 := hR.n0
    have n1 := hR.n1
    have n030 : 0 ≤ (M.1 201 0).toInt ∧ (M.1 201 0).toInt ≤ 30 := ⟨n0.1, by omega⟩
    by_cases z0 : 0 ≤ pl ∧ pl < 5
    rotate_left
    · skip
      have q0 : (if 0 ≤ pl ∧ pl < 5 then (1 : Int32) else 0) = 0 := if_neg z0
      repeat' (first | (with_reducible exact hmn) | (with_reducible exact n030) | (with_reducible exact n1) | apply And.intro | exact rfl | (intro hx; with_reducible exact absurd q0 hx) | (intro hx; exact absurd hx (by decide)) | (intro hx; exact absurd (by decide) hx) | decide | intro hx | (refine Exists.intro _ (And.intro rfl ?_)))
      all_goals try first | (with_reducible change am_tI _ _) | (change Ret _ _) | (change Ret _ _ _) | (change Exists _)
      all_goals try dsimp only at *
      all_goals try (with_reducible exact absurd ‹(1000 : Int64) = 0› am_z1000)
      all_goals first | (with_reducible exact w1) | (with_reducible exact w2) | (with_reducible exact h _ _ r_sc.rf hR) | exact w1 | exact w2 | exact h _ _ r_sc.rf hR
    · skip
      have q0 : ¬ ((if 0 ≤ pl ∧ pl < 5 then (1 : Int32) else 0) = 0) := by rw [if_pos z0]; decide
      by_cases z1 : 0 ≤ w ∧ w < 6
      rotate_left
      · skip
        have q1 : (if 0 ≤ w ∧ w < 6 then (1 : Int32) else 0) = 0 := if_neg z1
        repeat' (first | (with_reducible exact hmn) | (with_reducible exact n030) | (with_reducible exact n1) | apply And.intro | exact rfl | (intro hx; with_reducible exact absurd hx q0) | (intro hx; with_reducible exact absurd q1 hx) | (intro hx; exact absurd hx (by decide)) | (intro hx; exact absurd (by decide) hx) | decide | intro hx | (refine Exists.intro _ (And.intro rfl ?_)))
        all_goals try first | (with_reducible change am_tI _ _) | (change Ret _ _) | (change Ret _ _ _) | (change Exists _)
        all_goals try dsimp only at *
        all_goals try (with_reducible exact absurd ‹(1000 : Int64) = 0› am_z1000)
        all_goals first | (with_reducible exact w1) | (with_reducible exact w2) | (with_reducible exact h _ _ r_sc.rf hR) | exact w1 | exact w2 | exact h _ _ r_sc.rf hR
      · skip
        have q1 : ¬ ((if 0 ≤ w ∧ w < 6 then (1 : Int32) else 0) = 0) := by rw [if_pos z1]; decide
        have w1 := z1.1
        have w2 := z1.2
        by_cases z2 : (0 ≤ w ∧ w < 6) ∧ am_sf 1 w.toNatClampNeg ≤ v ∧ v ≤ am_sf 2 w.toNatClampNeg
        rotate_left
        · skip
          have q2 : ¬ am_isNum w v := z2
          repeat' (first | (with_reducible exact hmn) | (with_reducible exact n030) | (with_reducible exact n1) | apply And.intro | exact rfl | (intro hx; with_reducible exact absurd hx q0) | (intro hx; with_reducible exact absurd hx q1) | (intro hx; with_reducible exact absurd hx q2) | (intro hx; exact absurd hx (by decide)) | (intro hx; exact absurd (by decide) hx) | decide | intro hx | (refine Exists.intro _ (And.intro rfl ?_)))
          all_goals try first | (with_reducible change am_tI _ _) | (change Ret _ _) | (change Ret _ _ _) | (change Exists _)
          all_goals try dsimp only at *
          all_goals try (with_reducible exact absurd ‹(1000 : Int64) = 0› am_z1000)
          all_goals first | (with_reducible exact w1) | (with_reducible exact w2) | (with_reducible exact h _ _ r_sc.rf hR) | exact w1 | exact w2 | exact h _ _ r_sc.rf hR
        · skip
          have q2 : am_isNum w v := z2
          by_cases z3 : 0 ≤ f ∧ f < 40
          rotate_left
          · skip
            have q3 : (if 0 ≤ f ∧ f < 40 then (1 : Int32) else 0) = 0 := if_neg z3
            repeat' (first | (with_reducible exact hmn) | (with_reducible exact n030) | (with_reducible exact n1) | apply And.intro | exact rfl | (intro hx; with_reducible exact absurd hx q0) | (intro hx; with_reducible exact absurd hx q1) | (intro hx; with_reducible exact absurd q2 hx) | (intro hx; with_reducible exact absurd q3 hx) | (intro hx; exact absurd hx (by decide)) | (intro hx; exact absurd (by decide) hx) | decide | intro hx | (refine Exists.intro _ (And.intro rfl ?_)))
            all_goals try first | (with_reducible change am_tI _ _) | (change Ret _ _) | (change Ret _ _ _) | (change Exists _)
            all_goals try dsimp only at *
            all_goals try (with_reducible exact absurd ‹(1000 : Int64) = 0› am_z1000)
            all_goals first | (with_reducible exact w1) | (with_reducible exact w2) | (with_reducible exact h _ _ r_sc.rf hR) | exact w1 | exact w2 | exact h _ _ r_sc.rf hR
          · skip
            have q3 : ¬ ((if 0 ≤ f ∧ f < 40 then (1 : Int32) else 0) = 0) := by rw [if_pos z3]; decide
            by_cases z4 : 0 ≤ y ∧ y < 40
            rotate_left
            · skip
              have q4 : (if 0 ≤ y ∧ y < 40 then (1 : Int32) else 0) = 0 := if_neg z4
              repeat' (first | (with_reducible exact hmn) | (with_reducible exact n030) | (with_reducible exact n1) | apply And.intro | exact rfl | (intro hx; with_reducible exact absurd hx q0) | (intro hx; with_reducible exact absurd hx q1) | (intro hx; with_reducible exact absurd hx q3) | (intro hx; with_reducible exact absurd q2 hx) | (intro hx; with_reducible exact absurd q4 hx) | (intro hx; exact absurd hx (by decide)) | (intro hx; exact absurd (by decide) hx) | decide | intro hx | (refine Exists.intro _ (And.intro rfl ?_)))
              all_goals try first | (with_reducible change am_tI _ _) | (change Ret _ _) | (change Ret _ _ _) | (change Exists _)
              all_goals try dsimp only at *
              all_goals try (with_reducible exact absurd ‹(1000 : Int64) = 0› am_z1000)
              all_goals first | (with_reducible exact w1) | (with_reducible exact w2) | (with_reducible exact h _ _ r_sc.rf hR) | exact w1 | exact w2 | exact h _ _ r_sc.rf hR
            · skip
              have q4 : ¬ ((if 0 ≤ y ∧ y < 40 then (1 : Int32) else 0) = 0) := by rw [if_pos z4]; decide
              have hy : am_in y 40 := ⟨by have q := z4.1; simp only [i_le, Int32.reduceToInt] at q; omega, by have q := z4.2; simp only [i_lt, Int32.reduceToInt] at q; omega⟩
              have y39 : y.toInt ≤ 39 := by have q := hy.2; omega
              repeat' (first | (with_reducible exact hmn) | (with_reducible exact hR) | (with_reducible exact n030) | (with_reducible exact n1) | (with_reducible exact y39) | (with_reducible exact w1) | (with_reducible exact w2) | (with_reducible exact hn3) | apply And.intro | exact rfl | (intro hx; with_reducible exact absurd hx q0) | (intro hx; with_reducible exact absurd hx q1) | (intro hx; with_reducible exact absurd hx q3) | (intro hx; with_reducible exact absurd hx q4) | (intro hx; with_reducible exact absurd q2 hx) | ((with_reducible change r_I _); (with_reducible assumption)) | (intro hx; exact absurd hx (by decide)) | (intro hx; exact absurd (by decide) hx) | decide | intro hx | (refine Exists.intro _ (And.intro rfl ?_)))
              all_goals try first | (with_reducible change am_tI _ _) | (change Ret _ _) | (change Ret _ _ _) | (change Exists _)
              all_goals try dsimp only at *
              all_goals try (with_reducible exact absurd ‹(1000 : Int64) = 0› am_z1000)
              all_goals first | (change r_I _; (repeat' (first | (with_reducible assumption) | ((with_reducible change r_I (am_wJ _ _ _ _)); refine r_I.wJ ?_) | ((with_reducible change r_I (am_wI _ _ _ _)); refine r_I.wI ?_ rfl)))) | ((with_reducible change Ret _ _); exact h _ _ (by (repeat' (first | (with_reducible exact r_sc.rf) | (with_reducible assumption) | ((with_reducible change r_sc _ (am_wI _ _ _ _)); refine r_sc.wI ?_ rfl) | ((with_reducible change r_sc _ (am_wJ _ _ _ _)); refine r_sc.wJ ?_ rfl) | (refine r_sc.tr ?_ (by with_reducible assumption))))) (by (repeat' (first | (with_reducible assumption) | ((with_reducible change r_I (am_wJ _ _ _ _)); refine r_I.wJ ?_) | ((with_reducible change r_I (am_wI _ _ _ _)); refine r_I.wI ?_ rfl))))) | skip
  · exact h.elim
