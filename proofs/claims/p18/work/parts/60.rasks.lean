/-! general: the reference's calls that ask: safe -/
theorem r_I.w7 {M : am_M} {v : Int32} (h : r_I M) (hv : v = -1 ∨ am_in v 5) : r_I (am_wI M 200 7 v) := by
  obtain ⟨-, h1, h2⟩ := h
  refine ⟨(), h1.cg (fun b => by rw [am_wI_1, if_neg (fun q => absurd q.1 (by decide))]), ?_⟩
  unfold r_S
  rw [am_wI_self]
  exact hv
theorem r_sc.w7 {M N : am_M} {q y : Int32} (c : r_sc (am_wI (am_wI M 200 7 q) 200 8 y) N) (e : M.1 200 7 = -1) : r_sc M (am_wI N 200 7 (-1)) := by
  have o : ∀ a b, ¬ (a = 200 ∧ (b = 7 ∨ b = 8)) → (am_wI (am_wI M 200 7 q) 200 8 y).1 a b = M.1 a b := fun a b z => by
    rw [am_wI_1, if_neg (fun w => z ⟨w.1, Or.inr w.2⟩), am_wI_1, if_neg (fun w => z ⟨w.1, Or.inl w.2⟩)]
  refine ⟨(), fun a b z => ⟨?_, (c.g a b z).2⟩, ?_, ?_⟩
  · rw [am_wI_1, if_neg (fun w => by omega), (c.g a b z).1, o a b (fun w => by omega)]
  · rw [am_wI_1, if_neg (fun w => absurd w.2 (by decide)), c.f3, o _ _ (fun w => absurd w.2 (by decide))]
  · rw [am_wI_self, e]
theorem r_sc.w3 {M N : am_M} {p w v f : Int32} (c : r_sc (am_wI (am_wI (am_wI (am_wI M 200 3 p) 200 4 w) 200 5 v) 200 6 f) N) (e : M.1 200 3 = -1) : r_sc M (am_wI N 200 3 (-1)) := by
  have o : ∀ a b, ¬ (a = 200 ∧ (b = 3 ∨ b = 4 ∨ b = 5 ∨ b = 6)) → (am_wI (am_wI (am_wI (am_wI M 200 3 p) 200 4 w) 200 5 v) 200 6 f).1 a b = M.1 a b := fun a b z => by
    rw [am_wI_1, if_neg (fun w => z ⟨w.1, by omega⟩), am_wI_1, if_neg (fun w => z ⟨w.1, by omega⟩), am_wI_1, if_neg (fun w => z ⟨w.1, by omega⟩), am_wI_1, if_neg (fun w => z ⟨w.1, by omega⟩)]
  refine ⟨(), fun a b z => ⟨?_, (c.g a b z).2⟩, ?_, ?_⟩
  · rw [am_wI_1, if_neg (fun w => by omega), (c.g a b z).1, o a b (fun w => by omega)]
  · rw [am_wI_self, e]
  · rw [am_wI_1, if_neg (fun w => absurd w.2 (by decide)), c.f7, o _ _ (fun w => absurd w.2 (by decide))]
theorem dX8_far_0 : decode cX8_far 0 = .ok (.iload_n 0, 1) := by decide +kernel
theorem dX8_far_1 : decode cX8_far 1 = .ok (.iload_n 1, 1) := by decide +kernel
theorem dX8_far_2 : decode cX8_far 2 = .ok (.if_icmp .ge 9, 3) := by decide +kernel
theorem dX8_far_5 : decode cX8_far 5 = .ok (.iload_n 1, 1) := by decide +kernel
theorem dX8_far_6 : decode cX8_far 6 = .ok (.iload_n 0, 1) := by decide +kernel
theorem dX8_far_7 : decode cX8_far 7 = .ok (.isub, 1) := by decide +kernel
theorem dX8_far_8 : decode cX8_far 8 = .ok (.goto 6, 3) := by decide +kernel
theorem dX8_far_11 : decode cX8_far 11 = .ok (.iload_n 0, 1) := by decide +kernel
theorem dX8_far_12 : decode cX8_far 12 = .ok (.iload_n 1, 1) := by decide +kernel
theorem dX8_far_13 : decode cX8_far 13 = .ok (.isub, 1) := by decide +kernel
theorem dX8_far_14 : decode cX8_far 14 = .ok (.ireturn, 1) := by decide +kernel
def kX8_far (live : am_E) (Ret : am_R) : am_code := [(0, am_iload 0 1), (1, am_iload 1 2), (2, am_if2 (fun x y => y ≤ x) 11 5), (5, am_iload 1 6), (6, am_iload 0 7), (7, am_i2 (fun x y => x - y) 8), (8, am_goto 14), (11, am_iload 0 12), (12, am_iload 1 13), (13, am_i2 (fun x y => x - y) 14), (14, am_retI Ret)]
theorem koX8_far (live : am_E) (Ret : am_R) : ∀ q ∈ kX8_far live Ret, am_ok RX8 cX8_far 2 (some .int) 0 0 live Ret q.1 q.2 :=
  am_kc (ak_iload_n dX8_far_0 rfl rfl) <|
  am_kc (ak_iload_n dX8_far_1 rfl rfl) <|
  am_kc (ak_icmp_ge dX8_far_2 (by decide +kernel) rfl) <|
  am_kc (ak_iload_n dX8_far_5 rfl rfl) <|
  am_kc (ak_iload_n dX8_far_6 rfl rfl) <|
  am_kc (ak_isub dX8_far_7 rfl) <|
  am_kc (ak_goto dX8_far_8 (by decide +kernel)) <|
  am_kc (ak_iload_n dX8_far_11 rfl rfl) <|
  am_kc (ak_iload_n dX8_far_12 rfl rfl) <|
  am_kc (ak_isub dX8_far_13 rfl) <|
  am_kc (ak_retI dX8_far_14) <| am_kn
def TX8_far : am_T := fun _ as M R => match as with
  | [.int a, .int b] => ∀ v, R (some (.int v)) M
  | _ => False
set_option maxRecDepth 100000 in
set_option maxHeartbeats 4000000 in
theorem metX8_far : am_Met yX8_far cX8_far 2 (some .int) (0) (0) TX8_far := by
  refine am_met (own := RX8) (by decide +kernel) rfl kX8_far koX8_far 60 (fun _ _ _ _ _ => none) (fun live as M Ret h => ?_) (fun _ _ _ _ _ _ _ _ hI => by cases hI)
  unfold TX8_far at h
  split at h
  · next a b =>
    refine ⟨Nat.le_of_ble_eq_true rfl, ?_⟩
    change am_wp _ _ _ _ [(0, Value.int a), (1, Value.int b)] _ _
    repeat' (first | apply And.intro | exact rfl | intro hx | (refine Exists.intro _ (And.intro rfl ?_)))
    all_goals try first | (with_reducible change am_tI _ _) | (change Ret _ _) | (change Ret _ _ _) | (change Exists _)
    all_goals try dsimp only at *
    all_goals try exact absurd ‹(1000 : Int64) = 0› (by decide)
    all_goals exact h _
  · exact h.elim
theorem dX8_chanceOf_0 : decode cX8_chanceOf 0 = .ok (.iload_n 1, 1) := by decide +kernel
theorem dX8_chanceOf_1 : decode cX8_chanceOf 1 = .ok (.iconst 3, 1) := by decide +kernel
theorem dX8_chanceOf_2 : decode cX8_chanceOf 2 = .ok (.if_icmp .ne 17, 3) := by decide +kernel
theorem dX8_chanceOf_5 : decode cX8_chanceOf 5 = .ok (.iload_n 2, 1) := by decide +kernel
theorem dX8_chanceOf_6 : decode cX8_chanceOf 6 = .ok (.iconst 3, 1) := by decide +kernel
theorem dX8_chanceOf_7 : decode cX8_chanceOf 7 = .ok (.if_icmp .ne 8, 3) := by decide +kernel
theorem dX8_chanceOf_10 : decode cX8_chanceOf 10 = .ok (.bipush 10, 2) := by decide +kernel
theorem dX8_chanceOf_12 : decode cX8_chanceOf 12 = .ok (.goto 21, 3) := by decide +kernel
theorem dX8_chanceOf_15 : decode cX8_chanceOf 15 = .ok (.iconst 0, 1) := by decide +kernel
theorem dX8_chanceOf_16 : decode cX8_chanceOf 16 = .ok (.goto 17, 3) := by decide +kernel
theorem dX8_chanceOf_19 : decode cX8_chanceOf 19 = .ok (.aload_n 0, 1) := by decide +kernel
theorem dX8_chanceOf_20 : decode cX8_chanceOf 20 = .ok (.getfield 7, 3) := by decide +kernel
theorem dX8_chanceOf_23 : decode cX8_chanceOf 23 = .ok (.sipush 3733, 3) := by decide +kernel
theorem dX8_chanceOf_26 : decode cX8_chanceOf 26 = .ok (.iconst 4, 1) := by decide +kernel
theorem dX8_chanceOf_27 : decode cX8_chanceOf 27 = .ok (.iload_n 1, 1) := by decide +kernel
theorem dX8_chanceOf_28 : decode cX8_chanceOf 28 = .ok (.imul, 1) := by decide +kernel
theorem dX8_chanceOf_29 : decode cX8_chanceOf 29 = .ok (.iadd, 1) := by decide +kernel
theorem dX8_chanceOf_30 : decode cX8_chanceOf 30 = .ok (.iload_n 2, 1) := by decide +kernel
theorem dX8_chanceOf_31 : decode cX8_chanceOf 31 = .ok (.iadd, 1) := by decide +kernel
theorem dX8_chanceOf_32 : decode cX8_chanceOf 32 = .ok (.iaload, 1) := by decide +kernel
theorem dX8_chanceOf_33 : decode cX8_chanceOf 33 = .ok (.ireturn, 1) := by decide +kernel
def kX8_chanceOf (live : am_E) (Ret : am_R) : am_code := [(0, am_iload 1 1), (1, am_const (.int 3) 2), (2, am_if2 (fun x y => x = y) 5 19), (5, am_iload 2 6), (6, am_const (.int 3) 7), (7, am_if2 (fun x y => x = y) 10 15), (10, am_const (.int 10) 12), (12, am_goto 33), (15, am_const (.int 0) 16), (16, am_goto 33), (19, am_aload 0 20), (20, am_getR live 8 0 23), (23, am_const (.int 3733) 26), (26, am_const (.int 4) 27), (27, am_iload 1 28), (28, am_i2 (fun x y => x * y) 29), (29, am_i2 (fun x y => x + y) 30), (30, am_iload 2 31), (31, am_i2 (fun x y => x + y) 32), (32, am_ald live 0 33), (33, am_retI Ret)]
theorem koX8_chanceOf (live : am_E) (Ret : am_R) : ∀ q ∈ kX8_chanceOf live Ret, am_ok RX8 cX8_chanceOf 3 (some .int) 0 0 live Ret q.1 q.2 :=
  am_kc (ak_iload_n dX8_chanceOf_0 rfl rfl) <|
  am_kc (ak_iconst dX8_chanceOf_1 (by decide +kernel) rfl) <|
  am_kc (ak_icmp_ne dX8_chanceOf_2 (by decide +kernel) rfl) <|
  am_kc (ak_iload_n dX8_chanceOf_5 rfl rfl) <|
  am_kc (ak_iconst dX8_chanceOf_6 (by decide +kernel) rfl) <|
  am_kc (ak_icmp_ne dX8_chanceOf_7 (by decide +kernel) rfl) <|
  am_kc (ak_bipush dX8_chanceOf_10 (by decide +kernel) rfl) <|
  am_kc (ak_goto dX8_chanceOf_12 (by decide +kernel)) <|
  am_kc (ak_iconst dX8_chanceOf_15 (by decide +kernel) rfl) <|
  am_kc (ak_goto dX8_chanceOf_16 (by decide +kernel)) <|
  am_kc (ak_aload_n dX8_chanceOf_19 rfl rfl) <|
  am_kc (ak_getR (C := RX8) (T := TX8) (N := 27) rfl inX8w (by decide) rfl rfl rfl wd_895 dX8_chanceOf_20 rfl) <|
  am_kc (ak_sipush dX8_chanceOf_23 (by decide +kernel) rfl) <|
  am_kc (ak_iconst dX8_chanceOf_26 (by decide +kernel) rfl) <|
  am_kc (ak_iload_n dX8_chanceOf_27 rfl rfl) <|
  am_kc (ak_imul dX8_chanceOf_28 rfl) <|
  am_kc (ak_iadd dX8_chanceOf_29 rfl) <|
  am_kc (ak_iload_n dX8_chanceOf_30 rfl rfl) <|
  am_kc (ak_iadd dX8_chanceOf_31 rfl) <|
  am_kc (ak_iald (t := 0) (fun _ => rfl) rfl dX8_chanceOf_32 rfl) <|
  am_kc (ak_retI dX8_chanceOf_33) <| am_kn
def TX8_chanceOf : am_T := fun live as M R => match as with
  | [.ref n, .int a, .int b] => am_mn live ∧ n = 200 ∧ am_in a 4 ∧ am_in b 4 ∧ ∀ v, R (some (.int v)) M
  | _ => False
set_option maxRecDepth 100000 in
set_option maxHeartbeats 4000000 in
theorem metX8_chanceOf : am_Met yX8_chanceOf cX8_chanceOf 3 (some .int) (0) (0) TX8_chanceOf := by
  refine am_met (own := RX8) (by decide +kernel) rfl kX8_chanceOf koX8_chanceOf 60 (fun _ _ _ _ _ => none) (fun live as M Ret h => ?_) (fun _ _ _ _ _ _ _ _ hI => by cases hI)
  unfold TX8_chanceOf at h
  split at h
  · next n a b =>
    refine ⟨Nat.le_of_ble_eq_true rfl, ?_⟩
    change am_wp _ _ _ _ [(0, Value.ref n), (1, Value.int a), (2, Value.int b)] _ _
    obtain ⟨⟨i1, i2, rfl⟩, rfl, ha, hb, h⟩ := h
    have l201 : am_len 201 = 3760 := rfl
    have a1 := ha.1
    have a2 := ha.2
    have b1 := hb.1
    have b2 := hb.2
    have e4 := r_mul (c := 4) (x := a) ⟨by decide, by decide⟩ ⟨by omega, by omega⟩
    simp only [Int32.reduceToInt] at e4
    have ea := r_off (c := 3733) (x := 4 * a) ⟨by decide, by decide⟩ ⟨by omega, by omega⟩
    simp only [e4, Int32.reduceToInt] at ea
    have eb := r_off (c := 3733 + 4 * a) (x := b) ⟨by omega, by omega⟩ ⟨by omega, by omega⟩
    repeat' (first | apply And.intro | exact rfl | intro hx | (refine Exists.intro _ (And.intro rfl ?_)))
    all_goals try first | (with_reducible change am_tI _ _) | (change Ret _ _) | (change Ret _ _ _) | (change Exists _)
    all_goals try dsimp only at *
    all_goals try exact absurd ‹(1000 : Int64) = 0› (by decide)
    all_goals first
      | exact h _
      | omega
      | (rw [l201]; omega)
  · exact h.elim
theorem dX8_keep_0 : decode cX8_keep 0 = .ok (.iconst 0, 1) := by decide +kernel
theorem dX8_keep_1 : decode cX8_keep 1 = .ok (.istore_n 1, 1) := by decide +kernel
theorem dX8_keep_2 : decode cX8_keep 2 = .ok (.iload_n 1, 1) := by decide +kernel
theorem dX8_keep_3 : decode cX8_keep 3 = .ok (.bipush 30, 2) := by decide +kernel
theorem dX8_keep_5 : decode cX8_keep 5 = .ok (.if_icmp .ge 33, 3) := by decide +kernel
theorem dX8_keep_8 : decode cX8_keep 8 = .ok (.aload_n 0, 1) := by decide +kernel
theorem dX8_keep_9 : decode cX8_keep 9 = .ok (.getfield 51, 3) := by decide +kernel
theorem dX8_keep_12 : decode cX8_keep 12 = .ok (.iload_n 1, 1) := by decide +kernel
theorem dX8_keep_13 : decode cX8_keep 13 = .ok (.aload_n 0, 1) := by decide +kernel
theorem dX8_keep_14 : decode cX8_keep 14 = .ok (.getfield 30, 3) := by decide +kernel
theorem dX8_keep_17 : decode cX8_keep 17 = .ok (.iload_n 1, 1) := by decide +kernel
theorem dX8_keep_18 : decode cX8_keep 18 = .ok (.laload, 1) := by decide +kernel
theorem dX8_keep_19 : decode cX8_keep 19 = .ok (.lastore, 1) := by decide +kernel
theorem dX8_keep_20 : decode cX8_keep 20 = .ok (.aload_n 0, 1) := by decide +kernel
theorem dX8_keep_21 : decode cX8_keep 21 = .ok (.getfield 54, 3) := by decide +kernel
theorem dX8_keep_24 : decode cX8_keep 24 = .ok (.iload_n 1, 1) := by decide +kernel
theorem dX8_keep_25 : decode cX8_keep 25 = .ok (.aload_n 0, 1) := by decide +kernel
theorem dX8_keep_26 : decode cX8_keep 26 = .ok (.getfield 48, 3) := by decide +kernel
theorem dX8_keep_29 : decode cX8_keep 29 = .ok (.iload_n 1, 1) := by decide +kernel
theorem dX8_keep_30 : decode cX8_keep 30 = .ok (.baload, 1) := by decide +kernel
theorem dX8_keep_31 : decode cX8_keep 31 = .ok (.bastore, 1) := by decide +kernel
theorem dX8_keep_32 : decode cX8_keep 32 = .ok (.iinc 1 1, 3) := by decide +kernel
theorem dX8_keep_35 : decode cX8_keep 35 = .ok (.goto (-33), 3) := by decide +kernel
theorem dX8_keep_38 : decode cX8_keep 38 = .ok (.return_, 1) := by decide +kernel
def kX8_keep (live : am_E) (Ret : am_R) : am_code := [(0, am_const (.int 0) 1), (1, am_istore 1 2 2), (2, am_iload 1 3), (3, am_const (.int 30) 5), (5, am_if2 (fun x y => y ≤ x) 38 8), (8, am_aload 0 9), (9, am_getR live 8 23 12), (12, am_iload 1 13), (13, am_aload 0 14), (14, am_getR live 8 15 17), (17, am_iload 1 18), (18, am_lald live 1 19), (19, am_last live 1 20), (20, am_aload 0 21), (21, am_getR live 8 24 24), (24, am_iload 1 25), (25, am_aload 0 26), (26, am_getR live 8 21 29), (29, am_iload 1 30), (30, am_ald live 2 31), (31, am_zst live 2 32), (32, am_iinc 1 2 1 35), (35, am_goto 2), (38, am_retV Ret)]
theorem koX8_keep (live : am_E) (Ret : am_R) : ∀ q ∈ kX8_keep live Ret, am_ok RX8 cX8_keep 2 none 0 0 live Ret q.1 q.2 :=
  am_kc (ak_iconst dX8_keep_0 (by decide +kernel) rfl) <|
  am_kc (ak_istore_n dX8_keep_1 rfl rfl) <|
  am_kc (ak_iload_n dX8_keep_2 rfl rfl) <|
  am_kc (ak_bipush dX8_keep_3 (by decide +kernel) rfl) <|
  am_kc (ak_icmp_ge dX8_keep_5 (by decide +kernel) rfl) <|
  am_kc (ak_aload_n dX8_keep_8 rfl rfl) <|
  am_kc (ak_getR (C := RX8) (T := TX8) (N := 27) rfl inX8w (by decide) rfl rfl rfl wd_918 dX8_keep_9 rfl) <|
  am_kc (ak_iload_n dX8_keep_12 rfl rfl) <|
  am_kc (ak_aload_n dX8_keep_13 rfl rfl) <|
  am_kc (ak_getR (C := RX8) (T := TX8) (N := 27) rfl inX8w (by decide) rfl rfl rfl wd_910 dX8_keep_14 rfl) <|
  am_kc (ak_iload_n dX8_keep_17 rfl rfl) <|
  am_kc (ak_lald (t := 1) (fun _ => rfl) rfl dX8_keep_18 rfl) <|
  am_kc (ak_last (t := 1) (fun _ => rfl) rfl dX8_keep_19 rfl) <|
  am_kc (ak_aload_n dX8_keep_20 rfl rfl) <|
  am_kc (ak_getR (C := RX8) (T := TX8) (N := 27) rfl inX8w (by decide) rfl rfl rfl wd_919 dX8_keep_21 rfl) <|
  am_kc (ak_iload_n dX8_keep_24 rfl rfl) <|
  am_kc (ak_aload_n dX8_keep_25 rfl rfl) <|
  am_kc (ak_getR (C := RX8) (T := TX8) (N := 27) rfl inX8w (by decide) rfl rfl rfl wd_916 dX8_keep_26 rfl) <|
  am_kc (ak_iload_n dX8_keep_29 rfl rfl) <|
  am_kc (ak_zald (t := 2) (fun _ => rfl) rfl dX8_keep_30 rfl) <|
  am_kc (ak_zast (t := 2) (fun _ => rfl) rfl dX8_keep_31 rfl) <|
  am_kc (ak_iinc dX8_keep_32 (by decide +kernel) rfl) <|
  am_kc (ak_goto dX8_keep_35 (by decide +kernel)) <|
  am_kc (ak_retV dX8_keep_38) <| am_kn
def TX8_keep : am_T := fun live as M R => match as with
  | [.ref n] => am_mn live ∧ n = 200 ∧ r_I M ∧ ∀ M', r_sc M M' → r_I M' → R none M'
  | _ => False
def JX8_keep : am_E → List Value → am_M → am_R → am_inv := fun live as M0 _ pc => match as with
  | [.ref n] => (match pc with
    | 2 => some ([0, 1], fun k L st M => ∃ i : Int32, L = [(0, .ref 200), (1, .int i)] ∧ st = [] ∧ k = ((31 - i.toInt).toNat, 0) ∧ 0 ≤ i.toInt ∧ r_sc M0 M ∧ r_I M)
    | _ => none)
  | _ => none
set_option maxRecDepth 100000 in
set_option maxHeartbeats 4000000 in
theorem metX8_keep : am_Met yX8_keep cX8_keep 2 none (0) (0) TX8_keep := by
  refine am_met (own := RX8) (by decide +kernel) rfl kX8_keep koX8_keep 100 JX8_keep ?_ ?_
  · intro live as M Ret h
    unfold TX8_keep at h
    split at h
    · next n =>
      refine ⟨Nat.le_of_ble_eq_true rfl, ?_⟩
      change am_wp _ _ _ _ [(0, Value.ref n)] _ _
      obtain ⟨hmn, rfl, hR, h⟩ := h
      repeat' (first | apply And.intro | exact rfl | intro hx | (refine Exists.intro _ (And.intro rfl ?_)))
      all_goals try first | (with_reducible change am_tI _ _) | (change Ret _ _) | (change Ret _ _ _) | (change Exists _)
      all_goals try dsimp only at *
      all_goals try exact absurd ‹(1000 : Int64) = 0› (by decide)
      exact ⟨_, _, rfl, rfl, rfl, by decide, r_sc.rf, hR⟩
    · exact h.elim
  · intro live as M0 Ret h k pc I hI L st M hi
    unfold TX8_keep at h
    split at h
    · next n =>
      obtain ⟨hmn, rfl, hR, h⟩ := h
      obtain ⟨i1, i2, rfl⟩ := hmn
      change (match pc with | 2 => _ | _ => none) = _ at hI
      split at hI
      · cases hI
        obtain ⟨i, rfl, rfl, rfl, e1, e2, e3⟩ := hi
        by_cases hz : (30 : Int32) ≤ i
        · skip
          repeat' (first | apply And.intro | exact rfl | (intro hx; with_reducible exact absurd hz hx) | intro hx | (refine Exists.intro _ (And.intro rfl ?_)))
          all_goals try first | (with_reducible change am_tI _ _) | (change Ret _ _) | (change Ret _ _ _) | (change Exists _)
          all_goals try dsimp only at *
          all_goals try exact absurd ‹(1000 : Int64) = 0› (by decide)
          exact h _ e2 e3
        · have hz2 := hz
          simp only [i_le, Int32.reduceToInt] at hz2
          have hi := i_inc (x := i) (by omega) (by omega)
          have x2 : i.toInt < ((30 : Nat) : Int) := by omega
          repeat' (first | (with_reducible exact e1) | apply And.intro | exact rfl | (intro hx; with_reducible exact absurd hx hz) | intro hx | (refine Exists.intro _ (And.intro rfl ?_)))
          all_goals try first | (with_reducible change am_tI _ _) | (change Ret _ _) | (change Ret _ _ _) | (change Exists _)
          all_goals try dsimp only at *
          all_goals try exact absurd ‹(1000 : Int64) = 0› (by decide)
          all_goals first
            | exact x2
            | exact ⟨_, am_lt_l (by omega), _, rfl, rfl, rfl, by omega, by (repeat' (first | (with_reducible exact r_sc.rf) | (with_reducible assumption) | ((with_reducible change r_sc _ (am_wI _ _ _ _)); refine r_sc.wI ?_ rfl) | ((with_reducible change r_sc _ (am_wJ _ _ _ _)); refine r_sc.wJ ?_ rfl) | (refine r_sc.tr ?_ (by with_reducible assumption)))), by (repeat' (first | (with_reducible assumption) | ((with_reducible change r_I (am_wJ _ _ _ _)); refine r_I.wJ ?_) | ((with_reducible change r_I (am_wI _ _ _ _)); refine r_I.wI ?_ rfl)))⟩
            | skip
      · cases hI
    · exact h.elim
theorem dX8_back_0 : decode cX8_back 0 = .ok (.iconst 0, 1) := by decide +kernel
theorem dX8_back_1 : decode cX8_back 1 = .ok (.istore_n 1, 1) := by decide +kernel
theorem dX8_back_2 : decode cX8_back 2 = .ok (.iload_n 1, 1) := by decide +kernel
theorem dX8_back_3 : decode cX8_back 3 = .ok (.bipush 30, 2) := by decide +kernel
theorem dX8_back_5 : decode cX8_back 5 = .ok (.if_icmp .ge 33, 3) := by decide +kernel
theorem dX8_back_8 : decode cX8_back 8 = .ok (.aload_n 0, 1) := by decide +kernel
theorem dX8_back_9 : decode cX8_back 9 = .ok (.getfield 30, 3) := by decide +kernel
theorem dX8_back_12 : decode cX8_back 12 = .ok (.iload_n 1, 1) := by decide +kernel
theorem dX8_back_13 : decode cX8_back 13 = .ok (.aload_n 0, 1) := by decide +kernel
theorem dX8_back_14 : decode cX8_back 14 = .ok (.getfield 51, 3) := by decide +kernel
theorem dX8_back_17 : decode cX8_back 17 = .ok (.iload_n 1, 1) := by decide +kernel
theorem dX8_back_18 : decode cX8_back 18 = .ok (.laload, 1) := by decide +kernel
theorem dX8_back_19 : decode cX8_back 19 = .ok (.lastore, 1) := by decide +kernel
theorem dX8_back_20 : decode cX8_back 20 = .ok (.aload_n 0, 1) := by decide +kernel
theorem dX8_back_21 : decode cX8_back 21 = .ok (.getfield 48, 3) := by decide +kernel
theorem dX8_back_24 : decode cX8_back 24 = .ok (.iload_n 1, 1) := by decide +kernel
theorem dX8_back_25 : decode cX8_back 25 = .ok (.aload_n 0, 1) := by decide +kernel
theorem dX8_back_26 : decode cX8_back 26 = .ok (.getfield 54, 3) := by decide +kernel
theorem dX8_back_29 : decode cX8_back 29 = .ok (.iload_n 1, 1) := by decide +kernel
theorem dX8_back_30 : decode cX8_back 30 = .ok (.baload, 1) := by decide +kernel
theorem dX8_back_31 : decode cX8_back 31 = .ok (.bastore, 1) := by decide +kernel
theorem dX8_back_32 : decode cX8_back 32 = .ok (.iinc 1 1, 3) := by decide +kernel
theorem dX8_back_35 : decode cX8_back 35 = .ok (.goto (-33), 3) := by decide +kernel
theorem dX8_back_38 : decode cX8_back 38 = .ok (.return_, 1) := by decide +kernel
def kX8_back (live : am_E) (Ret : am_R) : am_code := [(0, am_const (.int 0) 1), (1, am_istore 1 2 2), (2, am_iload 1 3), (3, am_const (.int 30) 5), (5, am_if2 (fun x y => y ≤ x) 38 8), (8, am_aload 0 9), (9, am_getR live 8 15 12), (12, am_iload 1 13), (13, am_aload 0 14), (14, am_getR live 8 23 17), (17, am_iload 1 18), (18, am_lald live 1 19), (19, am_last live 1 20), (20, am_aload 0 21), (21, am_getR live 8 21 24), (24, am_iload 1 25), (25, am_aload 0 26), (26, am_getR live 8 24 29), (29, am_iload 1 30), (30, am_ald live 2 31), (31, am_zst live 2 32), (32, am_iinc 1 2 1 35), (35, am_goto 2), (38, am_retV Ret)]
theorem koX8_back (live : am_E) (Ret : am_R) : ∀ q ∈ kX8_back live Ret, am_ok RX8 cX8_back 2 none 0 0 live Ret q.1 q.2 :=
  am_kc (ak_iconst dX8_back_0 (by decide +kernel) rfl) <|
  am_kc (ak_istore_n dX8_back_1 rfl rfl) <|
  am_kc (ak_iload_n dX8_back_2 rfl rfl) <|
  am_kc (ak_bipush dX8_back_3 (by decide +kernel) rfl) <|
  am_kc (ak_icmp_ge dX8_back_5 (by decide +kernel) rfl) <|
  am_kc (ak_aload_n dX8_back_8 rfl rfl) <|
  am_kc (ak_getR (C := RX8) (T := TX8) (N := 27) rfl inX8w (by decide) rfl rfl rfl wd_910 dX8_back_9 rfl) <|
  am_kc (ak_iload_n dX8_back_12 rfl rfl) <|
  am_kc (ak_aload_n dX8_back_13 rfl rfl) <|
  am_kc (ak_getR (C := RX8) (T := TX8) (N := 27) rfl inX8w (by decide) rfl rfl rfl wd_918 dX8_back_14 rfl) <|
  am_kc (ak_iload_n dX8_back_17 rfl rfl) <|
  am_kc (ak_lald (t := 1) (fun _ => rfl) rfl dX8_back_18 rfl) <|
  am_kc (ak_last (t := 1) (fun _ => rfl) rfl dX8_back_19 rfl) <|
  am_kc (ak_aload_n dX8_back_20 rfl rfl) <|
  am_kc (ak_getR (C := RX8) (T := TX8) (N := 27) rfl inX8w (by decide) rfl rfl rfl wd_916 dX8_back_21 rfl) <|
  am_kc (ak_iload_n dX8_back_24 rfl rfl) <|
  am_kc (ak_aload_n dX8_back_25 rfl rfl) <|
  am_kc (ak_getR (C := RX8) (T := TX8) (N := 27) rfl inX8w (by decide) rfl rfl rfl wd_919 dX8_back_26 rfl) <|
  am_kc (ak_iload_n dX8_back_29 rfl rfl) <|
  am_kc (ak_zald (t := 2) (fun _ => rfl) rfl dX8_back_30 rfl) <|
  am_kc (ak_zast (t := 2) (fun _ => rfl) rfl dX8_back_31 rfl) <|
  am_kc (ak_iinc dX8_back_32 (by decide +kernel) rfl) <|
  am_kc (ak_goto dX8_back_35 (by decide +kernel)) <|
  am_kc (ak_retV dX8_back_38) <| am_kn
def TX8_back : am_T := fun live as M R => match as with
  | [.ref n] => am_mn live ∧ n = 200 ∧ r_I M ∧ ∀ M', r_sc M M' → r_I M' → R none M'
  | _ => False
def JX8_back : am_E → List Value → am_M → am_R → am_inv := fun live as M0 _ pc => match as with
  | [.ref n] => (match pc with
    | 2 => some ([0, 1], fun k L st M => ∃ i : Int32, L = [(0, .ref 200), (1, .int i)] ∧ st = [] ∧ k = ((31 - i.toInt).toNat, 0) ∧ 0 ≤ i.toInt ∧ r_sc M0 M ∧ r_I M)
    | _ => none)
  | _ => none
set_option maxRecDepth 100000 in
set_option maxHeartbeats 4000000 in
theorem metX8_back : am_Met yX8_back cX8_back 2 none (0) (0) TX8_back := by
  refine am_met (own := RX8) (by decide +kernel) rfl kX8_back koX8_back 100 JX8_back ?_ ?_
  · intro live as M Ret h
    unfold TX8_back at h
    split at h
    · next n =>
      refine ⟨Nat.le_of_ble_eq_true rfl, ?_⟩
      change am_wp _ _ _ _ [(0, Value.ref n)] _ _
      obtain ⟨hmn, rfl, hR, h⟩ := h
      repeat' (first | apply And.intro | exact rfl | intro hx | (refine Exists.intro _ (And.intro rfl ?_)))
      all_goals try first | (with_reducible change am_tI _ _) | (change Ret _ _) | (change Ret _ _ _) | (change Exists _)
      all_goals try dsimp only at *
      all_goals try exact absurd ‹(1000 : Int64) = 0› (by decide)
      exact ⟨_, _, rfl, rfl, rfl, by decide, r_sc.rf, hR⟩
    · exact h.elim
  · intro live as M0 Ret h k pc I hI L st M hi
    unfold TX8_back at h
    split at h
    · next n =>
      obtain ⟨hmn, rfl, hR, h⟩ := h
      obtain ⟨i1, i2, rfl⟩ := hmn
      change (match pc with | 2 => _ | _ => none) = _ at hI
      split at hI
      · cases hI
        obtain ⟨i, rfl, rfl, rfl, e1, e2, e3⟩ := hi
        by_cases hz : (30 : Int32) ≤ i
        · skip
          repeat' (first | apply And.intro | exact rfl | (intro hx; with_reducible exact absurd hz hx) | intro hx | (refine Exists.intro _ (And.intro rfl ?_)))
          all_goals try first | (with_reducible change am_tI _ _) | (change Ret _ _) | (change Ret _ _ _) | (change Exists _)
          all_goals try dsimp only at *
          all_goals try exact absurd ‹(1000 : Int64) = 0› (by decide)
          exact h _ e2 e3
        · have hz2 := hz
          simp only [i_le, Int32.reduceToInt] at hz2
          have hi := i_inc (x := i) (by omega) (by omega)
          have x2 : i.toInt < ((30 : Nat) : Int) := by omega
          repeat' (first | (with_reducible exact e1) | apply And.intro | exact rfl | (intro hx; with_reducible exact absurd hx hz) | intro hx | (refine Exists.intro _ (And.intro rfl ?_)))
          all_goals try first | (with_reducible change am_tI _ _) | (change Ret _ _) | (change Ret _ _ _) | (change Exists _)
          all_goals try dsimp only at *
          all_goals try exact absurd ‹(1000 : Int64) = 0› (by decide)
          all_goals first
            | exact x2
            | exact ⟨_, am_lt_l (by omega), _, rfl, rfl, rfl, by omega, by (repeat' (first | (with_reducible exact r_sc.rf) | (with_reducible assumption) | ((with_reducible change r_sc _ (am_wI _ _ _ _)); refine r_sc.wI ?_ rfl) | ((with_reducible change r_sc _ (am_wJ _ _ _ _)); refine r_sc.wJ ?_ rfl) | (refine r_sc.tr ?_ (by with_reducible assumption)))), by (repeat' (first | (with_reducible assumption) | ((with_reducible change r_I (am_wJ _ _ _ _)); refine r_I.wJ ?_) | ((with_reducible change r_I (am_wI _ _ _ _)); refine r_I.wI ?_ rfl)))⟩
            | skip
      · cases hI
    · exact h.elim
theorem dX8_force_0 : decode cX8_force 0 = .ok (.iload_n 1, 1) := by decide +kernel
theorem dX8_force_1 : decode cX8_force 1 = .ok (.invokestatic 104, 3) := by decide +kernel
theorem dX8_force_4 : decode cX8_force 4 = .ok (.ifCond .eq 38, 3) := by decide +kernel
theorem dX8_force_7 : decode cX8_force 7 = .ok (.iload_n 2, 1) := by decide +kernel
theorem dX8_force_8 : decode cX8_force 8 = .ok (.invokestatic 107, 3) := by decide +kernel
theorem dX8_force_11 : decode cX8_force 11 = .ok (.ifCond .eq 31, 3) := by decide +kernel
theorem dX8_force_14 : decode cX8_force 14 = .ok (.aload_n 0, 1) := by decide +kernel
theorem dX8_force_15 : decode cX8_force 15 = .ok (.iload_n 3, 1) := by decide +kernel
theorem dX8_force_16 : decode cX8_force 16 = .ok (.invokevirtual 76, 3) := by decide +kernel
theorem dX8_force_19 : decode cX8_force 19 = .ok (.ifCond .eq 23, 3) := by decide +kernel
theorem dX8_force_22 : decode cX8_force 22 = .ok (.iload 4, 2) := by decide +kernel
theorem dX8_force_24 : decode cX8_force 24 = .ok (.invokestatic 72, 3) := by decide +kernel
theorem dX8_force_27 : decode cX8_force 27 = .ok (.ifCond .eq 15, 3) := by decide +kernel
theorem dX8_force_30 : decode cX8_force 30 = .ok (.aload_n 0, 1) := by decide +kernel
theorem dX8_force_31 : decode cX8_force 31 = .ok (.iload_n 1, 1) := by decide +kernel
theorem dX8_force_32 : decode cX8_force 32 = .ok (.iload_n 2, 1) := by decide +kernel
theorem dX8_force_33 : decode cX8_force 33 = .ok (.iload_n 3, 1) := by decide +kernel
theorem dX8_force_34 : decode cX8_force 34 = .ok (.iload 4, 2) := by decide +kernel
theorem dX8_force_36 : decode cX8_force 36 = .ok (.invokevirtual 127, 3) := by decide +kernel
theorem dX8_force_39 : decode cX8_force 39 = .ok (.goto 5, 3) := by decide +kernel
theorem dX8_force_42 : decode cX8_force 42 = .ok (.bipush (-2), 2) := by decide +kernel
theorem dX8_force_44 : decode cX8_force 44 = .ok (.ireturn, 1) := by decide +kernel
def kX8_force (live : am_E) (Ret : am_R) : am_code := [(0, am_iload 1 1), (1, am_callS live 1 TX8_isPlan 4), (4, am_if1 (fun x => x = 0) 42 7), (7, am_iload 2 8), (8, am_callS live 1 TX8_isWhat 11), (11, am_if1 (fun x => x = 0) 42 14), (14, am_aload 0 15), (15, am_iload 3 16), (16, am_callV live 8 1 TX8_isPerson 19), (19, am_if1 (fun x => x = 0) 42 22), (22, am_iload 4 24), (24, am_callS live 1 TX8_isYear 27), (27, am_if1 (fun x => x = 0) 42 30), (30, am_aload 0 31), (31, am_iload 1 32), (32, am_iload 2 33), (33, am_iload 3 34), (34, am_iload 4 36), (36, am_callV live 8 4 TX8_inForce 39), (39, am_goto 44), (42, am_const (.int (-2)) 44), (44, am_retI Ret)]
theorem koX8_force (live : am_E) (Ret : am_R) : ∀ q ∈ kX8_force live Ret, am_ok RX8 cX8_force 5 (some .int) 2 53 live Ret q.1 q.2 :=
  am_kc (ak_iload_n dX8_force_0 rfl rfl) <|
  am_kc (ak_callS metX8_isPlan ⟨rfl, by decide +kernel, by decide +kernel, by decide +kernel⟩ (am_w4 wd_1034 wd_1035 wd_67 wd_1036) (by decide) dX8_force_1 rfl) <|
  am_kc (ak_if_eq dX8_force_4 (by decide +kernel) rfl) <|
  am_kc (ak_iload_n dX8_force_7 rfl rfl) <|
  am_kc (ak_callS metX8_isWhat ⟨rfl, by decide +kernel, by decide +kernel, by decide +kernel⟩ (am_w4 wd_1038 wd_1039 wd_67 wd_1040) (by decide) dX8_force_8 rfl) <|
  am_kc (ak_if_eq dX8_force_11 (by decide +kernel) rfl) <|
  am_kc (ak_aload_n dX8_force_14 rfl rfl) <|
  am_kc (ak_iload_n dX8_force_15 rfl rfl) <|
  am_kc (ak_callV (C := RX8) (F := TX8) (N := 27) metX8_isPerson rfl ⟨rfl, by decide +kernel, by decide +kernel, by decide +kernel⟩ (am_w5 wd_993 wd_995 wd_27 wd_67 wd_996) (by decide) dX8_force_16 rfl) <|
  am_kc (ak_if_eq dX8_force_19 (by decide +kernel) rfl) <|
  am_kc (ak_iload dX8_force_22 rfl) <|
  am_kc (ak_callS metX8_isYear ⟨rfl, by decide +kernel, by decide +kernel, by decide +kernel⟩ (am_w4 wd_982 wd_983 wd_67 wd_984) (by decide) dX8_force_24 rfl) <|
  am_kc (ak_if_eq dX8_force_27 (by decide +kernel) rfl) <|
  am_kc (ak_aload_n dX8_force_30 rfl rfl) <|
  am_kc (ak_iload_n dX8_force_31 rfl rfl) <|
  am_kc (ak_iload_n dX8_force_32 rfl rfl) <|
  am_kc (ak_iload_n dX8_force_33 rfl rfl) <|
  am_kc (ak_iload dX8_force_34 rfl) <|
  am_kc (ak_callV (C := RX8) (F := TX8) (N := 27) metX8_inForce rfl ⟨rfl, by decide +kernel, by decide +kernel, by decide +kernel⟩ (am_w5 wd_1053 wd_1055 wd_29 wd_67 wd_1056) (by decide) dX8_force_36 rfl) <|
  am_kc (ak_goto dX8_force_39 (by decide +kernel)) <|
  am_kc (ak_bipush dX8_force_42 (by decide +kernel) rfl) <|
  am_kc (ak_retI dX8_force_44) <| am_kn
def TX8_force : am_T := fun live as M R => match as with
  | [.ref n, .int pl, .int w, .int p, .int y] => am_mn live ∧ n = 200 ∧ r_I M ∧ ∀ v M', r_sc M M' → r_I M' → R (some (.int v)) M'
  | _ => False
set_option maxRecDepth 100000 in
set_option maxHeartbeats 4000000 in
theorem metX8_force : am_Met yX8_force cX8_force 5 (some .int) (2) (53) TX8_force := by
  refine am_met (own := RX8) (by decide +kernel) rfl kX8_force koX8_force 150 (fun _ _ _ _ _ => none) (fun live as M Ret h => ?_) (fun _ _ _ _ _ _ _ _ hI => by cases hI)
  unfold TX8_force at h
  split at h
  · next n pl w p y =>
    refine ⟨Nat.le_of_ble_eq_true rfl, ?_⟩
    change am_wp _ _ _ _ [(0, Value.ref n), (1, Value.int pl), (2, Value.int w), (3, Value.int p), (4, Value.int y)] _ _
    obtain ⟨hmn, rfl, hR, h⟩ := h
    have hmn2 := hmn
    obtain ⟨i1, i2, rfl⟩ := hmn2
    have l201 : am_len 201 = 3760 := rfl
    have n0 := hR.n0
    have n1 := hR.n1
    have n030 : 0 ≤ (M.1 201 0).toInt ∧ (M.1 201 0).toInt ≤ 30 := ⟨n0.1, by omega⟩
    by_cases z0 : 0 ≤ pl ∧ pl < 5
    rotate_left
    · skip
      have q0 : (if 0 ≤ pl ∧ pl < 5 then (1 : Int32) else 0) = 0 := if_neg z0
      repeat' (first | (with_reducible exact hmn) | (with_reducible exact n030) | (with_reducible exact n1) | apply And.intro | exact rfl | (intro hx; with_reducible exact absurd q0 hx) | (intro hx; exact absurd hx (by decide)) | (intro hx; exact absurd (by decide) hx) | decide | intro hx | (refine Exists.intro _ (And.intro rfl ?_)))
      all_goals try first | (with_reducible change am_tI _ _) | (change Ret _ _) | (change Ret _ _ _) | (change Exists _)
      all_goals try dsimp only at *
      all_goals try exact absurd ‹(1000 : Int64) = 0› (by decide)
      all_goals exact h _ _ r_sc.rf hR
    · skip
      have q0 : ¬ ((if 0 ≤ pl ∧ pl < 5 then (1 : Int32) else 0) = 0) := by rw [if_pos z0]; decide
      by_cases z1 : 0 ≤ w ∧ w < 6
      rotate_left
      · skip
        have q1 : (if 0 ≤ w ∧ w < 6 then (1 : Int32) else 0) = 0 := if_neg z1
        repeat' (first | (with_reducible exact hmn) | (with_reducible exact n030) | (with_reducible exact n1) | apply And.intro | exact rfl | (intro hx; with_reducible exact absurd hx q0) | (intro hx; with_reducible exact absurd q1 hx) | (intro hx; exact absurd hx (by decide)) | (intro hx; exact absurd (by decide) hx) | decide | intro hx | (refine Exists.intro _ (And.intro rfl ?_)))
        all_goals try first | (with_reducible change am_tI _ _) | (change Ret _ _) | (change Ret _ _ _) | (change Exists _)
        all_goals try dsimp only at *
        all_goals try exact absurd ‹(1000 : Int64) = 0› (by decide)
        all_goals exact h _ _ r_sc.rf hR
      · skip
        have q1 : ¬ ((if 0 ≤ w ∧ w < 6 then (1 : Int32) else 0) = 0) := by rw [if_pos z1]; decide
        by_cases z2 : 0 ≤ p ∧ p < M.1 201 0
        rotate_left
        · skip
          have q2 : (if 0 ≤ p ∧ p < M.1 201 0 then (1 : Int32) else 0) = 0 := if_neg z2
          repeat' (first | (with_reducible exact hmn) | (with_reducible exact n030) | (with_reducible exact n1) | apply And.intro | exact rfl | (intro hx; with_reducible exact absurd hx q0) | (intro hx; with_reducible exact absurd hx q1) | (intro hx; with_reducible exact absurd q2 hx) | (intro hx; exact absurd hx (by decide)) | (intro hx; exact absurd (by decide) hx) | decide | intro hx | (refine Exists.intro _ (And.intro rfl ?_)))
          all_goals try first | (with_reducible change am_tI _ _) | (change Ret _ _) | (change Ret _ _ _) | (change Exists _)
          all_goals try dsimp only at *
          all_goals try exact absurd ‹(1000 : Int64) = 0› (by decide)
          all_goals exact h _ _ r_sc.rf hR
        · skip
          have q2 : ¬ ((if 0 ≤ p ∧ p < M.1 201 0 then (1 : Int32) else 0) = 0) := by rw [if_pos z2]; decide
          by_cases z3 : 0 ≤ y ∧ y < 40
          rotate_left
          · skip
            have q3 : (if 0 ≤ y ∧ y < 40 then (1 : Int32) else 0) = 0 := if_neg z3
            repeat' (first | (with_reducible exact hmn) | (with_reducible exact n030) | (with_reducible exact n1) | apply And.intro | exact rfl | (intro hx; with_reducible exact absurd hx q0) | (intro hx; with_reducible exact absurd hx q1) | (intro hx; with_reducible exact absurd hx q2) | (intro hx; with_reducible exact absurd q3 hx) | (intro hx; exact absurd hx (by decide)) | (intro hx; exact absurd (by decide) hx) | decide | intro hx | (refine Exists.intro _ (And.intro rfl ?_)))
            all_goals try first | (with_reducible change am_tI _ _) | (change Ret _ _) | (change Ret _ _ _) | (change Exists _)
            all_goals try dsimp only at *
            all_goals try exact absurd ‹(1000 : Int64) = 0› (by decide)
            all_goals exact h _ _ r_sc.rf hR
          · skip
            have q3 : ¬ ((if 0 ≤ y ∧ y < 40 then (1 : Int32) else 0) = 0) := by rw [if_pos z3]; decide
            have hp : am_in p 12 := ⟨by have q := z2.1; simp only [i_le, Int32.reduceToInt] at q; omega, by have q := z2.2; simp only [i_lt] at q; omega⟩
            repeat' (first | (with_reducible exact hmn) | (with_reducible exact hR) | (with_reducible exact n030) | (with_reducible exact n1) | (with_reducible exact hp) | apply And.intro | exact rfl | (intro hx; with_reducible exact absurd hx q0) | (intro hx; with_reducible exact absurd hx q1) | (intro hx; with_reducible exact absurd hx q2) | (intro hx; with_reducible exact absurd hx q3) | ((with_reducible change r_I _); (with_reducible assumption)) | (intro hx; exact absurd hx (by decide)) | (intro hx; exact absurd (by decide) hx) | decide | intro hx | (refine Exists.intro _ (And.intro rfl ?_)))
            all_goals try first | (with_reducible change am_tI _ _) | (change Ret _ _) | (change Ret _ _ _) | (change Exists _)
            all_goals try dsimp only at *
            all_goals try exact absurd ‹(1000 : Int64) = 0› (by decide)
            all_goals first | (change r_I _; (repeat' (first | (with_reducible assumption) | ((with_reducible change r_I (am_wJ _ _ _ _)); refine r_I.wJ ?_) | ((with_reducible change r_I (am_wI _ _ _ _)); refine r_I.wI ?_ rfl)))) | ((with_reducible change Ret _ _); exact h _ _ (by (repeat' (first | (with_reducible exact r_sc.rf) | (with_reducible assumption) | ((with_reducible change r_sc _ (am_wI _ _ _ _)); refine r_sc.wI ?_ rfl) | ((with_reducible change r_sc _ (am_wJ _ _ _ _)); refine r_sc.wJ ?_ rfl) | (refine r_sc.tr ?_ (by with_reducible assumption))))) (by (repeat' (first | (with_reducible assumption) | ((with_reducible change r_I (am_wJ _ _ _ _)); refine r_I.wJ ?_) | ((with_reducible change r_I (am_wI _ _ _ _)); refine r_I.wI ?_ rfl))))) | skip
  · exact h.elim
theorem dX8_planOf_0 : decode cX8_planOf 0 = .ok (.aload_n 0, 1) := by decide +kernel
theorem dX8_planOf_1 : decode cX8_planOf 1 = .ok (.iload_n 1, 1) := by decide +kernel
theorem dX8_planOf_2 : decode cX8_planOf 2 = .ok (.invokevirtual 131, 3) := by decide +kernel
theorem dX8_planOf_5 : decode cX8_planOf 5 = .ok (.ifCond .eq 19, 3) := by decide +kernel
theorem dX8_planOf_8 : decode cX8_planOf 8 = .ok (.iload_n 2, 1) := by decide +kernel
theorem dX8_planOf_9 : decode cX8_planOf 9 = .ok (.invokestatic 72, 3) := by decide +kernel
theorem dX8_planOf_12 : decode cX8_planOf 12 = .ok (.ifCond .eq 12, 3) := by decide +kernel
theorem dX8_planOf_15 : decode cX8_planOf 15 = .ok (.aload_n 0, 1) := by decide +kernel
theorem dX8_planOf_16 : decode cX8_planOf 16 = .ok (.iload_n 1, 1) := by decide +kernel
theorem dX8_planOf_17 : decode cX8_planOf 17 = .ok (.iload_n 2, 1) := by decide +kernel
theorem dX8_planOf_18 : decode cX8_planOf 18 = .ok (.invokevirtual 141, 3) := by decide +kernel
theorem dX8_planOf_21 : decode cX8_planOf 21 = .ok (.goto 5, 3) := by decide +kernel
theorem dX8_planOf_24 : decode cX8_planOf 24 = .ok (.bipush (-2), 2) := by decide +kernel
theorem dX8_planOf_26 : decode cX8_planOf 26 = .ok (.ireturn, 1) := by decide +kernel
def kX8_planOf (live : am_E) (Ret : am_R) : am_code := [(0, am_aload 0 1), (1, am_iload 1 2), (2, am_callV live 8 1 TX8_isLoan 5), (5, am_if1 (fun x => x = 0) 24 8), (8, am_iload 2 9), (9, am_callS live 1 TX8_isYear 12), (12, am_if1 (fun x => x = 0) 24 15), (15, am_aload 0 16), (16, am_iload 1 17), (17, am_iload 2 18), (18, am_callV live 8 2 TX8_planAt 21), (21, am_goto 26), (24, am_const (.int (-2)) 26), (26, am_retI Ret)]
theorem koX8_planOf (live : am_E) (Ret : am_R) : ∀ q ∈ kX8_planOf live Ret, am_ok RX8 cX8_planOf 3 (some .int) 2 46 live Ret q.1 q.2 :=
  am_kc (ak_aload_n dX8_planOf_0 rfl rfl) <|
  am_kc (ak_iload_n dX8_planOf_1 rfl rfl) <|
  am_kc (ak_callV (C := RX8) (F := TX8) (N := 27) metX8_isLoan rfl ⟨rfl, by decide +kernel, by decide +kernel, by decide +kernel⟩ (am_w5 wd_1069 wd_1071 wd_30 wd_67 wd_1072) (by decide) dX8_planOf_2 rfl) <|
  am_kc (ak_if_eq dX8_planOf_5 (by decide +kernel) rfl) <|
  am_kc (ak_iload_n dX8_planOf_8 rfl rfl) <|
  am_kc (ak_callS metX8_isYear ⟨rfl, by decide +kernel, by decide +kernel, by decide +kernel⟩ (am_w4 wd_982 wd_983 wd_67 wd_984) (by decide) dX8_planOf_9 rfl) <|
  am_kc (ak_if_eq dX8_planOf_12 (by decide +kernel) rfl) <|
  am_kc (ak_aload_n dX8_planOf_15 rfl rfl) <|
  am_kc (ak_iload_n dX8_planOf_16 rfl rfl) <|
  am_kc (ak_iload_n dX8_planOf_17 rfl rfl) <|
  am_kc (ak_callV (C := RX8) (F := TX8) (N := 27) metX8_planAt rfl ⟨rfl, by decide +kernel, by decide +kernel, by decide +kernel⟩ (am_w5 wd_1085 wd_1087 wd_32 wd_67 wd_1088) (by decide) dX8_planOf_18 rfl) <|
  am_kc (ak_goto dX8_planOf_21 (by decide +kernel)) <|
  am_kc (ak_bipush dX8_planOf_24 (by decide +kernel) rfl) <|
  am_kc (ak_retI dX8_planOf_26) <| am_kn
def TX8_planOf : am_T := fun live as M R => match as with
  | [.ref n, .int l, .int y] => am_mn live ∧ n = 200 ∧ r_I M ∧ ∀ v M', r_sc M M' → r_I M' → R (some (.int v)) M'
  | _ => False
set_option maxRecDepth 100000 in
set_option maxHeartbeats 4000000 in
theorem metX8_planOf : am_Met yX8_planOf cX8_planOf 3 (some .int) (2) (46) TX8_planOf := by
  refine am_met (own := RX8) (by decide +kernel) rfl kX8_planOf koX8_planOf 150 (fun _ _ _ _ _ => none) (fun live as M Ret h => ?_) (fun _ _ _ _ _ _ _ _ hI => by cases hI)
  unfold TX8_planOf at h
  split at h
  · next n l y =>
    refine ⟨Nat.le_of_ble_eq_true rfl, ?_⟩
    change am_wp _ _ _ _ [(0, Value.ref n), (1, Value.int l), (2, Value.int y)] _ _
    obtain ⟨hmn, rfl, hR, h⟩ := h
    have hmn2 := hmn
    obtain ⟨i1, i2, rfl⟩ := hmn2
    have l201 : am_len 201 = 3760 := rfl
    have n0 := hR.n0
    have n1 := hR.n1
    have n030 : 0 ≤ (M.1 201 0).toInt ∧ (M.1 201 0).toInt ≤ 30 := ⟨n0.1, by omega⟩
    by_cases z0 : 0 ≤ l ∧ l < M.1 201 1
    rotate_left
    · skip
      have q0 : (if 0 ≤ l ∧ l < M.1 201 1 then (1 : Int32) else 0) = 0 := if_neg z0
      repeat' (first | (with_reducible exact hmn) | (with_reducible exact n030) | (with_reducible exact n1) | apply And.intro | exact rfl | (intro hx; with_reducible exact absurd q0 hx) | (intro hx; exact absurd hx (by decide)) | (intro hx; exact absurd (by decide) hx) | decide | intro hx | (refine Exists.intro _ (And.intro rfl ?_)))
      all_goals try first | (with_reducible change am_tI _ _) | (change Ret _ _) | (change Ret _ _ _) | (change Exists _)
      all_goals try dsimp only at *
      all_goals try exact absurd ‹(1000 : Int64) = 0› (by decide)
      all_goals exact h _ _ r_sc.rf hR
    · skip
      have q0 : ¬ ((if 0 ≤ l ∧ l < M.1 201 1 then (1 : Int32) else 0) = 0) := by rw [if_pos z0]; decide
      by_cases z1 : 0 ≤ y ∧ y < 40
      rotate_left
      · skip
        have q1 : (if 0 ≤ y ∧ y < 40 then (1 : Int32) else 0) = 0 := if_neg z1
        repeat' (first | (with_reducible exact hmn) | (with_reducible exact n030) | (with_reducible exact n1) | apply And.intro | exact rfl | (intro hx; with_reducible exact absurd hx q0) | (intro hx; with_reducible exact absurd q1 hx) | (intro hx; exact absurd hx (by decide)) | (intro hx; exact absurd (by decide) hx) | decide | intro hx | (refine Exists.intro _ (And.intro rfl ?_)))
        all_goals try first | (with_reducible change am_tI _ _) | (change Ret _ _) | (change Ret _ _ _) | (change Exists _)
        all_goals try dsimp only at *
        all_goals try exact absurd ‹(1000 : Int64) = 0› (by decide)
        all_goals exact h _ _ r_sc.rf hR
      · skip
        have q1 : ¬ ((if 0 ≤ y ∧ y < 40 then (1 : Int32) else 0) = 0) := by rw [if_pos z1]; decide
        have hl : am_in l 30 := ⟨by have q := z0.1; simp only [i_le, Int32.reduceToInt] at q; omega, by have q := z0.2; simp only [i_lt] at q; omega⟩
        repeat' (first | (with_reducible exact hmn) | (with_reducible exact hR) | (with_reducible exact n030) | (with_reducible exact n1) | (with_reducible exact hl) | apply And.intro | exact rfl | (intro hx; with_reducible exact absurd hx q0) | (intro hx; with_reducible exact absurd hx q1) | ((with_reducible change r_I _); (with_reducible assumption)) | (intro hx; exact absurd hx (by decide)) | (intro hx; exact absurd (by decide) hx) | decide | intro hx | (refine Exists.intro _ (And.intro rfl ?_)))
        all_goals try first | (with_reducible change am_tI _ _) | (change Ret _ _) | (change Ret _ _ _) | (change Exists _)
        all_goals try dsimp only at *
        all_goals try exact absurd ‹(1000 : Int64) = 0› (by decide)
        all_goals first | (change r_I _; (repeat' (first | (with_reducible assumption) | ((with_reducible change r_I (am_wJ _ _ _ _)); refine r_I.wJ ?_) | ((with_reducible change r_I (am_wI _ _ _ _)); refine r_I.wI ?_ rfl)))) | ((with_reducible change Ret _ _); exact h _ _ (by (repeat' (first | (with_reducible exact r_sc.rf) | (with_reducible assumption) | ((with_reducible change r_sc _ (am_wI _ _ _ _)); refine r_sc.wI ?_ rfl) | ((with_reducible change r_sc _ (am_wJ _ _ _ _)); refine r_sc.wJ ?_ rfl) | (refine r_sc.tr ?_ (by with_reducible assumption))))) (by (repeat' (first | (with_reducible assumption) | ((with_reducible change r_I (am_wJ _ _ _ _)); refine r_I.wJ ?_) | ((with_reducible change r_I (am_wI _ _ _ _)); refine r_I.wI ?_ rfl))))) | skip
  · exact h.elim
set_option maxRecDepth 100000 in
theorem wd_1153 : Cond.constantLong "LearnLoansModel" 237 (-2) ∈ am_ws := am_wsi (List.mem_of_getElem? (i := 1153) (by rfl)) (by decide +kernel)
set_option maxRecDepth 100000 in
theorem wd_1158 : Cond.methodLink "LearnLoansModel" 239 yX8_run ∈ am_ws := am_wsi (List.mem_of_getElem? (i := 1158) (by rfl)) (by decide +kernel)
set_option maxRecDepth 100000 in
theorem wd_1160 : Cond.instanceMethod yX8_run ∈ am_ws := am_wsi (List.mem_of_getElem? (i := 1160) (by rfl)) (by decide +kernel)
set_option maxRecDepth 100000 in
theorem wd_42 : Cond.selects "LearnLoansModel" yX8_run yX8_run ∈ am_ws := am_wsi (List.mem_of_getElem? (i := 42) (by rfl)) (by decide +kernel)
set_option maxRecDepth 100000 in
theorem wd_1161 : Cond.code yX8_run cX8_run 6 none ∈ am_ws := am_wsi (List.mem_of_getElem? (i := 1161) (by rfl)) (by decide +kernel)
theorem dX8_owes_0 : decode cX8_owes 0 = .ok (.aload_n 0, 1) := by decide +kernel
theorem dX8_owes_1 : decode cX8_owes 1 = .ok (.iload_n 1, 1) := by decide +kernel
theorem dX8_owes_2 : decode cX8_owes 2 = .ok (.invokevirtual 131, 3) := by decide +kernel
theorem dX8_owes_5 : decode cX8_owes 5 = .ok (.ifCond .eq 30, 3) := by decide +kernel
theorem dX8_owes_8 : decode cX8_owes 8 = .ok (.iload_n 2, 1) := by decide +kernel
theorem dX8_owes_9 : decode cX8_owes 9 = .ok (.invokestatic 72, 3) := by decide +kernel
theorem dX8_owes_12 : decode cX8_owes 12 = .ok (.ifCond .eq 23, 3) := by decide +kernel
theorem dX8_owes_15 : decode cX8_owes 15 = .ok (.iload_n 3, 1) := by decide +kernel
theorem dX8_owes_16 : decode cX8_owes 16 = .ok (.invokestatic 72, 3) := by decide +kernel
theorem dX8_owes_19 : decode cX8_owes 19 = .ok (.ifCond .eq 16, 3) := by decide +kernel
theorem dX8_owes_22 : decode cX8_owes 22 = .ok (.iload 4, 2) := by decide +kernel
theorem dX8_owes_24 : decode cX8_owes 24 = .ok (.i2l, 1) := by decide +kernel
theorem dX8_owes_25 : decode cX8_owes 25 = .ok (.lconst 0, 1) := by decide +kernel
theorem dX8_owes_26 : decode cX8_owes 26 = .ok (.ldc2_w 70, 3) := by decide +kernel
theorem dX8_owes_29 : decode cX8_owes 29 = .ok (.invokestatic 66, 3) := by decide +kernel
theorem dX8_owes_32 : decode cX8_owes 32 = .ok (.ifCond .ne 7, 3) := by decide +kernel
theorem dX8_owes_35 : decode cX8_owes 35 = .ok (.ldc2_w 237, 3) := by decide +kernel
theorem dX8_owes_38 : decode cX8_owes 38 = .ok (.lreturn, 1) := by decide +kernel
theorem dX8_owes_39 : decode cX8_owes 39 = .ok (.aload_n 0, 1) := by decide +kernel
theorem dX8_owes_40 : decode cX8_owes 40 = .ok (.aload_n 0, 1) := by decide +kernel
theorem dX8_owes_41 : decode cX8_owes 41 = .ok (.iload_n 1, 1) := by decide +kernel
theorem dX8_owes_42 : decode cX8_owes 42 = .ok (.iconst 0, 1) := by decide +kernel
theorem dX8_owes_43 : decode cX8_owes 43 = .ok (.invokevirtual 202, 3) := by decide +kernel
theorem dX8_owes_46 : decode cX8_owes 46 = .ok (.iload_n 2, 1) := by decide +kernel
theorem dX8_owes_47 : decode cX8_owes 47 = .ok (.iload_n 3, 1) := by decide +kernel
theorem dX8_owes_48 : decode cX8_owes 48 = .ok (.invokevirtual 239, 3) := by decide +kernel
theorem dX8_owes_51 : decode cX8_owes 51 = .ok (.aload_n 0, 1) := by decide +kernel
theorem dX8_owes_52 : decode cX8_owes 52 = .ok (.iload_n 1, 1) := by decide +kernel
theorem dX8_owes_53 : decode cX8_owes 53 = .ok (.iload 4, 2) := by decide +kernel
theorem dX8_owes_55 : decode cX8_owes 55 = .ok (.invokevirtual 233, 3) := by decide +kernel
theorem dX8_owes_58 : decode cX8_owes 58 = .ok (.lreturn, 1) := by decide +kernel
def kX8_owes (live : am_E) (Ret : am_R) : am_code := [(0, am_aload 0 1), (1, am_iload 1 2), (2, am_callV live 8 1 TX8_isLoan 5), (5, am_if1 (fun x => x = 0) 35 8), (8, am_iload 2 9), (9, am_callS live 1 TX8_isYear 12), (12, am_if1 (fun x => x = 0) 35 15), (15, am_iload 3 16), (16, am_callS live 1 TX8_isYear 19), (19, am_if1 (fun x => x = 0) 35 22), (22, am_iload 4 24), (24, am_i2l 25), (25, am_const (.long 0) 26), (26, am_const (.long 4) 29), (29, am_callS live 3 TX8_in 32), (32, am_if1 (fun x => x = 0) 35 39), (35, am_const (.long (-2)) 38), (38, am_retL Ret), (39, am_aload 0 40), (40, am_aload 0 41), (41, am_iload 1 42), (42, am_const (.int 0) 43), (43, am_callV live 8 2 TX8_ofLoan 46), (46, am_iload 2 47), (47, am_iload 3 48), (48, am_callV live 8 3 TX8_run 51), (51, am_aload 0 52), (52, am_iload 1 53), (53, am_iload 4 55), (55, am_callV live 8 2 TX8_runOf 58), (58, am_retL Ret)]
theorem koX8_owes (live : am_E) (Ret : am_R) : ∀ q ∈ kX8_owes live Ret, am_ok RX8 cX8_owes 5 (some .long) 10 253 live Ret q.1 q.2 :=
  am_kc (ak_aload_n dX8_owes_0 rfl rfl) <|
  am_kc (ak_iload_n dX8_owes_1 rfl rfl) <|
  am_kc (ak_callV (C := RX8) (F := TX8) (N := 27) metX8_isLoan rfl ⟨rfl, by decide +kernel, by decide +kernel, by decide +kernel⟩ (am_w5 wd_1069 wd_1071 wd_30 wd_67 wd_1072) (by decide) dX8_owes_2 rfl) <|
  am_kc (ak_if_eq dX8_owes_5 (by decide +kernel) rfl) <|
  am_kc (ak_iload_n dX8_owes_8 rfl rfl) <|
  am_kc (ak_callS metX8_isYear ⟨rfl, by decide +kernel, by decide +kernel, by decide +kernel⟩ (am_w4 wd_982 wd_983 wd_67 wd_984) (by decide) dX8_owes_9 rfl) <|
  am_kc (ak_if_eq dX8_owes_12 (by decide +kernel) rfl) <|
  am_kc (ak_iload_n dX8_owes_15 rfl rfl) <|
  am_kc (ak_callS metX8_isYear ⟨rfl, by decide +kernel, by decide +kernel, by decide +kernel⟩ (am_w4 wd_982 wd_983 wd_67 wd_984) (by decide) dX8_owes_16 rfl) <|
  am_kc (ak_if_eq dX8_owes_19 (by decide +kernel) rfl) <|
  am_kc (ak_iload dX8_owes_22 rfl) <|
  am_kc (ak_i2l dX8_owes_24 rfl) <|
  am_kc (ak_lconst dX8_owes_25 (by decide +kernel) rfl) <|
  am_kc (ak_ldc2 wd_1037 dX8_owes_26 rfl) <|
  am_kc (ak_callS metX8_in ⟨rfl, by decide +kernel, by decide +kernel, by decide +kernel⟩ (am_w4 wd_986 wd_987 wd_67 wd_988) (by decide) dX8_owes_29 rfl) <|
  am_kc (ak_if_ne dX8_owes_32 (by decide +kernel) rfl) <|
  am_kc (ak_ldc2 wd_1153 dX8_owes_35 rfl) <|
  am_kc (ak_retL dX8_owes_38) <|
  am_kc (ak_aload_n dX8_owes_39 rfl rfl) <|
  am_kc (ak_aload_n dX8_owes_40 rfl rfl) <|
  am_kc (ak_iload_n dX8_owes_41 rfl rfl) <|
  am_kc (ak_iconst dX8_owes_42 (by decide +kernel) rfl) <|
  am_kc (ak_callV (C := RX8) (F := TX8) (N := 27) metX8_ofLoan rfl ⟨rfl, by decide +kernel, by decide +kernel, by decide +kernel⟩ (am_w5 wd_1154 wd_1156 wd_41 wd_67 wd_1157) (by decide) dX8_owes_43 rfl) <|
  am_kc (ak_iload_n dX8_owes_46 rfl rfl) <|
  am_kc (ak_iload_n dX8_owes_47 rfl rfl) <|
  am_kc (ak_callV (C := RX8) (F := TX8) (N := 27) metX8_run rfl ⟨rfl, by decide +kernel, by decide +kernel, by decide +kernel⟩ (am_w5 wd_1158 wd_1160 wd_42 wd_67 wd_1161) (by decide) dX8_owes_48 rfl) <|
  am_kc (ak_aload_n dX8_owes_51 rfl rfl) <|
  am_kc (ak_iload_n dX8_owes_52 rfl rfl) <|
  am_kc (ak_iload dX8_owes_53 rfl) <|
  am_kc (ak_callV (C := RX8) (F := TX8) (N := 27) metX8_runOf rfl ⟨rfl, by decide +kernel, by decide +kernel, by decide +kernel⟩ (am_w5 wd_1187 wd_1189 wd_49 wd_67 wd_1190) (by decide) dX8_owes_55 rfl) <|
  am_kc (ak_retL dX8_owes_58) <| am_kn
def TX8_owes : am_T := fun live as M R => match as with
  | [.ref n, .int l, .int y, .int k, .int w] => am_mn live ∧ n = 200 ∧ r_I M ∧ ∀ v M', r_sc M M' → r_I M' → R (some (.long v)) M'
  | _ => False
set_option maxRecDepth 100000 in
set_option maxHeartbeats 4000000 in
theorem metX8_owes : am_Met yX8_owes cX8_owes 5 (some .long) (10) (253) TX8_owes := by
  refine am_met (own := RX8) (by decide +kernel) rfl kX8_owes koX8_owes 150 (fun _ _ _ _ _ => none) (fun live as M Ret h => ?_) (fun _ _ _ _ _ _ _ _ hI => by cases hI)
  unfold TX8_owes at h
  split at h
  · next n l y k w =>
    refine ⟨Nat.le_of_ble_eq_true rfl, ?_⟩
    change am_wp _ _ _ _ [(0, Value.ref n), (1, Value.int l), (2, Value.int y), (3, Value.int k), (4, Value.int w)] _ _
    obtain ⟨hmn, rfl, hR, h⟩ := h
    have hmn2 := hmn
    obtain ⟨i1, i2, rfl⟩ := hmn2
    have l201 : am_len 201 = 3760 := rfl
    have n0 := hR.n0
    have n1 := hR.n1
    have n030 : 0 ≤ (M.1 201 0).toInt ∧ (M.1 201 0).toInt ≤ 30 := ⟨n0.1, by omega⟩
    by_cases z0 : 0 ≤ l ∧ l < M.1 201 1
    rotate_left
    · skip
      have q0 : (if 0 ≤ l ∧ l < M.1 201 1 then (1 : Int32) else 0) = 0 := if_neg z0
      repeat' (first | (with_reducible exact hmn) | (with_reducible exact n030) | (with_reducible exact n1) | apply And.intro | exact rfl | (intro hx; with_reducible exact absurd q0 hx) | (intro hx; exact absurd hx (by decide)) | (intro hx; exact absurd (by decide) hx) | decide | intro hx | (refine Exists.intro _ (And.intro rfl ?_)))
      all_goals try first | (with_reducible change am_tI _ _) | (change Ret _ _) | (change Ret _ _ _) | (change Exists _)
      all_goals try dsimp only at *
      all_goals try exact absurd ‹(1000 : Int64) = 0› (by decide)
      all_goals exact h _ _ r_sc.rf hR
    · skip
      have q0 : ¬ ((if 0 ≤ l ∧ l < M.1 201 1 then (1 : Int32) else 0) = 0) := by rw [if_pos z0]; decide
      by_cases z1 : 0 ≤ y ∧ y < 40
      rotate_left
      · skip
        have q1 : (if 0 ≤ y ∧ y < 40 then (1 : Int32) else 0) = 0 := if_neg z1
        repeat' (first | (with_reducible exact hmn) | (with_reducible exact n030) | (with_reducible exact n1) | apply And.intro | exact rfl | (intro hx; with_reducible exact absurd hx q0) | (intro hx; with_reducible exact absurd q1 hx) | (intro hx; exact absurd hx (by decide)) | (intro hx; exact absurd (by decide) hx) | decide | intro hx | (refine Exists.intro _ (And.intro rfl ?_)))
        all_goals try first | (with_reducible change am_tI _ _) | (change Ret _ _) | (change Ret _ _ _) | (change Exists _)
        all_goals try dsimp only at *
        all_goals try exact absurd ‹(1000 : Int64) = 0› (by decide)
        all_goals exact h _ _ r_sc.rf hR
      · skip
        have q1 : ¬ ((if 0 ≤ y ∧ y < 40 then (1 : Int32) else 0) = 0) := by rw [if_pos z1]; decide
        by_cases z2 : 0 ≤ k ∧ k < 40
        rotate_left
        · skip
          have q2 : (if 0 ≤ k ∧ k < 40 then (1 : Int32) else 0) = 0 := if_neg z2
          repeat' (first | (with_reducible exact hmn) | (with_reducible exact n030) | (with_reducible exact n1) | apply And.intro | exact rfl | (intro hx; with_reducible exact absurd hx q0) | (intro hx; with_reducible exact absurd hx q1) | (intro hx; with_reducible exact absurd q2 hx) | (intro hx; exact absurd hx (by decide)) | (intro hx; exact absurd (by decide) hx) | decide | intro hx | (refine Exists.intro _ (And.intro rfl ?_)))
          all_goals try first | (with_reducible change am_tI _ _) | (change Ret _ _) | (change Ret _ _ _) | (change Exists _)
          all_goals try dsimp only at *
          all_goals try exact absurd ‹(1000 : Int64) = 0› (by decide)
          all_goals exact h _ _ r_sc.rf hR
        · skip
          have q2 : ¬ ((if 0 ≤ k ∧ k < 40 then (1 : Int32) else 0) = 0) := by rw [if_pos z2]; decide
          by_cases z3 : 0 ≤ w ∧ w ≤ 4
          rotate_left
          · skip
            have q3 : (if (0 : Int64) ≤ w.toInt64 ∧ w.toInt64 ≤ (4 : Int64) then (1 : Int32) else 0) = 0 := if_neg (fun r => z3 (by simp only [i_le, i_lt, j_le, Int32.toInt_toInt64, Int32.reduceToInt, Int64.reduceToInt] at r ⊢; omega))
            repeat' (first | (with_reducible exact hmn) | (with_reducible exact n030) | (with_reducible exact n1) | apply And.intro | exact rfl | (intro hx; with_reducible exact absurd hx q0) | (intro hx; with_reducible exact absurd hx q1) | (intro hx; with_reducible exact absurd hx q2) | (intro hx; with_reducible exact absurd q3 hx) | (intro hx; exact absurd hx (by decide)) | (intro hx; exact absurd (by decide) hx) | decide | intro hx | (refine Exists.intro _ (And.intro rfl ?_)))
            all_goals try first | (with_reducible change am_tI _ _) | (change Ret _ _) | (change Ret _ _ _) | (change Exists _)
            all_goals try dsimp only at *
            all_goals try exact absurd ‹(1000 : Int64) = 0› (by decide)
            all_goals exact h _ _ r_sc.rf hR
          · skip
            have q3 : ¬ ((if (0 : Int64) ≤ w.toInt64 ∧ w.toInt64 ≤ (4 : Int64) then (1 : Int32) else 0) = 0) := by rw [if_pos (by have q := z3; simp only [i_le, i_lt, j_le, Int32.toInt_toInt64, Int32.reduceToInt, Int64.reduceToInt] at q ⊢; omega)]; decide
            have hl : am_in l 30 := ⟨by have q := z0.1; simp only [i_le, Int32.reduceToInt] at q; omega, by have q := z0.2; simp only [i_lt] at q; omega⟩
            have hy : am_in y 40 := ⟨by have q := z1.1; simp only [i_le, Int32.reduceToInt] at q; omega, by have q := z1.2; simp only [i_lt, Int32.reduceToInt] at q; omega⟩
            have hp := r_pers hR hl
            have w0 : 0 ≤ (0 : Int32).toInt ∧ (0 : Int32).toInt ≤ 7 := ⟨by decide, by decide⟩
            have y39 : y.toInt ≤ 39 := by have q := hy.2; omega
            repeat' (first | (with_reducible exact hmn) | (with_reducible exact hR) | (with_reducible exact n030) | (with_reducible exact n1) | (with_reducible exact hl) | (with_reducible exact hp) | (with_reducible exact w0) | (with_reducible exact y39) | apply And.intro | exact rfl | (intro hx; with_reducible exact absurd hx q0) | (intro hx; with_reducible exact absurd hx q1) | (intro hx; with_reducible exact absurd hx q2) | (intro hx; with_reducible exact absurd hx q3) | ((with_reducible change r_I _); (with_reducible assumption)) | (intro hx; exact absurd hx (by decide)) | (intro hx; exact absurd (by decide) hx) | decide | intro hx | (refine Exists.intro _ (And.intro rfl ?_)))
            all_goals try first | (with_reducible change am_tI _ _) | (change Ret _ _) | (change Ret _ _ _) | (change Exists _)
            all_goals try dsimp only at *
            all_goals try exact absurd ‹(1000 : Int64) = 0› (by decide)
            all_goals first | (change r_I _; (repeat' (first | (with_reducible assumption) | ((with_reducible change r_I (am_wJ _ _ _ _)); refine r_I.wJ ?_) | ((with_reducible change r_I (am_wI _ _ _ _)); refine r_I.wI ?_ rfl)))) | ((with_reducible change Ret _ _); exact h _ _ (by (repeat' (first | (with_reducible exact r_sc.rf) | (with_reducible assumption) | ((with_reducible change r_sc _ (am_wI _ _ _ _)); refine r_sc.wI ?_ rfl) | ((with_reducible change r_sc _ (am_wJ _ _ _ _)); refine r_sc.wJ ?_ rfl) | (refine r_sc.tr ?_ (by with_reducible assumption))))) (by (repeat' (first | (with_reducible assumption) | ((with_reducible change r_I (am_wJ _ _ _ _)); refine r_I.wJ ?_) | ((with_reducible change r_I (am_wI _ _ _ _)); refine r_I.wI ?_ rfl))))) | skip
  · exact h.elim
set_option maxRecDepth 100000 in
theorem wd_1195 : Cond.methodLink "LearnLoansModel" 243 yX8_allOf ∈ am_ws := am_wsi (List.mem_of_getElem? (i := 1195) (by rfl)) (by decide +kernel)
set_option maxRecDepth 100000 in
theorem wd_1197 : Cond.instanceMethod yX8_allOf ∈ am_ws := am_wsi (List.mem_of_getElem? (i := 1197) (by rfl)) (by decide +kernel)
set_option maxRecDepth 100000 in
theorem wd_50 : Cond.selects "LearnLoansModel" yX8_allOf yX8_allOf ∈ am_ws := am_wsi (List.mem_of_getElem? (i := 50) (by rfl)) (by decide +kernel)
set_option maxRecDepth 100000 in
theorem wd_1198 : Cond.code yX8_allOf cX8_allOf 6 (some .long) ∈ am_ws := am_wsi (List.mem_of_getElem? (i := 1198) (by rfl)) (by decide +kernel)
theorem dX8_all_0 : decode cX8_all 0 = .ok (.aload_n 0, 1) := by decide +kernel
theorem dX8_all_1 : decode cX8_all 1 = .ok (.iload_n 1, 1) := by decide +kernel
theorem dX8_all_2 : decode cX8_all 2 = .ok (.invokevirtual 76, 3) := by decide +kernel
theorem dX8_all_5 : decode cX8_all 5 = .ok (.ifCond .eq 30, 3) := by decide +kernel
theorem dX8_all_8 : decode cX8_all 8 = .ok (.iload_n 2, 1) := by decide +kernel
theorem dX8_all_9 : decode cX8_all 9 = .ok (.invokestatic 72, 3) := by decide +kernel
theorem dX8_all_12 : decode cX8_all 12 = .ok (.ifCond .eq 23, 3) := by decide +kernel
theorem dX8_all_15 : decode cX8_all 15 = .ok (.iload_n 3, 1) := by decide +kernel
theorem dX8_all_16 : decode cX8_all 16 = .ok (.invokestatic 72, 3) := by decide +kernel
theorem dX8_all_19 : decode cX8_all 19 = .ok (.ifCond .eq 16, 3) := by decide +kernel
theorem dX8_all_22 : decode cX8_all 22 = .ok (.iload 4, 2) := by decide +kernel
theorem dX8_all_24 : decode cX8_all 24 = .ok (.i2l, 1) := by decide +kernel
theorem dX8_all_25 : decode cX8_all 25 = .ok (.lconst 0, 1) := by decide +kernel
theorem dX8_all_26 : decode cX8_all 26 = .ok (.ldc2_w 70, 3) := by decide +kernel
theorem dX8_all_29 : decode cX8_all 29 = .ok (.invokestatic 66, 3) := by decide +kernel
theorem dX8_all_32 : decode cX8_all 32 = .ok (.ifCond .ne 7, 3) := by decide +kernel
theorem dX8_all_35 : decode cX8_all 35 = .ok (.ldc2_w 237, 3) := by decide +kernel
theorem dX8_all_38 : decode cX8_all 38 = .ok (.lreturn, 1) := by decide +kernel
theorem dX8_all_39 : decode cX8_all 39 = .ok (.aload_n 0, 1) := by decide +kernel
theorem dX8_all_40 : decode cX8_all 40 = .ok (.iload_n 1, 1) := by decide +kernel
theorem dX8_all_41 : decode cX8_all 41 = .ok (.iload_n 2, 1) := by decide +kernel
theorem dX8_all_42 : decode cX8_all 42 = .ok (.iload_n 3, 1) := by decide +kernel
theorem dX8_all_43 : decode cX8_all 43 = .ok (.invokevirtual 239, 3) := by decide +kernel
theorem dX8_all_46 : decode cX8_all 46 = .ok (.aload_n 0, 1) := by decide +kernel
theorem dX8_all_47 : decode cX8_all 47 = .ok (.iload_n 1, 1) := by decide +kernel
theorem dX8_all_48 : decode cX8_all 48 = .ok (.iload 4, 2) := by decide +kernel
theorem dX8_all_50 : decode cX8_all 50 = .ok (.invokevirtual 243, 3) := by decide +kernel
theorem dX8_all_53 : decode cX8_all 53 = .ok (.lreturn, 1) := by decide +kernel
def kX8_all (live : am_E) (Ret : am_R) : am_code := [(0, am_aload 0 1), (1, am_iload 1 2), (2, am_callV live 8 1 TX8_isPerson 5), (5, am_if1 (fun x => x = 0) 35 8), (8, am_iload 2 9), (9, am_callS live 1 TX8_isYear 12), (12, am_if1 (fun x => x = 0) 35 15), (15, am_iload 3 16), (16, am_callS live 1 TX8_isYear 19), (19, am_if1 (fun x => x = 0) 35 22), (22, am_iload 4 24), (24, am_i2l 25), (25, am_const (.long 0) 26), (26, am_const (.long 4) 29), (29, am_callS live 3 TX8_in 32), (32, am_if1 (fun x => x = 0) 35 39), (35, am_const (.long (-2)) 38), (38, am_retL Ret), (39, am_aload 0 40), (40, am_iload 1 41), (41, am_iload 2 42), (42, am_iload 3 43), (43, am_callV live 8 3 TX8_run 46), (46, am_aload 0 47), (47, am_iload 1 48), (48, am_iload 4 50), (50, am_callV live 8 2 TX8_allOf 53), (53, am_retL Ret)]
theorem koX8_all (live : am_E) (Ret : am_R) : ∀ q ∈ kX8_all live Ret, am_ok RX8 cX8_all 5 (some .long) 10 253 live Ret q.1 q.2 :=
  am_kc (ak_aload_n dX8_all_0 rfl rfl) <|
  am_kc (ak_iload_n dX8_all_1 rfl rfl) <|
  am_kc (ak_callV (C := RX8) (F := TX8) (N := 27) metX8_isPerson rfl ⟨rfl, by decide +kernel, by decide +kernel, by decide +kernel⟩ (am_w5 wd_993 wd_995 wd_27 wd_67 wd_996) (by decide) dX8_all_2 rfl) <|
  am_kc (ak_if_eq dX8_all_5 (by decide +kernel) rfl) <|
  am_kc (ak_iload_n dX8_all_8 rfl rfl) <|
  am_kc (ak_callS metX8_isYear ⟨rfl, by decide +kernel, by decide +kernel, by decide +kernel⟩ (am_w4 wd_982 wd_983 wd_67 wd_984) (by decide) dX8_all_9 rfl) <|
  am_kc (ak_if_eq dX8_all_12 (by decide +kernel) rfl) <|
  am_kc (ak_iload_n dX8_all_15 rfl rfl) <|
  am_kc (ak_callS metX8_isYear ⟨rfl, by decide +kernel, by decide +kernel, by decide +kernel⟩ (am_w4 wd_982 wd_983 wd_67 wd_984) (by decide) dX8_all_16 rfl) <|
  am_kc (ak_if_eq dX8_all_19 (by decide +kernel) rfl) <|
  am_kc (ak_iload dX8_all_22 rfl) <|
  am_kc (ak_i2l dX8_all_24 rfl) <|
  am_kc (ak_lconst dX8_all_25 (by decide +kernel) rfl) <|
  am_kc (ak_ldc2 wd_1037 dX8_all_26 rfl) <|
  am_kc (ak_callS metX8_in ⟨rfl, by decide +kernel, by decide +kernel, by decide +kernel⟩ (am_w4 wd_986 wd_987 wd_67 wd_988) (by decide) dX8_all_29 rfl) <|
  am_kc (ak_if_ne dX8_all_32 (by decide +kernel) rfl) <|
  am_kc (ak_ldc2 wd_1153 dX8_all_35 rfl) <|
  am_kc (ak_retL dX8_all_38) <|
  am_kc (ak_aload_n dX8_all_39 rfl rfl) <|
  am_kc (ak_iload_n dX8_all_40 rfl rfl) <|
  am_kc (ak_iload_n dX8_all_41 rfl rfl) <|
  am_kc (ak_iload_n dX8_all_42 rfl rfl) <|
  am_kc (ak_callV (C := RX8) (F := TX8) (N := 27) metX8_run rfl ⟨rfl, by decide +kernel, by decide +kernel, by decide +kernel⟩ (am_w5 wd_1158 wd_1160 wd_42 wd_67 wd_1161) (by decide) dX8_all_43 rfl) <|
  am_kc (ak_aload_n dX8_all_46 rfl rfl) <|
  am_kc (ak_iload_n dX8_all_47 rfl rfl) <|
  am_kc (ak_iload dX8_all_48 rfl) <|
  am_kc (ak_callV (C := RX8) (F := TX8) (N := 27) metX8_allOf rfl ⟨rfl, by decide +kernel, by decide +kernel, by decide +kernel⟩ (am_w5 wd_1195 wd_1197 wd_50 wd_67 wd_1198) (by decide) dX8_all_50 rfl) <|
  am_kc (ak_retL dX8_all_53) <| am_kn
def TX8_all : am_T := fun live as M R => match as with
  | [.ref n, .int p, .int y, .int k, .int w] => am_mn live ∧ n = 200 ∧ r_I M ∧ ∀ v M', r_sc M M' → r_I M' → R (some (.long v)) M'
  | _ => False
set_option maxRecDepth 100000 in
set_option maxHeartbeats 4000000 in
theorem metX8_all : am_Met yX8_all cX8_all 5 (some .long) (10) (253) TX8_all := by
  refine am_met (own := RX8) (by decide +kernel) rfl kX8_all koX8_all 150 (fun _ _ _ _ _ => none) (fun live as M Ret h => ?_) (fun _ _ _ _ _ _ _ _ hI => by cases hI)
  unfold TX8_all at h
  split at h
  · next n p y k w =>
    refine ⟨Nat.le_of_ble_eq_true rfl, ?_⟩
    change am_wp _ _ _ _ [(0, Value.ref n), (1, Value.int p), (2, Value.int y), (3, Value.int k), (4, Value.int w)] _ _
    obtain ⟨hmn, rfl, hR, h⟩ := h
    have hmn2 := hmn
    obtain ⟨i1, i2, rfl⟩ := hmn2
    have l201 : am_len 201 = 3760 := rfl
    have n0 := hR.n0
    have n1 := hR.n1
    have n030 : 0 ≤ (M.1 201 0).toInt ∧ (M.1 201 0).toInt ≤ 30 := ⟨n0.1, by omega⟩
    by_cases z0 : 0 ≤ p ∧ p < M.1 201 0
    rotate_left
    · skip
      have q0 : (if 0 ≤ p ∧ p < M.1 201 0 then (1 : Int32) else 0) = 0 := if_neg z0
      repeat' (first | (with_reducible exact hmn) | (with_reducible exact n030) | (with_reducible exact n1) | apply And.intro | exact rfl | (intro hx; with_reducible exact absurd q0 hx) | (intro hx; exact absurd hx (by decide)) | (intro hx; exact absurd (by decide) hx) | decide | intro hx | (refine Exists.intro _ (And.intro rfl ?_)))
      all_goals try first | (with_reducible change am_tI _ _) | (change Ret _ _) | (change Ret _ _ _) | (change Exists _)
      all_goals try dsimp only at *
      all_goals try exact absurd ‹(1000 : Int64) = 0› (by decide)
      all_goals exact h _ _ r_sc.rf hR
    · skip
      have q0 : ¬ ((if 0 ≤ p ∧ p < M.1 201 0 then (1 : Int32) else 0) = 0) := by rw [if_pos z0]; decide
      by_cases z1 : 0 ≤ y ∧ y < 40
      rotate_left
      · skip
        have q1 : (if 0 ≤ y ∧ y < 40 then (1 : Int32) else 0) = 0 := if_neg z1
        repeat' (first | (with_reducible exact hmn) | (with_reducible exact n030) | (with_reducible exact n1) | apply And.intro | exact rfl | (intro hx; with_reducible exact absurd hx q0) | (intro hx; with_reducible exact absurd q1 hx) | (intro hx; exact absurd hx (by decide)) | (intro hx; exact absurd (by decide) hx) | decide | intro hx | (refine Exists.intro _ (And.intro rfl ?_)))
        all_goals try first | (with_reducible change am_tI _ _) | (change Ret _ _) | (change Ret _ _ _) | (change Exists _)
        all_goals try dsimp only at *
        all_goals try exact absurd ‹(1000 : Int64) = 0› (by decide)
        all_goals exact h _ _ r_sc.rf hR
      · skip
        have q1 : ¬ ((if 0 ≤ y ∧ y < 40 then (1 : Int32) else 0) = 0) := by rw [if_pos z1]; decide
        by_cases z2 : 0 ≤ k ∧ k < 40
        rotate_left
        · skip
          have q2 : (if 0 ≤ k ∧ k < 40 then (1 : Int32) else 0) = 0 := if_neg z2
          repeat' (first | (with_reducible exact hmn) | (with_reducible exact n030) | (with_reducible exact n1) | apply And.intro | exact rfl | (intro hx; with_reducible exact absurd hx q0) | (intro hx; with_reducible exact absurd hx q1) | (intro hx; with_reducible exact absurd q2 hx) | (intro hx; exact absurd hx (by decide)) | (intro hx; exact absurd (by decide) hx) | decide | intro hx | (refine Exists.intro _ (And.intro rfl ?_)))
          all_goals try first | (with_reducible change am_tI _ _) | (change Ret _ _) | (change Ret _ _ _) | (change Exists _)
          all_goals try dsimp only at *
          all_goals try exact absurd ‹(1000 : Int64) = 0› (by decide)
          all_goals exact h _ _ r_sc.rf hR
        · skip
          have q2 : ¬ ((if 0 ≤ k ∧ k < 40 then (1 : Int32) else 0) = 0) := by rw [if_pos z2]; decide
          by_cases z3 : 0 ≤ w ∧ w ≤ 4
          rotate_left
          · skip
            have q3 : (if (0 : Int64) ≤ w.toInt64 ∧ w.toInt64 ≤ (4 : Int64) then (1 : Int32) else 0) = 0 := if_neg (fun r => z3 (by simp only [i_le, i_lt, j_le, Int32.toInt_toInt64, Int32.reduceToInt, Int64.reduceToInt] at r ⊢; omega))
            repeat' (first | (with_reducible exact hmn) | (with_reducible exact n030) | (with_reducible exact n1) | apply And.intro | exact rfl | (intro hx; with_reducible exact absurd hx q0) | (intro hx; with_reducible exact absurd hx q1) | (intro hx; with_reducible exact absurd hx q2) | (intro hx; with_reducible exact absurd q3 hx) | (intro hx; exact absurd hx (by decide)) | (intro hx; exact absurd (by decide) hx) | decide | intro hx | (refine Exists.intro _ (And.intro rfl ?_)))
            all_goals try first | (with_reducible change am_tI _ _) | (change Ret _ _) | (change Ret _ _ _) | (change Exists _)
            all_goals try dsimp only at *
            all_goals try exact absurd ‹(1000 : Int64) = 0› (by decide)
            all_goals exact h _ _ r_sc.rf hR
          · skip
            have q3 : ¬ ((if (0 : Int64) ≤ w.toInt64 ∧ w.toInt64 ≤ (4 : Int64) then (1 : Int32) else 0) = 0) := by rw [if_pos (by have q := z3; simp only [i_le, i_lt, j_le, Int32.toInt_toInt64, Int32.reduceToInt, Int64.reduceToInt] at q ⊢; omega)]; decide
            have hp : am_in p 12 := ⟨by have q := z0.1; simp only [i_le, Int32.reduceToInt] at q; omega, by have q := z0.2; simp only [i_lt] at q; omega⟩
            have hy : am_in y 40 := ⟨by have q := z1.1; simp only [i_le, Int32.reduceToInt] at q; omega, by have q := z1.2; simp only [i_lt, Int32.reduceToInt] at q; omega⟩
            have y39 : y.toInt ≤ 39 := by have q := hy.2; omega
            repeat' (first | (with_reducible exact hmn) | (with_reducible exact hR) | (with_reducible exact n030) | (with_reducible exact n1) | (with_reducible exact hp) | (with_reducible exact y39) | apply And.intro | exact rfl | (intro hx; with_reducible exact absurd hx q0) | (intro hx; with_reducible exact absurd hx q1) | (intro hx; with_reducible exact absurd hx q2) | (intro hx; with_reducible exact absurd hx q3) | ((with_reducible change r_I _); (with_reducible assumption)) | (intro hx; exact absurd hx (by decide)) | (intro hx; exact absurd (by decide) hx) | decide | intro hx | (refine Exists.intro _ (And.intro rfl ?_)))
            all_goals try first | (with_reducible change am_tI _ _) | (change Ret _ _) | (change Ret _ _ _) | (change Exists _)
            all_goals try dsimp only at *
            all_goals try exact absurd ‹(1000 : Int64) = 0› (by decide)
            all_goals first | (change r_I _; (repeat' (first | (with_reducible assumption) | ((with_reducible change r_I (am_wJ _ _ _ _)); refine r_I.wJ ?_) | ((with_reducible change r_I (am_wI _ _ _ _)); refine r_I.wI ?_ rfl)))) | ((with_reducible change Ret _ _); exact h _ _ (by (repeat' (first | (with_reducible exact r_sc.rf) | (with_reducible assumption) | ((with_reducible change r_sc _ (am_wI _ _ _ _)); refine r_sc.wI ?_ rfl) | ((with_reducible change r_sc _ (am_wJ _ _ _ _)); refine r_sc.wJ ?_ rfl) | (refine r_sc.tr ?_ (by with_reducible assumption))))) (by (repeat' (first | (with_reducible assumption) | ((with_reducible change r_I (am_wJ _ _ _ _)); refine r_I.wJ ?_) | ((with_reducible change r_I (am_wI _ _ _ _)); refine r_I.wI ?_ rfl))))) | skip
  · exact h.elim
set_option maxRecDepth 100000 in
theorem wd_1207 : Cond.constantLong "LearnLoansModel" 246 (-1000000000000000) ∈ am_ws := am_wsi (List.mem_of_getElem? (i := 1207) (by rfl)) (by decide +kernel)
theorem dX8_over_0 : decode cX8_over 0 = .ok (.aload_n 0, 1) := by decide +kernel
theorem dX8_over_1 : decode cX8_over 1 = .ok (.iload_n 1, 1) := by decide +kernel
theorem dX8_over_2 : decode cX8_over 2 = .ok (.invokevirtual 76, 3) := by decide +kernel
theorem dX8_over_5 : decode cX8_over 5 = .ok (.ifCond .eq 17, 3) := by decide +kernel
theorem dX8_over_8 : decode cX8_over 8 = .ok (.iload_n 2, 1) := by decide +kernel
theorem dX8_over_9 : decode cX8_over 9 = .ok (.invokestatic 72, 3) := by decide +kernel
theorem dX8_over_12 : decode cX8_over 12 = .ok (.ifCond .eq 10, 3) := by decide +kernel
theorem dX8_over_15 : decode cX8_over 15 = .ok (.iload_n 3, 1) := by decide +kernel
theorem dX8_over_16 : decode cX8_over 16 = .ok (.invokestatic 72, 3) := by decide +kernel
theorem dX8_over_19 : decode cX8_over 19 = .ok (.ifCond .ne 7, 3) := by decide +kernel
theorem dX8_over_22 : decode cX8_over 22 = .ok (.ldc2_w 246, 3) := by decide +kernel
theorem dX8_over_25 : decode cX8_over 25 = .ok (.lreturn, 1) := by decide +kernel
theorem dX8_over_26 : decode cX8_over 26 = .ok (.aload_n 0, 1) := by decide +kernel
theorem dX8_over_27 : decode cX8_over 27 = .ok (.iload_n 1, 1) := by decide +kernel
theorem dX8_over_28 : decode cX8_over 28 = .ok (.iload_n 2, 1) := by decide +kernel
theorem dX8_over_29 : decode cX8_over 29 = .ok (.iload_n 2, 1) := by decide +kernel
theorem dX8_over_30 : decode cX8_over 30 = .ok (.invokevirtual 239, 3) := by decide +kernel
theorem dX8_over_33 : decode cX8_over 33 = .ok (.aload_n 0, 1) := by decide +kernel
theorem dX8_over_34 : decode cX8_over 34 = .ok (.iload_n 1, 1) := by decide +kernel
theorem dX8_over_35 : decode cX8_over 35 = .ok (.iconst 1, 1) := by decide +kernel
theorem dX8_over_36 : decode cX8_over 36 = .ok (.invokevirtual 243, 3) := by decide +kernel
theorem dX8_over_39 : decode cX8_over 39 = .ok (.lstore 4, 2) := by decide +kernel
theorem dX8_over_41 : decode cX8_over 41 = .ok (.aload_n 0, 1) := by decide +kernel
theorem dX8_over_42 : decode cX8_over 42 = .ok (.iload_n 1, 1) := by decide +kernel
theorem dX8_over_43 : decode cX8_over 43 = .ok (.iload_n 2, 1) := by decide +kernel
theorem dX8_over_44 : decode cX8_over 44 = .ok (.iload_n 3, 1) := by decide +kernel
theorem dX8_over_45 : decode cX8_over 45 = .ok (.invokevirtual 239, 3) := by decide +kernel
theorem dX8_over_48 : decode cX8_over 48 = .ok (.lload 4, 2) := by decide +kernel
theorem dX8_over_50 : decode cX8_over 50 = .ok (.aload_n 0, 1) := by decide +kernel
theorem dX8_over_51 : decode cX8_over 51 = .ok (.iload_n 1, 1) := by decide +kernel
theorem dX8_over_52 : decode cX8_over 52 = .ok (.iconst 1, 1) := by decide +kernel
theorem dX8_over_53 : decode cX8_over 53 = .ok (.invokevirtual 243, 3) := by decide +kernel
theorem dX8_over_56 : decode cX8_over 56 = .ok (.lsub, 1) := by decide +kernel
theorem dX8_over_57 : decode cX8_over 57 = .ok (.lreturn, 1) := by decide +kernel
def kX8_over (live : am_E) (Ret : am_R) : am_code := [(0, am_aload 0 1), (1, am_iload 1 2), (2, am_callV live 8 1 TX8_isPerson 5), (5, am_if1 (fun x => x = 0) 22 8), (8, am_iload 2 9), (9, am_callS live 1 TX8_isYear 12), (12, am_if1 (fun x => x = 0) 22 15), (15, am_iload 3 16), (16, am_callS live 1 TX8_isYear 19), (19, am_if1 (fun x => x = 0) 22 26), (22, am_const (.long (-1000000000000000)) 25), (25, am_retL Ret), (26, am_aload 0 27), (27, am_iload 1 28), (28, am_iload 2 29), (29, am_iload 2 30), (30, am_callV live 8 3 TX8_run 33), (33, am_aload 0 34), (34, am_iload 1 35), (35, am_const (.int 1) 36), (36, am_callV live 8 2 TX8_allOf 39), (39, am_lstore 4 6 41), (41, am_aload 0 42), (42, am_iload 1 43), (43, am_iload 2 44), (44, am_iload 3 45), (45, am_callV live 8 3 TX8_run 48), (48, am_lload 4 50), (50, am_aload 0 51), (51, am_iload 1 52), (52, am_const (.int 1) 53), (53, am_callV live 8 2 TX8_allOf 56), (56, am_l2 (fun x y => x - y) 57), (57, am_retL Ret)]
theorem koX8_over (live : am_E) (Ret : am_R) : ∀ q ∈ kX8_over live Ret, am_ok RX8 cX8_over 6 (some .long) 10 253 live Ret q.1 q.2 :=
  am_kc (ak_aload_n dX8_over_0 rfl rfl) <|
  am_kc (ak_iload_n dX8_over_1 rfl rfl) <|
  am_kc (ak_callV (C := RX8) (F := TX8) (N := 27) metX8_isPerson rfl ⟨rfl, by decide +kernel, by decide +kernel, by decide +kernel⟩ (am_w5 wd_993 wd_995 wd_27 wd_67 wd_996) (by decide) dX8_over_2 rfl) <|
  am_kc (ak_if_eq dX8_over_5 (by decide +kernel) rfl) <|
  am_kc (ak_iload_n dX8_over_8 rfl rfl) <|
  am_kc (ak_callS metX8_isYear ⟨rfl, by decide +kernel, by decide +kernel, by decide +kernel⟩ (am_w4 wd_982 wd_983 wd_67 wd_984) (by decide) dX8_over_9 rfl) <|
  am_kc (ak_if_eq dX8_over_12 (by decide +kernel) rfl) <|
  am_kc (ak_iload_n dX8_over_15 rfl rfl) <|
  am_kc (ak_callS metX8_isYear ⟨rfl, by decide +kernel, by decide +kernel, by decide +kernel⟩ (am_w4 wd_982 wd_983 wd_67 wd_984) (by decide) dX8_over_16 rfl) <|
  am_kc (ak_if_ne dX8_over_19 (by decide +kernel) rfl) <|
  am_kc (ak_ldc2 wd_1207 dX8_over_22 rfl) <|
  am_kc (ak_retL dX8_over_25) <|
  am_kc (ak_aload_n dX8_over_26 rfl rfl) <|
  am_kc (ak_iload_n dX8_over_27 rfl rfl) <|
  am_kc (ak_iload_n dX8_over_28 rfl rfl) <|
  am_kc (ak_iload_n dX8_over_29 rfl rfl) <|
  am_kc (ak_callV (C := RX8) (F := TX8) (N := 27) metX8_run rfl ⟨rfl, by decide +kernel, by decide +kernel, by decide +kernel⟩ (am_w5 wd_1158 wd_1160 wd_42 wd_67 wd_1161) (by decide) dX8_over_30 rfl) <|
  am_kc (ak_aload_n dX8_over_33 rfl rfl) <|
  am_kc (ak_iload_n dX8_over_34 rfl rfl) <|
  am_kc (ak_iconst dX8_over_35 (by decide +kernel) rfl) <|
  am_kc (ak_callV (C := RX8) (F := TX8) (N := 27) metX8_allOf rfl ⟨rfl, by decide +kernel, by decide +kernel, by decide +kernel⟩ (am_w5 wd_1195 wd_1197 wd_50 wd_67 wd_1198) (by decide) dX8_over_36 rfl) <|
  am_kc (ak_lstore dX8_over_39 rfl) <|
  am_kc (ak_aload_n dX8_over_41 rfl rfl) <|
  am_kc (ak_iload_n dX8_over_42 rfl rfl) <|
  am_kc (ak_iload_n dX8_over_43 rfl rfl) <|
  am_kc (ak_iload_n dX8_over_44 rfl rfl) <|
  am_kc (ak_callV (C := RX8) (F := TX8) (N := 27) metX8_run rfl ⟨rfl, by decide +kernel, by decide +kernel, by decide +kernel⟩ (am_w5 wd_1158 wd_1160 wd_42 wd_67 wd_1161) (by decide) dX8_over_45 rfl) <|
  am_kc (ak_lload dX8_over_48 rfl) <|
  am_kc (ak_aload_n dX8_over_50 rfl rfl) <|
  am_kc (ak_iload_n dX8_over_51 rfl rfl) <|
  am_kc (ak_iconst dX8_over_52 (by decide +kernel) rfl) <|
  am_kc (ak_callV (C := RX8) (F := TX8) (N := 27) metX8_allOf rfl ⟨rfl, by decide +kernel, by decide +kernel, by decide +kernel⟩ (am_w5 wd_1195 wd_1197 wd_50 wd_67 wd_1198) (by decide) dX8_over_53 rfl) <|
  am_kc (ak_lsub dX8_over_56 rfl) <|
  am_kc (ak_retL dX8_over_57) <| am_kn
def TX8_over : am_T := fun live as M R => match as with
  | [.ref n, .int p, .int y, .int k] => am_mn live ∧ n = 200 ∧ r_I M ∧ ∀ v M', r_sc M M' → r_I M' → R (some (.long v)) M'
  | _ => False
set_option maxRecDepth 100000 in
set_option maxHeartbeats 4000000 in
theorem metX8_over : am_Met yX8_over cX8_over 6 (some .long) (10) (253) TX8_over := by
  refine am_met (own := RX8) (by decide +kernel) rfl kX8_over koX8_over 150 (fun _ _ _ _ _ => none) (fun live as M Ret h => ?_) (fun _ _ _ _ _ _ _ _ hI => by cases hI)
  unfold TX8_over at h
  split at h
  · next n p y k =>
    refine ⟨Nat.le_of_ble_eq_true rfl, ?_⟩
    change am_wp _ _ _ _ [(0, Value.ref n), (1, Value.int p), (2, Value.int y), (3, Value.int k)] _ _
    obtain ⟨hmn, rfl, hR, h⟩ := h
    have hmn2 := hmn
    obtain ⟨i1, i2, rfl⟩ := hmn2
    have l201 : am_len 201 = 3760 := rfl
    have n0 := hR.n0
    have n1 := hR.n1
    have n030 : 0 ≤ (M.1 201 0).toInt ∧ (M.1 201 0).toInt ≤ 30 := ⟨n0.1, by omega⟩
    by_cases z0 : 0 ≤ p ∧ p < M.1 201 0
    rotate_left
    · skip
      have q0 : (if 0 ≤ p ∧ p < M.1 201 0 then (1 : Int32) else 0) = 0 := if_neg z0
      repeat' (first | (with_reducible exact hmn) | (with_reducible exact n030) | (with_reducible exact n1) | apply And.intro | exact rfl | (intro hx; with_reducible exact absurd q0 hx) | (intro hx; exact absurd hx (by decide)) | (intro hx; exact absurd (by decide) hx) | decide | intro hx | (refine Exists.intro _ (And.intro rfl ?_)))
      all_goals try first | (with_reducible change am_tI _ _) | (change Ret _ _) | (change Ret _ _ _) | (change Exists _)
      all_goals try dsimp only at *
      all_goals try exact absurd ‹(1000 : Int64) = 0› (by decide)
      all_goals exact h _ _ r_sc.rf hR
    · skip
      have q0 : ¬ ((if 0 ≤ p ∧ p < M.1 201 0 then (1 : Int32) else 0) = 0) := by rw [if_pos z0]; decide
      by_cases z1 : 0 ≤ y ∧ y < 40
      rotate_left
      · skip
        have q1 : (if 0 ≤ y ∧ y < 40 then (1 : Int32) else 0) = 0 := if_neg z1
        repeat' (first | (with_reducible exact hmn) | (with_reducible exact n030) | (with_reducible exact n1) | apply And.intro | exact rfl | (intro hx; with_reducible exact absurd hx q0) | (intro hx; with_reducible exact absurd q1 hx) | (intro hx; exact absurd hx (by decide)) | (intro hx; exact absurd (by decide) hx) | decide | intro hx | (refine Exists.intro _ (And.intro rfl ?_)))
        all_goals try first | (with_reducible change am_tI _ _) | (change Ret _ _) | (change Ret _ _ _) | (change Exists _)
        all_goals try dsimp only at *
        all_goals try exact absurd ‹(1000 : Int64) = 0› (by decide)
        all_goals exact h _ _ r_sc.rf hR
      · skip
        have q1 : ¬ ((if 0 ≤ y ∧ y < 40 then (1 : Int32) else 0) = 0) := by rw [if_pos z1]; decide
        by_cases z2 : 0 ≤ k ∧ k < 40
        rotate_left
        · skip
          have q2 : (if 0 ≤ k ∧ k < 40 then (1 : Int32) else 0) = 0 := if_neg z2
          repeat' (first | (with_reducible exact hmn) | (with_reducible exact n030) | (with_reducible exact n1) | apply And.intro | exact rfl | (intro hx; with_reducible exact absurd hx q0) | (intro hx; with_reducible exact absurd hx q1) | (intro hx; with_reducible exact absurd q2 hx) | (intro hx; exact absurd hx (by decide)) | (intro hx; exact absurd (by decide) hx) | decide | intro hx | (refine Exists.intro _ (And.intro rfl ?_)))
          all_goals try first | (with_reducible change am_tI _ _) | (change Ret _ _) | (change Ret _ _ _) | (change Exists _)
          all_goals try dsimp only at *
          all_goals try exact absurd ‹(1000 : Int64) = 0› (by decide)
          all_goals exact h _ _ r_sc.rf hR
        · skip
          have q2 : ¬ ((if 0 ≤ k ∧ k < 40 then (1 : Int32) else 0) = 0) := by rw [if_pos z2]; decide
          have hp : am_in p 12 := ⟨by have q := z0.1; simp only [i_le, Int32.reduceToInt] at q; omega, by have q := z0.2; simp only [i_lt] at q; omega⟩
          have hy : am_in y 40 := ⟨by have q := z1.1; simp only [i_le, Int32.reduceToInt] at q; omega, by have q := z1.2; simp only [i_lt, Int32.reduceToInt] at q; omega⟩
          have y39 : y.toInt ≤ 39 := by have q := hy.2; omega
          repeat' (first | (with_reducible exact hmn) | (with_reducible exact hR) | (with_reducible exact n030) | (with_reducible exact n1) | (with_reducible exact hp) | (with_reducible exact y39) | apply And.intro | exact rfl | (intro hx; with_reducible exact absurd hx q0) | (intro hx; with_reducible exact absurd hx q1) | (intro hx; with_reducible exact absurd hx q2) | ((with_reducible change r_I _); (with_reducible assumption)) | (intro hx; exact absurd hx (by decide)) | (intro hx; exact absurd (by decide) hx) | decide | intro hx | (refine Exists.intro _ (And.intro rfl ?_)))
          all_goals try first | (with_reducible change am_tI _ _) | (change Ret _ _) | (change Ret _ _ _) | (change Exists _)
          all_goals try dsimp only at *
          all_goals try exact absurd ‹(1000 : Int64) = 0› (by decide)
          all_goals first | (change r_I _; (repeat' (first | (with_reducible assumption) | ((with_reducible change r_I (am_wJ _ _ _ _)); refine r_I.wJ ?_) | ((with_reducible change r_I (am_wI _ _ _ _)); refine r_I.wI ?_ rfl)))) | ((with_reducible change Ret _ _); exact h _ _ (by (repeat' (first | (with_reducible exact r_sc.rf) | (with_reducible assumption) | ((with_reducible change r_sc _ (am_wI _ _ _ _)); refine r_sc.wI ?_ rfl) | ((with_reducible change r_sc _ (am_wJ _ _ _ _)); refine r_sc.wJ ?_ rfl) | (refine r_sc.tr ?_ (by with_reducible assumption))))) (by (repeat' (first | (with_reducible assumption) | ((with_reducible change r_I (am_wJ _ _ _ _)); refine r_I.wJ ?_) | ((with_reducible change r_I (am_wI _ _ _ _)); refine r_I.wI ?_ rfl))))) | skip
  · exact h.elim
theorem dX8_rate_0 : decode cX8_rate 0 = .ok (.aload_n 0, 1) := by decide +kernel
theorem dX8_rate_1 : decode cX8_rate 1 = .ok (.iload_n 1, 1) := by decide +kernel
theorem dX8_rate_2 : decode cX8_rate 2 = .ok (.invokevirtual 131, 3) := by decide +kernel
theorem dX8_rate_5 : decode cX8_rate 5 = .ok (.ifCond .eq 17, 3) := by decide +kernel
theorem dX8_rate_8 : decode cX8_rate 8 = .ok (.iload_n 2, 1) := by decide +kernel
theorem dX8_rate_9 : decode cX8_rate 9 = .ok (.invokestatic 72, 3) := by decide +kernel
theorem dX8_rate_12 : decode cX8_rate 12 = .ok (.ifCond .eq 10, 3) := by decide +kernel
theorem dX8_rate_15 : decode cX8_rate 15 = .ok (.iload_n 3, 1) := by decide +kernel
theorem dX8_rate_16 : decode cX8_rate 16 = .ok (.invokestatic 72, 3) := by decide +kernel
theorem dX8_rate_19 : decode cX8_rate 19 = .ok (.ifCond .ne 6, 3) := by decide +kernel
theorem dX8_rate_22 : decode cX8_rate 22 = .ok (.bipush (-2), 2) := by decide +kernel
theorem dX8_rate_24 : decode cX8_rate 24 = .ok (.ireturn, 1) := by decide +kernel
theorem dX8_rate_25 : decode cX8_rate 25 = .ok (.aload_n 0, 1) := by decide +kernel
theorem dX8_rate_26 : decode cX8_rate 26 = .ok (.iload_n 1, 1) := by decide +kernel
theorem dX8_rate_27 : decode cX8_rate 27 = .ok (.iconst 0, 1) := by decide +kernel
theorem dX8_rate_28 : decode cX8_rate 28 = .ok (.invokevirtual 202, 3) := by decide +kernel
theorem dX8_rate_31 : decode cX8_rate 31 = .ok (.istore 4, 2) := by decide +kernel
theorem dX8_rate_33 : decode cX8_rate 33 = .ok (.aload_n 0, 1) := by decide +kernel
theorem dX8_rate_34 : decode cX8_rate 34 = .ok (.iload 4, 2) := by decide +kernel
theorem dX8_rate_36 : decode cX8_rate 36 = .ok (.iload_n 2, 1) := by decide +kernel
theorem dX8_rate_37 : decode cX8_rate 37 = .ok (.iconst 1, 1) := by decide +kernel
theorem dX8_rate_38 : decode cX8_rate 38 = .ok (.isub, 1) := by decide +kernel
theorem dX8_rate_39 : decode cX8_rate 39 = .ok (.iload_n 3, 1) := by decide +kernel
theorem dX8_rate_40 : decode cX8_rate 40 = .ok (.invokevirtual 239, 3) := by decide +kernel
theorem dX8_rate_43 : decode cX8_rate 43 = .ok (.aload_n 0, 1) := by decide +kernel
theorem dX8_rate_44 : decode cX8_rate 44 = .ok (.iload_n 1, 1) := by decide +kernel
theorem dX8_rate_45 : decode cX8_rate 45 = .ok (.iload_n 2, 1) := by decide +kernel
theorem dX8_rate_46 : decode cX8_rate 46 = .ok (.aload_n 0, 1) := by decide +kernel
theorem dX8_rate_47 : decode cX8_rate 47 = .ok (.iload 4, 2) := by decide +kernel
theorem dX8_rate_49 : decode cX8_rate 49 = .ok (.iload_n 2, 1) := by decide +kernel
theorem dX8_rate_50 : decode cX8_rate 50 = .ok (.iload_n 3, 1) := by decide +kernel
theorem dX8_rate_51 : decode cX8_rate 51 = .ok (.invokevirtual 89, 3) := by decide +kernel
theorem dX8_rate_54 : decode cX8_rate 54 = .ok (.aload_n 0, 1) := by decide +kernel
theorem dX8_rate_55 : decode cX8_rate 55 = .ok (.getfield 7, 3) := by decide +kernel
theorem dX8_rate_58 : decode cX8_rate 58 = .ok (.bipush 34, 2) := by decide +kernel
theorem dX8_rate_60 : decode cX8_rate 60 = .ok (.bipush 40, 2) := by decide +kernel
theorem dX8_rate_62 : decode cX8_rate 62 = .ok (.iload 4, 2) := by decide +kernel
theorem dX8_rate_64 : decode cX8_rate 64 = .ok (.imul, 1) := by decide +kernel
theorem dX8_rate_65 : decode cX8_rate 65 = .ok (.iadd, 1) := by decide +kernel
theorem dX8_rate_66 : decode cX8_rate 66 = .ok (.iload_n 2, 1) := by decide +kernel
theorem dX8_rate_67 : decode cX8_rate 67 = .ok (.iadd, 1) := by decide +kernel
theorem dX8_rate_68 : decode cX8_rate 68 = .ok (.iaload, 1) := by decide +kernel
theorem dX8_rate_69 : decode cX8_rate 69 = .ok (.invokevirtual 205, 3) := by decide +kernel
theorem dX8_rate_72 : decode cX8_rate 72 = .ok (.ireturn, 1) := by decide +kernel
def kX8_rate (live : am_E) (Ret : am_R) : am_code := [(0, am_aload 0 1), (1, am_iload 1 2), (2, am_callV live 8 1 TX8_isLoan 5), (5, am_if1 (fun x => x = 0) 22 8), (8, am_iload 2 9), (9, am_callS live 1 TX8_isYear 12), (12, am_if1 (fun x => x = 0) 22 15), (15, am_iload 3 16), (16, am_callS live 1 TX8_isYear 19), (19, am_if1 (fun x => x = 0) 22 25), (22, am_const (.int (-2)) 24), (24, am_retI Ret), (25, am_aload 0 26), (26, am_iload 1 27), (27, am_const (.int 0) 28), (28, am_callV live 8 2 TX8_ofLoan 31), (31, am_istore 4 5 33), (33, am_aload 0 34), (34, am_iload 4 36), (36, am_iload 2 37), (37, am_const (.int 1) 38), (38, am_i2 (fun x y => x - y) 39), (39, am_iload 3 40), (40, am_callV live 8 3 TX8_run 43), (43, am_aload 0 44), (44, am_iload 1 45), (45, am_iload 2 46), (46, am_aload 0 47), (47, am_iload 4 49), (49, am_iload 2 50), (50, am_iload 3 51), (51, am_callV live 8 3 TX8_earningsOf 54), (54, am_aload 0 55), (55, am_getR live 8 0 58), (58, am_const (.int 34) 60), (60, am_const (.int 40) 62), (62, am_iload 4 64), (64, am_i2 (fun x y => x * y) 65), (65, am_i2 (fun x y => x + y) 66), (66, am_iload 2 67), (67, am_i2 (fun x y => x + y) 68), (68, am_ald live 0 69), (69, am_callV live 8 4 TX8_rateOf 72), (72, am_retI Ret)]
theorem koX8_rate (live : am_E) (Ret : am_R) : ∀ q ∈ kX8_rate live Ret, am_ok RX8 cX8_rate 5 (some .int) 10 253 live Ret q.1 q.2 :=
  am_kc (ak_aload_n dX8_rate_0 rfl rfl) <|
  am_kc (ak_iload_n dX8_rate_1 rfl rfl) <|
  am_kc (ak_callV (C := RX8) (F := TX8) (N := 27) metX8_isLoan rfl ⟨rfl, by decide +kernel, by decide +kernel, by decide +kernel⟩ (am_w5 wd_1069 wd_1071 wd_30 wd_67 wd_1072) (by decide) dX8_rate_2 rfl) <|
  am_kc (ak_if_eq dX8_rate_5 (by decide +kernel) rfl) <|
  am_kc (ak_iload_n dX8_rate_8 rfl rfl) <|
  am_kc (ak_callS metX8_isYear ⟨rfl, by decide +kernel, by decide +kernel, by decide +kernel⟩ (am_w4 wd_982 wd_983 wd_67 wd_984) (by decide) dX8_rate_9 rfl) <|
  am_kc (ak_if_eq dX8_rate_12 (by decide +kernel) rfl) <|
  am_kc (ak_iload_n dX8_rate_15 rfl rfl) <|
  am_kc (ak_callS metX8_isYear ⟨rfl, by decide +kernel, by decide +kernel, by decide +kernel⟩ (am_w4 wd_982 wd_983 wd_67 wd_984) (by decide) dX8_rate_16 rfl) <|
  am_kc (ak_if_ne dX8_rate_19 (by decide +kernel) rfl) <|
  am_kc (ak_bipush dX8_rate_22 (by decide +kernel) rfl) <|
  am_kc (ak_retI dX8_rate_24) <|
  am_kc (ak_aload_n dX8_rate_25 rfl rfl) <|
  am_kc (ak_iload_n dX8_rate_26 rfl rfl) <|
  am_kc (ak_iconst dX8_rate_27 (by decide +kernel) rfl) <|
  am_kc (ak_callV (C := RX8) (F := TX8) (N := 27) metX8_ofLoan rfl ⟨rfl, by decide +kernel, by decide +kernel, by decide +kernel⟩ (am_w5 wd_1154 wd_1156 wd_41 wd_67 wd_1157) (by decide) dX8_rate_28 rfl) <|
  am_kc (ak_istore dX8_rate_31 rfl) <|
  am_kc (ak_aload_n dX8_rate_33 rfl rfl) <|
  am_kc (ak_iload dX8_rate_34 rfl) <|
  am_kc (ak_iload_n dX8_rate_36 rfl rfl) <|
  am_kc (ak_iconst dX8_rate_37 (by decide +kernel) rfl) <|
  am_kc (ak_isub dX8_rate_38 rfl) <|
  am_kc (ak_iload_n dX8_rate_39 rfl rfl) <|
  am_kc (ak_callV (C := RX8) (F := TX8) (N := 27) metX8_run rfl ⟨rfl, by decide +kernel, by decide +kernel, by decide +kernel⟩ (am_w5 wd_1158 wd_1160 wd_42 wd_67 wd_1161) (by decide) dX8_rate_40 rfl) <|
  am_kc (ak_aload_n dX8_rate_43 rfl rfl) <|
  am_kc (ak_iload_n dX8_rate_44 rfl rfl) <|
  am_kc (ak_iload_n dX8_rate_45 rfl rfl) <|
  am_kc (ak_aload_n dX8_rate_46 rfl rfl) <|
  am_kc (ak_iload dX8_rate_47 rfl) <|
  am_kc (ak_iload_n dX8_rate_49 rfl rfl) <|
  am_kc (ak_iload_n dX8_rate_50 rfl rfl) <|
  am_kc (ak_callV (C := RX8) (F := TX8) (N := 27) metX8_earningsOf rfl ⟨rfl, by decide +kernel, by decide +kernel, by decide +kernel⟩ (am_w5 wd_1026 wd_1028 wd_28 wd_67 wd_1029) (by decide) dX8_rate_51 rfl) <|
  am_kc (ak_aload_n dX8_rate_54 rfl rfl) <|
  am_kc (ak_getR (C := RX8) (T := TX8) (N := 27) rfl inX8w (by decide) rfl rfl rfl wd_895 dX8_rate_55 rfl) <|
  am_kc (ak_bipush dX8_rate_58 (by decide +kernel) rfl) <|
  am_kc (ak_bipush dX8_rate_60 (by decide +kernel) rfl) <|
  am_kc (ak_iload dX8_rate_62 rfl) <|
  am_kc (ak_imul dX8_rate_64 rfl) <|
  am_kc (ak_iadd dX8_rate_65 rfl) <|
  am_kc (ak_iload_n dX8_rate_66 rfl rfl) <|
  am_kc (ak_iadd dX8_rate_67 rfl) <|
  am_kc (ak_iald (t := 0) (fun _ => rfl) rfl dX8_rate_68 rfl) <|
  am_kc (ak_callV (C := RX8) (F := TX8) (N := 27) metX8_rateOf rfl ⟨rfl, by decide +kernel, by decide +kernel, by decide +kernel⟩ (am_w5 wd_1174 wd_1176 wd_46 wd_67 wd_1177) (by decide) dX8_rate_69 rfl) <|
  am_kc (ak_retI dX8_rate_72) <| am_kn
def TX8_rate : am_T := fun live as M R => match as with
  | [.ref n, .int l, .int y, .int k] => am_mn live ∧ n = 200 ∧ r_I M ∧ ∀ v M', r_sc M M' → r_I M' → R (some (.int v)) M'
  | _ => False
set_option maxRecDepth 100000 in
set_option maxHeartbeats 4000000 in
theorem metX8_rate : am_Met yX8_rate cX8_rate 5 (some .int) (10) (253) TX8_rate := by
  refine am_met (own := RX8) (by decide +kernel) rfl kX8_rate koX8_rate 150 (fun _ _ _ _ _ => none) (fun live as M Ret h => ?_) (fun _ _ _ _ _ _ _ _ hI => by cases hI)
  unfold TX8_rate at h
  split at h
  · next n l y k =>
    refine ⟨Nat.le_of_ble_eq_true rfl, ?_⟩
    change am_wp _ _ _ _ [(0, Value.ref n), (1, Value.int l), (2, Value.int y), (3, Value.int k)] _ _
    obtain ⟨hmn, rfl, hR, h⟩ := h
    have hmn2 := hmn
    obtain ⟨i1, i2, rfl⟩ := hmn2
    have l201 : am_len 201 = 3760 := rfl
    have n0 := hR.n0
    have n1 := hR.n1
    have n030 : 0 ≤ (M.1 201 0).toInt ∧ (M.1 201 0).toInt ≤ 30 := ⟨n0.1, by omega⟩
    by_cases z0 : 0 ≤ l ∧ l < M.1 201 1
    rotate_left
    · skip
      have q0 : (if 0 ≤ l ∧ l < M.1 201 1 then (1 : Int32) else 0) = 0 := if_neg z0
      repeat' (first | (with_reducible exact hmn) | (with_reducible exact n030) | (with_reducible exact n1) | apply And.intro | exact rfl | (intro hx; with_reducible exact absurd q0 hx) | (intro hx; exact absurd hx (by decide)) | (intro hx; exact absurd (by decide) hx) | decide | intro hx | (refine Exists.intro _ (And.intro rfl ?_)))
      all_goals try first | (with_reducible change am_tI _ _) | (change Ret _ _) | (change Ret _ _ _) | (change Exists _)
      all_goals try dsimp only at *
      all_goals try exact absurd ‹(1000 : Int64) = 0› (by decide)
      all_goals exact h _ _ r_sc.rf hR
    · skip
      have q0 : ¬ ((if 0 ≤ l ∧ l < M.1 201 1 then (1 : Int32) else 0) = 0) := by rw [if_pos z0]; decide
      by_cases z1 : 0 ≤ y ∧ y < 40
      rotate_left
      · skip
        have q1 : (if 0 ≤ y ∧ y < 40 then (1 : Int32) else 0) = 0 := if_neg z1
        repeat' (first | (with_reducible exact hmn) | (with_reducible exact n030) | (with_reducible exact n1) | apply And.intro | exact rfl | (intro hx; with_reducible exact absurd hx q0) | (intro hx; with_reducible exact absurd q1 hx) | (intro hx; exact absurd hx (by decide)) | (intro hx; exact absurd (by decide) hx) | decide | intro hx | (refine Exists.intro _ (And.intro rfl ?_)))
        all_goals try first | (with_reducible change am_tI _ _) | (change Ret _ _) | (change Ret _ _ _) | (change Exists _)
        all_goals try dsimp only at *
        all_goals try exact absurd ‹(1000 : Int64) = 0› (by decide)
        all_goals exact h _ _ r_sc.rf hR
      · skip
        have q1 : ¬ ((if 0 ≤ y ∧ y < 40 then (1 : Int32) else 0) = 0) := by rw [if_pos z1]; decide
        by_cases z2 : 0 ≤ k ∧ k < 40
        rotate_left
        · skip
          have q2 : (if 0 ≤ k ∧ k < 40 then (1 : Int32) else 0) = 0 := if_neg z2
          repeat' (first | (with_reducible exact hmn) | (with_reducible exact n030) | (with_reducible exact n1) | apply And.intro | exact rfl | (intro hx; with_reducible exact absurd hx q0) | (intro hx; with_reducible exact absurd hx q1) | (intro hx; with_reducible exact absurd q2 hx) | (intro hx; exact absurd hx (by decide)) | (intro hx; exact absurd (by decide) hx) | decide | intro hx | (refine Exists.intro _ (And.intro rfl ?_)))
          all_goals try first | (with_reducible change am_tI _ _) | (change Ret _ _) | (change Ret _ _ _) | (change Exists _)
          all_goals try dsimp only at *
          all_goals try exact absurd ‹(1000 : Int64) = 0› (by decide)
          all_goals exact h _ _ r_sc.rf hR
        · skip
          have q2 : ¬ ((if 0 ≤ k ∧ k < 40 then (1 : Int32) else 0) = 0) := by rw [if_pos z2]; decide
          have hl : am_in l 30 := ⟨by have q := z0.1; simp only [i_le, Int32.reduceToInt] at q; omega, by have q := z0.2; simp only [i_lt] at q; omega⟩
          have hy : am_in y 40 := ⟨by have q := z1.1; simp only [i_le, Int32.reduceToInt] at q; omega, by have q := z1.2; simp only [i_lt, Int32.reduceToInt] at q; omega⟩
          have hp := r_pers hR hl
          have w0 : 0 ≤ (0 : Int32).toInt ∧ (0 : Int32).toInt ≤ 7 := ⟨by decide, by decide⟩
          have em := i_sub (x := y) (y := 1) (by simp only [Int32.reduceToInt]; have := hy.1; omega) (by simp only [Int32.reduceToInt]; have := hy.2; omega)
          simp only [Int32.reduceToInt] at em
          have ym : (y - 1).toInt ≤ 39 := by have q := hy.2; omega
          have p1 := hp.1
          have p2 := hp.2
          have y1 := hy.1
          have y2 := hy.2
          have e40 := r_mul (c := 40) (x := M.1 201 (2838 + 8 * l + 0).toNatClampNeg) ⟨by decide, by decide⟩ ⟨by omega, by omega⟩
          simp only [Int32.reduceToInt] at e40
          have ea := r_off (c := 34) (x := 40 * M.1 201 (2838 + 8 * l + 0).toNatClampNeg) ⟨by decide, by decide⟩ ⟨by omega, by omega⟩
          simp only [e40, Int32.reduceToInt] at ea
          have eb := r_off (c := 34 + 40 * M.1 201 (2838 + 8 * l + 0).toNatClampNeg) (x := y) ⟨by omega, by omega⟩ ⟨by omega, by omega⟩
          rw [ea] at eb
          have x1 : 0 ≤ (34 + 40 * M.1 201 (2838 + 8 * l + 0).toNatClampNeg + y).toInt := by omega
          have x2 : (34 + 40 * M.1 201 (2838 + 8 * l + 0).toNatClampNeg + y).toInt < (am_len 201 : Int) := by rw [l201]; omega
          repeat' (first | (with_reducible exact hmn) | (with_reducible exact hR) | (with_reducible exact n030) | (with_reducible exact n1) | (with_reducible exact hl) | (with_reducible exact hp) | (with_reducible exact hy) | (with_reducible exact w0) | (with_reducible exact ym) | (with_reducible exact x1) | (with_reducible exact x2) | apply And.intro | exact rfl | (intro hx; with_reducible exact absurd hx q0) | (intro hx; with_reducible exact absurd hx q1) | (intro hx; with_reducible exact absurd hx q2) | ((with_reducible change r_I _); (with_reducible assumption)) | (intro hx; exact absurd hx (by decide)) | (intro hx; exact absurd (by decide) hx) | decide | intro hx | (refine Exists.intro _ (And.intro rfl ?_)))
          all_goals try first | (with_reducible change am_tI _ _) | (change Ret _ _) | (change Ret _ _ _) | (change Exists _)
          all_goals try dsimp only at *
          all_goals try exact absurd ‹(1000 : Int64) = 0› (by decide)
          all_goals first | (change r_I _; (repeat' (first | (with_reducible assumption) | ((with_reducible change r_I (am_wJ _ _ _ _)); refine r_I.wJ ?_) | ((with_reducible change r_I (am_wI _ _ _ _)); refine r_I.wI ?_ rfl)))) | ((with_reducible change Ret _ _); exact h _ _ (by (repeat' (first | (with_reducible exact r_sc.rf) | (with_reducible assumption) | ((with_reducible change r_sc _ (am_wI _ _ _ _)); refine r_sc.wI ?_ rfl) | ((with_reducible change r_sc _ (am_wJ _ _ _ _)); refine r_sc.wJ ?_ rfl) | (refine r_sc.tr ?_ (by with_reducible assumption))))) (by (repeat' (first | (with_reducible assumption) | ((with_reducible change r_I (am_wJ _ _ _ _)); refine r_I.wJ ?_) | ((with_reducible change r_I (am_wI _ _ _ _)); refine r_I.wI ?_ rfl))))) | skip
  · exact h.elim
theorem dX8_lived_0 : decode cX8_lived 0 = .ok (.aload_n 0, 1) := by decide +kernel
theorem dX8_lived_1 : decode cX8_lived 1 = .ok (.iload_n 1, 1) := by decide +kernel
theorem dX8_lived_2 : decode cX8_lived 2 = .ok (.iload_n 3, 1) := by decide +kernel
theorem dX8_lived_3 : decode cX8_lived 3 = .ok (.iconst 1, 1) := by decide +kernel
theorem dX8_lived_4 : decode cX8_lived 4 = .ok (.isub, 1) := by decide +kernel
theorem dX8_lived_5 : decode cX8_lived 5 = .ok (.iload 4, 2) := by decide +kernel
theorem dX8_lived_7 : decode cX8_lived 7 = .ok (.invokevirtual 239, 3) := by decide +kernel
theorem dX8_lived_10 : decode cX8_lived 10 = .ok (.lconst 0, 1) := by decide +kernel
theorem dX8_lived_11 : decode cX8_lived 11 = .ok (.lstore 7, 2) := by decide +kernel
theorem dX8_lived_13 : decode cX8_lived 13 = .ok (.iload_n 3, 1) := by decide +kernel
theorem dX8_lived_14 : decode cX8_lived 14 = .ok (.istore 9, 2) := by decide +kernel
theorem dX8_lived_16 : decode cX8_lived 16 = .ok (.iload 9, 2) := by decide +kernel
theorem dX8_lived_18 : decode cX8_lived 18 = .ok (.bipush 40, 2) := by decide +kernel
theorem dX8_lived_20 : decode cX8_lived 20 = .ok (.if_icmp .ge 62, 3) := by decide +kernel
theorem dX8_lived_23 : decode cX8_lived 23 = .ok (.aload_n 0, 1) := by decide +kernel
theorem dX8_lived_24 : decode cX8_lived 24 = .ok (.iload_n 1, 1) := by decide +kernel
theorem dX8_lived_25 : decode cX8_lived 25 = .ok (.iload 9, 2) := by decide +kernel
theorem dX8_lived_27 : decode cX8_lived 27 = .ok (.aload_n 0, 1) := by decide +kernel
theorem dX8_lived_28 : decode cX8_lived 28 = .ok (.getfield 7, 3) := by decide +kernel
theorem dX8_lived_31 : decode cX8_lived 31 = .ok (.sipush 3573, 3) := by decide +kernel
theorem dX8_lived_34 : decode cX8_lived 34 = .ok (.bipush 40, 2) := by decide +kernel
theorem dX8_lived_36 : decode cX8_lived 36 = .ok (.iload_n 2, 1) := by decide +kernel
theorem dX8_lived_37 : decode cX8_lived 37 = .ok (.imul, 1) := by decide +kernel
theorem dX8_lived_38 : decode cX8_lived 38 = .ok (.iadd, 1) := by decide +kernel
theorem dX8_lived_39 : decode cX8_lived 39 = .ok (.iload 9, 2) := by decide +kernel
theorem dX8_lived_41 : decode cX8_lived 41 = .ok (.iadd, 1) := by decide +kernel
theorem dX8_lived_42 : decode cX8_lived 42 = .ok (.iaload, 1) := by decide +kernel
theorem dX8_lived_43 : decode cX8_lived 43 = .ok (.iconst 0, 1) := by decide +kernel
theorem dX8_lived_44 : decode cX8_lived 44 = .ok (.iconst 0, 1) := by decide +kernel
theorem dX8_lived_45 : decode cX8_lived 45 = .ok (.iload 9, 2) := by decide +kernel
theorem dX8_lived_47 : decode cX8_lived 47 = .ok (.iload_n 3, 1) := by decide +kernel
theorem dX8_lived_48 : decode cX8_lived 48 = .ok (.if_icmp .ne 8, 3) := by decide +kernel
theorem dX8_lived_51 : decode cX8_lived 51 = .ok (.lload 5, 2) := by decide +kernel
theorem dX8_lived_53 : decode cX8_lived 53 = .ok (.goto 4, 3) := by decide +kernel
theorem dX8_lived_56 : decode cX8_lived 56 = .ok (.lconst 0, 1) := by decide +kernel
theorem dX8_lived_57 : decode cX8_lived 57 = .ok (.invokevirtual 229, 3) := by decide +kernel
theorem dX8_lived_60 : decode cX8_lived 60 = .ok (.lload 7, 2) := by decide +kernel
theorem dX8_lived_62 : decode cX8_lived 62 = .ok (.aload_n 0, 1) := by decide +kernel
theorem dX8_lived_63 : decode cX8_lived 63 = .ok (.iload_n 1, 1) := by decide +kernel
theorem dX8_lived_64 : decode cX8_lived 64 = .ok (.iconst 1, 1) := by decide +kernel
theorem dX8_lived_65 : decode cX8_lived 65 = .ok (.invokevirtual 243, 3) := by decide +kernel
theorem dX8_lived_68 : decode cX8_lived 68 = .ok (.aload_n 0, 1) := by decide +kernel
theorem dX8_lived_69 : decode cX8_lived 69 = .ok (.getfield 218, 3) := by decide +kernel
theorem dX8_lived_72 : decode cX8_lived 72 = .ok (.ladd, 1) := by decide +kernel
theorem dX8_lived_73 : decode cX8_lived 73 = .ok (.ladd, 1) := by decide +kernel
theorem dX8_lived_74 : decode cX8_lived 74 = .ok (.lstore 7, 2) := by decide +kernel
theorem dX8_lived_76 : decode cX8_lived 76 = .ok (.iinc 9 1, 3) := by decide +kernel
theorem dX8_lived_79 : decode cX8_lived 79 = .ok (.goto (-63), 3) := by decide +kernel
theorem dX8_lived_82 : decode cX8_lived 82 = .ok (.lload 7, 2) := by decide +kernel
theorem dX8_lived_84 : decode cX8_lived 84 = .ok (.lreturn, 1) := by decide +kernel
def kX8_lived (live : am_E) (Ret : am_R) : am_code := [(0, am_aload 0 1), (1, am_iload 1 2), (2, am_iload 3 3), (3, am_const (.int 1) 4), (4, am_i2 (fun x y => x - y) 5), (5, am_iload 4 7), (7, am_callV live 8 3 TX8_run 10), (10, am_const (.long 0) 11), (11, am_lstore 7 10 13), (13, am_iload 3 14), (14, am_istore 9 10 16), (16, am_iload 9 18), (18, am_const (.int 40) 20), (20, am_if2 (fun x y => y ≤ x) 82 23), (23, am_aload 0 24), (24, am_iload 1 25), (25, am_iload 9 27), (27, am_aload 0 28), (28, am_getR live 8 0 31), (31, am_const (.int 3573) 34), (34, am_const (.int 40) 36), (36, am_iload 2 37), (37, am_i2 (fun x y => x * y) 38), (38, am_i2 (fun x y => x + y) 39), (39, am_iload 9 41), (41, am_i2 (fun x y => x + y) 42), (42, am_ald live 0 43), (43, am_const (.int 0) 44), (44, am_const (.int 0) 45), (45, am_iload 9 47), (47, am_iload 3 48), (48, am_if2 (fun x y => x = y) 51 56), (51, am_lload 5 53), (53, am_goto 57), (56, am_const (.long 0) 57), (57, am_callV live 8 6 TX8_stepYear 60), (60, am_lload 7 62), (62, am_aload 0 63), (63, am_iload 1 64), (64, am_const (.int 1) 65), (65, am_callV live 8 2 TX8_allOf 68), (68, am_aload 0 69), (69, am_getJ live 8 22 72), (72, am_l2 (fun x y => x + y) 73), (73, am_l2 (fun x y => x + y) 74), (74, am_lstore 7 10 76), (76, am_iinc 9 10 1 79), (79, am_goto 16), (82, am_lload 7 84), (84, am_retL Ret)]
theorem koX8_lived (live : am_E) (Ret : am_R) : ∀ q ∈ kX8_lived live Ret, am_ok RX8 cX8_lived 10 (some .long) 10 253 live Ret q.1 q.2 :=
  am_kc (ak_aload_n dX8_lived_0 rfl rfl) <|
  am_kc (ak_iload_n dX8_lived_1 rfl rfl) <|
  am_kc (ak_iload_n dX8_lived_2 rfl rfl) <|
  am_kc (ak_iconst dX8_lived_3 (by decide +kernel) rfl) <|
  am_kc (ak_isub dX8_lived_4 rfl) <|
  am_kc (ak_iload dX8_lived_5 rfl) <|
  am_kc (ak_callV (C := RX8) (F := TX8) (N := 27) metX8_run rfl ⟨rfl, by decide +kernel, by decide +kernel, by decide +kernel⟩ (am_w5 wd_1158 wd_1160 wd_42 wd_67 wd_1161) (by decide) dX8_lived_7 rfl) <|
  am_kc (ak_lconst dX8_lived_10 (by decide +kernel) rfl) <|
  am_kc (ak_lstore dX8_lived_11 rfl) <|
  am_kc (ak_iload_n dX8_lived_13 rfl rfl) <|
  am_kc (ak_istore dX8_lived_14 rfl) <|
  am_kc (ak_iload dX8_lived_16 rfl) <|
  am_kc (ak_bipush dX8_lived_18 (by decide +kernel) rfl) <|
  am_kc (ak_icmp_ge dX8_lived_20 (by decide +kernel) rfl) <|
  am_kc (ak_aload_n dX8_lived_23 rfl rfl) <|
  am_kc (ak_iload_n dX8_lived_24 rfl rfl) <|
  am_kc (ak_iload dX8_lived_25 rfl) <|
  am_kc (ak_aload_n dX8_lived_27 rfl rfl) <|
  am_kc (ak_getR (C := RX8) (T := TX8) (N := 27) rfl inX8w (by decide) rfl rfl rfl wd_895 dX8_lived_28 rfl) <|
  am_kc (ak_sipush dX8_lived_31 (by decide +kernel) rfl) <|
  am_kc (ak_bipush dX8_lived_34 (by decide +kernel) rfl) <|
  am_kc (ak_iload_n dX8_lived_36 rfl rfl) <|
  am_kc (ak_imul dX8_lived_37 rfl) <|
  am_kc (ak_iadd dX8_lived_38 rfl) <|
  am_kc (ak_iload dX8_lived_39 rfl) <|
  am_kc (ak_iadd dX8_lived_41 rfl) <|
  am_kc (ak_iald (t := 0) (fun _ => rfl) rfl dX8_lived_42 rfl) <|
  am_kc (ak_iconst dX8_lived_43 (by decide +kernel) rfl) <|
  am_kc (ak_iconst dX8_lived_44 (by decide +kernel) rfl) <|
  am_kc (ak_iload dX8_lived_45 rfl) <|
  am_kc (ak_iload_n dX8_lived_47 rfl rfl) <|
  am_kc (ak_icmp_ne dX8_lived_48 (by decide +kernel) rfl) <|
  am_kc (ak_lload dX8_lived_51 rfl) <|
  am_kc (ak_goto dX8_lived_53 (by decide +kernel)) <|
  am_kc (ak_lconst dX8_lived_56 (by decide +kernel) rfl) <|
  am_kc (ak_callV (C := RX8) (F := TX8) (N := 27) metX8_stepYear rfl ⟨rfl, by decide +kernel, by decide +kernel, by decide +kernel⟩ (am_w5 wd_1166 wd_1168 wd_44 wd_67 wd_1169) (by decide) dX8_lived_57 rfl) <|
  am_kc (ak_lload dX8_lived_60 rfl) <|
  am_kc (ak_aload_n dX8_lived_62 rfl rfl) <|
  am_kc (ak_iload_n dX8_lived_63 rfl rfl) <|
  am_kc (ak_iconst dX8_lived_64 (by decide +kernel) rfl) <|
  am_kc (ak_callV (C := RX8) (F := TX8) (N := 27) metX8_allOf rfl ⟨rfl, by decide +kernel, by decide +kernel, by decide +kernel⟩ (am_w5 wd_1195 wd_1197 wd_50 wd_67 wd_1198) (by decide) dX8_lived_65 rfl) <|
  am_kc (ak_aload_n dX8_lived_68 rfl rfl) <|
  am_kc (ak_getJ (C := RX8) (T := TX8) (N := 27) rfl inX8w (by decide) rfl rfl rfl wd_917 dX8_lived_69 rfl) <|
  am_kc (ak_ladd dX8_lived_72 rfl) <|
  am_kc (ak_ladd dX8_lived_73 rfl) <|
  am_kc (ak_lstore dX8_lived_74 rfl) <|
  am_kc (ak_iinc dX8_lived_76 (by decide +kernel) rfl) <|
  am_kc (ak_goto dX8_lived_79 (by decide +kernel)) <|
  am_kc (ak_lload dX8_lived_82 rfl) <|
  am_kc (ak_retL dX8_lived_84) <| am_kn
def TX8_lived : am_T := fun live as M R => match as with
  | [.ref n, .int p, .int l, .int y, .int k, .long q] => am_mn live ∧ n = 200 ∧ am_in p 12 ∧ am_in l 4 ∧ am_in y 40 ∧ r_I M ∧ ∀ v M', r_sc M M' → r_I M' → R (some (.long v)) M'
  | _ => False
def JX8_lived : am_E → List Value → am_M → am_R → am_inv := fun live as M0 _ pc => match as with
  | [.ref n, .int p, .int l, .int y, .int k, .long q] => (match pc with
    | 16 => some ([0, 1, 2, 3, 5, 7, 9], fun k L st M => ∃ (v : Int64) (i : Int32), L = [(0, .ref 200), (1, .int p), (2, .int l), (3, .int y), (5, .long q), (7, .long v), (9, .int i)] ∧ st = [] ∧ k = ((41 - i.toInt).toNat, 0) ∧ 0 ≤ i.toInt ∧ r_sc M0 M ∧ r_I M)
    | _ => none)
  | _ => none
set_option maxRecDepth 100000 in
set_option maxHeartbeats 4000000 in
theorem metX8_lived : am_Met yX8_lived cX8_lived 10 (some .long) (10) (253) TX8_lived := by
  refine am_met (own := RX8) (by decide +kernel) rfl kX8_lived koX8_lived 100 JX8_lived ?_ ?_
  · intro live as M Ret h
    unfold TX8_lived at h
    split at h
    · next n p l y k q =>
      refine ⟨Nat.le_of_ble_eq_true rfl, ?_⟩
      change am_wp _ _ _ _ [(0, Value.ref n), (1, Value.int p), (2, Value.int l), (3, Value.int y), (4, Value.int k), (5, Value.long q)] _ _
      obtain ⟨hmn, rfl, hp, hl, hy, hR, h⟩ := h
      have hmn2 := hmn
      obtain ⟨i1, i2, rfl⟩ := hmn2
      have em := i_sub (x := y) (y := 1) (by simp only [Int32.reduceToInt]; have := hy.1; omega) (by simp only [Int32.reduceToInt]; have := hy.2; omega)
      simp only [Int32.reduceToInt] at em
      have ym : (y - 1).toInt ≤ 39 := by have q := hy.2; omega
      repeat' (first | (with_reducible exact hmn) | (with_reducible exact hp) | (with_reducible exact ym) | (with_reducible exact hR) | apply And.intro | exact rfl | ((with_reducible change r_I _); (with_reducible assumption)) | intro hx | (refine Exists.intro _ (And.intro rfl ?_)))
      all_goals try first | (with_reducible change am_tI _ _) | (change Ret _ _) | (change Ret _ _ _) | (change Exists _)
      all_goals try dsimp only at *
      all_goals try exact absurd ‹(1000 : Int64) = 0› (by decide)
      exact ⟨_, _, _, rfl, rfl, rfl, hy.1, by (repeat' (first | (with_reducible exact r_sc.rf) | (with_reducible assumption) | ((with_reducible change r_sc _ (am_wI _ _ _ _)); refine r_sc.wI ?_ rfl) | ((with_reducible change r_sc _ (am_wJ _ _ _ _)); refine r_sc.wJ ?_ rfl) | (refine r_sc.tr ?_ (by with_reducible assumption)))), by (repeat' (first | (with_reducible assumption) | ((with_reducible change r_I (am_wJ _ _ _ _)); refine r_I.wJ ?_) | ((with_reducible change r_I (am_wI _ _ _ _)); refine r_I.wI ?_ rfl)))⟩
    · exact h.elim
  · intro live as M0 Ret h k pc I hI L st M hi
    unfold TX8_lived at h
    split at h
    · next n p l y k q =>
      obtain ⟨hmn, rfl, hp, hl, hy, hR, h⟩ := h
      have hmn2 := hmn
      obtain ⟨i1, i2, rfl⟩ := hmn2
      have l201 : am_len 201 = 3760 := rfl
      have l1 := hl.1
      have l2 := hl.2
      have a0 : am_in (0 : Int32) 4 := ⟨by decide, by decide⟩
      change (match pc with | 16 => _ | _ => none) = _ at hI
      split at hI
      · cases hI
        obtain ⟨v, i, rfl, rfl, rfl, e1, e2, e3⟩ := hi
        by_cases hz : (40 : Int32) ≤ i
        · skip
          repeat' (first | apply And.intro | exact rfl | (intro hx; with_reducible exact absurd hz hx) | intro hx | (refine Exists.intro _ (And.intro rfl ?_)))
          all_goals try first | (with_reducible change am_tI _ _) | (change Ret _ _) | (change Ret _ _ _) | (change Exists _)
          all_goals try dsimp only at *
          all_goals try exact absurd ‹(1000 : Int64) = 0› (by decide)
          exact h _ _ e2 e3
        · have hz2 := hz
          simp only [i_le, Int32.reduceToInt] at hz2
          have hi := i_inc (x := i) (by omega) (by omega)
          have hyi : am_in i 40 := ⟨e1, by omega⟩
          have e40 := r_mul (c := 40) (x := l) ⟨by decide, by decide⟩ ⟨by omega, by omega⟩
          simp only [Int32.reduceToInt] at e40
          have ea := r_off (c := 3573) (x := 40 * l) ⟨by decide, by decide⟩ ⟨by omega, by omega⟩
          simp only [e40, Int32.reduceToInt] at ea
          have eb := r_off (c := 3573 + 40 * l) (x := i) ⟨by omega, by omega⟩ ⟨by omega, by omega⟩
          rw [ea] at eb
          have x1 : 0 ≤ (3573 + 40 * l + i).toInt := by omega
          have x2 : (3573 + 40 * l + i).toInt < (am_len 201 : Int) := by rw [l201]; omega
          repeat' (first | (with_reducible exact x1) | (with_reducible exact x2) | (with_reducible exact hmn) | (with_reducible exact hp) | (with_reducible exact hyi) | (with_reducible exact a0) | (with_reducible exact e3) | apply And.intro | exact rfl | (intro hx; with_reducible exact absurd hx hz) | ((with_reducible change r_I _); (with_reducible assumption)) | (intro hx; exact absurd hx (by decide)) | (intro hx; exact absurd (by decide) hx) | decide | intro hx | (refine Exists.intro _ (And.intro rfl ?_)))
          all_goals try first | (with_reducible change am_tI _ _) | (change Ret _ _) | (change Ret _ _ _) | (change Exists _)
          all_goals try dsimp only at *
          all_goals try exact absurd ‹(1000 : Int64) = 0› (by decide)
          all_goals first
            | exact ⟨_, am_lt_l (by omega), _, _, rfl, rfl, rfl, by omega, by (repeat' (first | (with_reducible exact r_sc.rf) | (with_reducible assumption) | ((with_reducible change r_sc _ (am_wI _ _ _ _)); refine r_sc.wI ?_ rfl) | ((with_reducible change r_sc _ (am_wJ _ _ _ _)); refine r_sc.wJ ?_ rfl) | (refine r_sc.tr ?_ (by with_reducible assumption)))), by (repeat' (first | (with_reducible assumption) | ((with_reducible change r_I (am_wJ _ _ _ _)); refine r_I.wJ ?_) | ((with_reducible change r_I (am_wI _ _ _ _)); refine r_I.wI ?_ rfl)))⟩
            | skip
      · cases hI
    · exact h.elim
set_option maxRecDepth 100000 in
theorem wd_1232 : Cond.methodLink "LearnLoansModel" 253 yX8_lived ∈ am_ws := am_wsi (List.mem_of_getElem? (i := 1232) (by rfl)) (by decide +kernel)
set_option maxRecDepth 100000 in
theorem wd_1234 : Cond.instanceMethod yX8_lived ∈ am_ws := am_wsi (List.mem_of_getElem? (i := 1234) (by rfl)) (by decide +kernel)
set_option maxRecDepth 100000 in
theorem wd_51 : Cond.selects "LearnLoansModel" yX8_lived yX8_lived ∈ am_ws := am_wsi (List.mem_of_getElem? (i := 51) (by rfl)) (by decide +kernel)
set_option maxRecDepth 100000 in
theorem wd_1235 : Cond.code yX8_lived cX8_lived 10 (some .long) ∈ am_ws := am_wsi (List.mem_of_getElem? (i := 1235) (by rfl)) (by decide +kernel)
theorem dX8_early_0 : decode cX8_early 0 = .ok (.aload_n 0, 1) := by decide +kernel
theorem dX8_early_1 : decode cX8_early 1 = .ok (.iload_n 1, 1) := by decide +kernel
theorem dX8_early_2 : decode cX8_early 2 = .ok (.invokevirtual 76, 3) := by decide +kernel
theorem dX8_early_5 : decode cX8_early 5 = .ok (.ifCond .eq 30, 3) := by decide +kernel
theorem dX8_early_8 : decode cX8_early 8 = .ok (.iload_n 2, 1) := by decide +kernel
theorem dX8_early_9 : decode cX8_early 9 = .ok (.i2l, 1) := by decide +kernel
theorem dX8_early_10 : decode cX8_early 10 = .ok (.lconst 1, 1) := by decide +kernel
theorem dX8_early_11 : decode cX8_early 11 = .ok (.ldc2_w 248, 3) := by decide +kernel
theorem dX8_early_14 : decode cX8_early 14 = .ok (.invokestatic 66, 3) := by decide +kernel
theorem dX8_early_17 : decode cX8_early 17 = .ok (.ifCond .eq 18, 3) := by decide +kernel
theorem dX8_early_20 : decode cX8_early 20 = .ok (.iload_n 3, 1) := by decide +kernel
theorem dX8_early_21 : decode cX8_early 21 = .ok (.invokestatic 72, 3) := by decide +kernel
theorem dX8_early_24 : decode cX8_early 24 = .ok (.ifCond .eq 11, 3) := by decide +kernel
theorem dX8_early_27 : decode cX8_early 27 = .ok (.iload 4, 2) := by decide +kernel
theorem dX8_early_29 : decode cX8_early 29 = .ok (.invokestatic 72, 3) := by decide +kernel
theorem dX8_early_32 : decode cX8_early 32 = .ok (.ifCond .ne 6, 3) := by decide +kernel
theorem dX8_early_35 : decode cX8_early 35 = .ok (.bipush (-2), 2) := by decide +kernel
theorem dX8_early_37 : decode cX8_early 37 = .ok (.ireturn, 1) := by decide +kernel
theorem dX8_early_38 : decode cX8_early 38 = .ok (.iconst 0, 1) := by decide +kernel
theorem dX8_early_39 : decode cX8_early 39 = .ok (.istore 5, 2) := by decide +kernel
theorem dX8_early_41 : decode cX8_early 41 = .ok (.iconst 0, 1) := by decide +kernel
theorem dX8_early_42 : decode cX8_early 42 = .ok (.istore 6, 2) := by decide +kernel
theorem dX8_early_44 : decode cX8_early 44 = .ok (.iload 6, 2) := by decide +kernel
theorem dX8_early_46 : decode cX8_early 46 = .ok (.iconst 4, 1) := by decide +kernel
theorem dX8_early_47 : decode cX8_early 47 = .ok (.if_icmp .ge 49, 3) := by decide +kernel
theorem dX8_early_50 : decode cX8_early 50 = .ok (.iload 5, 2) := by decide +kernel
theorem dX8_early_52 : decode cX8_early 52 = .ok (.aload_n 0, 1) := by decide +kernel
theorem dX8_early_53 : decode cX8_early 53 = .ok (.iload_n 1, 1) := by decide +kernel
theorem dX8_early_54 : decode cX8_early 54 = .ok (.iload 6, 2) := by decide +kernel
theorem dX8_early_56 : decode cX8_early 56 = .ok (.iload_n 3, 1) := by decide +kernel
theorem dX8_early_57 : decode cX8_early 57 = .ok (.iload 4, 2) := by decide +kernel
theorem dX8_early_59 : decode cX8_early 59 = .ok (.iload_n 2, 1) := by decide +kernel
theorem dX8_early_60 : decode cX8_early 60 = .ok (.i2l, 1) := by decide +kernel
theorem dX8_early_61 : decode cX8_early 61 = .ok (.invokevirtual 253, 3) := by decide +kernel
theorem dX8_early_64 : decode cX8_early 64 = .ok (.aload_n 0, 1) := by decide +kernel
theorem dX8_early_65 : decode cX8_early 65 = .ok (.iload_n 1, 1) := by decide +kernel
theorem dX8_early_66 : decode cX8_early 66 = .ok (.iload 6, 2) := by decide +kernel
theorem dX8_early_68 : decode cX8_early 68 = .ok (.iload_n 3, 1) := by decide +kernel
theorem dX8_early_69 : decode cX8_early 69 = .ok (.iload 4, 2) := by decide +kernel
theorem dX8_early_71 : decode cX8_early 71 = .ok (.lconst 0, 1) := by decide +kernel
theorem dX8_early_72 : decode cX8_early 72 = .ok (.invokevirtual 253, 3) := by decide +kernel
theorem dX8_early_75 : decode cX8_early 75 = .ok (.lcmp, 1) := by decide +kernel
theorem dX8_early_76 : decode cX8_early 76 = .ok (.ifCond .ge 10, 3) := by decide +kernel
theorem dX8_early_79 : decode cX8_early 79 = .ok (.iconst 1, 1) := by decide +kernel
theorem dX8_early_80 : decode cX8_early 80 = .ok (.iload 6, 2) := by decide +kernel
theorem dX8_early_82 : decode cX8_early 82 = .ok (.ishl, 1) := by decide +kernel
theorem dX8_early_83 : decode cX8_early 83 = .ok (.goto 4, 3) := by decide +kernel
theorem dX8_early_86 : decode cX8_early 86 = .ok (.iconst 0, 1) := by decide +kernel
theorem dX8_early_87 : decode cX8_early 87 = .ok (.ior, 1) := by decide +kernel
theorem dX8_early_88 : decode cX8_early 88 = .ok (.istore 5, 2) := by decide +kernel
theorem dX8_early_90 : decode cX8_early 90 = .ok (.iinc 6 1, 3) := by decide +kernel
theorem dX8_early_93 : decode cX8_early 93 = .ok (.goto (-49), 3) := by decide +kernel
theorem dX8_early_96 : decode cX8_early 96 = .ok (.iload 5, 2) := by decide +kernel
theorem dX8_early_98 : decode cX8_early 98 = .ok (.ireturn, 1) := by decide +kernel
def kX8_early (live : am_E) (Ret : am_R) : am_code := [(0, am_aload 0 1), (1, am_iload 1 2), (2, am_callV live 8 1 TX8_isPerson 5), (5, am_if1 (fun x => x = 0) 35 8), (8, am_iload 2 9), (9, am_i2l 10), (10, am_const (.long 1) 11), (11, am_const (.long 1000000000) 14), (14, am_callS live 3 TX8_in 17), (17, am_if1 (fun x => x = 0) 35 20), (20, am_iload 3 21), (21, am_callS live 1 TX8_isYear 24), (24, am_if1 (fun x => x = 0) 35 27), (27, am_iload 4 29), (29, am_callS live 1 TX8_isYear 32), (32, am_if1 (fun x => x = 0) 35 38), (35, am_const (.int (-2)) 37), (37, am_retI Ret), (38, am_const (.int 0) 39), (39, am_istore 5 7 41), (41, am_const (.int 0) 42), (42, am_istore 6 7 44), (44, am_iload 6 46), (46, am_const (.int 4) 47), (47, am_if2 (fun x y => y ≤ x) 96 50), (50, am_iload 5 52), (52, am_aload 0 53), (53, am_iload 1 54), (54, am_iload 6 56), (56, am_iload 3 57), (57, am_iload 4 59), (59, am_iload 2 60), (60, am_i2l 61), (61, am_callV live 8 5 TX8_lived 64), (64, am_aload 0 65), (65, am_iload 1 66), (66, am_iload 6 68), (68, am_iload 3 69), (69, am_iload 4 71), (71, am_const (.long 0) 72), (72, am_callV live 8 5 TX8_lived 75), (75, am_lcmp 76), (76, am_if1 (fun x => 0 ≤ x) 86 79), (79, am_const (.int 1) 80), (80, am_iload 6 82), (82, am_i2 (fun x y => x <<< (y &&& 31)) 83), (83, am_goto 87), (86, am_const (.int 0) 87), (87, am_i2 (fun x y => x ||| y) 88), (88, am_istore 5 7 90), (90, am_iinc 6 7 1 93), (93, am_goto 44), (96, am_iload 5 98), (98, am_retI Ret)]
theorem koX8_early (live : am_E) (Ret : am_R) : ∀ q ∈ kX8_early live Ret, am_ok RX8 cX8_early 7 (some .int) 11 282 live Ret q.1 q.2 :=
  am_kc (ak_aload_n dX8_early_0 rfl rfl) <|
  am_kc (ak_iload_n dX8_early_1 rfl rfl) <|
  am_kc (ak_callV (C := RX8) (F := TX8) (N := 27) metX8_isPerson rfl ⟨rfl, by decide +kernel, by decide +kernel, by decide +kernel⟩ (am_w5 wd_993 wd_995 wd_27 wd_67 wd_996) (by decide) dX8_early_2 rfl) <|
  am_kc (ak_if_eq dX8_early_5 (by decide +kernel) rfl) <|
  am_kc (ak_iload_n dX8_early_8 rfl rfl) <|
  am_kc (ak_i2l dX8_early_9 rfl) <|
  am_kc (ak_lconst dX8_early_10 (by decide +kernel) rfl) <|
  am_kc (ak_ldc2 wd_1216 dX8_early_11 rfl) <|
  am_kc (ak_callS metX8_in ⟨rfl, by decide +kernel, by decide +kernel, by decide +kernel⟩ (am_w4 wd_986 wd_987 wd_67 wd_988) (by decide) dX8_early_14 rfl) <|
  am_kc (ak_if_eq dX8_early_17 (by decide +kernel) rfl) <|
  am_kc (ak_iload_n dX8_early_20 rfl rfl) <|
  am_kc (ak_callS metX8_isYear ⟨rfl, by decide +kernel, by decide +kernel, by decide +kernel⟩ (am_w4 wd_982 wd_983 wd_67 wd_984) (by decide) dX8_early_21 rfl) <|
  am_kc (ak_if_eq dX8_early_24 (by decide +kernel) rfl) <|
  am_kc (ak_iload dX8_early_27 rfl) <|
  am_kc (ak_callS metX8_isYear ⟨rfl, by decide +kernel, by decide +kernel, by decide +kernel⟩ (am_w4 wd_982 wd_983 wd_67 wd_984) (by decide) dX8_early_29 rfl) <|
  am_kc (ak_if_ne dX8_early_32 (by decide +kernel) rfl) <|
  am_kc (ak_bipush dX8_early_35 (by decide +kernel) rfl) <|
  am_kc (ak_retI dX8_early_37) <|
  am_kc (ak_iconst dX8_early_38 (by decide +kernel) rfl) <|
  am_kc (ak_istore dX8_early_39 rfl) <|
  am_kc (ak_iconst dX8_early_41 (by decide +kernel) rfl) <|
  am_kc (ak_istore dX8_early_42 rfl) <|
  am_kc (ak_iload dX8_early_44 rfl) <|
  am_kc (ak_iconst dX8_early_46 (by decide +kernel) rfl) <|
  am_kc (ak_icmp_ge dX8_early_47 (by decide +kernel) rfl) <|
  am_kc (ak_iload dX8_early_50 rfl) <|
  am_kc (ak_aload_n dX8_early_52 rfl rfl) <|
  am_kc (ak_iload_n dX8_early_53 rfl rfl) <|
  am_kc (ak_iload dX8_early_54 rfl) <|
  am_kc (ak_iload_n dX8_early_56 rfl rfl) <|
  am_kc (ak_iload dX8_early_57 rfl) <|
  am_kc (ak_iload_n dX8_early_59 rfl rfl) <|
  am_kc (ak_i2l dX8_early_60 rfl) <|
  am_kc (ak_callV (C := RX8) (F := TX8) (N := 27) metX8_lived rfl ⟨rfl, by decide +kernel, by decide +kernel, by decide +kernel⟩ (am_w5 wd_1232 wd_1234 wd_51 wd_67 wd_1235) (by decide) dX8_early_61 rfl) <|
  am_kc (ak_aload_n dX8_early_64 rfl rfl) <|
  am_kc (ak_iload_n dX8_early_65 rfl rfl) <|
  am_kc (ak_iload dX8_early_66 rfl) <|
  am_kc (ak_iload_n dX8_early_68 rfl rfl) <|
  am_kc (ak_iload dX8_early_69 rfl) <|
  am_kc (ak_lconst dX8_early_71 (by decide +kernel) rfl) <|
  am_kc (ak_callV (C := RX8) (F := TX8) (N := 27) metX8_lived rfl ⟨rfl, by decide +kernel, by decide +kernel, by decide +kernel⟩ (am_w5 wd_1232 wd_1234 wd_51 wd_67 wd_1235) (by decide) dX8_early_72 rfl) <|
  am_kc (ak_lcmp dX8_early_75 rfl) <|
  am_kc (ak_if_ge dX8_early_76 (by decide +kernel) rfl) <|
  am_kc (ak_iconst dX8_early_79 (by decide +kernel) rfl) <|
  am_kc (ak_iload dX8_early_80 rfl) <|
  am_kc (ak_ishl dX8_early_82 rfl) <|
  am_kc (ak_goto dX8_early_83 (by decide +kernel)) <|
  am_kc (ak_iconst dX8_early_86 (by decide +kernel) rfl) <|
  am_kc (ak_ior dX8_early_87 rfl) <|
  am_kc (ak_istore dX8_early_88 rfl) <|
  am_kc (ak_iinc dX8_early_90 (by decide +kernel) rfl) <|
  am_kc (ak_goto dX8_early_93 (by decide +kernel)) <|
  am_kc (ak_iload dX8_early_96 rfl) <|
  am_kc (ak_retI dX8_early_98) <| am_kn
def TX8_early : am_T := fun live as M R => match as with
  | [.ref n, .int p, .int s, .int y, .int k] => am_mn live ∧ n = 200 ∧ r_I M ∧ ∀ v M', r_sc M M' → r_I M' → R (some (.int v)) M'
  | _ => False
def JX8_early : am_E → List Value → am_M → am_R → am_inv := fun live as M0 _ pc => match as with
  | [.ref n, .int p, .int s, .int y, .int k] => (match pc with
    | 44 => some ([0, 1, 2, 3, 4, 5, 6], fun u L st M => ∃ o i : Int32, L = [(0, .ref 200), (1, .int p), (2, .int s), (3, .int y), (4, .int k), (5, .int o), (6, .int i)] ∧ st = [] ∧ u = ((5 - i.toInt).toNat, 0) ∧ 0 ≤ i.toInt ∧ (am_in p 12 ∧ am_in y 40) ∧ r_sc M0 M ∧ r_I M)
    | _ => none)
  | _ => none
set_option maxRecDepth 100000 in
set_option maxHeartbeats 4000000 in
theorem metX8_early : am_Met yX8_early cX8_early 7 (some .int) (11) (282) TX8_early := by
  refine am_met (own := RX8) (by decide +kernel) rfl kX8_early koX8_early 150 JX8_early ?_ ?_
  · intro live as M Ret h
    unfold TX8_early at h
    split at h
    · next n p s y k =>
      refine ⟨Nat.le_of_ble_eq_true rfl, ?_⟩
      change am_wp _ _ _ _ [(0, Value.ref n), (1, Value.int p), (2, Value.int s), (3, Value.int y), (4, Value.int k)] _ _
      obtain ⟨hmn, rfl, hR, h⟩ := h
      have hmn2 := hmn
      obtain ⟨i1, i2, rfl⟩ := hmn2
      have l201 : am_len 201 = 3760 := rfl
      have n0 := hR.n0
      have n1 := hR.n1
      have n030 : 0 ≤ (M.1 201 0).toInt ∧ (M.1 201 0).toInt ≤ 30 := ⟨n0.1, by omega⟩
      by_cases z0 : 0 ≤ p ∧ p < M.1 201 0
      rotate_left
      · skip
        have q0 : (if 0 ≤ p ∧ p < M.1 201 0 then (1 : Int32) else 0) = 0 := if_neg z0
        repeat' (first | (with_reducible exact hmn) | (with_reducible exact n030) | (with_reducible exact n1) | apply And.intro | exact rfl | (intro hx; with_reducible exact absurd q0 hx) | (intro hx; exact absurd hx (by decide)) | (intro hx; exact absurd (by decide) hx) | decide | intro hx | (refine Exists.intro _ (And.intro rfl ?_)))
        all_goals try first | (with_reducible change am_tI _ _) | (change Ret _ _) | (change Ret _ _ _) | (change Exists _)
        all_goals try dsimp only at *
        all_goals try exact absurd ‹(1000 : Int64) = 0› (by decide)
        all_goals exact h _ _ r_sc.rf hR
      · skip
        have q0 : ¬ ((if 0 ≤ p ∧ p < M.1 201 0 then (1 : Int32) else 0) = 0) := by rw [if_pos z0]; decide
        by_cases z1 : 1 ≤ s ∧ s ≤ 1000000000
        rotate_left
        · skip
          have q1 : (if (1 : Int64) ≤ s.toInt64 ∧ s.toInt64 ≤ (1000000000 : Int64) then (1 : Int32) else 0) = 0 := if_neg (fun r => z1 (by simp only [i_le, i_lt, j_le, Int32.toInt_toInt64, Int32.reduceToInt, Int64.reduceToInt] at r ⊢; omega))
          repeat' (first | (with_reducible exact hmn) | (with_reducible exact n030) | (with_reducible exact n1) | apply And.intro | exact rfl | (intro hx; with_reducible exact absurd hx q0) | (intro hx; with_reducible exact absurd q1 hx) | (intro hx; exact absurd hx (by decide)) | (intro hx; exact absurd (by decide) hx) | decide | intro hx | (refine Exists.intro _ (And.intro rfl ?_)))
          all_goals try first | (with_reducible change am_tI _ _) | (change Ret _ _) | (change Ret _ _ _) | (change Exists _)
          all_goals try dsimp only at *
          all_goals try exact absurd ‹(1000 : Int64) = 0› (by decide)
          all_goals exact h _ _ r_sc.rf hR
        · skip
          have q1 : ¬ ((if (1 : Int64) ≤ s.toInt64 ∧ s.toInt64 ≤ (1000000000 : Int64) then (1 : Int32) else 0) = 0) := by rw [if_pos (by have q := z1; simp only [i_le, i_lt, j_le, Int32.toInt_toInt64, Int32.reduceToInt, Int64.reduceToInt] at q ⊢; omega)]; decide
          by_cases z2 : 0 ≤ y ∧ y < 40
          rotate_left
          · skip
            have q2 : (if 0 ≤ y ∧ y < 40 then (1 : Int32) else 0) = 0 := if_neg z2
            repeat' (first | (with_reducible exact hmn) | (with_reducible exact n030) | (with_reducible exact n1) | apply And.intro | exact rfl | (intro hx; with_reducible exact absurd hx q0) | (intro hx; with_reducible exact absurd hx q1) | (intro hx; with_reducible exact absurd q2 hx) | (intro hx; exact absurd hx (by decide)) | (intro hx; exact absurd (by decide) hx) | decide | intro hx | (refine Exists.intro _ (And.intro rfl ?_)))
            all_goals try first | (with_reducible change am_tI _ _) | (change Ret _ _) | (change Ret _ _ _) | (change Exists _)
            all_goals try dsimp only at *
            all_goals try exact absurd ‹(1000 : Int64) = 0› (by decide)
            all_goals exact h _ _ r_sc.rf hR
          · skip
            have q2 : ¬ ((if 0 ≤ y ∧ y < 40 then (1 : Int32) else 0) = 0) := by rw [if_pos z2]; decide
            by_cases z3 : 0 ≤ k ∧ k < 40
            rotate_left
            · skip
              have q3 : (if 0 ≤ k ∧ k < 40 then (1 : Int32) else 0) = 0 := if_neg z3
              repeat' (first | (with_reducible exact hmn) | (with_reducible exact n030) | (with_reducible exact n1) | apply And.intro | exact rfl | (intro hx; with_reducible exact absurd hx q0) | (intro hx; with_reducible exact absurd hx q1) | (intro hx; with_reducible exact absurd hx q2) | (intro hx; with_reducible exact absurd q3 hx) | (intro hx; exact absurd hx (by decide)) | (intro hx; exact absurd (by decide) hx) | decide | intro hx | (refine Exists.intro _ (And.intro rfl ?_)))
              all_goals try first | (with_reducible change am_tI _ _) | (change Ret _ _) | (change Ret _ _ _) | (change Exists _)
              all_goals try dsimp only at *
              all_goals try exact absurd ‹(1000 : Int64) = 0› (by decide)
              all_goals exact h _ _ r_sc.rf hR
            · skip
              have q3 : ¬ ((if 0 ≤ k ∧ k < 40 then (1 : Int32) else 0) = 0) := by rw [if_pos z3]; decide
              have hp : am_in p 12 := ⟨by have q := z0.1; simp only [i_le, Int32.reduceToInt] at q; omega, by have q := z0.2; simp only [i_lt] at q; omega⟩
              have hy : am_in y 40 := ⟨by have q := z2.1; simp only [i_le, Int32.reduceToInt] at q; omega, by have q := z2.2; simp only [i_lt, Int32.reduceToInt] at q; omega⟩
              repeat' (first | (with_reducible exact hmn) | (with_reducible exact hR) | (with_reducible exact n030) | (with_reducible exact n1) | apply And.intro | exact rfl | (intro hx; with_reducible exact absurd hx q0) | (intro hx; with_reducible exact absurd hx q1) | (intro hx; with_reducible exact absurd hx q2) | (intro hx; with_reducible exact absurd hx q3) | ((with_reducible change r_I _); (with_reducible assumption)) | (intro hx; exact absurd hx (by decide)) | (intro hx; exact absurd (by decide) hx) | decide | intro hx | (refine Exists.intro _ (And.intro rfl ?_)))
              all_goals try first | (with_reducible change am_tI _ _) | (change Ret _ _) | (change Ret _ _ _) | (change Exists _)
              all_goals try dsimp only at *
              all_goals try exact absurd ‹(1000 : Int64) = 0› (by decide)
              all_goals first | exact ⟨_, _, _, rfl, rfl, rfl, by decide, ⟨hp, hy⟩, r_sc.rf, hR⟩ | (change r_I _; (repeat' (first | (with_reducible assumption) | ((with_reducible change r_I (am_wJ _ _ _ _)); refine r_I.wJ ?_) | ((with_reducible change r_I (am_wI _ _ _ _)); refine r_I.wI ?_ rfl)))) | ((with_reducible change Ret _ _); exact h _ _ (by (repeat' (first | (with_reducible exact r_sc.rf) | (with_reducible assumption) | ((with_reducible change r_sc _ (am_wI _ _ _ _)); refine r_sc.wI ?_ rfl) | ((with_reducible change r_sc _ (am_wJ _ _ _ _)); refine r_sc.wJ ?_ rfl) | (refine r_sc.tr ?_ (by with_reducible assumption))))) (by (repeat' (first | (with_reducible assumption) | ((with_reducible change r_I (am_wJ _ _ _ _)); refine r_I.wJ ?_) | ((with_reducible change r_I (am_wI _ _ _ _)); refine r_I.wI ?_ rfl))))) | skip
    · exact h.elim
  · intro live as M0 Ret h k pc I hI L st M hi
    unfold TX8_early at h
    split at h
    · next n p s y k =>
      obtain ⟨hmn, rfl, hR, h⟩ := h
      have hmn2 := hmn
      obtain ⟨i1, i2, rfl⟩ := hmn2
      change (match pc with | 44 => _ | _ => none) = _ at hI
      split at hI
      · cases hI
        obtain ⟨o, i, rfl, rfl, rfl, e1, ⟨hp, hy⟩, e2, e3⟩ := hi
        by_cases hz : (4 : Int32) ≤ i
        · skip
          repeat' (first | apply And.intro | exact rfl | (intro hx; with_reducible exact absurd hz hx) | intro hx | (refine Exists.intro _ (And.intro rfl ?_)))
          all_goals try first | (with_reducible change am_tI _ _) | (change Ret _ _) | (change Ret _ _ _) | (change Exists _)
          all_goals try dsimp only at *
          all_goals try exact absurd ‹(1000 : Int64) = 0› (by decide)
          exact h _ _ e2 e3
        · have hz2 := hz
          simp only [i_le, Int32.reduceToInt] at hz2
          have hi := i_inc (x := i) (by omega) (by omega)
          have hl : am_in i 4 := ⟨e1, by omega⟩
          repeat' (first | (with_reducible exact hmn) | (with_reducible exact hp) | (with_reducible exact hl) | (with_reducible exact hy) | (with_reducible exact e3) | apply And.intro | exact rfl | (intro hx; with_reducible exact absurd hx hz) | ((with_reducible change r_I _); (with_reducible assumption)) | intro hx | (refine Exists.intro _ (And.intro rfl ?_)))
          all_goals try first | (with_reducible change am_tI _ _) | (change Ret _ _) | (change Ret _ _ _) | (change Exists _)
          all_goals try dsimp only at *
          all_goals try exact absurd ‹(1000 : Int64) = 0› (by decide)
          all_goals exact ⟨_, am_lt_l (by omega), _, _, rfl, rfl, rfl, by omega, ⟨hp, hy⟩, by (repeat' (first | (with_reducible exact r_sc.rf) | (with_reducible assumption) | ((with_reducible change r_sc _ (am_wI _ _ _ _)); refine r_sc.wI ?_ rfl) | ((with_reducible change r_sc _ (am_wJ _ _ _ _)); refine r_sc.wJ ?_ rfl) | (refine r_sc.tr ?_ (by with_reducible assumption)))), by (repeat' (first | (with_reducible assumption) | ((with_reducible change r_I (am_wJ _ _ _ _)); refine r_I.wJ ?_) | ((with_reducible change r_I (am_wI _ _ _ _)); refine r_I.wI ?_ rfl)))⟩
      · cases hI
    · exact h.elim
theorem dX8_choice_0 : decode cX8_choice 0 = .ok (.aload_n 0, 1) := by decide +kernel
theorem dX8_choice_1 : decode cX8_choice 1 = .ok (.iload_n 1, 1) := by decide +kernel
theorem dX8_choice_2 : decode cX8_choice 2 = .ok (.invokevirtual 76, 3) := by decide +kernel
theorem dX8_choice_5 : decode cX8_choice 5 = .ok (.ifCond .eq 38, 3) := by decide +kernel
theorem dX8_choice_8 : decode cX8_choice 8 = .ok (.iload_n 2, 1) := by decide +kernel
theorem dX8_choice_9 : decode cX8_choice 9 = .ok (.iconst (-1), 1) := by decide +kernel
theorem dX8_choice_10 : decode cX8_choice 10 = .ok (.if_icmp .eq 10, 3) := by decide +kernel
theorem dX8_choice_13 : decode cX8_choice 13 = .ok (.iload_n 2, 1) := by decide +kernel
theorem dX8_choice_14 : decode cX8_choice 14 = .ok (.invokestatic 104, 3) := by decide +kernel
theorem dX8_choice_17 : decode cX8_choice 17 = .ok (.ifCond .eq 26, 3) := by decide +kernel
theorem dX8_choice_20 : decode cX8_choice 20 = .ok (.iload_n 3, 1) := by decide +kernel
theorem dX8_choice_21 : decode cX8_choice 21 = .ok (.invokestatic 250, 3) := by decide +kernel
theorem dX8_choice_24 : decode cX8_choice 24 = .ok (.ifCond .eq 19, 3) := by decide +kernel
theorem dX8_choice_27 : decode cX8_choice 27 = .ok (.iload 4, 2) := by decide +kernel
theorem dX8_choice_29 : decode cX8_choice 29 = .ok (.invokestatic 72, 3) := by decide +kernel
theorem dX8_choice_32 : decode cX8_choice 32 = .ok (.ifCond .eq 11, 3) := by decide +kernel
theorem dX8_choice_35 : decode cX8_choice 35 = .ok (.iload 5, 2) := by decide +kernel
theorem dX8_choice_37 : decode cX8_choice 37 = .ok (.invokestatic 72, 3) := by decide +kernel
theorem dX8_choice_40 : decode cX8_choice 40 = .ok (.ifCond .ne 7, 3) := by decide +kernel
theorem dX8_choice_43 : decode cX8_choice 43 = .ok (.ldc2_w 237, 3) := by decide +kernel
theorem dX8_choice_46 : decode cX8_choice 46 = .ok (.lreturn, 1) := by decide +kernel
theorem dX8_choice_47 : decode cX8_choice 47 = .ok (.aload_n 0, 1) := by decide +kernel
theorem dX8_choice_48 : decode cX8_choice 48 = .ok (.iload_n 2, 1) := by decide +kernel
theorem dX8_choice_49 : decode cX8_choice 49 = .ok (.putfield 61, 3) := by decide +kernel
theorem dX8_choice_52 : decode cX8_choice 52 = .ok (.aload_n 0, 1) := by decide +kernel
theorem dX8_choice_53 : decode cX8_choice 53 = .ok (.iload 4, 2) := by decide +kernel
theorem dX8_choice_55 : decode cX8_choice 55 = .ok (.putfield 138, 3) := by decide +kernel
theorem dX8_choice_58 : decode cX8_choice 58 = .ok (.aload_n 0, 1) := by decide +kernel
theorem dX8_choice_59 : decode cX8_choice 59 = .ok (.iload_n 1, 1) := by decide +kernel
theorem dX8_choice_60 : decode cX8_choice 60 = .ok (.iload_n 3, 1) := by decide +kernel
theorem dX8_choice_61 : decode cX8_choice 61 = .ok (.iload 4, 2) := by decide +kernel
theorem dX8_choice_63 : decode cX8_choice 63 = .ok (.iload 5, 2) := by decide +kernel
theorem dX8_choice_65 : decode cX8_choice 65 = .ok (.lconst 0, 1) := by decide +kernel
theorem dX8_choice_66 : decode cX8_choice 66 = .ok (.invokevirtual 253, 3) := by decide +kernel
theorem dX8_choice_69 : decode cX8_choice 69 = .ok (.lstore 6, 2) := by decide +kernel
theorem dX8_choice_71 : decode cX8_choice 71 = .ok (.aload_n 0, 1) := by decide +kernel
theorem dX8_choice_72 : decode cX8_choice 72 = .ok (.iconst (-1), 1) := by decide +kernel
theorem dX8_choice_73 : decode cX8_choice 73 = .ok (.putfield 61, 3) := by decide +kernel
theorem dX8_choice_76 : decode cX8_choice 76 = .ok (.lload 6, 2) := by decide +kernel
theorem dX8_choice_78 : decode cX8_choice 78 = .ok (.lreturn, 1) := by decide +kernel
def kX8_choice (live : am_E) (Ret : am_R) : am_code := [(0, am_aload 0 1), (1, am_iload 1 2), (2, am_callV live 8 1 TX8_isPerson 5), (5, am_if1 (fun x => x = 0) 43 8), (8, am_iload 2 9), (9, am_const (.int (-1)) 10), (10, am_if2 (fun x y => x = y) 20 13), (13, am_iload 2 14), (14, am_callS live 1 TX8_isPlan 17), (17, am_if1 (fun x => x = 0) 43 20), (20, am_iload 3 21), (21, am_callS live 1 TX8_isLife 24), (24, am_if1 (fun x => x = 0) 43 27), (27, am_iload 4 29), (29, am_callS live 1 TX8_isYear 32), (32, am_if1 (fun x => x = 0) 43 35), (35, am_iload 5 37), (37, am_callS live 1 TX8_isYear 40), (40, am_if1 (fun x => x = 0) 43 47), (43, am_const (.long (-2)) 46), (46, am_retL Ret), (47, am_aload 0 48), (48, am_iload 2 49), (49, am_putI live 8 7 52), (52, am_aload 0 53), (53, am_iload 4 55), (55, am_putI live 8 8 58), (58, am_aload 0 59), (59, am_iload 1 60), (60, am_iload 3 61), (61, am_iload 4 63), (63, am_iload 5 65), (65, am_const (.long 0) 66), (66, am_callV live 8 5 TX8_lived 69), (69, am_lstore 6 8 71), (71, am_aload 0 72), (72, am_const (.int (-1)) 73), (73, am_putI live 8 7 76), (76, am_lload 6 78), (78, am_retL Ret)]
theorem koX8_choice (live : am_E) (Ret : am_R) : ∀ q ∈ kX8_choice live Ret, am_ok RX8 cX8_choice 8 (some .long) 11 282 live Ret q.1 q.2 :=
  am_kc (ak_aload_n dX8_choice_0 rfl rfl) <|
  am_kc (ak_iload_n dX8_choice_1 rfl rfl) <|
  am_kc (ak_callV (C := RX8) (F := TX8) (N := 27) metX8_isPerson rfl ⟨rfl, by decide +kernel, by decide +kernel, by decide +kernel⟩ (am_w5 wd_993 wd_995 wd_27 wd_67 wd_996) (by decide) dX8_choice_2 rfl) <|
  am_kc (ak_if_eq dX8_choice_5 (by decide +kernel) rfl) <|
  am_kc (ak_iload_n dX8_choice_8 rfl rfl) <|
  am_kc (ak_iconst dX8_choice_9 (by decide +kernel) rfl) <|
  am_kc (ak_icmp_eq dX8_choice_10 (by decide +kernel) rfl) <|
  am_kc (ak_iload_n dX8_choice_13 rfl rfl) <|
  am_kc (ak_callS metX8_isPlan ⟨rfl, by decide +kernel, by decide +kernel, by decide +kernel⟩ (am_w4 wd_1034 wd_1035 wd_67 wd_1036) (by decide) dX8_choice_14 rfl) <|
  am_kc (ak_if_eq dX8_choice_17 (by decide +kernel) rfl) <|
  am_kc (ak_iload_n dX8_choice_20 rfl rfl) <|
  am_kc (ak_callS metX8_isLife ⟨rfl, by decide +kernel, by decide +kernel, by decide +kernel⟩ (am_w4 wd_1225 wd_1226 wd_67 wd_1227) (by decide) dX8_choice_21 rfl) <|
  am_kc (ak_if_eq dX8_choice_24 (by decide +kernel) rfl) <|
  am_kc (ak_iload dX8_choice_27 rfl) <|
  am_kc (ak_callS metX8_isYear ⟨rfl, by decide +kernel, by decide +kernel, by decide +kernel⟩ (am_w4 wd_982 wd_983 wd_67 wd_984) (by decide) dX8_choice_29 rfl) <|
  am_kc (ak_if_eq dX8_choice_32 (by decide +kernel) rfl) <|
  am_kc (ak_iload dX8_choice_35 rfl) <|
  am_kc (ak_callS metX8_isYear ⟨rfl, by decide +kernel, by decide +kernel, by decide +kernel⟩ (am_w4 wd_982 wd_983 wd_67 wd_984) (by decide) dX8_choice_37 rfl) <|
  am_kc (ak_if_ne dX8_choice_40 (by decide +kernel) rfl) <|
  am_kc (ak_ldc2 wd_1153 dX8_choice_43 rfl) <|
  am_kc (ak_retL dX8_choice_46) <|
  am_kc (ak_aload_n dX8_choice_47 rfl rfl) <|
  am_kc (ak_iload_n dX8_choice_48 rfl rfl) <|
  am_kc (ak_putI (C := RX8) (T := TX8) (N := 27) rfl inX8w tyX8_ok nmX8 (by decide) rfl rfl rfl rfl (by decide +kernel) wd_902 dX8_choice_49 rfl) <|
  am_kc (ak_aload_n dX8_choice_52 rfl rfl) <|
  am_kc (ak_iload dX8_choice_53 rfl) <|
  am_kc (ak_putI (C := RX8) (T := TX8) (N := 27) rfl inX8w tyX8_ok nmX8 (by decide) rfl rfl rfl rfl (by decide +kernel) wd_903 dX8_choice_55 rfl) <|
  am_kc (ak_aload_n dX8_choice_58 rfl rfl) <|
  am_kc (ak_iload_n dX8_choice_59 rfl rfl) <|
  am_kc (ak_iload_n dX8_choice_60 rfl rfl) <|
  am_kc (ak_iload dX8_choice_61 rfl) <|
  am_kc (ak_iload dX8_choice_63 rfl) <|
  am_kc (ak_lconst dX8_choice_65 (by decide +kernel) rfl) <|
  am_kc (ak_callV (C := RX8) (F := TX8) (N := 27) metX8_lived rfl ⟨rfl, by decide +kernel, by decide +kernel, by decide +kernel⟩ (am_w5 wd_1232 wd_1234 wd_51 wd_67 wd_1235) (by decide) dX8_choice_66 rfl) <|
  am_kc (ak_lstore dX8_choice_69 rfl) <|
  am_kc (ak_aload_n dX8_choice_71 rfl rfl) <|
  am_kc (ak_iconst dX8_choice_72 (by decide +kernel) rfl) <|
  am_kc (ak_putI (C := RX8) (T := TX8) (N := 27) rfl inX8w tyX8_ok nmX8 (by decide) rfl rfl rfl rfl (by decide +kernel) wd_902 dX8_choice_73 rfl) <|
  am_kc (ak_lload dX8_choice_76 rfl) <|
  am_kc (ak_retL dX8_choice_78) <| am_kn
def TX8_choice : am_T := fun live as M R => match as with
  | [.ref n, .int p, .int q, .int l, .int y, .int k] => am_mn live ∧ n = 200 ∧ r_I M ∧ M.1 200 7 = -1 ∧ ∀ v M', r_sc M M' → r_I M' → R (some (.long v)) M'
  | _ => False
set_option maxRecDepth 100000 in
set_option maxHeartbeats 4000000 in
theorem metX8_choice : am_Met yX8_choice cX8_choice 8 (some .long) (11) (282) TX8_choice := by
  refine am_met (own := RX8) (by decide +kernel) rfl kX8_choice koX8_choice 150 (fun _ _ _ _ _ => none) (fun live as M Ret h => ?_) (fun _ _ _ _ _ _ _ _ hI => by cases hI)
  unfold TX8_choice at h
  split at h
  · next n p q l y k =>
    refine ⟨Nat.le_of_ble_eq_true rfl, ?_⟩
    change am_wp _ _ _ _ [(0, Value.ref n), (1, Value.int p), (2, Value.int q), (3, Value.int l), (4, Value.int y), (5, Value.int k)] _ _
    obtain ⟨hmn, rfl, hR, hn3, h⟩ := h
    have hmn2 := hmn
    obtain ⟨i1, i2, rfl⟩ := hmn2
    have l201 : am_len 201 = 3760 := rfl
    have n0 := hR.n0
    have n1 := hR.n1
    have n030 : 0 ≤ (M.1 201 0).toInt ∧ (M.1 201 0).toInt ≤ 30 := ⟨n0.1, by omega⟩
    by_cases z0 : 0 ≤ p ∧ p < M.1 201 0
    rotate_left
    · skip
      have q0 : (if 0 ≤ p ∧ p < M.1 201 0 then (1 : Int32) else 0) = 0 := if_neg z0
      repeat' (first | (with_reducible exact hmn) | (with_reducible exact n030) | (with_reducible exact n1) | apply And.intro | exact rfl | (intro hx; with_reducible exact absurd q0 hx) | (intro hx; exact absurd hx (by decide)) | (intro hx; exact absurd (by decide) hx) | decide | intro hx | (refine Exists.intro _ (And.intro rfl ?_)))
      all_goals try first | (with_reducible change am_tI _ _) | (change Ret _ _) | (change Ret _ _ _) | (change Exists _)
      all_goals try dsimp only at *
      all_goals try exact absurd ‹(1000 : Int64) = 0› (by decide)
      all_goals exact h _ _ r_sc.rf hR
    · skip
      have q0 : ¬ ((if 0 ≤ p ∧ p < M.1 201 0 then (1 : Int32) else 0) = 0) := by rw [if_pos z0]; decide
      have hp : am_in p 12 := ⟨by have q := z0.1; simp only [i_le, Int32.reduceToInt] at q; omega, by have q := z0.2; simp only [i_lt] at q; omega⟩
      by_cases zz : q = -1 ∨ (0 ≤ q ∧ q < 5)
      rotate_left
      · have q8 : ¬ q = -1 := fun z => zz (Or.inl z)
        have q9 : (if 0 ≤ q ∧ q < 5 then (1 : Int32) else 0) = 0 := if_neg (fun z => zz (Or.inr z))
        repeat' (first | (with_reducible exact hmn) | (with_reducible exact n030) | (with_reducible exact n1) | apply And.intro | exact rfl | (intro hx; with_reducible exact absurd hx q0) | (intro hx; with_reducible exact absurd hx q8) | (intro hx; with_reducible exact absurd q9 hx) | (intro hx; exact absurd hx (by decide)) | (intro hx; exact absurd (by decide) hx) | decide | intro hx | (refine Exists.intro _ (And.intro rfl ?_)))
        all_goals try first | (with_reducible change am_tI _ _) | (change Ret _ _) | (change Ret _ _ _) | (change Exists _)
        all_goals try dsimp only at *
        all_goals try exact absurd ‹(1000 : Int64) = 0› (by decide)
        all_goals exact h _ _ r_sc.rf hR
      have hq : q = -1 ∨ am_in q 5 := zz.imp id (fun z => ⟨by have q := z.1; simp only [i_le, Int32.reduceToInt] at q; omega, by have q := z.2; simp only [i_lt, Int32.reduceToInt] at q; omega⟩)
      by_cases z1 : 0 ≤ l ∧ l ≤ 3
      rotate_left
      · skip
        have q1 : (if 0 ≤ l ∧ l ≤ 3 then (1 : Int32) else 0) = 0 := if_neg z1
        repeat' (first | (with_reducible exact hmn) | (with_reducible exact n030) | (with_reducible exact n1) | apply And.intro | exact rfl | (intro hx; with_reducible exact absurd hx q0) | (intro hx; with_reducible exact absurd q1 hx) | (intro hx; exact absurd hx (by decide)) | (intro hx; exact absurd (by decide) hx) | decide | intro hx | (refine Exists.intro _ (And.intro rfl ?_)))
        all_goals try first | (with_reducible change am_tI _ _) | (change Ret _ _) | (change Ret _ _ _) | (change Exists _)
        all_goals try dsimp only at *
        all_goals try exact absurd ‹(1000 : Int64) = 0› (by decide)
        all_goals exact h _ _ r_sc.rf hR
      · skip
        have q1 : ¬ ((if 0 ≤ l ∧ l ≤ 3 then (1 : Int32) else 0) = 0) := by rw [if_pos z1]; decide
        by_cases z2 : 0 ≤ y ∧ y < 40
        rotate_left
        · skip
          have q2 : (if 0 ≤ y ∧ y < 40 then (1 : Int32) else 0) = 0 := if_neg z2
          repeat' (first | (with_reducible exact hmn) | (with_reducible exact n030) | (with_reducible exact n1) | apply And.intro | exact rfl | (intro hx; with_reducible exact absurd hx q0) | (intro hx; with_reducible exact absurd hx q1) | (intro hx; with_reducible exact absurd q2 hx) | (intro hx; exact absurd hx (by decide)) | (intro hx; exact absurd (by decide) hx) | decide | intro hx | (refine Exists.intro _ (And.intro rfl ?_)))
          all_goals try first | (with_reducible change am_tI _ _) | (change Ret _ _) | (change Ret _ _ _) | (change Exists _)
          all_goals try dsimp only at *
          all_goals try exact absurd ‹(1000 : Int64) = 0› (by decide)
          all_goals exact h _ _ r_sc.rf hR
        · skip
          have q2 : ¬ ((if 0 ≤ y ∧ y < 40 then (1 : Int32) else 0) = 0) := by rw [if_pos z2]; decide
          by_cases z3 : 0 ≤ k ∧ k < 40
          rotate_left
          · skip
            have q3 : (if 0 ≤ k ∧ k < 40 then (1 : Int32) else 0) = 0 := if_neg z3
            repeat' (first | (with_reducible exact hmn) | (with_reducible exact n030) | (with_reducible exact n1) | apply And.intro | exact rfl | (intro hx; with_reducible exact absurd hx q0) | (intro hx; with_reducible exact absurd hx q1) | (intro hx; with_reducible exact absurd hx q2) | (intro hx; with_reducible exact absurd q3 hx) | (intro hx; exact absurd hx (by decide)) | (intro hx; exact absurd (by decide) hx) | decide | intro hx | (refine Exists.intro _ (And.intro rfl ?_)))
            all_goals try first | (with_reducible change am_tI _ _) | (change Ret _ _) | (change Ret _ _ _) | (change Exists _)
            all_goals try dsimp only at *
            all_goals try exact absurd ‹(1000 : Int64) = 0› (by decide)
            all_goals exact h _ _ r_sc.rf hR
          · skip
            have q3 : ¬ ((if 0 ≤ k ∧ k < 40 then (1 : Int32) else 0) = 0) := by rw [if_pos z3]; decide
            have hl : am_in l 4 := ⟨by have q := z1.1; simp only [i_le, Int32.reduceToInt] at q; omega, by have q := z1.2; simp only [i_le, Int32.reduceToInt] at q; omega⟩
            have hy : am_in y 40 := ⟨by have q := z2.1; simp only [i_le, Int32.reduceToInt] at q; omega, by have q := z2.2; simp only [i_lt, Int32.reduceToInt] at q; omega⟩
            have hr7 : r_I (am_wI (am_wI M 200 7 q) 200 8 y) := (hR.w7 hq).wI rfl
            repeat' (first | (with_reducible exact hmn) | (with_reducible exact hR) | (with_reducible exact n030) | (with_reducible exact n1) | (with_reducible exact hp) | (with_reducible exact hl) | (with_reducible exact hy) | (with_reducible exact hr7) | apply And.intro | exact rfl | (intro hx; with_reducible exact absurd hx q0) | (intro hx; with_reducible exact absurd hx q1) | (intro hx; with_reducible exact absurd hx q2) | (intro hx; with_reducible exact absurd hx q3) | ((with_reducible change r_I _); (with_reducible assumption)) | (intro hx; exact absurd hx (by decide)) | (intro hx; exact absurd (by decide) hx) | decide | intro hx | (refine Exists.intro _ (And.intro rfl ?_)))
            all_goals try first | (with_reducible change am_tI _ _) | (change Ret _ _) | (change Ret _ _ _) | (change Exists _)
            all_goals try dsimp only at *
            all_goals try exact absurd ‹(1000 : Int64) = 0› (by decide)
            all_goals first | exact h _ _ r_sc.rf hR | ((with_reducible change Ret _ _); exact h _ _ (r_sc.w7 (by with_reducible assumption) hn3) (r_I.w7 (by with_reducible assumption) (Or.inl rfl))) | skip
  · exact h.elim
theorem dX8_triedOf_0 : decode cX8_triedOf 0 = .ok (.aload_n 0, 1) := by decide +kernel
theorem dX8_triedOf_1 : decode cX8_triedOf 1 = .ok (.iload_n 1, 1) := by decide +kernel
theorem dX8_triedOf_2 : decode cX8_triedOf 2 = .ok (.putfield 57, 3) := by decide +kernel
theorem dX8_triedOf_5 : decode cX8_triedOf 5 = .ok (.aload_n 0, 1) := by decide +kernel
theorem dX8_triedOf_6 : decode cX8_triedOf 6 = .ok (.iload_n 2, 1) := by decide +kernel
theorem dX8_triedOf_7 : decode cX8_triedOf 7 = .ok (.putfield 114, 3) := by decide +kernel
theorem dX8_triedOf_10 : decode cX8_triedOf 10 = .ok (.aload_n 0, 1) := by decide +kernel
theorem dX8_triedOf_11 : decode cX8_triedOf 11 = .ok (.iload_n 3, 1) := by decide +kernel
theorem dX8_triedOf_12 : decode cX8_triedOf 12 = .ok (.putfield 120, 3) := by decide +kernel
theorem dX8_triedOf_15 : decode cX8_triedOf 15 = .ok (.aload_n 0, 1) := by decide +kernel
theorem dX8_triedOf_16 : decode cX8_triedOf 16 = .ok (.iload 4, 2) := by decide +kernel
theorem dX8_triedOf_18 : decode cX8_triedOf 18 = .ok (.putfield 117, 3) := by decide +kernel
theorem dX8_triedOf_21 : decode cX8_triedOf 21 = .ok (.lconst 0, 1) := by decide +kernel
theorem dX8_triedOf_22 : decode cX8_triedOf 22 = .ok (.lstore 6, 2) := by decide +kernel
theorem dX8_triedOf_24 : decode cX8_triedOf 24 = .ok (.iconst 0, 1) := by decide +kernel
theorem dX8_triedOf_25 : decode cX8_triedOf 25 = .ok (.istore 8, 2) := by decide +kernel
theorem dX8_triedOf_27 : decode cX8_triedOf 27 = .ok (.iload 8, 2) := by decide +kernel
theorem dX8_triedOf_29 : decode cX8_triedOf 29 = .ok (.aload_n 0, 1) := by decide +kernel
theorem dX8_triedOf_30 : decode cX8_triedOf 30 = .ok (.getfield 7, 3) := by decide +kernel
theorem dX8_triedOf_33 : decode cX8_triedOf 33 = .ok (.iconst 0, 1) := by decide +kernel
theorem dX8_triedOf_34 : decode cX8_triedOf 34 = .ok (.iaload, 1) := by decide +kernel
theorem dX8_triedOf_35 : decode cX8_triedOf 35 = .ok (.if_icmp .ge 31, 3) := by decide +kernel
theorem dX8_triedOf_38 : decode cX8_triedOf 38 = .ok (.aload_n 0, 1) := by decide +kernel
theorem dX8_triedOf_39 : decode cX8_triedOf 39 = .ok (.iload 8, 2) := by decide +kernel
theorem dX8_triedOf_41 : decode cX8_triedOf 41 = .ok (.iload 5, 2) := by decide +kernel
theorem dX8_triedOf_43 : decode cX8_triedOf 43 = .ok (.bipush 39, 2) := by decide +kernel
theorem dX8_triedOf_45 : decode cX8_triedOf 45 = .ok (.invokevirtual 239, 3) := by decide +kernel
theorem dX8_triedOf_48 : decode cX8_triedOf 48 = .ok (.lload 6, 2) := by decide +kernel
theorem dX8_triedOf_50 : decode cX8_triedOf 50 = .ok (.aload_n 0, 1) := by decide +kernel
theorem dX8_triedOf_51 : decode cX8_triedOf 51 = .ok (.iload 8, 2) := by decide +kernel
theorem dX8_triedOf_53 : decode cX8_triedOf 53 = .ok (.iconst 1, 1) := by decide +kernel
theorem dX8_triedOf_54 : decode cX8_triedOf 54 = .ok (.invokevirtual 243, 3) := by decide +kernel
theorem dX8_triedOf_57 : decode cX8_triedOf 57 = .ok (.ladd, 1) := by decide +kernel
theorem dX8_triedOf_58 : decode cX8_triedOf 58 = .ok (.lstore 6, 2) := by decide +kernel
theorem dX8_triedOf_60 : decode cX8_triedOf 60 = .ok (.iinc 8 1, 3) := by decide +kernel
theorem dX8_triedOf_63 : decode cX8_triedOf 63 = .ok (.goto (-36), 3) := by decide +kernel
theorem dX8_triedOf_66 : decode cX8_triedOf 66 = .ok (.aload_n 0, 1) := by decide +kernel
theorem dX8_triedOf_67 : decode cX8_triedOf 67 = .ok (.iconst (-1), 1) := by decide +kernel
theorem dX8_triedOf_68 : decode cX8_triedOf 68 = .ok (.putfield 57, 3) := by decide +kernel
theorem dX8_triedOf_71 : decode cX8_triedOf 71 = .ok (.lload 6, 2) := by decide +kernel
theorem dX8_triedOf_73 : decode cX8_triedOf 73 = .ok (.lreturn, 1) := by decide +kernel
def kX8_triedOf (live : am_E) (Ret : am_R) : am_code := [(0, am_aload 0 1), (1, am_iload 1 2), (2, am_putI live 8 3 5), (5, am_aload 0 6), (6, am_iload 2 7), (7, am_putI live 8 4 10), (10, am_aload 0 11), (11, am_iload 3 12), (12, am_putI live 8 5 15), (15, am_aload 0 16), (16, am_iload 4 18), (18, am_putI live 8 6 21), (21, am_const (.long 0) 22), (22, am_lstore 6 9 24), (24, am_const (.int 0) 25), (25, am_istore 8 9 27), (27, am_iload 8 29), (29, am_aload 0 30), (30, am_getR live 8 0 33), (33, am_const (.int 0) 34), (34, am_ald live 0 35), (35, am_if2 (fun x y => y ≤ x) 66 38), (38, am_aload 0 39), (39, am_iload 8 41), (41, am_iload 5 43), (43, am_const (.int 39) 45), (45, am_callV live 8 3 TX8_run 48), (48, am_lload 6 50), (50, am_aload 0 51), (51, am_iload 8 53), (53, am_const (.int 1) 54), (54, am_callV live 8 2 TX8_allOf 57), (57, am_l2 (fun x y => x + y) 58), (58, am_lstore 6 9 60), (60, am_iinc 8 9 1 63), (63, am_goto 27), (66, am_aload 0 67), (67, am_const (.int (-1)) 68), (68, am_putI live 8 3 71), (71, am_lload 6 73), (73, am_retL Ret)]
theorem koX8_triedOf (live : am_E) (Ret : am_R) : ∀ q ∈ kX8_triedOf live Ret, am_ok RX8 cX8_triedOf 9 (some .long) 10 253 live Ret q.1 q.2 :=
  am_kc (ak_aload_n dX8_triedOf_0 rfl rfl) <|
  am_kc (ak_iload_n dX8_triedOf_1 rfl rfl) <|
  am_kc (ak_putI (C := RX8) (T := TX8) (N := 27) rfl inX8w tyX8_ok nmX8 (by decide) rfl rfl rfl rfl (by decide +kernel) wd_898 dX8_triedOf_2 rfl) <|
  am_kc (ak_aload_n dX8_triedOf_5 rfl rfl) <|
  am_kc (ak_iload_n dX8_triedOf_6 rfl rfl) <|
  am_kc (ak_putI (C := RX8) (T := TX8) (N := 27) rfl inX8w tyX8_ok nmX8 (by decide) rfl rfl rfl rfl (by decide +kernel) wd_899 dX8_triedOf_7 rfl) <|
  am_kc (ak_aload_n dX8_triedOf_10 rfl rfl) <|
  am_kc (ak_iload_n dX8_triedOf_11 rfl rfl) <|
  am_kc (ak_putI (C := RX8) (T := TX8) (N := 27) rfl inX8w tyX8_ok nmX8 (by decide) rfl rfl rfl rfl (by decide +kernel) wd_900 dX8_triedOf_12 rfl) <|
  am_kc (ak_aload_n dX8_triedOf_15 rfl rfl) <|
  am_kc (ak_iload dX8_triedOf_16 rfl) <|
  am_kc (ak_putI (C := RX8) (T := TX8) (N := 27) rfl inX8w tyX8_ok nmX8 (by decide) rfl rfl rfl rfl (by decide +kernel) wd_901 dX8_triedOf_18 rfl) <|
  am_kc (ak_lconst dX8_triedOf_21 (by decide +kernel) rfl) <|
  am_kc (ak_lstore dX8_triedOf_22 rfl) <|
  am_kc (ak_iconst dX8_triedOf_24 (by decide +kernel) rfl) <|
  am_kc (ak_istore dX8_triedOf_25 rfl) <|
  am_kc (ak_iload dX8_triedOf_27 rfl) <|
  am_kc (ak_aload_n dX8_triedOf_29 rfl rfl) <|
  am_kc (ak_getR (C := RX8) (T := TX8) (N := 27) rfl inX8w (by decide) rfl rfl rfl wd_895 dX8_triedOf_30 rfl) <|
  am_kc (ak_iconst dX8_triedOf_33 (by decide +kernel) rfl) <|
  am_kc (ak_iald (t := 0) (fun _ => rfl) rfl dX8_triedOf_34 rfl) <|
  am_kc (ak_icmp_ge dX8_triedOf_35 (by decide +kernel) rfl) <|
  am_kc (ak_aload_n dX8_triedOf_38 rfl rfl) <|
  am_kc (ak_iload dX8_triedOf_39 rfl) <|
  am_kc (ak_iload dX8_triedOf_41 rfl) <|
  am_kc (ak_bipush dX8_triedOf_43 (by decide +kernel) rfl) <|
  am_kc (ak_callV (C := RX8) (F := TX8) (N := 27) metX8_run rfl ⟨rfl, by decide +kernel, by decide +kernel, by decide +kernel⟩ (am_w5 wd_1158 wd_1160 wd_42 wd_67 wd_1161) (by decide) dX8_triedOf_45 rfl) <|
  am_kc (ak_lload dX8_triedOf_48 rfl) <|
  am_kc (ak_aload_n dX8_triedOf_50 rfl rfl) <|
  am_kc (ak_iload dX8_triedOf_51 rfl) <|
  am_kc (ak_iconst dX8_triedOf_53 (by decide +kernel) rfl) <|
  am_kc (ak_callV (C := RX8) (F := TX8) (N := 27) metX8_allOf rfl ⟨rfl, by decide +kernel, by decide +kernel, by decide +kernel⟩ (am_w5 wd_1195 wd_1197 wd_50 wd_67 wd_1198) (by decide) dX8_triedOf_54 rfl) <|
  am_kc (ak_ladd dX8_triedOf_57 rfl) <|
  am_kc (ak_lstore dX8_triedOf_58 rfl) <|
  am_kc (ak_iinc dX8_triedOf_60 (by decide +kernel) rfl) <|
  am_kc (ak_goto dX8_triedOf_63 (by decide +kernel)) <|
  am_kc (ak_aload_n dX8_triedOf_66 rfl rfl) <|
  am_kc (ak_iconst dX8_triedOf_67 (by decide +kernel) rfl) <|
  am_kc (ak_putI (C := RX8) (T := TX8) (N := 27) rfl inX8w tyX8_ok nmX8 (by decide) rfl rfl rfl rfl (by decide +kernel) wd_898 dX8_triedOf_68 rfl) <|
  am_kc (ak_lload dX8_triedOf_71 rfl) <|
  am_kc (ak_retL dX8_triedOf_73) <| am_kn
def TX8_triedOf : am_T := fun live as M R => match as with
  | [.ref n, .int pl, .int w, .int v, .int f, .int y] => am_mn live ∧ n = 200 ∧ y.toInt ≤ 39 ∧ r_I M ∧ M.1 200 3 = -1 ∧ ∀ v M', r_sc M M' → r_I M' → R (some (.long v)) M'
  | _ => False
def JX8_triedOf : am_E → List Value → am_M → am_R → am_inv := fun live as M0 _ pc => match as with
  | [.ref n, .int pl, .int w, .int v, .int f, .int y] => (match pc with
    | 27 => some ([0, 5, 6, 8], fun k L st M => ∃ (u : Int64) (i : Int32), L = [(0, .ref 200), (5, .int y), (6, .long u), (8, .int i)] ∧ st = [] ∧ k = ((13 - i.toInt).toNat, 0) ∧ 0 ≤ i.toInt ∧ r_sc (am_wI (am_wI (am_wI (am_wI M0 200 3 pl) 200 4 w) 200 5 v) 200 6 f) M ∧ r_I M)
    | _ => none)
  | _ => none
set_option maxRecDepth 100000 in
set_option maxHeartbeats 4000000 in
theorem metX8_triedOf : am_Met yX8_triedOf cX8_triedOf 9 (some .long) (10) (253) TX8_triedOf := by
  refine am_met (own := RX8) (by decide +kernel) rfl kX8_triedOf koX8_triedOf 100 JX8_triedOf ?_ ?_
  · intro live as M Ret h
    unfold TX8_triedOf at h
    split at h
    · next n pl w v f y =>
      refine ⟨Nat.le_of_ble_eq_true rfl, ?_⟩
      change am_wp _ _ _ _ [(0, Value.ref n), (1, Value.int pl), (2, Value.int w), (3, Value.int v), (4, Value.int f), (5, Value.int y)] _ _
      obtain ⟨hmn, rfl, hy, hR, hn3, h⟩ := h
      have hmn2 := hmn
      obtain ⟨i1, i2, rfl⟩ := hmn2
      repeat' (first | apply And.intro | exact rfl | intro hx | (refine Exists.intro _ (And.intro rfl ?_)))
      all_goals try first | (with_reducible change am_tI _ _) | (change Ret _ _) | (change Ret _ _ _) | (change Exists _)
      all_goals try dsimp only at *
      all_goals try exact absurd ‹(1000 : Int64) = 0› (by decide)
      exact ⟨_, _, _, rfl, rfl, rfl, by decide, by (repeat' (first | (with_reducible exact r_sc.rf) | (with_reducible assumption) | ((with_reducible change r_sc _ (am_wI _ _ _ _)); refine r_sc.wI ?_ rfl) | ((with_reducible change r_sc _ (am_wJ _ _ _ _)); refine r_sc.wJ ?_ rfl) | (refine r_sc.tr ?_ (by with_reducible assumption)))), by (repeat' (first | (with_reducible assumption) | ((with_reducible change r_I (am_wJ _ _ _ _)); refine r_I.wJ ?_) | ((with_reducible change r_I (am_wI _ _ _ _)); refine r_I.wI ?_ rfl)))⟩
    · exact h.elim
  · intro live as M0 Ret h k pc I hI L st M hi
    unfold TX8_triedOf at h
    split at h
    · next n pl w v f y =>
      obtain ⟨hmn, rfl, hy, hR, hn3, h⟩ := h
      have hmn2 := hmn
      obtain ⟨i1, i2, rfl⟩ := hmn2
      have l201 : am_len 201 = 3760 := rfl
      have x0l : (0 : Int32).toInt < (am_len 201 : Int) := by rw [l201]; decide
      change (match pc with | 27 => _ | _ => none) = _ at hI
      split at hI
      · cases hI
        obtain ⟨u, i, rfl, rfl, rfl, e1, e2, e3⟩ := hi
        have n0 : 0 ≤ (M.1 201 (Int32.toNatClampNeg 0)).toInt ∧ (M.1 201 (Int32.toNatClampNeg 0)).toInt ≤ 12 := e3.n0
        by_cases hz : M.1 201 (Int32.toNatClampNeg 0) ≤ i
        · skip
          repeat' (first | (with_reducible exact x0l) | apply And.intro | exact rfl | (intro hx; with_reducible exact absurd hz hx) | (intro hx; exact absurd hx (by decide)) | (intro hx; exact absurd (by decide) hx) | decide | intro hx | (refine Exists.intro _ (And.intro rfl ?_)))
          all_goals try first | (with_reducible change am_tI _ _) | (change Ret _ _) | (change Ret _ _ _) | (change Exists _)
          all_goals try dsimp only at *
          all_goals try exact absurd ‹(1000 : Int64) = 0› (by decide)
          all_goals exact h _ _ (r_sc.w3 e2 hn3) (by (repeat' (first | (with_reducible assumption) | ((with_reducible change r_I (am_wJ _ _ _ _)); refine r_I.wJ ?_) | ((with_reducible change r_I (am_wI _ _ _ _)); refine r_I.wI ?_ rfl))))
        · have hz2 := hz
          simp only [i_le] at hz2
          have hp : am_in i 12 := ⟨e1, by omega⟩
          have hi := i_inc (x := i) (by omega) (by omega)
          repeat' (first | (with_reducible exact x0l) | (with_reducible exact hmn) | (with_reducible exact hp) | (with_reducible exact hy) | (with_reducible exact e3) | apply And.intro | exact rfl | (intro hx; with_reducible exact absurd hx hz) | ((with_reducible change r_I _); (with_reducible assumption)) | (intro hx; exact absurd hx (by decide)) | (intro hx; exact absurd (by decide) hx) | decide | intro hx | (refine Exists.intro _ (And.intro rfl ?_)))
          all_goals try first | (with_reducible change am_tI _ _) | (change Ret _ _) | (change Ret _ _ _) | (change Exists _)
          all_goals try dsimp only at *
          all_goals try exact absurd ‹(1000 : Int64) = 0› (by decide)
          all_goals exact ⟨_, am_lt_l (by omega), _, _, rfl, rfl, rfl, by omega, by (repeat' (first | (with_reducible exact r_sc.rf) | (with_reducible assumption) | ((with_reducible change r_sc _ (am_wI _ _ _ _)); refine r_sc.wI ?_ rfl) | ((with_reducible change r_sc _ (am_wJ _ _ _ _)); refine r_sc.wJ ?_ rfl) | (refine r_sc.tr ?_ (by with_reducible assumption)))), by (repeat' (first | (with_reducible assumption) | ((with_reducible change r_I (am_wJ _ _ _ _)); refine r_I.wJ ?_) | ((with_reducible change r_I (am_wI _ _ _ _)); refine r_I.wI ?_ rfl)))⟩
      · cases hI
    · exact h.elim
set_option maxRecDepth 100000 in
theorem wd_1270 : Cond.methodLink "LearnLoansModel" 280 yX8_triedOf ∈ am_ws := am_wsi (List.mem_of_getElem? (i := 1270) (by rfl)) (by decide +kernel)
set_option maxRecDepth 100000 in
theorem wd_1272 : Cond.instanceMethod yX8_triedOf ∈ am_ws := am_wsi (List.mem_of_getElem? (i := 1272) (by rfl)) (by decide +kernel)
set_option maxRecDepth 100000 in
theorem wd_56 : Cond.selects "LearnLoansModel" yX8_triedOf yX8_triedOf ∈ am_ws := am_wsi (List.mem_of_getElem? (i := 56) (by rfl)) (by decide +kernel)
set_option maxRecDepth 100000 in
theorem wd_1273 : Cond.code yX8_triedOf cX8_triedOf 9 (some .long) ∈ am_ws := am_wsi (List.mem_of_getElem? (i := 1273) (by rfl)) (by decide +kernel)
theorem dX8_tried_0 : decode cX8_tried 0 = .ok (.iload_n 1, 1) := by decide +kernel
theorem dX8_tried_1 : decode cX8_tried 1 = .ok (.invokestatic 104, 3) := by decide +kernel
theorem dX8_tried_4 : decode cX8_tried 4 = .ok (.ifCond .eq 34, 3) := by decide +kernel
theorem dX8_tried_7 : decode cX8_tried 7 = .ok (.iload_n 2, 1) := by decide +kernel
theorem dX8_tried_8 : decode cX8_tried 8 = .ok (.invokestatic 107, 3) := by decide +kernel
theorem dX8_tried_11 : decode cX8_tried 11 = .ok (.ifCond .eq 27, 3) := by decide +kernel
theorem dX8_tried_14 : decode cX8_tried 14 = .ok (.iload_n 2, 1) := by decide +kernel
theorem dX8_tried_15 : decode cX8_tried 15 = .ok (.iload_n 3, 1) := by decide +kernel
theorem dX8_tried_16 : decode cX8_tried 16 = .ok (.invokestatic 110, 3) := by decide +kernel
theorem dX8_tried_19 : decode cX8_tried 19 = .ok (.ifCond .eq 19, 3) := by decide +kernel
theorem dX8_tried_22 : decode cX8_tried 22 = .ok (.iload 4, 2) := by decide +kernel
theorem dX8_tried_24 : decode cX8_tried 24 = .ok (.invokestatic 72, 3) := by decide +kernel
theorem dX8_tried_27 : decode cX8_tried 27 = .ok (.ifCond .eq 11, 3) := by decide +kernel
theorem dX8_tried_30 : decode cX8_tried 30 = .ok (.iload 5, 2) := by decide +kernel
theorem dX8_tried_32 : decode cX8_tried 32 = .ok (.invokestatic 72, 3) := by decide +kernel
theorem dX8_tried_35 : decode cX8_tried 35 = .ok (.ifCond .ne 7, 3) := by decide +kernel
theorem dX8_tried_38 : decode cX8_tried 38 = .ok (.ldc2_w 237, 3) := by decide +kernel
theorem dX8_tried_41 : decode cX8_tried 41 = .ok (.lreturn, 1) := by decide +kernel
theorem dX8_tried_42 : decode cX8_tried 42 = .ok (.aload_n 0, 1) := by decide +kernel
theorem dX8_tried_43 : decode cX8_tried 43 = .ok (.iload_n 1, 1) := by decide +kernel
theorem dX8_tried_44 : decode cX8_tried 44 = .ok (.iload_n 2, 1) := by decide +kernel
theorem dX8_tried_45 : decode cX8_tried 45 = .ok (.iload_n 3, 1) := by decide +kernel
theorem dX8_tried_46 : decode cX8_tried 46 = .ok (.iload 4, 2) := by decide +kernel
theorem dX8_tried_48 : decode cX8_tried 48 = .ok (.iload 5, 2) := by decide +kernel
theorem dX8_tried_50 : decode cX8_tried 50 = .ok (.invokevirtual 280, 3) := by decide +kernel
theorem dX8_tried_53 : decode cX8_tried 53 = .ok (.lreturn, 1) := by decide +kernel
def kX8_tried (live : am_E) (Ret : am_R) : am_code := [(0, am_iload 1 1), (1, am_callS live 1 TX8_isPlan 4), (4, am_if1 (fun x => x = 0) 38 7), (7, am_iload 2 8), (8, am_callS live 1 TX8_isWhat 11), (11, am_if1 (fun x => x = 0) 38 14), (14, am_iload 2 15), (15, am_iload 3 16), (16, am_callS live 2 TX8_mayBe 19), (19, am_if1 (fun x => x = 0) 38 22), (22, am_iload 4 24), (24, am_callS live 1 TX8_isYear 27), (27, am_if1 (fun x => x = 0) 38 30), (30, am_iload 5 32), (32, am_callS live 1 TX8_isYear 35), (35, am_if1 (fun x => x = 0) 38 42), (38, am_const (.long (-2)) 41), (41, am_retL Ret), (42, am_aload 0 43), (43, am_iload 1 44), (44, am_iload 2 45), (45, am_iload 3 46), (46, am_iload 4 48), (48, am_iload 5 50), (50, am_callV live 8 5 TX8_triedOf 53), (53, am_retL Ret)]
theorem koX8_tried (live : am_E) (Ret : am_R) : ∀ q ∈ kX8_tried live Ret, am_ok RX8 cX8_tried 6 (some .long) 11 281 live Ret q.1 q.2 :=
  am_kc (ak_iload_n dX8_tried_0 rfl rfl) <|
  am_kc (ak_callS metX8_isPlan ⟨rfl, by decide +kernel, by decide +kernel, by decide +kernel⟩ (am_w4 wd_1034 wd_1035 wd_67 wd_1036) (by decide) dX8_tried_1 rfl) <|
  am_kc (ak_if_eq dX8_tried_4 (by decide +kernel) rfl) <|
  am_kc (ak_iload_n dX8_tried_7 rfl rfl) <|
  am_kc (ak_callS metX8_isWhat ⟨rfl, by decide +kernel, by decide +kernel, by decide +kernel⟩ (am_w4 wd_1038 wd_1039 wd_67 wd_1040) (by decide) dX8_tried_8 rfl) <|
  am_kc (ak_if_eq dX8_tried_11 (by decide +kernel) rfl) <|
  am_kc (ak_iload_n dX8_tried_14 rfl rfl) <|
  am_kc (ak_iload_n dX8_tried_15 rfl rfl) <|
  am_kc (ak_callS metX8_mayBe ⟨rfl, by decide +kernel, by decide +kernel, by decide +kernel⟩ (am_w4 wd_1042 wd_1043 wd_67 wd_1044) (by decide) dX8_tried_16 rfl) <|
  am_kc (ak_if_eq dX8_tried_19 (by decide +kernel) rfl) <|
  am_kc (ak_iload dX8_tried_22 rfl) <|
  am_kc (ak_callS metX8_isYear ⟨rfl, by decide +kernel, by decide +kernel, by decide +kernel⟩ (am_w4 wd_982 wd_983 wd_67 wd_984) (by decide) dX8_tried_24 rfl) <|
  am_kc (ak_if_eq dX8_tried_27 (by decide +kernel) rfl) <|
  am_kc (ak_iload dX8_tried_30 rfl) <|
  am_kc (ak_callS metX8_isYear ⟨rfl, by decide +kernel, by decide +kernel, by decide +kernel⟩ (am_w4 wd_982 wd_983 wd_67 wd_984) (by decide) dX8_tried_32 rfl) <|
  am_kc (ak_if_ne dX8_tried_35 (by decide +kernel) rfl) <|
  am_kc (ak_ldc2 wd_1153 dX8_tried_38 rfl) <|
  am_kc (ak_retL dX8_tried_41) <|
  am_kc (ak_aload_n dX8_tried_42 rfl rfl) <|
  am_kc (ak_iload_n dX8_tried_43 rfl rfl) <|
  am_kc (ak_iload_n dX8_tried_44 rfl rfl) <|
  am_kc (ak_iload_n dX8_tried_45 rfl rfl) <|
  am_kc (ak_iload dX8_tried_46 rfl) <|
  am_kc (ak_iload dX8_tried_48 rfl) <|
  am_kc (ak_callV (C := RX8) (F := TX8) (N := 27) metX8_triedOf rfl ⟨rfl, by decide +kernel, by decide +kernel, by decide +kernel⟩ (am_w5 wd_1270 wd_1272 wd_56 wd_67 wd_1273) (by decide) dX8_tried_50 rfl) <|
  am_kc (ak_retL dX8_tried_53) <| am_kn
def TX8_tried : am_T := fun live as M R => match as with
  | [.ref n, .int pl, .int w, .int v, .int f, .int y] => am_mn live ∧ n = 200 ∧ r_I M ∧ M.1 200 3 = -1 ∧ ∀ v M', r_sc M M' → r_I M' → R (some (.long v)) M'
  | _ => False
set_option maxRecDepth 100000 in
set_option maxHeartbeats 4000000 in
theorem metX8_tried : am_Met yX8_tried cX8_tried 6 (some .long) (11) (281) TX8_tried := by
  refine am_met (own := RX8) (by decide +kernel) rfl kX8_tried koX8_tried 150 (fun _ _ _ _ _ => none) (fun live as M Ret h => ?_) (fun _ _ _ _ _ _ _ _ hI => by cases hI)
  unfold TX8_tried at h
  split at h
  · next n pl w v f y =>
    refine ⟨Nat.le_of_ble_eq_true rfl, ?_⟩
    change am_wp _ _ _ _ [(0, Value.ref n), (1, Value.int pl), (2, Value.int w), (3, Value.int v), (4, Value.int f), (5, Value.int y)] _ _
    obtain ⟨hmn, rfl, hR, hn3, h⟩ := h
    have hmn2 := hmn
    obtain ⟨i1, i2, rfl⟩ := hmn2
    have l201 : am_len 201 = 3760 := rfl
    have n0 := hR.n0
    have n1 := hR.n1
    have n030 : 0 ≤ (M.1 201 0).toInt ∧ (M.1 201 0).toInt ≤ 30 := ⟨n0.1, by omega⟩
    by_cases z0 : 0 ≤ pl ∧ pl < 5
    rotate_left
    · skip
      have q0 : (if 0 ≤ pl ∧ pl < 5 then (1 : Int32) else 0) = 0 := if_neg z0
      repeat' (first | (with_reducible exact hmn) | (with_reducible exact n030) | (with_reducible exact n1) | apply And.intro | exact rfl | (intro hx; with_reducible exact absurd q0 hx) | (intro hx; exact absurd hx (by decide)) | (intro hx; exact absurd (by decide) hx) | decide | intro hx | (refine Exists.intro _ (And.intro rfl ?_)))
      all_goals try first | (with_reducible change am_tI _ _) | (change Ret _ _) | (change Ret _ _ _) | (change Exists _)
      all_goals try dsimp only at *
      all_goals try exact absurd ‹(1000 : Int64) = 0› (by decide)
      all_goals first | exact w1 | exact w2 | exact h _ _ r_sc.rf hR
    · skip
      have q0 : ¬ ((if 0 ≤ pl ∧ pl < 5 then (1 : Int32) else 0) = 0) := by rw [if_pos z0]; decide
      by_cases z1 : 0 ≤ w ∧ w < 6
      rotate_left
      · skip
        have q1 : (if 0 ≤ w ∧ w < 6 then (1 : Int32) else 0) = 0 := if_neg z1
        repeat' (first | (with_reducible exact hmn) | (with_reducible exact n030) | (with_reducible exact n1) | apply And.intro | exact rfl | (intro hx; with_reducible exact absurd hx q0) | (intro hx; with_reducible exact absurd q1 hx) | (intro hx; exact absurd hx (by decide)) | (intro hx; exact absurd (by decide) hx) | decide | intro hx | (refine Exists.intro _ (And.intro rfl ?_)))
        all_goals try first | (with_reducible change am_tI _ _) | (change Ret _ _) | (change Ret _ _ _) | (change Exists _)
        all_goals try dsimp only at *
        all_goals try exact absurd ‹(1000 : Int64) = 0› (by decide)
        all_goals first | exact w1 | exact w2 | exact h _ _ r_sc.rf hR
      · skip
        have q1 : ¬ ((if 0 ≤ w ∧ w < 6 then (1 : Int32) else 0) = 0) := by rw [if_pos z1]; decide
        have w1 := z1.1
        have w2 := z1.2
        by_cases z2 : (0 ≤ w ∧ w < 6) ∧ am_sf 1 w.toNatClampNeg ≤ v ∧ v ≤ am_sf 2 w.toNatClampNeg
        rotate_left
        · skip
          have q2 : ¬ am_isNum w v := z2
          repeat' (first | (with_reducible exact hmn) | (with_reducible exact n030) | (with_reducible exact n1) | apply And.intro | exact rfl | (intro hx; with_reducible exact absurd hx q0) | (intro hx; with_reducible exact absurd hx q1) | (intro hx; with_reducible exact absurd hx q2) | (intro hx; exact absurd hx (by decide)) | (intro hx; exact absurd (by decide) hx) | decide | intro hx | (refine Exists.intro _ (And.intro rfl ?_)))
          all_goals try first | (with_reducible change am_tI _ _) | (change Ret _ _) | (change Ret _ _ _) | (change Exists _)
          all_goals try dsimp only at *
          all_goals try exact absurd ‹(1000 : Int64) = 0› (by decide)
          all_goals first | exact w1 | exact w2 | exact h _ _ r_sc.rf hR
        · skip
          have q2 : am_isNum w v := z2
          by_cases z3 : 0 ≤ f ∧ f < 40
          rotate_left
          · skip
            have q3 : (if 0 ≤ f ∧ f < 40 then (1 : Int32) else 0) = 0 := if_neg z3
            repeat' (first | (with_reducible exact hmn) | (with_reducible exact n030) | (with_reducible exact n1) | apply And.intro | exact rfl | (intro hx; with_reducible exact absurd hx q0) | (intro hx; with_reducible exact absurd hx q1) | (intro hx; with_reducible exact absurd q2 hx) | (intro hx; with_reducible exact absurd q3 hx) | (intro hx; exact absurd hx (by decide)) | (intro hx; exact absurd (by decide) hx) | decide | intro hx | (refine Exists.intro _ (And.intro rfl ?_)))
            all_goals try first | (with_reducible change am_tI _ _) | (change Ret _ _) | (change Ret _ _ _) | (change Exists _)
            all_goals try dsimp only at *
            all_goals try exact absurd ‹(1000 : Int64) = 0› (by decide)
            all_goals first | exact w1 | exact w2 | exact h _ _ r_sc.rf hR
          · skip
            have q3 : ¬ ((if 0 ≤ f ∧ f < 40 then (1 : Int32) else 0) = 0) := by rw [if_pos z3]; decide
            by_cases z4 : 0 ≤ y ∧ y < 40
            rotate_left
            · skip
              have q4 : (if 0 ≤ y ∧ y < 40 then (1 : Int32) else 0) = 0 := if_neg z4
              repeat' (first | (with_reducible exact hmn) | (with_reducible exact n030) | (with_reducible exact n1) | apply And.intro | exact rfl | (intro hx; with_reducible exact absurd hx q0) | (intro hx; with_reducible exact absurd hx q1) | (intro hx; with_reducible exact absurd hx q3) | (intro hx; with_reducible exact absurd q2 hx) | (intro hx; with_reducible exact absurd q4 hx) | (intro hx; exact absurd hx (by decide)) | (intro hx; exact absurd (by decide) hx) | decide | intro hx | (refine Exists.intro _ (And.intro rfl ?_)))
              all_goals try first | (with_reducible change am_tI _ _) | (change Ret _ _) | (change Ret _ _ _) | (change Exists _)
              all_goals try dsimp only at *
              all_goals try exact absurd ‹(1000 : Int64) = 0› (by decide)
              all_goals first | exact w1 | exact w2 | exact h _ _ r_sc.rf hR
            · skip
              have q4 : ¬ ((if 0 ≤ y ∧ y < 40 then (1 : Int32) else 0) = 0) := by rw [if_pos z4]; decide
              have hy : am_in y 40 := ⟨by have q := z4.1; simp only [i_le, Int32.reduceToInt] at q; omega, by have q := z4.2; simp only [i_lt, Int32.reduceToInt] at q; omega⟩
              have y39 : y.toInt ≤ 39 := by have q := hy.2; omega
              repeat' (first | (with_reducible exact hmn) | (with_reducible exact hR) | (with_reducible exact n030) | (with_reducible exact n1) | (with_reducible exact y39) | (with_reducible exact w1) | (with_reducible exact w2) | (with_reducible exact hn3) | apply And.intro | exact rfl | (intro hx; with_reducible exact absurd hx q0) | (intro hx; with_reducible exact absurd hx q1) | (intro hx; with_reducible exact absurd hx q3) | (intro hx; with_reducible exact absurd hx q4) | (intro hx; with_reducible exact absurd q2 hx) | ((with_reducible change r_I _); (with_reducible assumption)) | (intro hx; exact absurd hx (by decide)) | (intro hx; exact absurd (by decide) hx) | decide | intro hx | (refine Exists.intro _ (And.intro rfl ?_)))
              all_goals try first | (with_reducible change am_tI _ _) | (change Ret _ _) | (change Ret _ _ _) | (change Exists _)
              all_goals try dsimp only at *
              all_goals try exact absurd ‹(1000 : Int64) = 0› (by decide)
              all_goals first | (change r_I _; (repeat' (first | (with_reducible assumption) | ((with_reducible change r_I (am_wJ _ _ _ _)); refine r_I.wJ ?_) | ((with_reducible change r_I (am_wI _ _ _ _)); refine r_I.wI ?_ rfl)))) | ((with_reducible change Ret _ _); exact h _ _ (by (repeat' (first | (with_reducible exact r_sc.rf) | (with_reducible assumption) | ((with_reducible change r_sc _ (am_wI _ _ _ _)); refine r_sc.wI ?_ rfl) | ((with_reducible change r_sc _ (am_wJ _ _ _ _)); refine r_sc.wJ ?_ rfl) | (refine r_sc.tr ?_ (by with_reducible assumption))))) (by (repeat' (first | (with_reducible assumption) | ((with_reducible change r_I (am_wJ _ _ _ _)); refine r_I.wJ ?_) | ((with_reducible change r_I (am_wI _ _ _ _)); refine r_I.wI ?_ rfl))))) | skip
  · exact h.elim
