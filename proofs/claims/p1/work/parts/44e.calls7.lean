theorem dX7_runEverybody_0 : decode cX7_runEverybody 0 = .ok (.iconst 0, 1) := by decide +kernel
theorem dX7_runEverybody_1 : decode cX7_runEverybody 1 = .ok (.istore_n 3, 1) := by decide +kernel
theorem dX7_runEverybody_2 : decode cX7_runEverybody 2 = .ok (.iload_n 3, 1) := by decide +kernel
theorem dX7_runEverybody_3 : decode cX7_runEverybody 3 = .ok (.aload_n 0, 1) := by decide +kernel
theorem dX7_runEverybody_4 : decode cX7_runEverybody 4 = .ok (.getfield 27, 3) := by decide +kernel
theorem dX7_runEverybody_7 : decode cX7_runEverybody 7 = .ok (.getfield 38, 3) := by decide +kernel
theorem dX7_runEverybody_10 : decode cX7_runEverybody 10 = .ok (.getfield 42, 3) := by decide +kernel
theorem dX7_runEverybody_13 : decode cX7_runEverybody 13 = .ok (.if_icmp .ge 26, 3) := by decide +kernel
theorem dX7_runEverybody_16 : decode cX7_runEverybody 16 = .ok (.aload_n 0, 1) := by decide +kernel
theorem dX7_runEverybody_17 : decode cX7_runEverybody 17 = .ok (.getfield 20, 3) := by decide +kernel
theorem dX7_runEverybody_20 : decode cX7_runEverybody 20 = .ok (.iload_n 3, 1) := by decide +kernel
theorem dX7_runEverybody_21 : decode cX7_runEverybody 21 = .ok (.iload_n 2, 1) := by decide +kernel
theorem dX7_runEverybody_22 : decode cX7_runEverybody 22 = .ok (.invokevirtual 151, 3) := by decide +kernel
theorem dX7_runEverybody_25 : decode cX7_runEverybody 25 = .ok (.aload_n 0, 1) := by decide +kernel
theorem dX7_runEverybody_26 : decode cX7_runEverybody 26 = .ok (.getfield 20, 3) := by decide +kernel
theorem dX7_runEverybody_29 : decode cX7_runEverybody 29 = .ok (.iload_n 1, 1) := by decide +kernel
theorem dX7_runEverybody_30 : decode cX7_runEverybody 30 = .ok (.invokevirtual 155, 3) := by decide +kernel
theorem dX7_runEverybody_33 : decode cX7_runEverybody 33 = .ok (.iinc 3 1, 3) := by decide +kernel
theorem dX7_runEverybody_36 : decode cX7_runEverybody 36 = .ok (.goto (-34), 3) := by decide +kernel
theorem dX7_runEverybody_39 : decode cX7_runEverybody 39 = .ok (.return_, 1) := by decide +kernel
def kX7_runEverybody (live : am_E) (Ret : am_R) : am_code := [(0, am_const (.int 0) 1), (1, am_istore 3 4 2), (2, am_iload 3 3), (3, am_aload 0 4), (4, am_getR live 7 0 7), (7, am_getR live 0 0 10), (10, am_getI live 2 7 13), (13, am_if2 (fun x y => y ≤ x) 39 16), (16, am_aload 0 17), (17, am_getR live 7 2 20), (20, am_iload 3 21), (21, am_iload 2 22), (22, am_callV live 4 2 am_TF 25), (25, am_aload 0 26), (26, am_getR live 7 2 29), (29, am_iload 1 30), (30, am_callV live 4 1 am_TF 33), (33, am_iinc 3 4 1 36), (36, am_goto 2), (39, am_retV Ret)]
theorem koX7_runEverybody (live : am_E) (Ret : am_R) : ∀ q ∈ kX7_runEverybody live Ret, am_ok RX7 cX7_runEverybody 4 none 1 24 live Ret q.1 q.2 :=
  am_kc (ak_iconst dX7_runEverybody_0 (by decide +kernel) rfl) <|
  am_kc (ak_istore_n dX7_runEverybody_1 rfl rfl) <|
  am_kc (ak_iload_n dX7_runEverybody_2 rfl rfl) <|
  am_kc (ak_aload_n dX7_runEverybody_3 rfl rfl) <|
  am_kc (ak_getR (C := RX7) (T := TX7) (N := 4) rfl inX7w (by decide) rfl rfl rfl wd_390 dX7_runEverybody_4 rfl) <|
  am_kc (ak_getR (C := RX0) (T := TX0) (N := 13) rfl inX0w (by decide) rfl rfl rfl wd_194 dX7_runEverybody_7 rfl) <|
  am_kc (ak_getI (C := RX2) (T := TX2) (N := 8) rfl inX2w (by decide) rfl rfl rfl wd_121 dX7_runEverybody_10 rfl) <|
  am_kc (ak_icmp_ge dX7_runEverybody_13 (by decide +kernel) rfl) <|
  am_kc (ak_aload_n dX7_runEverybody_16 rfl rfl) <|
  am_kc (ak_getR (C := RX7) (T := TX7) (N := 4) rfl inX7w (by decide) rfl rfl rfl wd_392 dX7_runEverybody_17 rfl) <|
  am_kc (ak_iload_n dX7_runEverybody_20 rfl rfl) <|
  am_kc (ak_iload_n dX7_runEverybody_21 rfl rfl) <|
  am_kc (ak_callV (C := RX4) (F := TX4) (N := 19) (am_metF _ _ _ _) rfl ⟨rfl, by decide +kernel, by decide +kernel, by decide +kernel⟩ (am_w5 wd_546 wd_547 wd_548 wd_60 wd_549) (by decide) dX7_runEverybody_22 rfl) <|
  am_kc (ak_aload_n dX7_runEverybody_25 rfl rfl) <|
  am_kc (ak_getR (C := RX7) (T := TX7) (N := 4) rfl inX7w (by decide) rfl rfl rfl wd_392 dX7_runEverybody_26 rfl) <|
  am_kc (ak_iload_n dX7_runEverybody_29 rfl rfl) <|
  am_kc (ak_callV (C := RX4) (F := TX4) (N := 19) (am_metF _ _ _ _) rfl ⟨rfl, by decide +kernel, by decide +kernel, by decide +kernel⟩ (am_w5 wd_559 wd_560 wd_561 wd_60 wd_562) (by decide) dX7_runEverybody_30 rfl) <|
  am_kc (ak_iinc dX7_runEverybody_33 (by decide +kernel) rfl) <|
  am_kc (ak_goto dX7_runEverybody_36 (by decide +kernel)) <|
  am_kc (ak_retV dX7_runEverybody_39) <| am_kn
def TX7_runEverybody : am_T := fun live as M R => match as with
  | [.ref n, .int y, .int k] => am_mn live ∧ n = 0 ∧ M.1 21 7 = 0 ∧ R none M
  | _ => False
set_option maxRecDepth 100000 in
set_option maxHeartbeats 4000000 in
theorem metX7_runEverybody : am_Met yX7_runEverybody cX7_runEverybody 4 none (1) (24) TX7_runEverybody := by
  refine am_met (own := RX7) (by decide +kernel) rfl kX7_runEverybody koX7_runEverybody 100 (fun _ _ _ _ _ => none) (fun live as M Ret h => ?_) (fun _ _ _ _ _ _ _ _ hI => by cases hI)
  unfold TX7_runEverybody at h
  split at h
  · next n y k =>
    refine ⟨Nat.le_of_ble_eq_true rfl, ?_⟩
    change am_wp _ _ _ _ [(0, Value.ref n), (1, Value.int y), (2, Value.int k)] _ _
    obtain ⟨⟨i1, i2, rfl⟩, rfl, hs, h⟩ := h
    have hp : M.1 21 7 ≤ 0 := by rw [hs]; decide
    repeat' (first | apply And.intro | exact rfl | (intro hx; with_reducible exact absurd hp hx) | intro hx | (refine Exists.intro _ (And.intro rfl ?_)))
    all_goals try first | (with_reducible change am_tI _ _) | (change Ret _ _) | (change Ret _ _ _) | (change Exists _)
    all_goals try dsimp only at *
    all_goals try exact absurd ‹(1000 : Int64) = 0› (by decide)
    all_goals exact h
  · exact h.elim
