/-! p1: image and from of a new object -/
theorem wd_836 : Cond.methodLink "LearnLoans" 257 yX0_takeOver ∈ am_ws := am_wsi (List.mem_of_getElem? (i := 836) (by decide +kernel)) (by decide +kernel)
theorem wd_837 : Cond.instanceMethod yX0_takeOver ∈ am_ws := am_wsi (List.mem_of_getElem? (i := 837) (by decide +kernel)) (by decide +kernel)
theorem wd_838 : Cond.selects "LearnLoans$House" yX0_takeOver yX0_takeOver ∈ am_ws := am_wsi (List.mem_of_getElem? (i := 838) (by decide +kernel)) (by decide +kernel)
theorem wd_839 : Cond.code yX0_takeOver cX0_takeOver 3 none ∈ am_ws := am_wsi (List.mem_of_getElem? (i := 839) (by decide +kernel)) (by decide +kernel)
theorem dX7_from_0 : decode cX7_from 0 = .ok (.iload_n 1, 1) := by decide +kernel
theorem dX7_from_1 : decode cX7_from 1 = .ok (.iconst 0, 1) := by decide +kernel
theorem dX7_from_2 : decode cX7_from 2 = .ok (.iconst 1, 1) := by decide +kernel
theorem dX7_from_3 : decode cX7_from 3 = .ok (.invokestatic 55, 3) := by decide +kernel
theorem dX7_from_6 : decode cX7_from 6 = .ok (.ifCond .ne 6, 3) := by decide +kernel
theorem dX7_from_9 : decode cX7_from 9 = .ok (.bipush (-2), 2) := by decide +kernel
theorem dX7_from_11 : decode cX7_from 11 = .ok (.ireturn, 1) := by decide +kernel
theorem dX7_from_12 : decode cX7_from 12 = .ok (.aload_n 0, 1) := by decide +kernel
theorem dX7_from_13 : decode cX7_from 13 = .ok (.getfield 30, 3) := by decide +kernel
theorem dX7_from_16 : decode cX7_from 16 = .ok (.iload_n 1, 1) := by decide +kernel
theorem dX7_from_17 : decode cX7_from 17 = .ok (.aaload, 1) := by decide +kernel
theorem dX7_from_18 : decode cX7_from 18 = .ok (.ifnonnull 6, 3) := by decide +kernel
theorem dX7_from_21 : decode cX7_from 21 = .ok (.bipush (-3), 2) := by decide +kernel
theorem dX7_from_23 : decode cX7_from 23 = .ok (.ireturn, 1) := by decide +kernel
theorem dX7_from_24 : decode cX7_from 24 = .ok (.aload_n 0, 1) := by decide +kernel
theorem dX7_from_25 : decode cX7_from 25 = .ok (.getfield 27, 3) := by decide +kernel
theorem dX7_from_28 : decode cX7_from 28 = .ok (.aload_n 0, 1) := by decide +kernel
theorem dX7_from_29 : decode cX7_from 29 = .ok (.getfield 30, 3) := by decide +kernel
theorem dX7_from_32 : decode cX7_from 32 = .ok (.iload_n 1, 1) := by decide +kernel
theorem dX7_from_33 : decode cX7_from 33 = .ok (.aaload, 1) := by decide +kernel
theorem dX7_from_34 : decode cX7_from 34 = .ok (.invokevirtual 257, 3) := by decide +kernel
theorem dX7_from_37 : decode cX7_from 37 = .ok (.iconst 1, 1) := by decide +kernel
theorem dX7_from_38 : decode cX7_from 38 = .ok (.ireturn, 1) := by decide +kernel
def kX7_from (Ret : an_R) : an_code := [(0, an_lf (fun live => am_iload 1 1)), (1, an_lf (fun live => am_const (.int 0) 2)), (2, an_lf (fun live => am_const (.int 1) 3)), (3, an_lf (fun live => am_callS live 3 TX7_within 6)), (6, an_lf (fun live => am_if1 (fun x => x = 0) 9 12)), (9, an_lf (fun live => am_const (.int (-2)) 11)), (11, an_retI Ret), (12, an_lf (fun live => am_aload 0 13)), (13, an_lf (fun live => am_getR live 7 1 16)), (16, an_lf (fun live => am_iload 1 17)), (17, an_aldN 4 18), (18, an_ifnn 24 21), (21, an_lf (fun live => am_const (.int (-3)) 23)), (23, an_retI Ret), (24, an_lf (fun live => am_aload 0 25)), (25, an_lf (fun live => am_getR live 7 0 28)), (28, an_lf (fun live => am_aload 0 29)), (29, an_lf (fun live => am_getR live 7 1 32)), (32, an_lf (fun live => am_iload 1 33)), (33, an_lf (fun live => am_aald live 4 34)), (34, an_lf (fun live => am_callV live 0 1 TX0_takeOver 37)), (37, an_lf (fun live => am_const (.int 1) 38)), (38, an_retI Ret)]
theorem koX7_from (Ret : an_R) : ∀ q ∈ kX7_from Ret, an_ok RX7 cX7_from 2 (some .int) 3 74 0 0 false (fun _ _ _ => True) Ret q.1 q.2 :=
  an_kc (an_lift (fun live => ak_iload_n dX7_from_0 rfl rfl)) <|
  an_kc (an_lift (fun live => ak_iconst dX7_from_1 (by decide +kernel) rfl)) <|
  an_kc (an_lift (fun live => ak_iconst dX7_from_2 (by decide +kernel) rfl)) <|
  an_kc (an_lift (fun live => ak_callS metX7_within ⟨rfl, by decide +kernel, by decide +kernel, by decide +kernel⟩ (am_w4 wd_418 wd_419 wd_58 wd_420) (by decide) dX7_from_3 rfl)) <|
  an_kc (an_lift (fun live => ak_if_ne dX7_from_6 (by decide +kernel) rfl)) <|
  an_kc (an_lift (fun live => ak_bipush dX7_from_9 (by decide +kernel) rfl)) <|
  an_kc (nk_retI dX7_from_11) <|
  an_kc (an_lift (fun live => ak_aload_n dX7_from_12 rfl rfl)) <|
  an_kc (an_lift (fun live => ak_getR (C := RX7) (T := TX7) (N := 4) rfl inX7w (by decide) rfl rfl rfl wd_391 dX7_from_13 rfl)) <|
  an_kc (an_lift (fun live => ak_iload_n dX7_from_16 rfl rfl)) <|
  an_kc (nk_aldN (t := 4) (fun _ => rfl) rfl dX7_from_17 rfl) <|
  an_kc (nk_ifnn dX7_from_18 (by decide +kernel) rfl) <|
  an_kc (an_lift (fun live => ak_bipush dX7_from_21 (by decide +kernel) rfl)) <|
  an_kc (nk_retI dX7_from_23) <|
  an_kc (an_lift (fun live => ak_aload_n dX7_from_24 rfl rfl)) <|
  an_kc (an_lift (fun live => ak_getR (C := RX7) (T := TX7) (N := 4) rfl inX7w (by decide) rfl rfl rfl wd_390 dX7_from_25 rfl)) <|
  an_kc (an_lift (fun live => ak_aload_n dX7_from_28 rfl rfl)) <|
  an_kc (an_lift (fun live => ak_getR (C := RX7) (T := TX7) (N := 4) rfl inX7w (by decide) rfl rfl rfl wd_391 dX7_from_29 rfl)) <|
  an_kc (an_lift (fun live => ak_iload_n dX7_from_32 rfl rfl)) <|
  an_kc (an_lift (fun live => ak_aald (t := 4) (fun _ => rfl) rfl dX7_from_33 rfl)) <|
  an_kc (an_lift (fun live => ak_callV (C := RX0) (F := TX0) (N := 13) metX0_takeOver rfl ⟨rfl, by decide +kernel, by decide +kernel, by decide +kernel⟩ (am_w5 wd_836 wd_837 wd_838 wd_61 wd_839) (by decide) dX7_from_34 rfl)) <|
  an_kc (an_lift (fun live => ak_iconst dX7_from_37 (by decide +kernel) rfl)) <|
  an_kc (nk_retI dX7_from_38) <| an_kn
def TX7_from : an_T := fun E as M R => match as with
  | [.ref n, .int i] => E = (am_lv false false, am_q false false) ∧ n = 0 ∧ R (some (.int (a_from i))) E M
  | _ => False
set_option maxRecDepth 100000 in
set_option maxHeartbeats 4000000 in
theorem metX7_from : an_Met yX7_from cX7_from 2 (some .int) (3) (74) 0 0 TX7_from := by
  refine an_met (own := RX7) (ini := false) (by decide +kernel) rfl (fun h => by cases h) kX7_from koX7_from 100 (fun _ _ _ _ _ => none) (fun live as M Ret h => ?_) (fun _ _ _ _ _ _ _ _ hI => by cases hI)
  unfold TX7_from at h
  split at h
  · next n i =>
    refine ⟨Nat.le_of_ble_eq_true rfl, ?_⟩
    change an_wp _ _ _ _ [(0, Value.ref n), (1, Value.int i)] _ _
    obtain ⟨rfl, rfl, h⟩ := h
    by_cases hc : 0 ≤ i ∧ i ≤ 1
    ·
      have e9 : a_from i = -3 := if_pos hc
      rw [e9] at h
      have hs : i = 0 ∨ i = 1 := by
        simp only [i_le, i_eq, Int32.reduceToInt] at hc ⊢
        omega
      rcases hs with rfl | rfl
      all_goals
        repeat' (first | apply And.intro | exact rfl | (intro hx; exact absurd hx (by decide)) | (intro hx; exact absurd (by decide) hx) | decide | intro hx | (refine Exists.intro _ (And.intro rfl ?_)))
        all_goals try first | (with_reducible change am_tI _ _) | (change Ret _ _) | (change Ret _ _ _) | (change Exists _)
        all_goals try dsimp only at *
        all_goals try exact absurd ‹(1000 : Int64) = 0› (by decide)
        all_goals first
          | exact h
          | exact ⟨_, _, rfl⟩
    ·
      have e9 : a_from i = -2 := if_neg hc
      rw [e9] at h
      have hp : (if 0 ≤ i ∧ i ≤ 1 then (1 : Int32) else 0) = 0 := if_neg hc
      repeat' (first | apply And.intro | exact rfl | (intro hx; with_reducible exact absurd hp hx) | intro hx | (refine Exists.intro _ (And.intro rfl ?_)))
      all_goals try first | (with_reducible change am_tI _ _) | (change Ret _ _) | (change Ret _ _ _) | (change Exists _)
      all_goals try dsimp only at *
      all_goals try exact absurd ‹(1000 : Int64) = 0› (by decide)
      all_goals exact h
  · exact h.elim
