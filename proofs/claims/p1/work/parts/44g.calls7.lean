theorem dX7_tried_0 : decode cX7_tried 0 = .ok (.iload_n 1, 1) := by decide +kernel
theorem dX7_tried_1 : decode cX7_tried 1 = .ok (.invokestatic 98, 3) := by decide +kernel
theorem dX7_tried_4 : decode cX7_tried 4 = .ok (.ifCond .eq 27, 3) := by decide +kernel
theorem dX7_tried_7 : decode cX7_tried 7 = .ok (.iload_n 2, 1) := by decide +kernel
theorem dX7_tried_8 : decode cX7_tried 8 = .ok (.iload_n 3, 1) := by decide +kernel
theorem dX7_tried_9 : decode cX7_tried 9 = .ok (.invokestatic 101, 3) := by decide +kernel
theorem dX7_tried_12 : decode cX7_tried 12 = .ok (.ifCond .eq 19, 3) := by decide +kernel
theorem dX7_tried_15 : decode cX7_tried 15 = .ok (.iload 4, 2) := by decide +kernel
theorem dX7_tried_17 : decode cX7_tried 17 = .ok (.invokestatic 34, 3) := by decide +kernel
theorem dX7_tried_20 : decode cX7_tried 20 = .ok (.ifCond .eq 11, 3) := by decide +kernel
theorem dX7_tried_23 : decode cX7_tried 23 = .ok (.iload 5, 2) := by decide +kernel
theorem dX7_tried_25 : decode cX7_tried 25 = .ok (.invokestatic 34, 3) := by decide +kernel
theorem dX7_tried_28 : decode cX7_tried 28 = .ok (.ifCond .ne 7, 3) := by decide +kernel
theorem dX7_tried_31 : decode cX7_tried 31 = .ok (.ldc2_w 149, 3) := by decide +kernel
theorem dX7_tried_34 : decode cX7_tried 34 = .ok (.lreturn, 1) := by decide +kernel
theorem dX7_tried_35 : decode cX7_tried 35 = .ok (.aload_n 0, 1) := by decide +kernel
theorem dX7_tried_36 : decode cX7_tried 36 = .ok (.iload_n 1, 1) := by decide +kernel
theorem dX7_tried_37 : decode cX7_tried 37 = .ok (.iload_n 2, 1) := by decide +kernel
theorem dX7_tried_38 : decode cX7_tried 38 = .ok (.iload_n 3, 1) := by decide +kernel
theorem dX7_tried_39 : decode cX7_tried 39 = .ok (.iload 4, 2) := by decide +kernel
theorem dX7_tried_41 : decode cX7_tried 41 = .ok (.iload 5, 2) := by decide +kernel
theorem dX7_tried_43 : decode cX7_tried 43 = .ok (.invokevirtual 239, 3) := by decide +kernel
theorem dX7_tried_46 : decode cX7_tried 46 = .ok (.lreturn, 1) := by decide +kernel
def kX7_tried (live : am_E) (Ret : am_R) : am_code := [(0, am_iload 1 1), (1, am_callS live 1 TX7_isPlan 4), (4, am_if1 (fun x => x = 0) 31 7), (7, am_iload 2 8), (8, am_iload 3 9), (9, am_callS live 2 TX7_isNumber 12), (12, am_if1 (fun x => x = 0) 31 15), (15, am_iload 4 17), (17, am_callS live 1 TX7_isYear 20), (20, am_if1 (fun x => x = 0) 31 23), (23, am_iload 5 25), (25, am_callS live 1 TX7_isYear 28), (28, am_if1 (fun x => x = 0) 31 35), (31, am_const (.long (-2)) 34), (34, am_retL Ret), (35, am_aload 0 36), (36, am_iload 1 37), (37, am_iload 2 38), (38, am_iload 3 39), (39, am_iload 4 41), (41, am_iload 5 43), (43, am_callV live 7 5 TX7_takenIf 46), (46, am_retL Ret)]
theorem koX7_tried (live : am_E) (Ret : am_R) : ∀ q ∈ kX7_tried live Ret, am_ok RX7 cX7_tried 6 (some .long) 4 228 live Ret q.1 q.2 :=
  am_kc (ak_iload_n dX7_tried_0 rfl rfl) <|
  am_kc (ak_callS metX7_isPlan ⟨rfl, by decide +kernel, by decide +kernel, by decide +kernel⟩ (am_w4 wd_466 wd_467 wd_58 wd_468) (by decide) dX7_tried_1 rfl) <|
  am_kc (ak_if_eq dX7_tried_4 (by decide +kernel) rfl) <|
  am_kc (ak_iload_n dX7_tried_7 rfl rfl) <|
  am_kc (ak_iload_n dX7_tried_8 rfl rfl) <|
  am_kc (ak_callS metX7_isNumber ⟨rfl, by decide +kernel, by decide +kernel, by decide +kernel⟩ (am_w4 wd_469 wd_470 wd_58 wd_471) (by decide) dX7_tried_9 rfl) <|
  am_kc (ak_if_eq dX7_tried_12 (by decide +kernel) rfl) <|
  am_kc (ak_iload dX7_tried_15 rfl) <|
  am_kc (ak_callS metX7_isYear ⟨rfl, by decide +kernel, by decide +kernel, by decide +kernel⟩ (am_w4 wd_407 wd_408 wd_58 wd_409) (by decide) dX7_tried_17 rfl) <|
  am_kc (ak_if_eq dX7_tried_20 (by decide +kernel) rfl) <|
  am_kc (ak_iload dX7_tried_23 rfl) <|
  am_kc (ak_callS metX7_isYear ⟨rfl, by decide +kernel, by decide +kernel, by decide +kernel⟩ (am_w4 wd_407 wd_408 wd_58 wd_409) (by decide) dX7_tried_25 rfl) <|
  am_kc (ak_if_ne dX7_tried_28 (by decide +kernel) rfl) <|
  am_kc (ak_ldc2 wd_545 dX7_tried_31 rfl) <|
  am_kc (ak_retL dX7_tried_34) <|
  am_kc (ak_aload_n dX7_tried_35 rfl rfl) <|
  am_kc (ak_iload_n dX7_tried_36 rfl rfl) <|
  am_kc (ak_iload_n dX7_tried_37 rfl rfl) <|
  am_kc (ak_iload_n dX7_tried_38 rfl rfl) <|
  am_kc (ak_iload dX7_tried_39 rfl) <|
  am_kc (ak_iload dX7_tried_41 rfl) <|
  am_kc (ak_callV (C := RX7) (F := TX7) (N := 4) metX7_takenIf rfl ⟨rfl, by decide +kernel, by decide +kernel, by decide +kernel⟩ (am_w5 wd_804 wd_806 wd_26 wd_58 wd_807) (by decide) dX7_tried_43 rfl) <|
  am_kc (ak_retL dX7_tried_46) <| am_kn
def TX7_tried : am_T := fun live as M R => match as with
  | [.ref n, .int p, .int w, .int v, .int f, .int y] => am_mn live ∧ n = 0 ∧ am_F7 M ∧ ∀ M', am_ch am_lo M M' → R (some (.long (a_tried p w v f y))) M'
  | _ => False
set_option maxRecDepth 100000 in
set_option maxHeartbeats 4000000 in
theorem metX7_tried : am_Met yX7_tried cX7_tried 6 (some .long) (4) (228) TX7_tried := by
  refine am_met (own := RX7) (by decide +kernel) rfl kX7_tried koX7_tried 300 (fun _ _ _ _ _ => none) (fun live as M Ret h => ?_) (fun _ _ _ _ _ _ _ _ hI => by cases hI)
  unfold TX7_tried at h
  split at h
  · next n p w v f y =>
    refine ⟨Nat.le_of_ble_eq_true rfl, ?_⟩
    change am_wp _ _ _ _ [(0, Value.ref n), (1, Value.int p), (2, Value.int w), (3, Value.int v), (4, Value.int f), (5, Value.int y)] _ _
    obtain ⟨⟨i1, i2, rfl⟩, rfl, hF, h⟩ := h
    obtain ⟨s1, s2, s3, s4, s5, s6, s7, s8, s9, w1, w2, w3, w4⟩ := hF
    by_cases hc : (0 ≤ p ∧ p < 5) ∧ am_isN w v ∧ (0 ≤ f ∧ f < 40) ∧ (0 ≤ y ∧ y < 40)
    ·
      have hn0 : ¬ (if (0 ≤ p ∧ p < 5) then (1 : Int32) else 0) = 0 := by rw [if_pos hc.1]; decide
      have hn1 : am_isNum w v := hc.2.1
      have hn2 : ¬ (if (0 ≤ f ∧ f < 40) then (1 : Int32) else 0) = 0 := by rw [if_pos hc.2.2.1]; decide
      have hn3 : ¬ (if (0 ≤ y ∧ y < 40) then (1 : Int32) else 0) = 0 := by rw [if_pos hc.2.2.2]; decide
      have e : a_tried p w v f y = _ := if_pos hc
      rw [e] at h
      repeat' (first | apply And.intro | exact rfl | (intro hx; with_reducible exact absurd hx hn0) | (intro hx; with_reducible exact absurd hx hn2) | (intro hx; with_reducible exact absurd hx hn3) | (intro hx; with_reducible exact absurd hn1 hx) | (intro hx; exact absurd hx (by decide)) | (intro hx; exact absurd (by decide) hx) | decide | intro hx | (refine Exists.intro _ (And.intro rfl ?_)))
      all_goals try first | (with_reducible change am_tI _ _) | (change Ret _ _) | (change Ret _ _ _) | (change Exists _)
      all_goals try dsimp only at *
      all_goals try exact absurd ‹(1000 : Int64) = 0› (by decide)
      all_goals first
        | exact h _ ‹am_ch _ _ _›
        | exact am_rJ (h _ ‹am_ch _ _ _›) (by first | rfl | (simp only [s1, s2, s3, s4, s5, s6]; done) | exact s1.symm | exact s3.symm | exact s5.symm | exact s6.symm)
        | exact ⟨i1, i2, rfl⟩
        | exact s1
        | (clear h; decide)
        | (clear h; omega)
    ·
      have e : a_tried p w v f y = _ := if_neg hc
      rw [e] at h
      repeat' (first | apply And.intro | exact rfl | (intro hx; exact absurd hx (by decide)) | (intro hx; exact absurd (by decide) hx) | decide | intro hx | (refine Exists.intro _ (And.intro rfl ?_)))
      all_goals try first | (with_reducible change am_tI _ _) | (change Ret _ _) | (change Ret _ _ _) | (change Exists _)
      all_goals try dsimp only at *
      all_goals try exact absurd ‹(1000 : Int64) = 0› (by decide)
      all_goals first
        | exact h _ am_ch.rf
        | exact ⟨i1, i2, rfl⟩
        | exact s1
        | (exfalso; clear h e; refine hc ?_; simp only [am_b0, Classical.not_not, am_isNum, am_isN] at *; first | (simp only [*, and_self, true_and]; done) | (simp only [*, and_self, true_and]; decide))
  · exact h.elim
