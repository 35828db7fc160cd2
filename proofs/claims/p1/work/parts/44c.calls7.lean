def TX5_mixed0 : am_T := fun live as M R => match as with
  | [.ref t, .long x] => am_tP live t (fun s c => M.1 t 5 = 0 ∧ R (some (.long (31 * x + 0))) M)
  | _ => False
set_option maxRecDepth 100000 in
set_option maxHeartbeats 4000000 in
theorem metX5_mixed0 : am_Met yX5_mixed cX5_mixed 4 (some .long) (0) (0) TX5_mixed0 := by
  refine am_met (own := RX5) (by decide +kernel) rfl kX5_mixed koX5_mixed 100 (fun _ _ _ _ _ => none) (fun live as M Ret h => ?_) (fun _ _ _ _ _ _ _ _ hI => by cases hI)
  unfold TX5_mixed0 at h
  split at h
  · next t x =>
    refine ⟨Nat.le_of_ble_eq_true rfl, ?_⟩
    change am_wp _ _ _ _ [(0, Value.ref t), (1, Value.long x)] _ _
    have hh := am_tP_mp h
    clear h
    obtain ⟨s, c, h2, h3, hb, h1, g1, g2, l1, l2, n1, n2, n3, hs, h⟩ := hh
    have hp : M.1 t 5 ≤ 0 := by rw [hs]; decide
    have he : (31 * x + (M.1 t 5).toInt64 : Int64) = 31 * x + 0 := by rw [hs]; rfl
    repeat' (first | (with_reducible exact h1) | (with_reducible exact h2) | (with_reducible exact h3) | (with_reducible exact g1) | (with_reducible exact g2) | (refine Exists.intro _ (And.intro h2 ?_)) | apply And.intro | exact rfl | (intro hx; with_reducible exact absurd hp hx) | intro hx | (refine Exists.intro _ (And.intro rfl ?_)) | ((with_reducible change _ = true); simp only [h1, h2, h3, g1, g2, Bool.true_and]; rfl))
    all_goals try first | (with_reducible change am_tI _ _) | (change Ret _ _) | (change Ret _ _ _) | (change Exists _)
    all_goals try dsimp only at *
    all_goals try exact absurd ‹(1000 : Int64) = 0› (by decide)
    all_goals first | (rw [he]; exact h) | exact h
  · exact h.elim
