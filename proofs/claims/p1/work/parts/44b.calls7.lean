def TX3_mixed0 : am_T := fun live as M R => match as with
  | [.ref r, .long x] => am_ex (live.2 r 0) (fun c => am_if (am_rc live r c) (M.1 r 2 = 0 ∧ R (some (.long x)) M))
  | _ => False
set_option maxRecDepth 100000 in
set_option maxHeartbeats 4000000 in
theorem metX3_mixed0 : am_Met yX3_mixed cX3_mixed 5 (some .long) (1) (23) TX3_mixed0 := by
  refine am_met (own := RX3) (by decide +kernel) rfl kX3_mixed koX3_mixed 100 (fun _ _ _ _ _ => none) (fun live as M Ret h => ?_) (fun _ _ _ _ _ _ _ _ hI => by cases hI)
  unfold TX3_mixed0 at h
  split at h
  · next r x =>
    refine ⟨Nat.le_of_ble_eq_true rfl, ?_⟩
    change am_wp _ _ _ _ [(0, Value.ref r), (1, Value.long x)] _ _
    have hh := am_qm h
    clear h
    obtain ⟨c, h2, h⟩ := hh
    have hh := am_if_mp h
    clear h
    obtain ⟨hb, hs, h⟩ := hh
    obtain ⟨h1, h3, h4, h5⟩ := am_rc_spec hb
    have hp : (if Int32.ofNat (am_len c) < M.1 r 2 * M.1 r 1 then Int32.ofNat (am_len c) else M.1 r 2 * M.1 r 1) ≤ 0 := by
      rw [hs, Int32.zero_mul]
      by_cases z : Int32.ofNat (am_len c) < 0
      · rw [if_pos z, i_le]; rw [i_lt] at z; omega
      · rw [if_neg z]; decide
    repeat' (first | (with_reducible exact h1) | (with_reducible exact h2) | (with_reducible exact h3) | (refine Exists.intro _ (And.intro h2 ?_)) | apply And.intro | exact rfl | (intro hx; with_reducible exact absurd hp hx) | intro hx | (refine Exists.intro _ (And.intro rfl ?_)) | ((with_reducible change _ = true); simp only [h1, h2, h3, Bool.true_and]; rfl))
    all_goals try first | (with_reducible change am_tI _ _) | (change Ret _ _) | (change Ret _ _ _) | (change Exists _)
    all_goals try dsimp only at *
    all_goals try exact absurd ‹(1000 : Int64) = 0› (by decide)
    all_goals exact h
  · exact h.elim
