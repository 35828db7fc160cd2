/-! runs, exact: the reference: what a run says, what is due, who is in line -/
def TE8_runOf : am_T := fun live as M R => match as with
  | [.ref n, .int l, .int w] => am_mn live ∧ n = 200 ∧ am_in l 30 ∧ am_in w 5 ∧ R (some (.long (r_fl M (30 * w.toNatClampNeg + l.toNatClampNeg)))) M
  | _ => False
set_option maxRecDepth 100000 in
set_option maxHeartbeats 4000000 in
theorem metX8_runOfE : am_Met yX8_runOf cX8_runOf 3 (some .long) (0) (0) TE8_runOf := by
  refine am_met (own := RX8) (by decide +kernel) rfl kX8_runOf koX8_runOf 100 (fun _ _ _ _ _ => none) (fun live as M Ret h => ?_) (fun _ _ _ _ _ _ _ _ hI => by cases hI)
  unfold TE8_runOf at h
  split at h
  · next n l w =>
    refine ⟨Nat.le_of_ble_eq_true rfl, ?_⟩
    change am_wp _ _ _ _ [(0, Value.ref n), (1, Value.int l), (2, Value.int w)] _ _
    obtain ⟨⟨i1, i2, rfl⟩, rfl, hl, hw, h⟩ := h
    have l1 := hl.1
    have l2 : l.toInt < ((30 : Nat) : Int) := hl.2
    have gl := g_cl hl
    have hs : w = 0 ∨ w = 1 ∨ w = 2 ∨ w = 3 ∨ w = 4 := by
      have h1 := hw.1
      have h2 := hw.2
      simp only [i_eq, Int32.reduceToInt]
      omega
    rcases hs with rfl | rfl | rfl | rfl | rfl
    · have e : r_fl M (30 * (0 : Int32).toNatClampNeg + l.toNatClampNeg) = M.2 207 l.toNatClampNeg := by
        rw [show (0 : Int32).toNatClampNeg = 0 from rfl]
        unfold r_fl
        rw [if_pos (by omega), show 30 * 0 + l.toNatClampNeg = l.toNatClampNeg by omega]
      rw [e] at h
      repeat' (first | apply And.intro | exact rfl | (intro hx; exact absurd hx (by decide)) | (intro hx; exact absurd (by decide) hx) | decide | intro hx | (refine Exists.intro _ (And.intro rfl ?_)))
      all_goals try first | (with_reducible change am_tI _ _) | (change Ret _ _) | (change Ret _ _ _) | (change Exists _)
      all_goals try dsimp only at *
      all_goals try exact absurd ‹(1000 : Int64) = 0› (by decide)
      all_goals first | exact h | exact l1 | exact l2
    · have e : r_fl M (30 * (1 : Int32).toNatClampNeg + l.toNatClampNeg) = M.2 208 l.toNatClampNeg := by
        rw [show (1 : Int32).toNatClampNeg = 1 from rfl]
        unfold r_fl
        rw [if_neg (by omega), if_pos (by omega), show 30 * 1 + l.toNatClampNeg - 30 = l.toNatClampNeg by omega]
      rw [e] at h
      repeat' (first | apply And.intro | exact rfl | (intro hx; exact absurd hx (by decide)) | (intro hx; exact absurd (by decide) hx) | decide | intro hx | (refine Exists.intro _ (And.intro rfl ?_)))
      all_goals try first | (with_reducible change am_tI _ _) | (change Ret _ _) | (change Ret _ _ _) | (change Exists _)
      all_goals try dsimp only at *
      all_goals try exact absurd ‹(1000 : Int64) = 0› (by decide)
      all_goals first | exact h | exact l1 | exact l2
    · have e : r_fl M (30 * (2 : Int32).toNatClampNeg + l.toNatClampNeg) = M.2 211 l.toNatClampNeg := by
        rw [show (2 : Int32).toNatClampNeg = 2 from rfl]
        unfold r_fl
        rw [if_neg (by omega), if_neg (by omega), if_pos (by omega), show 30 * 2 + l.toNatClampNeg - 60 = l.toNatClampNeg by omega]
      rw [e] at h
      repeat' (first | apply And.intro | exact rfl | (intro hx; exact absurd hx (by decide)) | (intro hx; exact absurd (by decide) hx) | decide | intro hx | (refine Exists.intro _ (And.intro rfl ?_)))
      all_goals try first | (with_reducible change am_tI _ _) | (change Ret _ _) | (change Ret _ _ _) | (change Exists _)
      all_goals try dsimp only at *
      all_goals try exact absurd ‹(1000 : Int64) = 0› (by decide)
      all_goals first | exact h | exact l1 | exact l2
    · have e : r_fl M (30 * (3 : Int32).toNatClampNeg + l.toNatClampNeg) = M.2 209 l.toNatClampNeg := by
        rw [show (3 : Int32).toNatClampNeg = 3 from rfl]
        unfold r_fl
        rw [if_neg (by omega), if_neg (by omega), if_neg (by omega), if_pos (by omega), show 30 * 3 + l.toNatClampNeg - 90 = l.toNatClampNeg by omega]
      rw [e] at h
      repeat' (first | apply And.intro | exact rfl | (intro hx; exact absurd hx (by decide)) | (intro hx; exact absurd (by decide) hx) | decide | intro hx | (refine Exists.intro _ (And.intro rfl ?_)))
      all_goals try first | (with_reducible change am_tI _ _) | (change Ret _ _) | (change Ret _ _ _) | (change Exists _)
      all_goals try dsimp only at *
      all_goals try exact absurd ‹(1000 : Int64) = 0› (by decide)
      all_goals first | exact h | exact l1 | exact l2
    · have e : r_fl M (30 * (4 : Int32).toNatClampNeg + l.toNatClampNeg) = M.2 212 l.toNatClampNeg := by
        rw [show (4 : Int32).toNatClampNeg = 4 from rfl]
        unfold r_fl
        rw [if_neg (by omega), if_neg (by omega), if_neg (by omega), if_neg (by omega), if_pos (by omega), show 30 * 4 + l.toNatClampNeg - 120 = l.toNatClampNeg by omega]
      rw [e] at h
      repeat' (first | apply And.intro | exact rfl | (intro hx; exact absurd hx (by decide)) | (intro hx; exact absurd (by decide) hx) | decide | intro hx | (refine Exists.intro _ (And.intro rfl ?_)))
      all_goals try first | (with_reducible change am_tI _ _) | (change Ret _ _) | (change Ret _ _ _) | (change Exists _)
      all_goals try dsimp only at *
      all_goals try exact absurd ‹(1000 : Int64) = 0› (by decide)
      all_goals first | exact h | exact l1 | exact l2
  · exact h.elim
def kX8_allOfE (live : am_E) (Ret : am_R) : am_code := [(0, am_const (.long 0) 1), (1, am_lstore 3 6 2), (2, am_const (.int 0) 3), (3, am_istore 5 6 5), (5, am_iload 5 7), (7, am_aload 0 8), (8, am_getR live 8 0 11), (11, am_const (.int 1) 12), (12, am_ald live 0 13), (13, am_if2 (fun x y => y ≤ x) 47 16), (16, am_lload 3 17), (17, am_aload 0 18), (18, am_iload 5 20), (20, am_const (.int 0) 21), (21, am_callV live 8 2 TX8_ofLoan 24), (24, am_iload 1 25), (25, am_if2 (fun x y => x = y) 28 38), (28, am_aload 0 29), (29, am_iload 5 31), (31, am_iload 2 32), (32, am_callV live 8 2 TE8_runOf 35), (35, am_goto 39), (38, am_const (.long 0) 39), (39, am_l2 (fun x y => x + y) 40), (40, am_lstore 3 6 41), (41, am_iinc 5 6 1 44), (44, am_goto 5), (47, am_lload 3 48), (48, am_retL Ret)]
theorem koX8_allOfE (live : am_E) (Ret : am_R) : ∀ q ∈ kX8_allOfE live Ret, am_ok RX8 cX8_allOf 6 (some .long) 1 22 live Ret q.1 q.2 :=
  am_kc (ak_lconst dX8_allOf_0 (by decide +kernel) rfl) <|
  am_kc (ak_lstore_n dX8_allOf_1 rfl rfl) <|
  am_kc (ak_iconst dX8_allOf_2 (by decide +kernel) rfl) <|
  am_kc (ak_istore dX8_allOf_3 rfl) <|
  am_kc (ak_iload dX8_allOf_5 rfl) <|
  am_kc (ak_aload_n dX8_allOf_7 rfl rfl) <|
  am_kc (ak_getR (C := RX8) (T := TX8) (N := 27) rfl inX8w (by decide) rfl rfl rfl wd_895 dX8_allOf_8 rfl) <|
  am_kc (ak_iconst dX8_allOf_11 (by decide +kernel) rfl) <|
  am_kc (ak_iald (t := 0) (fun _ => rfl) rfl dX8_allOf_12 rfl) <|
  am_kc (ak_icmp_ge dX8_allOf_13 (by decide +kernel) rfl) <|
  am_kc (ak_lload_n dX8_allOf_16 rfl rfl) <|
  am_kc (ak_aload_n dX8_allOf_17 rfl rfl) <|
  am_kc (ak_iload dX8_allOf_18 rfl) <|
  am_kc (ak_iconst dX8_allOf_20 (by decide +kernel) rfl) <|
  am_kc (ak_callV (C := RX8) (F := TX8) (N := 27) metX8_ofLoan rfl ⟨rfl, by decide +kernel, by decide +kernel, by decide +kernel⟩ (am_w5 wd_1154 wd_1156 wd_41 wd_67 wd_1157) (by decide) dX8_allOf_21 rfl) <|
  am_kc (ak_iload_n dX8_allOf_24 rfl rfl) <|
  am_kc (ak_icmp_ne dX8_allOf_25 (by decide +kernel) rfl) <|
  am_kc (ak_aload_n dX8_allOf_28 rfl rfl) <|
  am_kc (ak_iload dX8_allOf_29 rfl) <|
  am_kc (ak_iload_n dX8_allOf_31 rfl rfl) <|
  am_kc (ak_callV (C := RX8) (F := TX8) (N := 27) metX8_runOfE rfl ⟨rfl, by decide +kernel, by decide +kernel, by decide +kernel⟩ (am_w5 wd_1187 wd_1189 wd_49 wd_67 wd_1190) (by decide) dX8_allOf_32 rfl) <|
  am_kc (ak_goto dX8_allOf_35 (by decide +kernel)) <|
  am_kc (ak_lconst dX8_allOf_38 (by decide +kernel) rfl) <|
  am_kc (ak_ladd dX8_allOf_39 rfl) <|
  am_kc (ak_lstore_n dX8_allOf_40 rfl rfl) <|
  am_kc (ak_iinc dX8_allOf_41 (by decide +kernel) rfl) <|
  am_kc (ak_goto dX8_allOf_44 (by decide +kernel)) <|
  am_kc (ak_lload_n dX8_allOf_47 rfl rfl) <|
  am_kc (ak_retL dX8_allOf_48) <| am_kn
def r_own (M : am_M) (p l : Int32) : Bool := decide (r_lo M l 0 = p)
theorem r_own_iff {M : am_M} {p l : Int32} : r_own M p l = true ↔ r_lo M l 0 = p := by
  unfold r_own
  exact decide_eq_true_iff
abbrev r_n (M : am_M) : Nat := (M.1 201 1).toNatClampNeg
abbrev r_mine (M : am_M) (p : Int32) (n : Nat) : List Int32 := z_mine (r_own M p) n
theorem z_tog_s {s : Nat → Int64} {w : Nat} {ms : List Int32} {l : Int32} : z_tog s w (ms ++ [l]) = z_tog s w ms + s (w + l.toNatClampNeg) := by
  unfold z_tog
  rw [List.foldl_append]
  rfl
def TE8_allOf : am_T := fun live as M R => match as with
  | [.ref n, .int p, .int w] => am_mn live ∧ n = 200 ∧ am_in w 5 ∧ r_I M ∧ R (some (.long (z_tog (r_fl M) (30 * w.toNatClampNeg) (r_mine M p (r_n M))))) M
  | _ => False
def JE8_allOf : am_E → List Value → am_M → am_R → am_inv := fun live as M0 _ pc => match as with
  | [.ref n, .int p, .int w] => (match pc with
    | 5 => some ([0, 1, 2, 3, 5], fun k L st M => ∃ (v : Int64) (i : Int32), L = [(0, .ref 200), (1, .int p), (2, .int w), (3, .long v), (5, .int i)] ∧ st = [] ∧ k = ((31 - i.toInt).toNat, 0) ∧ (0 ≤ i.toInt ∧ i.toInt ≤ (M0.1 201 1).toInt) ∧ v = z_tog (r_fl M0) (30 * w.toNatClampNeg) (r_mine M0 p i.toNatClampNeg) ∧ M = M0)
    | _ => none)
  | _ => none
set_option maxRecDepth 100000 in
set_option maxHeartbeats 4000000 in
theorem metX8_allOfE : am_Met yX8_allOf cX8_allOf 6 (some .long) (1) (22) TE8_allOf := by
  refine am_met (own := RX8) (by decide +kernel) rfl kX8_allOfE koX8_allOfE 100 JE8_allOf ?_ ?_
  · intro live as M Ret h
    unfold TE8_allOf at h
    split at h
    · next n p w =>
      refine ⟨Nat.le_of_ble_eq_true rfl, ?_⟩
      change am_wp _ _ _ _ [(0, Value.ref n), (1, Value.int p), (2, Value.int w)] _ _
      obtain ⟨hmn, rfl, hw, hR, h⟩ := h
      have n1 := hR.n1
      repeat' (first | apply And.intro | exact rfl | intro hx | (refine Exists.intro _ (And.intro rfl ?_)))
      all_goals try first | (with_reducible change am_tI _ _) | (change Ret _ _) | (change Ret _ _ _) | (change Exists _)
      all_goals try dsimp only at *
      all_goals try exact absurd ‹(1000 : Int64) = 0› (by decide)
      exact ⟨_, _, _, rfl, rfl, rfl, ⟨by decide, n1.1⟩, rfl, rfl⟩
    · exact h.elim
  · intro live as M0 Ret h k pc I hI L st M hi
    unfold TE8_allOf at h
    split at h
    · next n p w =>
      obtain ⟨hmn, rfl, hw, hR, h⟩ := h
      have hmn2 := hmn
      obtain ⟨i1, i2, rfl⟩ := hmn2
      have l201 : am_len 201 = 3760 := rfl
      have w0 : 0 ≤ (0 : Int32).toInt ∧ (0 : Int32).toInt ≤ 7 := ⟨by decide, by decide⟩
      have n1 : 0 ≤ (M0.1 201 (Int32.toNatClampNeg 1)).toInt ∧ (M0.1 201 (Int32.toNatClampNeg 1)).toInt ≤ 30 := hR.n1
      have cn : (r_n M0 : Int) = (M0.1 201 (Int32.toNatClampNeg 1)).toInt := i_clamp n1.1
      change (match pc with | 5 => _ | _ => none) = _ at hI
      split at hI
      · cases hI
        obtain ⟨v, i, rfl, rfl, rfl, ⟨e1, e2⟩, ev, rfl⟩ := hi
        have e2 : i.toInt ≤ (M.1 201 (Int32.toNatClampNeg 1)).toInt := e2
        have ci := i_clamp e1
        by_cases hz : M.1 201 (Int32.toNatClampNeg 1) ≤ i
        · have hz2 := hz
          simp only [i_le] at hz2
          rw [show i.toNatClampNeg = r_n M by omega] at ev
          rw [← ev] at h
          repeat' (first | apply And.intro | exact rfl | (intro hx; with_reducible exact absurd hz hx) | (intro hx; exact absurd hx (by decide)) | (intro hx; exact absurd (by decide) hx) | decide | intro hx | (refine Exists.intro _ (And.intro rfl ?_)))
          all_goals try first | (with_reducible change am_tI _ _) | (change Ret _ _) | (change Ret _ _ _) | (change Exists _)
          all_goals try dsimp only at *
          all_goals try exact absurd ‹(1000 : Int64) = 0› (by decide)
          all_goals first
            | exact h
            | (show _ < _; simp only [l201]; decide)
        · have hz2 := hz
          simp only [i_le] at hz2
          have hz3 : ¬ (M.1 201 1).toInt ≤ i.toInt := hz2
          have hl : am_in i 30 := ⟨e1, by omega⟩
          have hi := i_inc (x := i) (by omega) (by omega)
          have ci1 := i_clamp (x := i + 1) (by omega)
          have ol := o_cl hl (by decide)
          by_cases hm : M.1 201 (2838 + 8 * i + 0).toNatClampNeg = p
          · have nx : v + r_fl M (30 * w.toNatClampNeg + i.toNatClampNeg) = z_tog (r_fl M) (30 * w.toNatClampNeg) (r_mine M p (i + 1).toNatClampNeg) := by
              rw [show (i + 1).toNatClampNeg = i.toNatClampNeg + 1 by omega]
              show _ = z_tog _ _ (z_mine _ (_ + 1))
              rw [z_mine_s, ol, if_pos (r_own_iff.mpr hm), z_tog_s, ev]
            repeat' (first | (with_reducible exact hmn) | (with_reducible exact hl) | (with_reducible exact hw) | (with_reducible exact w0) | apply And.intro | exact rfl | (intro hx; with_reducible exact absurd hx hz) | (intro hx; with_reducible exact absurd hm hx) | (intro hx; exact absurd hx (by decide)) | (intro hx; exact absurd (by decide) hx) | decide | intro hx | (refine Exists.intro _ (And.intro rfl ?_)))
            all_goals try first | (with_reducible change am_tI _ _) | (change Ret _ _) | (change Ret _ _ _) | (change Exists _)
            all_goals try dsimp only at *
            all_goals try exact absurd ‹(1000 : Int64) = 0› (by decide)
            all_goals first
              | (show _ < _; simp only [l201]; decide)
              | exact ⟨_, am_lt_l (by omega), _, _, rfl, rfl, rfl, ⟨by omega, by omega⟩, nx, rfl⟩
              | skip
          · have nx : v + 0 = z_tog (r_fl M) (30 * w.toNatClampNeg) (r_mine M p (i + 1).toNatClampNeg) := by
              rw [show (i + 1).toNatClampNeg = i.toNatClampNeg + 1 by omega]
              show _ = z_tog _ _ (z_mine _ (_ + 1))
              rw [z_mine_s, ol, if_neg (fun q => hm (r_own_iff.mp q)), List.append_nil, ev, Int64.add_zero]
            repeat' (first | (with_reducible exact hmn) | (with_reducible exact hl) | (with_reducible exact hw) | (with_reducible exact w0) | apply And.intro | exact rfl | (intro hx; with_reducible exact absurd hx hz) | (intro hx; with_reducible exact absurd hx hm) | (intro hx; exact absurd hx (by decide)) | (intro hx; exact absurd (by decide) hx) | decide | intro hx | (refine Exists.intro _ (And.intro rfl ?_)))
            all_goals try first | (with_reducible change am_tI _ _) | (change Ret _ _) | (change Ret _ _ _) | (change Exists _)
            all_goals try dsimp only at *
            all_goals try exact absurd ‹(1000 : Int64) = 0› (by decide)
            all_goals first
              | (show _ < _; simp only [l201]; decide)
              | exact ⟨_, am_lt_l (by omega), _, _, rfl, rfl, rfl, ⟨by omega, by omega⟩, nx, rfl⟩
              | skip
      · cases hI
    · exact h.elim
/-- all is 0 -/
def r_zr (M : am_M) (n : Nat) : Prop := ∃ _ : Unit, (∀ l : Nat, l < n → M.2 207 l = 0 ∧ M.2 208 l = 0 ∧ M.2 209 l = 0 ∧ M.2 210 l = 0 ∧ M.2 211 l = 0 ∧ M.2 212 l = 0 ∧ M.1 213 l = 0)
def TE8_beginRun : am_T := fun live as M R => match as with
  | [.ref n] => am_mn live ∧ n = 200 ∧ r_I M ∧ ∀ M', r_ky M M' → r_I M' → (∀ k, k < 180 → r_fl M' k = 0) → (∀ l, l < 30 → M'.1 213 l = 0) → R none M'
  | _ => False
def JE8_beginRun : am_E → List Value → am_M → am_R → am_inv := fun live as M0 _ pc => match as with
  | [.ref n] => (match pc with
    | 2 => some ([0, 1], fun k L st M => ∃ i : Int32, L = [(0, .ref 200), (1, .int i)] ∧ st = [] ∧ k = ((31 - i.toInt).toNat, 0) ∧ (0 ≤ i.toInt ∧ i.toInt ≤ 30) ∧ r_ky M0 M ∧ r_I M ∧ r_zr M i.toNatClampNeg)
    | _ => none)
  | _ => none
set_option maxRecDepth 100000 in
set_option maxHeartbeats 4000000 in
theorem metX8_beginRunE : am_Met yX8_beginRun cX8_beginRun 2 none (0) (0) TE8_beginRun := by
  refine am_met (own := RX8) (by decide +kernel) rfl kX8_beginRun koX8_beginRun 100 JE8_beginRun ?_ ?_
  · intro live as M Ret h
    unfold TE8_beginRun at h
    split at h
    · next n =>
      refine ⟨Nat.le_of_ble_eq_true rfl, ?_⟩
      change am_wp _ _ _ _ [(0, Value.ref n)] _ _
      obtain ⟨hmn, rfl, hR, h⟩ := h
      repeat' (first | apply And.intro | exact rfl | intro hx | (refine Exists.intro _ (And.intro rfl ?_)))
      all_goals try first | (with_reducible change am_tI _ _) | (change Ret _ _) | (change Ret _ _ _) | (change Exists _)
      all_goals try dsimp only at *
      all_goals try exact absurd ‹(1000 : Int64) = 0› (by decide)
      exact ⟨_, _, rfl, rfl, rfl, ⟨by decide, by decide⟩, r_ky.rf, hR, (), fun l hl => absurd hl (by show ¬ l < 0; omega)⟩
    · exact h.elim
  · intro live as M0 Ret h k pc I hI L st M hi
    unfold TE8_beginRun at h
    split at h
    · next n =>
      obtain ⟨hmn, rfl, hR, h⟩ := h
      obtain ⟨i1, i2, rfl⟩ := hmn
      change (match pc with | 2 => _ | _ => none) = _ at hI
      split at hI
      · cases hI
        obtain ⟨i, rfl, rfl, rfl, ⟨e1, e4⟩, e2, e3, e5⟩ := hi
        have ci := i_clamp e1
        obtain ⟨-, e5⟩ := e5
        by_cases hz : (30 : Int32) ≤ i
        · have hz2 := hz
          simp only [i_le, Int32.reduceToInt] at hz2
          rw [show i.toNatClampNeg = 30 by omega] at e5
          have hh := h M e2 e3 (fun k hk => by
            unfold r_fl
            split
            · exact (e5 k (by omega)).1
            · split
              · exact (e5 (k - 30) (by omega)).2.1
              · split
                · exact (e5 (k - 60) (by omega)).2.2.2.2.1
                · split
                  · exact (e5 (k - 90) (by omega)).2.2.1
                  · split
                    · exact (e5 (k - 120) (by omega)).2.2.2.2.2.1
                    · exact (e5 (k - 150) (by omega)).2.2.2.1) (fun l hl => (e5 l hl).2.2.2.2.2.2)
          repeat' (first | apply And.intro | exact rfl | (intro hx; with_reducible exact absurd hz hx) | intro hx | (refine Exists.intro _ (And.intro rfl ?_)))
          all_goals try first | (with_reducible change am_tI _ _) | (change Ret _ _) | (change Ret _ _ _) | (change Exists _)
          all_goals try dsimp only at *
          all_goals try exact absurd ‹(1000 : Int64) = 0› (by decide)
          exact hh
        · have hz2 := hz
          simp only [i_le, Int32.reduceToInt] at hz2
          have hi := i_inc (x := i) (by omega) (by omega)
          have ci1 := i_clamp (x := i + 1) (by omega)
          have x2 : i.toInt < ((30 : Nat) : Int) := by omega
          repeat' (first | (with_reducible exact e1) | apply And.intro | exact rfl | (intro hx; with_reducible exact absurd hx hz) | intro hx | (refine Exists.intro _ (And.intro rfl ?_)))
          all_goals try first | (with_reducible change am_tI _ _) | (change Ret _ _) | (change Ret _ _ _) | (change Exists _)
          all_goals try dsimp only at *
          all_goals try exact absurd ‹(1000 : Int64) = 0› (by decide)
          all_goals first
            | exact x2
            | skip
          refine ⟨_, am_lt_l (by omega), _, rfl, rfl, rfl, ⟨by omega, by omega⟩, ((((((e2.w ⟨by decide, by decide⟩).w ⟨by decide, by decide⟩).w ⟨by decide, by decide⟩).w ⟨by decide, by decide⟩).w ⟨by decide, by decide⟩).w ⟨by decide, by decide⟩).wb, by (repeat' (first | (with_reducible assumption) | ((with_reducible change r_I (am_wJ _ _ _ _)); refine r_I.wJ ?_) | ((with_reducible change r_I (am_wI _ _ _ _)); refine r_I.wI ?_ rfl))), (), fun l hl => ?_⟩
          by_cases z : l = i.toNatClampNeg
          · subst z
            refine ⟨?_, ?_, ?_, ?_, ?_, ?_, ?_⟩
            all_goals first
              | (rw [am_wI_self]; rfl)
              | (repeat (first | rw [show ∀ (K : am_M) (n k : Nat) (v : Int32), (am_wI K n k v).2 = K.2 from fun _ _ _ _ => rfl] | rw [am_wJ_1, if_pos ⟨rfl, rfl⟩] | rw [am_wJ_1, if_neg (fun q => absurd q.1 (by decide))]))
          · obtain ⟨a1, a2, a3, a4, a5, a6, a7⟩ := e5 l (by omega)
            refine ⟨?_, ?_, ?_, ?_, ?_, ?_, ?_⟩
            all_goals first
              | (rw [am_wI_1, if_neg (fun q => z q.2)]; assumption)
              | (repeat (first | rw [show ∀ (K : am_M) (n k : Nat) (v : Int32), (am_wI K n k v).2 = K.2 from fun _ _ _ _ => rfl] | rw [am_wJ_1, if_neg (fun q => z q.2)])); assumption
      · cases hI
    · exact h.elim
def kX8_dueOfE (live : am_E) (Ret : am_R) : am_code := [(0, am_aload 0 1), (1, am_iload 1 2), (2, am_const (.int 0) 3), (3, am_callV live 8 2 TX8_ofLoan 6), (6, am_istore 5 9 8), (8, am_aload 0 9), (9, am_iload 1 10), (10, am_iload 2 11), (11, am_callV live 8 2 TE8_planAt 14), (14, am_istore 6 9 16), (16, am_iload 3 17), (17, am_if1 (fun x => 0 ≤ x) 41 20), (20, am_iload 4 22), (22, am_if1 (fun x => x = 0) 25 29), (25, am_const (.long 0) 26), (26, am_goto 40), (29, am_aload 0 30), (30, am_iload 6 32), (32, am_const (.int 5) 33), (33, am_iload 5 35), (35, am_iload 2 36), (36, am_callV live 8 4 TE8_inForce 39), (39, am_i2l 40), (40, am_retL Ret), (41, am_aload 0 42), (42, am_iload 6 44), (44, am_const (.int 0) 45), (45, am_iload 5 47), (47, am_iload 2 48), (48, am_callV live 8 4 TE8_inForce 51), (51, am_i2l 52), (52, am_lstore 7 9 54), (54, am_iload 4 56), (56, am_if1 (fun x => x = 0) 59 64), (59, am_lload 7 61), (61, am_goto 83), (64, am_lload 7 66), (66, am_aload 0 67), (67, am_getR live 8 0 70), (70, am_const (.int 514) 73), (73, am_iload 4 75), (75, am_i2 (fun x y => x + y) 76), (76, am_ald live 0 77), (77, am_i2l 78), (78, am_l2 (fun x y => x * y) 79), (79, am_const (.long 1000) 82), (82, am_l2z (fun x y => x / y) 83), (83, am_lstore 7 9 85), (85, am_iload 3 86), (86, am_i2l 87), (87, am_lload 7 89), (89, am_lcmp 90), (90, am_if1 (fun x => x ≤ 0) 117 93), (93, am_iload 3 94), (94, am_i2l 95), (95, am_lload 7 97), (97, am_l2 (fun x y => x - y) 98), (98, am_aload 0 99), (99, am_iload 6 101), (101, am_const (.int 1) 102), (102, am_iload 5 104), (104, am_iload 2 105), (105, am_callV live 8 4 TE8_inForce 108), (108, am_i2l 109), (109, am_l2 (fun x y => x * y) 110), (110, am_const (.long 1000) 113), (113, am_l2z (fun x y => x / y) 114), (114, am_goto 118), (117, am_const (.long 0) 118), (118, am_retL Ret)]
theorem koX8_dueOfE (live : am_E) (Ret : am_R) : ∀ q ∈ kX8_dueOfE live Ret, am_ok RX8 cX8_dueOf 9 (some .long) 2 53 live Ret q.1 q.2 :=
  am_kc (ak_aload_n dX8_dueOf_0 rfl rfl) <|
  am_kc (ak_iload_n dX8_dueOf_1 rfl rfl) <|
  am_kc (ak_iconst dX8_dueOf_2 (by decide +kernel) rfl) <|
  am_kc (ak_callV (C := RX8) (F := TX8) (N := 27) metX8_ofLoan rfl ⟨rfl, by decide +kernel, by decide +kernel, by decide +kernel⟩ (am_w5 wd_1154 wd_1156 wd_41 wd_67 wd_1157) (by decide) dX8_dueOf_3 rfl) <|
  am_kc (ak_istore dX8_dueOf_6 rfl) <|
  am_kc (ak_aload_n dX8_dueOf_8 rfl rfl) <|
  am_kc (ak_iload_n dX8_dueOf_9 rfl rfl) <|
  am_kc (ak_iload_n dX8_dueOf_10 rfl rfl) <|
  am_kc (ak_callV (C := RX8) (F := TX8) (N := 27) metX8_planAtE rfl ⟨rfl, by decide +kernel, by decide +kernel, by decide +kernel⟩ (am_w5 wd_1085 wd_1087 wd_32 wd_67 wd_1088) (by decide) dX8_dueOf_11 rfl) <|
  am_kc (ak_istore dX8_dueOf_14 rfl) <|
  am_kc (ak_iload_n dX8_dueOf_16 rfl rfl) <|
  am_kc (ak_if_ge dX8_dueOf_17 (by decide +kernel) rfl) <|
  am_kc (ak_iload dX8_dueOf_20 rfl) <|
  am_kc (ak_if_ne dX8_dueOf_22 (by decide +kernel) rfl) <|
  am_kc (ak_lconst dX8_dueOf_25 (by decide +kernel) rfl) <|
  am_kc (ak_goto dX8_dueOf_26 (by decide +kernel)) <|
  am_kc (ak_aload_n dX8_dueOf_29 rfl rfl) <|
  am_kc (ak_iload dX8_dueOf_30 rfl) <|
  am_kc (ak_iconst dX8_dueOf_32 (by decide +kernel) rfl) <|
  am_kc (ak_iload dX8_dueOf_33 rfl) <|
  am_kc (ak_iload_n dX8_dueOf_35 rfl rfl) <|
  am_kc (ak_callV (C := RX8) (F := TX8) (N := 27) metX8_inForceE rfl ⟨rfl, by decide +kernel, by decide +kernel, by decide +kernel⟩ (am_w5 wd_1053 wd_1055 wd_29 wd_67 wd_1056) (by decide) dX8_dueOf_36 rfl) <|
  am_kc (ak_i2l dX8_dueOf_39 rfl) <|
  am_kc (ak_retL dX8_dueOf_40) <|
  am_kc (ak_aload_n dX8_dueOf_41 rfl rfl) <|
  am_kc (ak_iload dX8_dueOf_42 rfl) <|
  am_kc (ak_iconst dX8_dueOf_44 (by decide +kernel) rfl) <|
  am_kc (ak_iload dX8_dueOf_45 rfl) <|
  am_kc (ak_iload_n dX8_dueOf_47 rfl rfl) <|
  am_kc (ak_callV (C := RX8) (F := TX8) (N := 27) metX8_inForceE rfl ⟨rfl, by decide +kernel, by decide +kernel, by decide +kernel⟩ (am_w5 wd_1053 wd_1055 wd_29 wd_67 wd_1056) (by decide) dX8_dueOf_48 rfl) <|
  am_kc (ak_i2l dX8_dueOf_51 rfl) <|
  am_kc (ak_lstore dX8_dueOf_52 rfl) <|
  am_kc (ak_iload dX8_dueOf_54 rfl) <|
  am_kc (ak_if_ne dX8_dueOf_56 (by decide +kernel) rfl) <|
  am_kc (ak_lload dX8_dueOf_59 rfl) <|
  am_kc (ak_goto dX8_dueOf_61 (by decide +kernel)) <|
  am_kc (ak_lload dX8_dueOf_64 rfl) <|
  am_kc (ak_aload_n dX8_dueOf_66 rfl rfl) <|
  am_kc (ak_getR (C := RX8) (T := TX8) (N := 27) rfl inX8w (by decide) rfl rfl rfl wd_895 dX8_dueOf_67 rfl) <|
  am_kc (ak_sipush dX8_dueOf_70 (by decide +kernel) rfl) <|
  am_kc (ak_iload dX8_dueOf_73 rfl) <|
  am_kc (ak_iadd dX8_dueOf_75 rfl) <|
  am_kc (ak_iald (t := 0) (fun _ => rfl) rfl dX8_dueOf_76 rfl) <|
  am_kc (ak_i2l dX8_dueOf_77 rfl) <|
  am_kc (ak_lmul dX8_dueOf_78 rfl) <|
  am_kc (ak_ldc2 wd_1045 dX8_dueOf_79 rfl) <|
  am_kc (ak_ldiv dX8_dueOf_82 rfl) <|
  am_kc (ak_lstore dX8_dueOf_83 rfl) <|
  am_kc (ak_iload_n dX8_dueOf_85 rfl rfl) <|
  am_kc (ak_i2l dX8_dueOf_86 rfl) <|
  am_kc (ak_lload dX8_dueOf_87 rfl) <|
  am_kc (ak_lcmp dX8_dueOf_89 rfl) <|
  am_kc (ak_if_le dX8_dueOf_90 (by decide +kernel) rfl) <|
  am_kc (ak_iload_n dX8_dueOf_93 rfl rfl) <|
  am_kc (ak_i2l dX8_dueOf_94 rfl) <|
  am_kc (ak_lload dX8_dueOf_95 rfl) <|
  am_kc (ak_lsub dX8_dueOf_97 rfl) <|
  am_kc (ak_aload_n dX8_dueOf_98 rfl rfl) <|
  am_kc (ak_iload dX8_dueOf_99 rfl) <|
  am_kc (ak_iconst dX8_dueOf_101 (by decide +kernel) rfl) <|
  am_kc (ak_iload dX8_dueOf_102 rfl) <|
  am_kc (ak_iload_n dX8_dueOf_104 rfl rfl) <|
  am_kc (ak_callV (C := RX8) (F := TX8) (N := 27) metX8_inForceE rfl ⟨rfl, by decide +kernel, by decide +kernel, by decide +kernel⟩ (am_w5 wd_1053 wd_1055 wd_29 wd_67 wd_1056) (by decide) dX8_dueOf_105 rfl) <|
  am_kc (ak_i2l dX8_dueOf_108 rfl) <|
  am_kc (ak_lmul dX8_dueOf_109 rfl) <|
  am_kc (ak_ldc2 wd_1045 dX8_dueOf_110 rfl) <|
  am_kc (ak_ldiv dX8_dueOf_113 rfl) <|
  am_kc (ak_goto dX8_dueOf_114 (by decide +kernel)) <|
  am_kc (ak_lconst dX8_dueOf_117 (by decide +kernel) rfl) <|
  am_kc (ak_retL dX8_dueOf_118) <| am_kn
def r_line (M : am_M) (l y a : Int32) : Int64 := if a = 0 then (r_inF M (r_pl M l y) 0 (r_lo M l 0) y).toInt64 else (r_inF M (r_pl M l y) 0 (r_lo M l 0) y).toInt64 * (M.1 201 (514 + a).toNatClampNeg).toInt64 / 1000
def r_due (M : am_M) (y e a l : Int32) : Int64 := if e < 0 then (if a = 0 then 0 else (r_inF M (r_pl M l y) 5 (r_lo M l 0) y).toInt64) else if r_line M l y a < e.toInt64 then (e.toInt64 - r_line M l y a) * (r_inF M (r_pl M l y) 1 (r_lo M l 0) y).toInt64 / 1000 else 0
def TE8_dueOf : am_T := fun live as M R => match as with
  | [.ref n, .int l, .int y, .int e, .int a] => am_mn live ∧ n = 200 ∧ am_in l 30 ∧ 0 ≤ y.toInt ∧ am_in a 4 ∧ r_I M ∧ R (some (.long (r_due M y e a l))) M
  | _ => False
set_option maxRecDepth 100000 in
set_option maxHeartbeats 4000000 in
theorem metX8_dueOfE : am_Met yX8_dueOf cX8_dueOf 9 (some .long) (2) (53) TE8_dueOf := by
  refine am_met (own := RX8) (by decide +kernel) rfl kX8_dueOfE koX8_dueOfE 150 (fun _ _ _ _ _ => none) (fun live as M Ret h => ?_) (fun _ _ _ _ _ _ _ _ hI => by cases hI)
  unfold TE8_dueOf at h
  split at h
  · next n l y e a =>
    refine ⟨Nat.le_of_ble_eq_true rfl, ?_⟩
    change am_wp _ _ _ _ [(0, Value.ref n), (1, Value.int l), (2, Value.int y), (3, Value.int e), (4, Value.int a)] _ _
    obtain ⟨hmn, rfl, hl, hy, ha, hR, h⟩ := h
    have hmn2 := hmn
    obtain ⟨i1, i2, rfl⟩ := hmn2
    have hp := r_pers hR hl
    have w0 : 0 ≤ (0 : Int32).toInt ∧ (0 : Int32).toInt ≤ 7 := ⟨by decide, by decide⟩
    have w06 : am_in (0 : Int32) 6 := ⟨by decide, by decide⟩
    have w16 : am_in (1 : Int32) 6 := ⟨by decide, by decide⟩
    have w56 : am_in (5 : Int32) 6 := ⟨by decide, by decide⟩
    have a40 : am_in a 40 := ⟨ha.1, by have := ha.2; omega⟩
    have y514 := r_in40 a40 (c := 514) ⟨by decide, by decide⟩
    have x1 := y514.1
    have x2 := y514.2
    by_cases ze : 0 ≤ e
    · have ze2 : ¬ e < 0 := fun q => by simp only [i_lt, i_le, Int32.toInt_zero] at ze q; omega
      unfold r_due at h
      rw [if_neg ze2] at h
      by_cases za : a = 0
      · have el : r_line M l y a = (r_inF M (r_pl M l y) 0 (r_lo M l 0) y).toInt64 := if_pos za
        rw [el] at h
        by_cases zc : lg_cmp e.toInt64 (r_inF M (r_pl M l y) 0 (r_lo M l 0) y).toInt64 ≤ 0
        · rw [if_neg (fun q => by rw [lc_le, j_le] at zc; rw [Int64.lt_iff_toInt_lt] at q; omega)] at h
          repeat' (first | (with_reducible exact hmn) | (with_reducible exact hl) | (with_reducible exact hy) | (with_reducible exact hp) | (with_reducible exact w0) | (with_reducible exact w06) | (with_reducible exact w16) | (with_reducible exact hR) | (with_reducible exact x1) | (with_reducible exact x2) | apply And.intro | exact rfl | (intro hx; with_reducible exact absurd ze hx) | (intro hx; with_reducible exact absurd za hx) | (intro hx; with_reducible exact absurd zc hx) | ((with_reducible change r_I _); (with_reducible assumption)) | (intro hx; exact absurd hx (by decide)) | (intro hx; exact absurd (by decide) hx) | decide | intro hx | (refine Exists.intro _ (And.intro rfl ?_)))
          all_goals try first | (with_reducible change am_tI _ _) | (change Ret _ _) | (change Ret _ _ _) | (change Exists _)
          all_goals try dsimp only at *
          all_goals try exact absurd ‹(1000 : Int64) = 0› (by decide)
          all_goals first | exact h | decide | skip
        · rw [if_pos (by rw [lc_le, j_le] at zc; rw [Int64.lt_iff_toInt_lt]; omega)] at h
          repeat' (first | (with_reducible exact hmn) | (with_reducible exact hl) | (with_reducible exact hy) | (with_reducible exact hp) | (with_reducible exact w0) | (with_reducible exact w06) | (with_reducible exact w16) | (with_reducible exact hR) | (with_reducible exact x1) | (with_reducible exact x2) | apply And.intro | exact rfl | (intro hx; with_reducible exact absurd hx zc) | (intro hx; with_reducible exact absurd ze hx) | (intro hx; with_reducible exact absurd za hx) | ((with_reducible change r_I _); (with_reducible assumption)) | (intro hx; exact absurd hx (by decide)) | (intro hx; exact absurd (by decide) hx) | decide | intro hx | (refine Exists.intro _ (And.intro rfl ?_)))
          all_goals try first | (with_reducible change am_tI _ _) | (change Ret _ _) | (change Ret _ _ _) | (change Exists _)
          all_goals try dsimp only at *
          all_goals try exact absurd ‹(1000 : Int64) = 0› (by decide)
          all_goals first | exact h | decide | skip
      · have el : r_line M l y a = (r_inF M (r_pl M l y) 0 (r_lo M l 0) y).toInt64 * (M.1 201 (514 + a).toNatClampNeg).toInt64 / 1000 := if_neg za
        rw [el] at h
        by_cases zc : lg_cmp e.toInt64 ((r_inF M (r_pl M l y) 0 (r_lo M l 0) y).toInt64 * (M.1 201 (514 + a).toNatClampNeg).toInt64 / 1000) ≤ 0
        · rw [if_neg (fun q => by rw [lc_le, j_le] at zc; rw [Int64.lt_iff_toInt_lt] at q; omega)] at h
          repeat' (first | (with_reducible exact hmn) | (with_reducible exact hl) | (with_reducible exact hy) | (with_reducible exact hp) | (with_reducible exact w0) | (with_reducible exact w06) | (with_reducible exact w16) | (with_reducible exact hR) | (with_reducible exact x1) | (with_reducible exact x2) | apply And.intro | exact rfl | (intro hx; with_reducible exact absurd hx za) | (intro hx; with_reducible exact absurd ze hx) | (intro hx; with_reducible exact absurd zc hx) | ((with_reducible change r_I _); (with_reducible assumption)) | (intro hx; exact absurd hx (by decide)) | (intro hx; exact absurd (by decide) hx) | decide | intro hx | (refine Exists.intro _ (And.intro rfl ?_)))
          all_goals try first | (with_reducible change am_tI _ _) | (change Ret _ _) | (change Ret _ _ _) | (change Exists _)
          all_goals try dsimp only at *
          all_goals try exact absurd ‹(1000 : Int64) = 0› (by decide)
          all_goals first | exact h | decide | skip
        · rw [if_pos (by rw [lc_le, j_le] at zc; rw [Int64.lt_iff_toInt_lt]; omega)] at h
          repeat' (first | (with_reducible exact hmn) | (with_reducible exact hl) | (with_reducible exact hy) | (with_reducible exact hp) | (with_reducible exact w0) | (with_reducible exact w06) | (with_reducible exact w16) | (with_reducible exact hR) | (with_reducible exact x1) | (with_reducible exact x2) | apply And.intro | exact rfl | (intro hx; with_reducible exact absurd hx za) | (intro hx; with_reducible exact absurd hx zc) | (intro hx; with_reducible exact absurd ze hx) | ((with_reducible change r_I _); (with_reducible assumption)) | (intro hx; exact absurd hx (by decide)) | (intro hx; exact absurd (by decide) hx) | decide | intro hx | (refine Exists.intro _ (And.intro rfl ?_)))
          all_goals try first | (with_reducible change am_tI _ _) | (change Ret _ _) | (change Ret _ _ _) | (change Exists _)
          all_goals try dsimp only at *
          all_goals try exact absurd ‹(1000 : Int64) = 0› (by decide)
          all_goals first | exact h | decide | skip
    · have ze2 : e < 0 := by simp only [i_lt, i_le, Int32.toInt_zero] at ze ⊢; omega
      unfold r_due at h
      rw [if_pos ze2] at h
      by_cases za : a = 0
      · rw [if_pos za] at h
        repeat' (first | (with_reducible exact hmn) | (with_reducible exact hl) | (with_reducible exact hy) | (with_reducible exact hp) | (with_reducible exact w0) | (with_reducible exact w56) | (with_reducible exact hR) | (with_reducible exact x1) | (with_reducible exact x2) | apply And.intro | exact rfl | (intro hx; with_reducible exact absurd hx ze) | (intro hx; with_reducible exact absurd za hx) | ((with_reducible change r_I _); (with_reducible assumption)) | (intro hx; exact absurd hx (by decide)) | (intro hx; exact absurd (by decide) hx) | decide | intro hx | (refine Exists.intro _ (And.intro rfl ?_)))
        all_goals try first | (with_reducible change am_tI _ _) | (change Ret _ _) | (change Ret _ _ _) | (change Exists _)
        all_goals try dsimp only at *
        all_goals try exact absurd ‹(1000 : Int64) = 0› (by decide)
        all_goals first | exact h | decide | skip
      · rw [if_neg za] at h
        repeat' (first | (with_reducible exact hmn) | (with_reducible exact hl) | (with_reducible exact hy) | (with_reducible exact hp) | (with_reducible exact w0) | (with_reducible exact w56) | (with_reducible exact hR) | (with_reducible exact x1) | (with_reducible exact x2) | apply And.intro | exact rfl | (intro hx; with_reducible exact absurd hx ze) | (intro hx; with_reducible exact absurd hx za) | ((with_reducible change r_I _); (with_reducible assumption)) | (intro hx; exact absurd hx (by decide)) | (intro hx; exact absurd (by decide) hx) | decide | intro hx | (refine Exists.intro _ (And.intro rfl ?_)))
        all_goals try first | (with_reducible change am_tI _ _) | (change Ret _ _) | (change Ret _ _ _) | (change Exists _)
        all_goals try dsimp only at *
        all_goals try exact absurd ‹(1000 : Int64) = 0› (by decide)
        all_goals first | exact h | decide | skip
  · exact h.elim
def kX8_isInE (live : am_E) (Ret : am_R) : am_code := [(0, am_aload 0 1), (1, am_iload 1 2), (2, am_const (.int 0) 3), (3, am_callV live 8 2 TX8_ofLoan 6), (6, am_iload 2 7), (7, am_if2 (fun x y => x = y) 10 41), (10, am_aload 0 11), (11, am_getR live 8 21 14), (14, am_iload 1 15), (15, am_ald live 2 16), (16, am_if1 (fun x => x = 0) 19 41), (19, am_aload 0 20), (20, am_aload 0 21), (21, am_iload 1 22), (22, am_iload 3 23), (23, am_callV live 8 2 TE8_planAt 26), (26, am_const (.int 4) 27), (27, am_iload 2 28), (28, am_iload 3 29), (29, am_callV live 8 4 TE8_inForce 32), (32, am_iload 4 34), (34, am_if2 (fun x y => x = y) 37 41), (37, am_const (.int 1) 38), (38, am_goto 42), (41, am_const (.int 0) 42), (42, am_retZ Ret)]
theorem koX8_isInE (live : am_E) (Ret : am_R) : ∀ q ∈ kX8_isInE live Ret, am_ok RX8 cX8_isIn 5 (some .boolean) 2 53 live Ret q.1 q.2 :=
  am_kc (ak_aload_n dX8_isIn_0 rfl rfl) <|
  am_kc (ak_iload_n dX8_isIn_1 rfl rfl) <|
  am_kc (ak_iconst dX8_isIn_2 (by decide +kernel) rfl) <|
  am_kc (ak_callV (C := RX8) (F := TX8) (N := 27) metX8_ofLoan rfl ⟨rfl, by decide +kernel, by decide +kernel, by decide +kernel⟩ (am_w5 wd_1154 wd_1156 wd_41 wd_67 wd_1157) (by decide) dX8_isIn_3 rfl) <|
  am_kc (ak_iload_n dX8_isIn_6 rfl rfl) <|
  am_kc (ak_icmp_ne dX8_isIn_7 (by decide +kernel) rfl) <|
  am_kc (ak_aload_n dX8_isIn_10 rfl rfl) <|
  am_kc (ak_getR (C := RX8) (T := TX8) (N := 27) rfl inX8w (by decide) rfl rfl rfl wd_916 dX8_isIn_11 rfl) <|
  am_kc (ak_iload_n dX8_isIn_14 rfl rfl) <|
  am_kc (ak_zald (t := 2) (fun _ => rfl) rfl dX8_isIn_15 rfl) <|
  am_kc (ak_if_ne dX8_isIn_16 (by decide +kernel) rfl) <|
  am_kc (ak_aload_n dX8_isIn_19 rfl rfl) <|
  am_kc (ak_aload_n dX8_isIn_20 rfl rfl) <|
  am_kc (ak_iload_n dX8_isIn_21 rfl rfl) <|
  am_kc (ak_iload_n dX8_isIn_22 rfl rfl) <|
  am_kc (ak_callV (C := RX8) (F := TX8) (N := 27) metX8_planAtE rfl ⟨rfl, by decide +kernel, by decide +kernel, by decide +kernel⟩ (am_w5 wd_1085 wd_1087 wd_32 wd_67 wd_1088) (by decide) dX8_isIn_23 rfl) <|
  am_kc (ak_iconst dX8_isIn_26 (by decide +kernel) rfl) <|
  am_kc (ak_iload_n dX8_isIn_27 rfl rfl) <|
  am_kc (ak_iload_n dX8_isIn_28 rfl rfl) <|
  am_kc (ak_callV (C := RX8) (F := TX8) (N := 27) metX8_inForceE rfl ⟨rfl, by decide +kernel, by decide +kernel, by decide +kernel⟩ (am_w5 wd_1053 wd_1055 wd_29 wd_67 wd_1056) (by decide) dX8_isIn_29 rfl) <|
  am_kc (ak_iload dX8_isIn_32 rfl) <|
  am_kc (ak_icmp_ne dX8_isIn_34 (by decide +kernel) rfl) <|
  am_kc (ak_iconst dX8_isIn_37 (by decide +kernel) rfl) <|
  am_kc (ak_goto dX8_isIn_38 (by decide +kernel)) <|
  am_kc (ak_iconst dX8_isIn_41 (by decide +kernel) rfl) <|
  am_kc (ak_retZ dX8_isIn_42) <| am_kn
def r_isin (M : am_M) (p y o l : Int32) : Prop := r_lo M l 0 = p ∧ M.1 213 l.toNatClampNeg = 0 ∧ r_inF M (r_pl M l y) 4 p y = o
def TE8_isIn : am_T := fun live as M R => match as with
  | [.ref n, .int l, .int p, .int y, .int o] => am_mn live ∧ n = 200 ∧ am_in l 30 ∧ am_in p 12 ∧ 0 ≤ y.toInt ∧ r_I M ∧ (¬ r_isin M p y o l → R (some (.int 0)) M) ∧ (r_isin M p y o l → R (some (.int 1)) M)
  | _ => False
set_option maxRecDepth 100000 in
set_option maxHeartbeats 4000000 in
theorem metX8_isInE : am_Met yX8_isIn cX8_isIn 5 (some .boolean) (2) (53) TE8_isIn := by
  refine am_met (own := RX8) (by decide +kernel) rfl kX8_isInE koX8_isInE 150 (fun _ _ _ _ _ => none) (fun live as M Ret h => ?_) (fun _ _ _ _ _ _ _ _ hI => by cases hI)
  unfold TE8_isIn at h
  split at h
  · next n l p y o =>
    refine ⟨Nat.le_of_ble_eq_true rfl, ?_⟩
    change am_wp _ _ _ _ [(0, Value.ref n), (1, Value.int l), (2, Value.int p), (3, Value.int y), (4, Value.int o)] _ _
    obtain ⟨hmn, rfl, hl, hp, hy, hR, h0, h1⟩ := h
    have hmn2 := hmn
    obtain ⟨i1, i2, rfl⟩ := hmn2
    have w0 : 0 ≤ (0 : Int32).toInt ∧ (0 : Int32).toInt ≤ 7 := ⟨by decide, by decide⟩
    have w46 : am_in (4 : Int32) 6 := ⟨by decide, by decide⟩
    have l213 : am_len 213 = 30 := rfl
    have l1 := hl.1
    have l2 : l.toInt < (am_len 213 : Int) := by rw [l213]; exact hl.2
    by_cases z1 : M.1 201 (2838 + 8 * l + 0).toNatClampNeg = p
    · by_cases z2 : M.1 213 l.toNatClampNeg = 0
      · by_cases z3 : r_inF M (r_pl M l y) 4 p y = o
        · have hh := h1 ⟨z1, z2, z3⟩
          repeat' (first | (with_reducible exact hmn) | (with_reducible exact hl) | (with_reducible exact hy) | (with_reducible exact hp) | (with_reducible exact w0) | (with_reducible exact w46) | (with_reducible exact hR) | (with_reducible exact l1) | (with_reducible exact l2) | apply And.intro | exact rfl | (intro hx; with_reducible exact absurd z1 hx) | (intro hx; with_reducible exact absurd z2 hx) | (intro hx; with_reducible exact absurd z3 hx) | ((with_reducible change r_I _); (with_reducible assumption)) | (intro hx; exact absurd hx (by decide)) | (intro hx; exact absurd (by decide) hx) | decide | intro hx | (refine Exists.intro _ (And.intro rfl ?_)))
          all_goals try first | (with_reducible change am_tI _ _) | (change Ret _ _) | (change Ret _ _ _) | (change Exists _)
          all_goals try dsimp only at *
          all_goals try exact absurd ‹(1000 : Int64) = 0› (by decide)
          all_goals first | exact hh | (left; rfl) | (right; rfl) | skip
        · have hh := h0 (fun q => z3 q.2.2)
          repeat' (first | (with_reducible exact hmn) | (with_reducible exact hl) | (with_reducible exact hy) | (with_reducible exact hp) | (with_reducible exact w0) | (with_reducible exact w46) | (with_reducible exact hR) | (with_reducible exact l1) | (with_reducible exact l2) | apply And.intro | exact rfl | (intro hx; with_reducible exact absurd hx z3) | (intro hx; with_reducible exact absurd z1 hx) | (intro hx; with_reducible exact absurd z2 hx) | ((with_reducible change r_I _); (with_reducible assumption)) | (intro hx; exact absurd hx (by decide)) | (intro hx; exact absurd (by decide) hx) | decide | intro hx | (refine Exists.intro _ (And.intro rfl ?_)))
          all_goals try first | (with_reducible change am_tI _ _) | (change Ret _ _) | (change Ret _ _ _) | (change Exists _)
          all_goals try dsimp only at *
          all_goals try exact absurd ‹(1000 : Int64) = 0› (by decide)
          all_goals first | exact hh | (left; rfl) | (right; rfl) | skip
      · have hh := h0 (fun q => z2 q.2.1)
        repeat' (first | (with_reducible exact hmn) | (with_reducible exact hl) | (with_reducible exact hy) | (with_reducible exact hp) | (with_reducible exact w0) | (with_reducible exact w46) | (with_reducible exact hR) | (with_reducible exact l1) | (with_reducible exact l2) | apply And.intro | exact rfl | (intro hx; with_reducible exact absurd hx z2) | (intro hx; with_reducible exact absurd z1 hx) | ((with_reducible change r_I _); (with_reducible assumption)) | (intro hx; exact absurd hx (by decide)) | (intro hx; exact absurd (by decide) hx) | decide | intro hx | (refine Exists.intro _ (And.intro rfl ?_)))
        all_goals try first | (with_reducible change am_tI _ _) | (change Ret _ _) | (change Ret _ _ _) | (change Exists _)
        all_goals try dsimp only at *
        all_goals try exact absurd ‹(1000 : Int64) = 0› (by decide)
        all_goals first | exact hh | (left; rfl) | (right; rfl) | skip
    · have hh := h0 (fun q => z1 q.1)
      repeat' (first | (with_reducible exact hmn) | (with_reducible exact hl) | (with_reducible exact hy) | (with_reducible exact hp) | (with_reducible exact w0) | (with_reducible exact w46) | (with_reducible exact hR) | (with_reducible exact l1) | (with_reducible exact l2) | apply And.intro | exact rfl | (intro hx; with_reducible exact absurd hx z1) | ((with_reducible change r_I _); (with_reducible assumption)) | (intro hx; exact absurd hx (by decide)) | (intro hx; exact absurd (by decide) hx) | decide | intro hx | (refine Exists.intro _ (And.intro rfl ?_)))
      all_goals try first | (with_reducible change am_tI _ _) | (change Ret _ _) | (change Ret _ _ _) | (change Exists _)
      all_goals try dsimp only at *
      all_goals try exact absurd ‹(1000 : Int64) = 0› (by decide)
      all_goals first | exact hh | (left; rfl) | (right; rfl) | skip
  · exact h.elim
