/-! texts: what a text says, worked with a stack: the class -/
/-- how many values a code takes -/
def w_nd (c : Int32) : Nat := if 0 ≤ c.toInt then 0 else if am_ops (-c) = 0 then 0 else if am_ops (-c) = 1 then 1 else if am_ops (-c) = 2 then 2 else 3
theorem w_ex_le {fa : Int32 → Int64} {c : Int32} {st : List Int64} : (w_nd c ≤ st.length → (w_ex fa c st).length + w_nd c = st.length + 1) ∧ (st.length < w_nd c → st.length + 1 < (w_ex fa c st).length + w_nd c) := by
  unfold w_nd w_ex
  by_cases h0 : 0 ≤ c.toInt
  · rw [if_pos h0, if_pos h0]
    exact ⟨fun _ => rfl, fun h => absurd h (by omega)⟩
  rw [if_neg h0, if_neg h0]
  by_cases h1 : am_ops (-c) = 0
  · rw [if_pos h1, if_pos h1]
    exact ⟨fun _ => rfl, fun h => absurd h (by omega)⟩
  rw [if_neg h1, if_neg h1]
  by_cases h2 : am_ops (-c) = 1
  · rw [if_pos h2, if_pos h2]
    match st with
    | [] => exact ⟨fun h => absurd h (by simp), fun _ => by simp⟩
    | x :: r => exact ⟨fun _ => by simp, fun h => absurd h (by simp)⟩
  rw [if_neg h2, if_neg h2]
  by_cases h3 : am_ops (-c) = 2
  · rw [if_pos h3, if_pos h3]
    match st with
    | [] => exact ⟨fun h => absurd h (by simp), fun _ => by simp⟩
    | [x] => exact ⟨fun h => absurd h (by simp), fun _ => by simp⟩
    | x :: y :: r => exact ⟨fun _ => by simp, fun h => absurd h (by simp)⟩
  rw [if_neg h3, if_neg h3]
  match st with
  | [] => exact ⟨fun h => absurd h (by simp), fun _ => by simp⟩
  | [x] => exact ⟨fun h => absurd h (by simp), fun _ => by simp⟩
  | [x, y] => exact ⟨fun h => absurd h (by simp), fun _ => by simp⟩
  | x :: y :: z :: r => exact ⟨fun _ => by simp, fun h => absurd h (by simp)⟩
theorem w_nd3 (c : Int32) : w_nd c ≤ 3 := by
  unfold w_nd
  repeat' split
  all_goals omega
/-- how much longer the stack is by rights -/
def w_nm (cd : Nat → Int32) : Nat → Int
  | 0 => 0
  | k + 1 => w_nm cd k + 1 - (w_nd (cd k) : Int)
theorem w_ev_ge {fa : Int32 → Int64} {cd : Nat → Int32} {st : List Int64} : ∀ k, (st.length : Int) + w_nm cd k ≤ ((w_ev fa cd 0 k st).length : Int) ∧ (w_ev fa cd 0 k st).length ≤ st.length + k
  | 0 => ⟨by show (st.length : Int) + 0 ≤ (st.length : Int); omega, Nat.le_refl _⟩
  | k + 1 => by
    have ih := w_ev_ge (fa := fa) (cd := cd) (st := st) k
    have l := w_ex_le (fa := fa) (c := cd k) (st := w_ev fa cd 0 k st)
    have n3 := w_nd3 (cd k)
    have e : w_ev fa cd 0 (k + 1) st = w_ex fa (cd k) (w_ev fa cd 0 k st) := by
      show w_ex fa (cd (0 + k)) _ = _
      rw [Nat.zero_add]
    rw [e]
    have q : w_nm cd (k + 1) = w_nm cd k + 1 - (w_nd (cd k) : Int) := rfl
    have up : (w_ex fa (cd k) (w_ev fa cd 0 k st)).length ≤ (w_ev fa cd 0 k st).length + 1 := by
      unfold w_ex
      generalize w_ev fa cd 0 k st = s
      repeat' split
      all_goals (try simp only [List.length_cons]); omega
    by_cases z : w_nd (cd k) ≤ (w_ev fa cd 0 k st).length
    · have := l.1 z
      exact ⟨by omega, by omega⟩
    · have := l.2 (by omega)
      exact ⟨by omega, by omega⟩
theorem w_ev_gt {fa : Int32 → Int64} {cd : Nat → Int32} {st : List Int64} {i : Nat} (h : (w_ev fa cd 0 i st).length < w_nd (cd i)) : ∀ k, (st.length : Int) + w_nm cd (i + 1 + k) < ((w_ev fa cd 0 (i + 1 + k) st).length : Int)
  | 0 => by
    have ih := (w_ev_ge (fa := fa) (cd := cd) (st := st) i).1
    have l := (w_ex_le (fa := fa) (c := cd i) (st := w_ev fa cd 0 i st)).2 h
    have e : w_ev fa cd 0 (i + 1) st = w_ex fa (cd i) (w_ev fa cd 0 i st) := by
      show w_ex fa (cd (0 + i)) _ = _
      rw [Nat.zero_add]
    have q : w_nm cd (i + 1) = w_nm cd i + 1 - (w_nd (cd i) : Int) := rfl
    rw [Nat.add_zero, e, q]
    omega
  | k + 1 => by
    have ih := w_ev_gt h k
    have l := w_ex_le (fa := fa) (c := cd (i + 1 + k)) (st := w_ev fa cd 0 (i + 1 + k) st)
    have e : w_ev fa cd 0 (i + 1 + (k + 1)) st = w_ex fa (cd (i + 1 + k)) (w_ev fa cd 0 (i + 1 + k) st) := by
      show w_ex fa (cd (0 + (i + 1 + k))) _ = _
      rw [Nat.zero_add]
      rfl
    have q : w_nm cd (i + 1 + (k + 1)) = w_nm cd (i + 1 + k) + 1 - (w_nd (cd (i + 1 + k)) : Int) := rfl
    rw [e, q]
    by_cases z : w_nd (cd (i + 1 + k)) ≤ (w_ev fa cd 0 (i + 1 + k) st).length
    · have := l.1 z
      omega
    · have := l.2 (by omega)
      omega
theorem w_ev_lg {fa : Int32 → Int64} {cd : Nat → Int32} {st : List Int64} : ∀ k, 3 * k ≤ st.length → ((w_ev fa cd 0 k st).length : Int) = (st.length : Int) + w_nm cd k ∧ st.length ≤ (w_ev fa cd 0 k st).length + 2 * k
  | 0, _ => ⟨by show (st.length : Int) = (st.length : Int) + 0; omega, by show st.length ≤ st.length + 2 * 0; omega⟩
  | k + 1, h => by
    have ih := w_ev_lg (fa := fa) (cd := cd) (st := st) k (by omega)
    have n3 := w_nd3 (cd k)
    have l := (w_ex_le (fa := fa) (c := cd k) (st := w_ev fa cd 0 k st)).1 (by omega)
    have e : w_ev fa cd 0 (k + 1) st = w_ex fa (cd k) (w_ev fa cd 0 k st) := by
      show w_ex fa (cd (0 + k)) _ = _
      rw [Nat.zero_add]
    have q : w_nm cd (k + 1) = w_nm cd k + 1 - (w_nd (cd k) : Int) := rfl
    rw [e, q]
    exact ⟨by omega, by omega⟩
/-- a code that always leaves one value more never takes what isn't there -/
theorem w_nu {fa : Int32 → Int64} {cd : Nat → Int32} {n : Nat} (h : ∀ st, ∃ v, w_ev fa cd 0 n st = v :: st) {i : Nat} (hi : i < n) : w_nd (cd i) ≤ (w_ev fa cd 0 i []).length := by
  refine Nat.le_of_not_lt (fun z => ?_)
  have a := (w_ev_lg (fa := fa) (cd := cd) (st := List.replicate (3 * n) 0) n (by rw [List.length_replicate]; exact Nat.le_refl _)).1
  obtain ⟨v, e⟩ := h (List.replicate (3 * n) 0)
  rw [e, List.length_cons] at a
  have b := w_ev_gt z (n - (i + 1))
  rw [show i + 1 + (n - (i + 1)) = n by omega] at b
  obtain ⟨w, e2⟩ := h []
  rw [e2] at b
  simp only [List.length_cons, List.length_nil] at a b
  omega
theorem w_ex_1 {fa : Int32 → Int64} {c : Int32} {x : Int64} {st : List Int64} (h0 : ¬ 0 ≤ c.toInt) (h : am_ops (-c) = 1) : w_ex fa c (x :: st) = (if c = -33 then (if x = 0 then 1 else 0) else -x) :: st := by
  unfold w_ex
  rw [if_neg h0, if_neg (by rw [h]; decide), if_pos h]
theorem w_ex_2b {fa : Int32 → Int64} {c : Int32} {a b : Int64} {st : List Int64} (h0 : ¬ 0 ≤ c.toInt) (h : am_ops (-c) = 2) : w_ex fa c (b :: a :: st) = am_join (-c) a b :: st := by
  unfold w_ex
  rw [if_neg h0, if_neg (by rw [h]; decide), if_neg (by rw [h]; decide), if_pos h]
theorem w_ex_3b {fa : Int32 → Int64} {c : Int32} {x y z : Int64} {st : List Int64} (h0 : ¬ 0 ≤ c.toInt) (h : am_ops (-c) = 3) : w_ex fa c (z :: y :: x :: st) = (if x ≠ 0 then y else z) :: st := by
  unfold w_ex
  rw [if_neg h0, if_neg (by rw [h]; decide), if_neg (by rw [h]; decide), if_neg (by rw [h]; decide)]
theorem w_ex_0b {fa : Int32 → Int64} {c : Int32} {st : List Int64} (h0 : ¬ 0 ≤ c.toInt) (h : am_ops (-c) = 0) : w_ex fa c st = fa (-c) :: st := by
  unfold w_ex
  rw [if_neg h0, if_pos h]
theorem w_nd_of {c : Int32} (h0 : ¬ 0 ≤ c.toInt) : (w_nd c : Int) = (am_ops (-c)).toInt := by
  have q := am_ops_in (-c)
  unfold w_nd
  rw [if_neg h0]
  split
  · next z => rw [z]; rfl
  · split
    · next z => rw [z]; rfl
    · split
      · next z => rw [z]; rfl
      · next z1 z2 z3 =>
        simp only [i_eq, Int32.reduceToInt, Int32.toInt_zero] at z1 z2 z3
        omega
/-- a value put where the stack ends -/
theorem r_atL.put {f : Nat → Int64} {V : List Int64} {v : Int64} {g : Nat → Int64} (h : r_atL f V) (e : g V.length = v) (eo : ∀ k, k < V.length → g k = f k) : r_atL g (v :: V) := ⟨e, h.cg eo⟩
def TE5_worked : am_T := fun live as M R => match as with
  | [.ref t, .ref l, .ref k] => am_mn live ∧ l = 9 ∧ k = 10 ∧ am_tP live t (fun s c => am_t0 M t ∧ (∀ st, ∃ v, w_ev (am_letter M) (M.1 c) 0 (t_c M t) st = v :: st) ∧ ∀ v M', w_ev (am_letter M) (M.1 c) 0 (t_c M t) [] = [v] → am_st M M' → R (some (.long v)) M')
  | _ => False
def JE5_worked : am_E → List Value → am_M → am_R → am_inv := fun live as M0 _ pc => match as with
  | [.ref t, .ref l, .ref k] => (match pc with
    | 5 => some ([0, 1, 2, 3, 4], fun w L st M => ∃ (p i : Int32) (V : List Int64), L = [(0, .ref t), (1, .ref 9), (2, .ref 10), (3, .int p), (4, .int i)] ∧ st = [] ∧ w = ((51 - i.toInt).toNat, 0) ∧ (0 ≤ i.toInt ∧ i.toInt ≤ (M0.1 t 2).toInt) ∧ p.toInt = (V.length : Int) ∧ V = w_ev (am_letter M0) (M0.1 ((live.2 t 1).getD 0)) 0 i.toNatClampNeg [] ∧ r_atL (M.2 10) V ∧ am_st M0 M)
    | _ => none)
  | _ => none
theorem am_letter_st {M M' : am_M} (h : am_st M M') : am_letter M' = am_letter M := by
  obtain ⟨-, -, h⟩ := h
  funext s
  unfold am_letter
  simp only [h 9 _ (by decide)]
set_option maxRecDepth 100000 in
set_option maxHeartbeats 4000000 in
theorem metX5_workedE : am_Met yX5_worked cX5_worked 7 (some .long) (1) (24) TE5_worked := by
  refine am_met (own := RX5) (by decide +kernel) rfl kX5_worked koX5_worked 200 JE5_worked ?_ ?_
  · intro live as M Ret h
    unfold TE5_worked at h
    split at h
    · next t l k =>
      refine ⟨Nat.le_of_ble_eq_true rfl, ?_⟩
      change am_wp _ _ _ _ [(0, Value.ref t), (1, Value.ref l), (2, Value.ref k)] _ _
      obtain ⟨⟨i1, i2, rfl⟩, rfl, rfl, h⟩ := h
      have hh := am_tP_mp h
      clear h
      obtain ⟨s, c, h2, h6, hb, h1, h3, h7, h4, h8, h9, h5, h10, hT, hV, h⟩ := hh
      have hT0 := hT
      obtain ⟨-, ⟨t1, t2⟩, -⟩ := hT0
      repeat' (first | (with_reducible exact h1) | (with_reducible exact h2) | (with_reducible exact h3) | (with_reducible exact hb) | (with_reducible exact h6) | (with_reducible exact h7) | (refine Exists.intro _ (Exists.intro _ (And.intro h2 (And.intro h6 ?_)))) | (refine Exists.intro _ (And.intro h2 ?_)) | (refine Exists.intro _ (And.intro h6 ?_)) | apply And.intro | exact rfl | intro hx | (refine Exists.intro _ (And.intro rfl ?_)) | ((with_reducible change _ = true); simp only [h1, h2, h3, hb, h6, h7, Bool.true_and]; rfl))
      all_goals try first | (with_reducible change am_tI _ _) | (change Ret _ _) | (change Ret _ _ _) | (change Exists _)
      all_goals try dsimp only at *
      all_goals try exact absurd ‹(1000 : Int64) = 0› (by decide)
      exact ⟨_, _, _, [], rfl, rfl, rfl, ⟨by decide, t1⟩, rfl, rfl, trivial, am_st.rf⟩
    · exact h.elim
  · intro live as M0 Ret h k pc I hI L st M hi
    unfold TE5_worked at h
    split at h
    · next t l k =>
      obtain ⟨⟨i1, i2, rfl⟩, rfl, rfl, h⟩ := h
      have hh := am_tP_mp h
      clear h
      obtain ⟨s, c, h2, h6, hb, h1, h3, h7, h4, h8, h9, h5, h10, hT, hV, h⟩ := hh
      have hT0 := hT
      obtain ⟨-, ⟨t1, t2⟩, -⟩ := hT0
      change (match pc with | 5 => _ | _ => none) = _ at hI
      split at hI
      · cases hI
        obtain ⟨p, i, V, rfl, rfl, rfl, ⟨e0, e1⟩, ep, eV, er, es⟩ := hi
        rw [h6] at eV
        have eV : V = w_ev (am_letter M0) (M0.1 c) 0 i.toNatClampNeg [] := eV
        have hmn : am_mn (am_lv i1 i2, am_q i1 i2) := ⟨i1, i2, rfl⟩
        have l10 : am_len 10 = 50 := rfl
        have hn : (Int32.ofNat (am_len 10)).toInt = 50 := by decide +kernel
        have es1 : M.1 = M0.1 := by obtain ⟨-, q, -⟩ := es; exact q
        have et : M.1 t 2 = M0.1 t 2 := by rw [es1]
        have ci := i_clamp e0
        have ct : (t_c M0 t : Int) = (M0.1 t 2).toInt := i_clamp t1
        have lV := (w_ev_ge (fa := am_letter M0) (cd := M0.1 c) (st := []) i.toNatClampNeg).2
        rw [← eV] at lV
        simp only [List.length_nil, Nat.zero_add] at lV
        by_cases hz : M.1 t 2 ≤ i
        · have hz2 := hz
          rw [et, i_le] at hz2
          have ei : i.toNatClampNeg = t_c M0 t := by omega
          obtain ⟨v, ev⟩ := hV []
          rw [ei, ev] at eV
          subst eV
          have p1 : p.toInt = 1 := ep
          have q1 : ¬ p ≤ 0 := fun q => by simp only [i_le, Int32.reduceToInt, Int32.toInt_zero] at q; omega
          have q2 : ¬ Int32.ofNat (am_len 10) ≤ 0 := fun q => by simp only [i_le, hn, Int32.toInt_zero] at q; omega
          have e00 : M.2 10 (0 : Int32).toNatClampNeg = v := er.1
          have hh := h v M ev es
          rw [← e00] at hh
          repeat' (first | (with_reducible exact h1) | (with_reducible exact h2) | (with_reducible exact h3) | (with_reducible exact hb) | (with_reducible exact h6) | (with_reducible exact h7) | (refine Exists.intro _ (Exists.intro _ (And.intro h2 (And.intro h6 ?_)))) | (refine Exists.intro _ (And.intro h2 ?_)) | (refine Exists.intro _ (And.intro h6 ?_)) | apply And.intro | exact rfl | (intro hx; with_reducible exact absurd hx q1) | (intro hx; with_reducible exact absurd hx q2) | (intro hx; with_reducible exact absurd hz hx) | (intro hx; exact absurd hx (by decide)) | (intro hx; exact absurd (by decide) hx) | decide | intro hx | (refine Exists.intro _ (And.intro rfl ?_)) | ((with_reducible change _ = true); simp only [h1, h2, h3, hb, h6, h7, Bool.true_and]; rfl))
          all_goals try first | (with_reducible change am_tI _ _) | (change Ret _ _) | (change Ret _ _ _) | (change Exists _)
          all_goals try dsimp only at *
          all_goals try exact absurd ‹(1000 : Int64) = 0› (by decide)
          all_goals first | exact hh | decide | (rw [l10]; decide)
        · have hz2 := hz
          rw [et, i_le] at hz2
          have hi : i.toNatClampNeg < t_c M0 t := by omega
          have nu := w_nu hV hi
          rw [← eV] at nu
          have q50 : ¬ (50 : Int32) ≤ i := fun q => by simp only [i_le, Int32.reduceToInt] at q; omega
          have x1 := e0
          have x2 : i.toInt < (am_len c : Int) := by rw [h8]; omega
          have hin := i_inc (x := i) (by omega) (by omega)
          have ci1 := i_clamp (x := i + 1) (by omega)
          have nx : w_ev (am_letter M0) (M0.1 c) 0 (i + 1).toNatClampNeg [] = w_ex (am_letter M0) (M0.1 c i.toNatClampNeg) V := by
            rw [show (i + 1).toNatClampNeg = i.toNatClampNeg + 1 by omega, eV]
            show w_ex _ (M0.1 c (0 + i.toNatClampNeg)) _ = _
            rw [Nat.zero_add]
          have ec : M.1 c i.toNatClampNeg = M0.1 c i.toNatClampNeg := by rw [es1]
          rw [← ec] at nx nu
          by_cases z0 : M.1 c i.toNatClampNeg < 0
          · have n0 : ¬ 0 ≤ (M.1 c i.toNatClampNeg).toInt := fun q => by simp only [i_lt, Int32.toInt_zero] at z0; omega
            have en := w_nd_of n0
            have o3 := am_ops_in (-M.1 c i.toNatClampNeg)
            have u1 : ¬ p < am_ops (-M.1 c i.toNatClampNeg) := fun q => by simp only [i_lt] at q; omega
            have su := i_sub (x := p) (y := am_ops (-M.1 c i.toNatClampNeg)) (by omega) (by omega)
            have u2 : p - am_ops (-M.1 c i.toNatClampNeg) < Int32.ofNat (am_len 10) := by rw [i_lt, hn, su]; omega
            have v1 : 0 ≤ (p - am_ops (-M.1 c i.toNatClampNeg)).toInt := by omega
            have v2 : (p - am_ops (-M.1 c i.toNatClampNeg)).toInt < (am_len 10 : Int) := by rw [l10]; omega
            have s1 := i_inc (x := p - am_ops (-M.1 c i.toNatClampNeg)) (by omega) (by omega)
            have cp := i_clamp v1
            have hx0 : am_ops (-M.1 c i.toNatClampNeg) = 0 ∨ am_ops (-M.1 c i.toNatClampNeg) = 1 ∨ am_ops (-M.1 c i.toNatClampNeg) = 2 ∨ am_ops (-M.1 c i.toNatClampNeg) = 3 := by
              simp only [i_eq, Int32.reduceToInt, Int32.toInt_zero]
              omega
            rcases hx0 with k0 | k0 | k0 | k0
            · have ki : (am_ops (-M.1 c i.toNatClampNeg)).toInt = 0 := by rw [k0]; rfl
              rw [w_ex_0b n0 k0] at nx
              have na : r_atL ((am_wJ M 10 (p - am_ops (-M.1 c i.toNatClampNeg)).toNatClampNeg (am_letter M (-M.1 c i.toNatClampNeg))).2 10) (am_letter M0 (-M.1 c i.toNatClampNeg) :: V) := er.put (by rw [am_wJ_1, if_pos ⟨rfl, by omega⟩, am_letter_st es]) (fun k hk => by rw [am_wJ_1, if_neg (fun q => by omega)])
              repeat' (first | (with_reducible exact hmn) | (with_reducible exact x1) | (with_reducible exact x2) | (with_reducible exact v1) | (with_reducible exact v2) | (with_reducible exact h1) | (with_reducible exact h2) | (with_reducible exact h3) | (with_reducible exact hb) | (with_reducible exact h6) | (with_reducible exact h7) | (refine Exists.intro _ (Exists.intro _ (And.intro h2 (And.intro h6 ?_)))) | (refine Exists.intro _ (And.intro h2 ?_)) | (refine Exists.intro _ (And.intro h6 ?_)) | apply And.intro | exact rfl | (intro hx; with_reducible exact absurd hx hz) | (intro hx; with_reducible exact absurd hx q50) | (intro hx; with_reducible exact absurd hx u1) | (intro hx; with_reducible exact absurd z0 hx) | (intro hx; with_reducible exact absurd u2 hx) | (intro hx; with_reducible exact absurd k0 hx) | (intro hx; exact absurd hx (by decide)) | (intro hx; exact absurd (by decide) hx) | decide | intro hx | (refine Exists.intro _ (And.intro rfl ?_)) | ((with_reducible change _ = true); simp only [h1, h2, h3, hb, h6, h7, Bool.true_and]; rfl))
              all_goals try first | (with_reducible change am_tI _ _) | (change Ret _ _) | (change Ret _ _ _) | (change Exists _)
              all_goals try dsimp only at *
              all_goals try exact absurd ‹(1000 : Int64) = 0› (by decide)
              all_goals
                rw [h6]
                exact ⟨_, am_lt_l (by omega), _, _, _, rfl, rfl, rfl, ⟨by omega, by omega⟩, by rw [List.length_cons]; omega, nx.symm, na, es.w⟩
            · have ki : (am_ops (-M.1 c i.toNatClampNeg)).toInt = 1 := by rw [k0]; rfl
              have k1 : ¬ am_ops (-M.1 c i.toNatClampNeg) = 0 := by rw [k0]; decide
              obtain ⟨a, r, rfl⟩ : ∃ a r, V = a :: r := by
                cases V with
                | nil => simp only [List.length_nil] at nu; omega
                | cons a r => exact ⟨a, r, rfl⟩
              simp only [List.length_cons] at ep lV nu
              rw [w_ex_1 n0 k0] at nx
              have ea : M.2 10 (p - am_ops (-M.1 c i.toNatClampNeg)).toNatClampNeg = a := by
                rw [show (p - am_ops (-M.1 c i.toNatClampNeg)).toNatClampNeg = r.length by omega]
                exact er.1
              have er2 : r_atL (M.2 10) r := er.2
              have na : ∀ v, r_atL ((am_wJ M 10 (p - am_ops (-M.1 c i.toNatClampNeg)).toNatClampNeg v).2 10) (v :: r) := fun v => er2.put (by rw [am_wJ_1, if_pos ⟨rfl, by omega⟩]) (fun k hk => by rw [am_wJ_1, if_neg (fun q => by omega)])
              by_cases z3 : M.1 c i.toNatClampNeg = -33
              · rw [if_pos z3] at nx
                by_cases z4 : lg_cmp (M.2 10 (p - am_ops (-M.1 c i.toNatClampNeg)).toNatClampNeg) 0 = 0
                · have z5 := z4
                  rw [lc_eq, ea] at z5
                  rw [if_pos z5] at nx
                  have na2 := na ((1 : Int32).toInt64)
                  repeat' (first | (with_reducible exact hmn) | (with_reducible exact x1) | (with_reducible exact x2) | (with_reducible exact v1) | (with_reducible exact v2) | (with_reducible exact h1) | (with_reducible exact h2) | (with_reducible exact h3) | (with_reducible exact hb) | (with_reducible exact h6) | (with_reducible exact h7) | (refine Exists.intro _ (Exists.intro _ (And.intro h2 (And.intro h6 ?_)))) | (refine Exists.intro _ (And.intro h2 ?_)) | (refine Exists.intro _ (And.intro h6 ?_)) | apply And.intro | exact rfl | (intro hx; with_reducible exact absurd hx hz) | (intro hx; with_reducible exact absurd hx q50) | (intro hx; with_reducible exact absurd hx u1) | (intro hx; with_reducible exact absurd hx k1) | (intro hx; with_reducible exact absurd z0 hx) | (intro hx; with_reducible exact absurd u2 hx) | (intro hx; with_reducible exact absurd k0 hx) | (intro hx; with_reducible exact absurd z3 hx) | (intro hx; with_reducible exact absurd z4 hx) | (intro hx; exact absurd hx (by decide)) | (intro hx; exact absurd (by decide) hx) | decide | intro hx | (refine Exists.intro _ (And.intro rfl ?_)) | ((with_reducible change _ = true); simp only [h1, h2, h3, hb, h6, h7, Bool.true_and]; rfl))
                  all_goals try first | (with_reducible change am_tI _ _) | (change Ret _ _) | (change Ret _ _ _) | (change Exists _)
                  all_goals try dsimp only at *
                  all_goals try exact absurd ‹(1000 : Int64) = 0› (by decide)
                  all_goals
                    rw [h6]
                    exact ⟨_, am_lt_l (by omega), _, _, _, rfl, rfl, rfl, ⟨by omega, by omega⟩, by rw [List.length_cons]; omega, nx.symm, na2, es.w⟩
                · have z5 := z4
                  rw [lc_eq, ea] at z5
                  rw [if_neg z5] at nx
                  have na2 := na ((0 : Int32).toInt64)
                  repeat' (first | (with_reducible exact hmn) | (with_reducible exact x1) | (with_reducible exact x2) | (with_reducible exact v1) | (with_reducible exact v2) | (with_reducible exact h1) | (with_reducible exact h2) | (with_reducible exact h3) | (with_reducible exact hb) | (with_reducible exact h6) | (with_reducible exact h7) | (refine Exists.intro _ (Exists.intro _ (And.intro h2 (And.intro h6 ?_)))) | (refine Exists.intro _ (And.intro h2 ?_)) | (refine Exists.intro _ (And.intro h6 ?_)) | apply And.intro | exact rfl | (intro hx; with_reducible exact absurd hx hz) | (intro hx; with_reducible exact absurd hx q50) | (intro hx; with_reducible exact absurd hx u1) | (intro hx; with_reducible exact absurd hx k1) | (intro hx; with_reducible exact absurd hx z4) | (intro hx; with_reducible exact absurd z0 hx) | (intro hx; with_reducible exact absurd u2 hx) | (intro hx; with_reducible exact absurd k0 hx) | (intro hx; with_reducible exact absurd z3 hx) | (intro hx; exact absurd hx (by decide)) | (intro hx; exact absurd (by decide) hx) | decide | intro hx | (refine Exists.intro _ (And.intro rfl ?_)) | ((with_reducible change _ = true); simp only [h1, h2, h3, hb, h6, h7, Bool.true_and]; rfl))
                  all_goals try first | (with_reducible change am_tI _ _) | (change Ret _ _) | (change Ret _ _ _) | (change Exists _)
                  all_goals try dsimp only at *
                  all_goals try exact absurd ‹(1000 : Int64) = 0› (by decide)
                  all_goals
                    rw [h6]
                    exact ⟨_, am_lt_l (by omega), _, _, _, rfl, rfl, rfl, ⟨by omega, by omega⟩, by rw [List.length_cons]; omega, nx.symm, na2, es.w⟩
              · rw [if_neg z3, ← ea] at nx
                have na2 := na (-(M.2 10 (p - am_ops (-M.1 c i.toNatClampNeg)).toNatClampNeg))
                repeat' (first | (with_reducible exact hmn) | (with_reducible exact x1) | (with_reducible exact x2) | (with_reducible exact v1) | (with_reducible exact v2) | (with_reducible exact h1) | (with_reducible exact h2) | (with_reducible exact h3) | (with_reducible exact hb) | (with_reducible exact h6) | (with_reducible exact h7) | (refine Exists.intro _ (Exists.intro _ (And.intro h2 (And.intro h6 ?_)))) | (refine Exists.intro _ (And.intro h2 ?_)) | (refine Exists.intro _ (And.intro h6 ?_)) | apply And.intro | exact rfl | (intro hx; with_reducible exact absurd hx hz) | (intro hx; with_reducible exact absurd hx q50) | (intro hx; with_reducible exact absurd hx u1) | (intro hx; with_reducible exact absurd hx k1) | (intro hx; with_reducible exact absurd hx z3) | (intro hx; with_reducible exact absurd z0 hx) | (intro hx; with_reducible exact absurd u2 hx) | (intro hx; with_reducible exact absurd k0 hx) | (intro hx; exact absurd hx (by decide)) | (intro hx; exact absurd (by decide) hx) | decide | intro hx | (refine Exists.intro _ (And.intro rfl ?_)) | ((with_reducible change _ = true); simp only [h1, h2, h3, hb, h6, h7, Bool.true_and]; rfl))
                all_goals try first | (with_reducible change am_tI _ _) | (change Ret _ _) | (change Ret _ _ _) | (change Exists _)
                all_goals try dsimp only at *
                all_goals try exact absurd ‹(1000 : Int64) = 0› (by decide)
                all_goals
                  rw [h6]
                  exact ⟨_, am_lt_l (by omega), _, _, _, rfl, rfl, rfl, ⟨by omega, by omega⟩, by rw [List.length_cons]; omega, nx.symm, na2, es.w⟩
            · have ki : (am_ops (-M.1 c i.toNatClampNeg)).toInt = 2 := by rw [k0]; rfl
              have k1 : ¬ am_ops (-M.1 c i.toNatClampNeg) = 0 := by rw [k0]; decide
              have k2 : ¬ am_ops (-M.1 c i.toNatClampNeg) = 1 := by rw [k0]; decide
              obtain ⟨b, a, r, rfl⟩ : ∃ b a r, V = b :: a :: r := by
                match V, nu with
                | [], nu => simp only [List.length_nil] at nu; omega
                | [x], nu => simp only [List.length_cons, List.length_nil] at nu; omega
                | b :: a :: r, _ => exact ⟨b, a, r, rfl⟩
              simp only [List.length_cons] at ep lV nu
              rw [w_ex_2b n0 k0] at nx
              have w1 : 0 ≤ (p - am_ops (-M.1 c i.toNatClampNeg) + 1).toInt := by omega
              have w2 : (p - am_ops (-M.1 c i.toNatClampNeg) + 1).toInt < (am_len 10 : Int) := by rw [l10]; omega
              have cp1 := i_clamp w1
              have ea : M.2 10 (p - am_ops (-M.1 c i.toNatClampNeg)).toNatClampNeg = a := by
                rw [show (p - am_ops (-M.1 c i.toNatClampNeg)).toNatClampNeg = r.length by omega]
                exact er.2.1
              have eb : M.2 10 (p - am_ops (-M.1 c i.toNatClampNeg) + 1).toNatClampNeg = b := by
                rw [show (p - am_ops (-M.1 c i.toNatClampNeg) + 1).toNatClampNeg = r.length + 1 by omega]
                exact er.1
              have er2 : r_atL (M.2 10) r := er.2.2
              have na : ∀ v, r_atL ((am_wJ M 10 (p - am_ops (-M.1 c i.toNatClampNeg)).toNatClampNeg v).2 10) (v :: r) := fun v => er2.put (by rw [am_wJ_1, if_pos ⟨rfl, by omega⟩]) (fun k hk => by rw [am_wJ_1, if_neg (fun q => by omega)])
              rw [← ea, ← eb] at nx
              have na2 := na (am_join (-M.1 c i.toNatClampNeg) (M.2 10 (p - am_ops (-M.1 c i.toNatClampNeg)).toNatClampNeg) (M.2 10 (p - am_ops (-M.1 c i.toNatClampNeg) + 1).toNatClampNeg))
              repeat' (first | (with_reducible exact hmn) | (with_reducible exact x1) | (with_reducible exact x2) | (with_reducible exact v1) | (with_reducible exact v2) | (with_reducible exact w1) | (with_reducible exact w2) | (with_reducible exact h1) | (with_reducible exact h2) | (with_reducible exact h3) | (with_reducible exact hb) | (with_reducible exact h6) | (with_reducible exact h7) | (refine Exists.intro _ (Exists.intro _ (And.intro h2 (And.intro h6 ?_)))) | (refine Exists.intro _ (And.intro h2 ?_)) | (refine Exists.intro _ (And.intro h6 ?_)) | apply And.intro | exact rfl | (intro hx; with_reducible exact absurd hx hz) | (intro hx; with_reducible exact absurd hx q50) | (intro hx; with_reducible exact absurd hx u1) | (intro hx; with_reducible exact absurd hx k1) | (intro hx; with_reducible exact absurd hx k2) | (intro hx; with_reducible exact absurd z0 hx) | (intro hx; with_reducible exact absurd u2 hx) | (intro hx; with_reducible exact absurd k0 hx) | (intro hx; exact absurd hx (by decide)) | (intro hx; exact absurd (by decide) hx) | decide | intro hx | (refine Exists.intro _ (And.intro rfl ?_)) | ((with_reducible change _ = true); simp only [h1, h2, h3, hb, h6, h7, Bool.true_and]; rfl))
              all_goals try first | (with_reducible change am_tI _ _) | (change Ret _ _) | (change Ret _ _ _) | (change Exists _)
              all_goals try dsimp only at *
              all_goals try exact absurd ‹(1000 : Int64) = 0› (by decide)
              all_goals
                rw [h6]
                exact ⟨_, am_lt_l (by omega), _, _, _, rfl, rfl, rfl, ⟨by omega, by omega⟩, by rw [List.length_cons]; omega, nx.symm, na2, es.w⟩
            · have ki : (am_ops (-M.1 c i.toNatClampNeg)).toInt = 3 := by rw [k0]; rfl
              have k1 : ¬ am_ops (-M.1 c i.toNatClampNeg) = 0 := by rw [k0]; decide
              have k2 : ¬ am_ops (-M.1 c i.toNatClampNeg) = 1 := by rw [k0]; decide
              have k3 : ¬ am_ops (-M.1 c i.toNatClampNeg) = 2 := by rw [k0]; decide
              obtain ⟨z, y, x, r, rfl⟩ : ∃ z y x r, V = z :: y :: x :: r := by
                match V, nu with
                | [], nu => simp only [List.length_nil] at nu; omega
                | [x], nu => simp only [List.length_cons, List.length_nil] at nu; omega
                | [x, y], nu => simp only [List.length_cons, List.length_nil] at nu; omega
                | z :: y :: x :: r, _ => exact ⟨z, y, x, r, rfl⟩
              simp only [List.length_cons] at ep lV nu
              rw [w_ex_3b n0 k0] at nx
              have s2 := i_add (x := p - am_ops (-M.1 c i.toNatClampNeg)) (y := 2) (by simp only [Int32.reduceToInt]; omega) (by simp only [Int32.reduceToInt]; omega)
              simp only [Int32.reduceToInt] at s2
              have w1 : 0 ≤ (p - am_ops (-M.1 c i.toNatClampNeg) + 1).toInt := by omega
              have w2 : (p - am_ops (-M.1 c i.toNatClampNeg) + 1).toInt < (am_len 10 : Int) := by rw [l10]; omega
              have w3 : 0 ≤ (p - am_ops (-M.1 c i.toNatClampNeg) + 2).toInt := by omega
              have w4 : (p - am_ops (-M.1 c i.toNatClampNeg) + 2).toInt < (am_len 10 : Int) := by rw [l10]; omega
              have cp1 := i_clamp w1
              have cp2 := i_clamp w3
              have ea : M.2 10 (p - am_ops (-M.1 c i.toNatClampNeg)).toNatClampNeg = x := by
                rw [show (p - am_ops (-M.1 c i.toNatClampNeg)).toNatClampNeg = r.length by omega]
                exact er.2.2.1
              have eb : M.2 10 (p - am_ops (-M.1 c i.toNatClampNeg) + 1).toNatClampNeg = y := by
                rw [show (p - am_ops (-M.1 c i.toNatClampNeg) + 1).toNatClampNeg = r.length + 1 by omega]
                exact er.2.1
              have ez : M.2 10 (p - am_ops (-M.1 c i.toNatClampNeg) + 2).toNatClampNeg = z := by
                rw [show (p - am_ops (-M.1 c i.toNatClampNeg) + 2).toNatClampNeg = r.length + 2 by omega]
                exact er.1
              have er2 : r_atL (M.2 10) r := er.2.2.2
              have na : ∀ v, r_atL ((am_wJ M 10 (p - am_ops (-M.1 c i.toNatClampNeg)).toNatClampNeg v).2 10) (v :: r) := fun v => er2.put (by rw [am_wJ_1, if_pos ⟨rfl, by omega⟩]) (fun k hk => by rw [am_wJ_1, if_neg (fun q => by omega)])
              by_cases z4 : lg_cmp (M.2 10 (p - am_ops (-M.1 c i.toNatClampNeg)).toNatClampNeg) 0 = 0
              · have z5 := z4
                rw [lc_eq, ea] at z5
                rw [if_neg (fun q => q z5), ← ez] at nx
                have na2 := na (M.2 10 (p - am_ops (-M.1 c i.toNatClampNeg) + 2).toNatClampNeg)
                repeat' (first | (with_reducible exact hmn) | (with_reducible exact x1) | (with_reducible exact x2) | (with_reducible exact v1) | (with_reducible exact v2) | (with_reducible exact w1) | (with_reducible exact w2) | (with_reducible exact w3) | (with_reducible exact w4) | (with_reducible exact h1) | (with_reducible exact h2) | (with_reducible exact h3) | (with_reducible exact hb) | (with_reducible exact h6) | (with_reducible exact h7) | (refine Exists.intro _ (Exists.intro _ (And.intro h2 (And.intro h6 ?_)))) | (refine Exists.intro _ (And.intro h2 ?_)) | (refine Exists.intro _ (And.intro h6 ?_)) | apply And.intro | exact rfl | (intro hx; with_reducible exact absurd hx hz) | (intro hx; with_reducible exact absurd hx q50) | (intro hx; with_reducible exact absurd hx u1) | (intro hx; with_reducible exact absurd hx k1) | (intro hx; with_reducible exact absurd hx k2) | (intro hx; with_reducible exact absurd hx k3) | (intro hx; with_reducible exact absurd z0 hx) | (intro hx; with_reducible exact absurd u2 hx) | (intro hx; with_reducible exact absurd z4 hx) | (intro hx; exact absurd hx (by decide)) | (intro hx; exact absurd (by decide) hx) | decide | intro hx | (refine Exists.intro _ (And.intro rfl ?_)) | ((with_reducible change _ = true); simp only [h1, h2, h3, hb, h6, h7, Bool.true_and]; rfl))
                all_goals try first | (with_reducible change am_tI _ _) | (change Ret _ _) | (change Ret _ _ _) | (change Exists _)
                all_goals try dsimp only at *
                all_goals try exact absurd ‹(1000 : Int64) = 0› (by decide)
                all_goals
                  rw [h6]
                  exact ⟨_, am_lt_l (by omega), _, _, _, rfl, rfl, rfl, ⟨by omega, by omega⟩, by rw [List.length_cons]; omega, nx.symm, na2, es.w⟩
              · have z5 := z4
                rw [lc_eq, ea] at z5
                rw [if_pos z5, ← eb] at nx
                have na2 := na (M.2 10 (p - am_ops (-M.1 c i.toNatClampNeg) + 1).toNatClampNeg)
                repeat' (first | (with_reducible exact hmn) | (with_reducible exact x1) | (with_reducible exact x2) | (with_reducible exact v1) | (with_reducible exact v2) | (with_reducible exact w1) | (with_reducible exact w2) | (with_reducible exact w3) | (with_reducible exact w4) | (with_reducible exact h1) | (with_reducible exact h2) | (with_reducible exact h3) | (with_reducible exact hb) | (with_reducible exact h6) | (with_reducible exact h7) | (refine Exists.intro _ (Exists.intro _ (And.intro h2 (And.intro h6 ?_)))) | (refine Exists.intro _ (And.intro h2 ?_)) | (refine Exists.intro _ (And.intro h6 ?_)) | apply And.intro | exact rfl | (intro hx; with_reducible exact absurd hx hz) | (intro hx; with_reducible exact absurd hx q50) | (intro hx; with_reducible exact absurd hx u1) | (intro hx; with_reducible exact absurd hx k1) | (intro hx; with_reducible exact absurd hx k2) | (intro hx; with_reducible exact absurd hx k3) | (intro hx; with_reducible exact absurd hx z4) | (intro hx; with_reducible exact absurd z0 hx) | (intro hx; with_reducible exact absurd u2 hx) | (intro hx; exact absurd hx (by decide)) | (intro hx; exact absurd (by decide) hx) | decide | intro hx | (refine Exists.intro _ (And.intro rfl ?_)) | ((with_reducible change _ = true); simp only [h1, h2, h3, hb, h6, h7, Bool.true_and]; rfl))
                all_goals try first | (with_reducible change am_tI _ _) | (change Ret _ _) | (change Ret _ _ _) | (change Exists _)
                all_goals try dsimp only at *
                all_goals try exact absurd ‹(1000 : Int64) = 0› (by decide)
                all_goals
                  rw [h6]
                  exact ⟨_, am_lt_l (by omega), _, _, _, rfl, rfl, rfl, ⟨by omega, by omega⟩, by rw [List.length_cons]; omega, nx.symm, na2, es.w⟩
          · have n0 : 0 ≤ (M.1 c i.toNatClampNeg).toInt := by simp only [i_lt, Int32.toInt_zero] at z0; omega
            have ex : w_ex (am_letter M0) (M.1 c i.toNatClampNeg) V = (M.1 c i.toNatClampNeg).toInt64 :: V := by
              rw [w_ex_n n0, ← Int32.toInt_toInt64 (M.1 c i.toNatClampNeg), Int64.ofInt_toInt]
            rw [ex] at nx
            have su : p - 0 = p := Int32.sub_zero p
            have u1 : ¬ p < 0 := fun q => by simp only [i_lt, Int32.toInt_zero] at q; omega
            have u2 : p - 0 < Int32.ofNat (am_len 10) := by rw [i_lt, hn, su]; omega
            have v1 : 0 ≤ (p - 0).toInt := by rw [su]; omega
            have v2 : (p - 0).toInt < (am_len 10 : Int) := by rw [l10, su]; omega
            have s1 := i_inc (x := p - 0) (by rw [su]; omega) (by rw [su]; omega)
            rw [su] at s1
            have s2 : (p - 0 + 1).toInt = p.toInt + 1 := by rw [su]; exact s1
            have cp := i_clamp v1
            have cp2 : (p - 0).toNatClampNeg = V.length := by rw [su] at cp ⊢; omega
            have na : r_atL ((am_wJ M 10 (p - 0).toNatClampNeg (M.1 c i.toNatClampNeg).toInt64).2 10) ((M.1 c i.toNatClampNeg).toInt64 :: V) := er.put (by rw [am_wJ_1, if_pos ⟨rfl, by omega⟩]) (fun k hk => by rw [am_wJ_1, if_neg (fun q => by omega)])
            repeat' (first | (with_reducible exact hmn) | (with_reducible exact x1) | (with_reducible exact x2) | (with_reducible exact v1) | (with_reducible exact v2) | (with_reducible exact h1) | (with_reducible exact h2) | (with_reducible exact h3) | (with_reducible exact hb) | (with_reducible exact h6) | (with_reducible exact h7) | (refine Exists.intro _ (Exists.intro _ (And.intro h2 (And.intro h6 ?_)))) | (refine Exists.intro _ (And.intro h2 ?_)) | (refine Exists.intro _ (And.intro h6 ?_)) | apply And.intro | exact rfl | (intro hx; with_reducible exact absurd hx hz) | (intro hx; with_reducible exact absurd hx q50) | (intro hx; with_reducible exact absurd hx z0) | (intro hx; with_reducible exact absurd hx u1) | (intro hx; with_reducible exact absurd u2 hx) | (intro hx; exact absurd hx (by decide)) | (intro hx; exact absurd (by decide) hx) | decide | intro hx | (refine Exists.intro _ (And.intro rfl ?_)) | ((with_reducible change _ = true); simp only [h1, h2, h3, hb, h6, h7, Bool.true_and]; rfl))
            all_goals try first | (with_reducible change am_tI _ _) | (change Ret _ _) | (change Ret _ _ _) | (change Exists _)
            all_goals try dsimp only at *
            all_goals try exact absurd ‹(1000 : Int64) = 0› (by decide)
            all_goals
              rw [h6]
              exact ⟨_, am_lt_l (by omega), _, _, _, rfl, rfl, rfl, ⟨by omega, by omega⟩, by rw [List.length_cons]; omega, nx.symm, na, es.w⟩
      · cases hI
    · exact h.elim
