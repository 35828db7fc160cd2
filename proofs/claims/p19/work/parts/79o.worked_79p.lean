-- part 79o.worked.lean.txt
section
/-! texts: what a text says, worked with a stack: the class -/
/-- how many values a code takes -/
def w_nd (c : Int32) : Nat := if 0 ≤ c.toInt then 0 else if am_ops (-c) = 0 then 0 else if am_ops (-c) = 1 then 1 else if am_ops (-c) = 2 then 2 else 3
theorem w_ex_le {fa : Int32 → Int64} {c : Int32} {st : List Int64} : (w_nd c ≤ st.length → (w_ex fa c st).length + w_nd c = st.length + 1) ∧ (st.length < w_nd c → st.length + 1 < (w_ex fa c st).length + w_nd c) := by
  unfold w_nd w_ex
  by_cases h0 : 0 ≤ c.toInt
  · rw [if_pos h0, if_pos h0]
    exact ⟨fun _ => rfl, fun h => absurd h (by omega)⟩
  rw [if_neg h0, if_neg h0]
  by_cases h1 : am_ops (-c) = 0
  · rw [if_pos h1, if_pos h1]
    exact ⟨fun _ => rfl, fun h => absurd h (by omega)⟩
  rw [if_neg h1, if_neg h1]
  by_cases h2 : am_ops (-c) = 1
  · rw [if_pos h2, if_pos h2]
    match st with
    | [] => exact ⟨fun h => absurd h (by simp), fun _ => by simp⟩
    | x :: r => exact ⟨fun _ => by simp, fun h => absurd h (by simp)⟩
  rw [if_neg h2, if_neg h2]
  by_cases h3 : am_ops (-c) = 2
  · rw [if_pos h3, if_pos h3]
    match st with
    | [] => exact ⟨fun h => absurd h (by simp), fun _ => by simp⟩
    | [x] => exact ⟨fun h => absurd h (by simp), fun _ => by simp⟩
    | x :: y :: r => exact ⟨fun _ => by simp, fun h => absurd h (by simp)⟩
  rw [if_neg h3, if_neg h3]
  match st with
  | [] => exact ⟨fun h => absurd h (by simp), fun _ => by simp⟩
  | [x] => exact ⟨fun h => absurd h (by simp), fun _ => by simp⟩
  | [x, y] => exact ⟨fun h => absurd h (by simp), fun _ => by simp⟩
  | x :: y :: z :: r => exact ⟨fun _ => by simp, fun h => absurd h (by simp)⟩
theorem w_nd3 (c : Int32) : w_nd c ≤ 3 := by
  unfold w_nd
  repeat' split
  all_goals omega
/-- how much longer the stack is by rights -/
def w_nm (cd : Nat → Int32) : Nat → Int
  | 0 => 0
  | k + 1 => w_nm cd k + 1 - (w_nd (cd k) : Int)
theorem w_ev_ge {fa : Int32 → Int64} {cd : Nat → Int32} {st : List Int64} : ∀ k, (st.length : Int) + w_nm cd k ≤ ((w_ev fa cd 0 k st).length : Int) ∧ (w_ev fa cd 0 k st).length ≤ st.length + k
  | 0 => ⟨by show (st.length : Int) + 0 ≤ (st.length : Int); omega, Nat.le_refl _⟩
  | k + 1 => by
    have ih := w_ev_ge (fa := fa) (cd := cd) (st := st) k
    have l := w_ex_le (fa := fa) (c := cd k) (st := w_ev fa cd 0 k st)
    have n3 := w_nd3 (cd k)
    have e : w_ev fa cd 0 (k + 1) st = w_ex fa (cd k) (w_ev fa cd 0 k st) := by
      show w_ex fa (cd (0 + k)) _ = _
      rw [Nat.zero_add]
    rw [e]
    have q : w_nm cd (k + 1) = w_nm cd k + 1 - (w_nd (cd k) : Int) := rfl
    have up : (w_ex fa (cd k) (w_ev fa cd 0 k st)).length ≤ (w_ev fa cd 0 k st).length + 1 := by
      unfold w_ex
      generalize w_ev fa cd 0 k st = s
      repeat' split
      all_goals (try simp only [List.length_cons]); omega
    by_cases z : w_nd (cd k) ≤ (w_ev fa cd 0 k st).length
    · have := l.1 z
      exact ⟨by omega, by omega⟩
    · have := l.2 (by omega)
      exact ⟨by omega, by omega⟩
theorem w_ev_gt {fa : Int32 → Int64} {cd : Nat → Int32} {st : List Int64} {i : Nat} (h : (w_ev fa cd 0 i st).length < w_nd (cd i)) : ∀ k, (st.length : Int) + w_nm cd (i + 1 + k) < ((w_ev fa cd 0 (i + 1 + k) st).length : Int)
  | 0 => by
    have ih := (w_ev_ge (fa := fa) (cd := cd) (st := st) i).1
    have l := (w_ex_le (fa := fa) (c := cd i) (st := w_ev fa cd 0 i st)).2 h
    have e : w_ev fa cd 0 (i + 1) st = w_ex fa (cd i) (w_ev fa cd 0 i st) := by
      show w_ex fa (cd (0 + i)) _ = _
      rw [Nat.zero_add]
    have q : w_nm cd (i + 1) = w_nm cd i + 1 - (w_nd (cd i) : Int) := rfl
    rw [Nat.add_zero, e, q]
    omega
  | k + 1 => by
    have ih := w_ev_gt h k
    have l := w_ex_le (fa := fa) (c := cd (i + 1 + k)) (st := w_ev fa cd 0 (i + 1 + k) st)
    have e : w_ev fa cd 0 (i + 1 + (k + 1)) st = w_ex fa (cd (i + 1 + k)) (w_ev fa cd 0 (i + 1 + k) st) := by
      show w_ex fa (cd (0 + (i + 1 + k))) _ = _
      rw [Nat.zero_add]
      rfl
    have q : w_nm cd (i + 1 + (k + 1)) = w_nm cd (i + 1 + k) + 1 - (w_nd (cd (i + 1 + k)) : Int) := rfl
    rw [e, q]
    by_cases z : w_nd (cd (i + 1 + k)) ≤ (w_ev fa cd 0 (i + 1 + k) st).length
    · have := l.1 z
      omega
    · have := l.2 (by omega)
      omega
theorem w_ev_lg {fa : Int32 → Int64} {cd : Nat → Int32} {st : List Int64} : ∀ k, 3 * k ≤ st.length → ((w_ev fa cd 0 k st).length : Int) = (st.length : Int) + w_nm cd k ∧ st.length ≤ (w_ev fa cd 0 k st).length + 2 * k
  | 0, _ => ⟨by show (st.length : Int) = (st.length : Int) + 0; omega, by show st.length ≤ st.length + 2 * 0; omega⟩
  | k + 1, h => by
    have ih := w_ev_lg (fa := fa) (cd := cd) (st := st) k (by omega)
    have n3 := w_nd3 (cd k)
    have l := (w_ex_le (fa := fa) (c := cd k) (st := w_ev fa cd 0 k st)).1 (by omega)
    have e : w_ev fa cd 0 (k + 1) st = w_ex fa (cd k) (w_ev fa cd 0 k st) := by
      show w_ex fa (cd (0 + k)) _ = _
      rw [Nat.zero_add]
    have q : w_nm cd (k + 1) = w_nm cd k + 1 - (w_nd (cd k) : Int) := rfl
    rw [e, q]
    exact ⟨by omega, by omega⟩
/-- a code that always leaves one value more never takes what isn't there -/
theorem w_nu {fa : Int32 → Int64} {cd : Nat → Int32} {n : Nat} (h : ∀ st, ∃ v, w_ev fa cd 0 n st = v :: st) {i : Nat} (hi : i < n) : w_nd (cd i) ≤ (w_ev fa cd 0 i []).length := by
  refine Nat.le_of_not_lt (fun z => ?_)
  have a := (w_ev_lg (fa := fa) (cd := cd) (st := List.replicate (3 * n) 0) n (by rw [List.length_replicate]; exact Nat.le_refl _)).1
  obtain ⟨v, e⟩ := h (List.replicate (3 * n) 0)
  rw [e, List.length_cons] at a
  have b := w_ev_gt z (n - (i + 1))
  rw [show i + 1 + (n - (i + 1)) = n by omega] at b
  obtain ⟨w, e2⟩ := h []
  rw [e2] at b
  simp only [List.length_cons, List.length_nil] at a b
  omega
theorem w_ex_1 {fa : Int32 → Int64} {c : Int32} {x : Int64} {st : List Int64} (h0 : ¬ 0 ≤ c.toInt) (h : am_ops (-c) = 1) : w_ex fa c (x :: st) = (if c = -33 then (if x = 0 then 1 else 0) else -x) :: st := by
  unfold w_ex
  rw [if_neg h0, if_neg (by rw [h]; decide), if_pos h]
theorem w_ex_2b {fa : Int32 → Int64} {c : Int32} {a b : Int64} {st : List Int64} (h0 : ¬ 0 ≤ c.toInt) (h : am_ops (-c) = 2) : w_ex fa c (b :: a :: st) = am_join (-c) a b :: st := by
  unfold w_ex
  rw [if_neg h0, if_neg (by rw [h]; decide), if_neg (by rw [h]; decide), if_pos h]
theorem w_ex_3b {fa : Int32 → Int64} {c : Int32} {x y z : Int64} {st : List Int64} (h0 : ¬ 0 ≤ c.toInt) (h : am_ops (-c) = 3) : w_ex fa c (z :: y :: x :: st) = (if x ≠ 0 then y else z) :: st := by
  unfold w_ex
  rw [if_neg h0, if_neg (by rw [h]; decide), if_neg (by rw [h]; decide), if_neg (by rw [h]; decide)]
theorem w_ex_0b {fa : Int32 → Int64} {c : Int32} {st : List Int64} (h0 : ¬ 0 ≤ c.toInt) (h : am_ops (-c) = 0) : w_ex fa c st = fa (-c) :: st := by
  unfold w_ex
  rw [if_neg h0, if_pos h]
theorem w_nd_of {c : Int32} (h0 : ¬ 0 ≤ c.toInt) : (w_nd c : Int) = (am_ops (-c)).toInt := by
  have q := am_ops_in (-c)
  unfold w_nd
  rw [if_neg h0]
  split
  · next z => rw [z]; rfl
  · split
    · next z => rw [z]; rfl
    · split
      · next z => rw [z]; rfl
      · next z1 z2 z3 =>
        simp only [i_eq, Int32.reduceToInt, Int32.toInt_zero] at z1 z2 z3
        omega
/-- a value put where the stack ends -/
theorem r_atL.put {f : Nat → Int64} {V : List Int64} {v : Int64} {g : Nat → Int64} (h : r_atL f V) (e : g V.length = v) (eo : ∀ k, k < V.length → g k = f k) : r_atL g (v :: V) := ⟨e, h.cg eo⟩
def TE5_worked : am_T := fun live as M R => match as with
  | [.ref t, .ref l, .ref k] => am_mn live ∧ l = 9 ∧ k = 10 ∧ am_tP live t (fun s c => am_t0 M t ∧ (∀ st, ∃ v, w_ev (am_letter M) (M.1 c) 0 (t_c M t) st = v :: st) ∧ ∀ v M', w_ev (am_letter M) (M.1 c) 0 (t_c M t) [] = [v] → am_st M M' → R (some (.long v)) M')
  | _ => False
def JE5_worked : am_E → List Value → am_M → am_R → am_inv := fun live as M0 _ pc => match as with
  | [.ref t, .ref l, .ref k] => (match pc with
    | 5 => some ([0, 1, 2, 3, 4], fun w L st M => ∃ (p i : Int32) (V : List Int64), L = [(0, .ref t), (1, .ref 9), (2, .ref 10), (3, .int p), (4, .int i)] ∧ st = [] ∧ w = ((51 - i.toInt).toNat, 0) ∧ (0 ≤ i.toInt ∧ i.toInt ≤ (M0.1 t 2).toInt) ∧ p.toInt = (V.length : Int) ∧ V = w_ev (am_letter M0) (M0.1 ((live.2 t 1).getD 0)) 0 i.toNatClampNeg [] ∧ r_atL (M.2 10) V ∧ am_st M0 M)
    | _ => none)
  | _ => none
theorem am_letter_st {M M' : am_M} (h : am_st M M') : am_letter M' = am_letter M := by
  obtain ⟨-, -, h⟩ := h
  funext s
  unfold am_letter
  simp only [h 9 _ (by decide)]
set_option maxRecDepth 100000 in
set_option maxHeartbeats 4000000 in
theorem metX5_workedE : am_Met yX5_worked cX5_worked 7 (some .long) (1) (24) TE5_worked := by
  refine am_met (own := RX5) (by decide +kernel) rfl kX5_worked koX5_worked 200 JE5_worked ?_ ?_
  · intro live as M Ret h
    unfold TE5_worked at h
    split at h
    · next t l k =>
      refine ⟨Nat.le_of_ble_eq_true rfl, ?_⟩
      change am_wp _ _ _ _ [(0, Value.ref t), (1, Value.ref l), (2, Value.ref k)] _ _
      obtain ⟨⟨i1, i2, rfl⟩, rfl, rfl, h⟩ := h
      have hh := am_tP_mp h
      clear h
      obtain ⟨s, c, h2, h6, hb, h1, h3, h7, h4, h8, h9, h5, h10, hT, hV, h⟩ := hh
      have hT0 := hT
      obtain ⟨-, ⟨t1, t2⟩, -⟩ := hT0
      repeat' (first | (with_reducible exact h1) | (with_reducible exact h2) | (with_reducible exact h3) | (with_reducible exact hb) | (with_reducible exact h6) | (with_reducible exact h7) | (refine Exists.intro _ (Exists.intro _ (And.intro h2 (And.intro h6 ?_)))) | (refine Exists.intro _ (And.intro h2 ?_)) | (refine Exists.intro _ (And.intro h6 ?_)) | apply And.intro | exact rfl | intro hx | (refine Exists.intro _ (And.intro rfl ?_)) | ((with_reducible change _ = true); simp only [h1, h2, h3, hb, h6, h7, Bool.true_and]; rfl))
      all_goals try first | (with_reducible change am_tI _ _) | (change Ret _ _) | (change Ret _ _ _) | (change Exists _)
      all_goals try dsimp only at *
      all_goals try (with_reducible exact absurd ‹(1000 : Int64) = 0› am_z1000)
      exact ⟨_, _, _, [], rfl, rfl, rfl, ⟨by decide, t1⟩, rfl, rfl, trivial, am_st.rf⟩
    · exact h.elim
  · intro live as M0 Ret h k pc I hI L st M hi
    unfold TE5_worked at h
    split at h
    · next t l k =>
      obtain ⟨⟨i1, i2, rfl⟩, rfl, rfl, h⟩ := h
      have hh := am_tP_mp h
      clear h
      obtain ⟨s, c, h2, h6, hb, h1, h3, h7, h4, h8, h9, h5, h10, hT, hV, h⟩ := hh
      have hT0 := hT
      obtain ⟨-, ⟨t1, t2⟩, -⟩ := hT0
      change (match pc with | 5 => _ | _ => none) = _ at hI
      split at hI
      · cases hI
        obtain ⟨p, i, V, rfl, rfl, rfl, ⟨e0, e1⟩, ep, eV, er, es⟩ := hi
        rw [h6] at eV
        have eV : V = w_ev (am_letter M0) (M0.1 c) 0 i.toNatClampNeg [] := eV
        have hmn : am_mn (am_lv i1 i2, am_q i1 i2) := ⟨i1, i2, rfl⟩
        have l10 : am_len 10 = 50 := rfl
        have hn : (Int32.ofNat (am_len 10)).toInt = 50 := by decide +kernel
        have es1 : M.1 = M0.1 := by obtain ⟨-, q, -⟩ := es; exact q
        have et : M.1 t 2 = M0.1 t 2 := by rw [es1]
        have ci := i_clamp e0
        have ct : (t_c M0 t : Int) = (M0.1 t 2).toInt := i_clamp t1
        have lV := (w_ev_ge (fa := am_letter M0) (cd := M0.1 c) (st := []) i.toNatClampNeg).2
        rw [← eV] at lV
        simp only [List.length_nil, Nat.zero_add] at lV
        by_cases hz : M.1 t 2 ≤ i
        · have hz2 := hz
          rw [et, i_le] at hz2
          have ei : i.toNatClampNeg = t_c M0 t := by omega
          obtain ⟨v, ev⟩ := hV []
          rw [ei, ev] at eV
          subst eV
          have p1 : p.toInt = 1 := ep
          have q1 : ¬ p ≤ 0 := fun q => by simp only [i_le, Int32.reduceToInt, Int32.toInt_zero] at q; omega
          have q2 : ¬ Int32.ofNat (am_len 10) ≤ 0 := fun q => by simp only [i_le, hn, Int32.toInt_zero] at q; omega
          have e00 : M.2 10 (0 : Int32).toNatClampNeg = v := er.1
          have hh := h v M ev es
          rw [← e00] at hh
          repeat' (first | (with_reducible exact h1) | (with_reducible exact h2) | (with_reducible exact h3) | (with_reducible exact hb) | (with_reducible exact h6) | (with_reducible exact h7) | (refine Exists.intro _ (Exists.intro _ (And.intro h2 (And.intro h6 ?_)))) | (refine Exists.intro _ (And.intro h2 ?_)) | (refine Exists.intro _ (And.intro h6 ?_)) | apply And.intro | exact rfl | (intro hx; with_reducible exact absurd hx q1) | (intro hx; with_reducible exact absurd hx q2) | (intro hx; with_reducible exact absurd hz hx) | (intro hx; exact absurd hx (by decide)) | (intro hx; exact absurd (by decide) hx) | decide | intro hx | (refine Exists.intro _ (And.intro rfl ?_)) | ((with_reducible change _ = true); simp only [h1, h2, h3, hb, h6, h7, Bool.true_and]; rfl))
          all_goals try first | (with_reducible change am_tI _ _) | (change Ret _ _) | (change Ret _ _ _) | (change Exists _)
          all_goals try dsimp only at *
          all_goals try (with_reducible exact absurd ‹(1000 : Int64) = 0› am_z1000)
          all_goals first | (with_reducible exact hh) | decide | (rw [l10]; decide) | exact hh
        · have hz2 := hz
          rw [et, i_le] at hz2
          have hi : i.toNatClampNeg < t_c M0 t := by omega
          have nu := w_nu hV hi
          rw [← eV] at nu
          have q50 : ¬ (50 : Int32) ≤ i := fun q => by simp only [i_le, Int32.reduceToInt] at q; omega
          have x1 := e0
          have x2 : i.toInt < (am_len c : Int) := by rw [h8]; omega
          have hin := i_inc (x := i) (by omega) (by omega)
          have ci1 := i_clamp (x := i + 1) (by omega)
          have nx : w_ev (am_letter M0) (M0.1 c) 0 (i + 1).toNatClampNeg [] = w_ex (am_letter M0) (M0.1 c i.toNatClampNeg) V := by
            rw [show (i + 1).toNatClampNeg = i.toNatClampNeg + 1 by omega, eV]
            show w_ex _ (M0.1 c (0 + i.toNatClampNeg)) _ = _
            rw [Nat.zero_add]
          have ec : M.1 c i.toNatClampNeg = M0.1 c i.toNatClampNeg := by rw [es1]
          rw [← ec] at nx nu
          by_cases z0 : M.1 c i.toNatClampNeg < 0
          · have n0 : ¬ 0 ≤ (M.1 c i.toNatClampNeg).toInt := fun q => by simp only [i_lt, Int32.toInt_zero] at z0; omega
            have en := w_nd_of n0
            have o3 := am_ops_in (-M.1 c i.toNatClampNeg)
            have u1 : ¬ p < am_ops (-M.1 c i.toNatClampNeg) := fun q => by simp only [i_lt] at q; omega
            have su := i_sub (x := p) (y := am_ops (-M.1 c i.toNatClampNeg)) (by omega) (by omega)
            have u2 : p - am_ops (-M.1 c i.toNatClampNeg) < Int32.ofNat (am_len 10) := by rw [i_lt, hn, su]; omega
            have v1 : 0 ≤ (p - am_ops (-M.1 c i.toNatClampNeg)).toInt := by omega
            have v2 : (p - am_ops (-M.1 c i.toNatClampNeg)).toInt < (am_len 10 : Int) := by rw [l10]; omega
            have s1 := i_inc (x := p - am_ops (-M.1 c i.toNatClampNeg)) (by omega) (by omega)
            have cp := i_clamp v1
            have hx0 : am_ops (-M.1 c i.toNatClampNeg) = 0 ∨ am_ops (-M.1 c i.toNatClampNeg) = 1 ∨ am_ops (-M.1 c i.toNatClampNeg) = 2 ∨ am_ops (-M.1 c i.toNatClampNeg) = 3 := by
              simp only [i_eq, Int32.reduceToInt, Int32.toInt_zero]
              omega
            rcases hx0 with k0 | k0 | k0 | k0
            · have ki : (am_ops (-M.1 c i.toNatClampNeg)).toInt = 0 := by rw [k0]; rfl
              rw [w_ex_0b n0 k0] at nx
              have na : r_atL ((am_wJ M 10 (p - am_ops (-M.1 c i.toNatClampNeg)).toNatClampNeg (am_letter M (-M.1 c i.toNatClampNeg))).2 10) (am_letter M0 (-M.1 c i.toNatClampNeg) :: V) := er.put (by rw [am_wJ_1, if_pos ⟨rfl, by omega⟩, am_letter_st es]) (fun k hk => by rw [am_wJ_1, if_neg (fun q => by omega)])
              repeat' (first | (with_reducible exact hmn) | (with_reducible exact x1) | (with_reducible exact x2) | (with_reducible exact v1) | (with_reducible exact v2) | (with_reducible exact h1) | (with_reducible exact h2) | (with_reducible exact h3) | (with_reducible exact hb) | (with_reducible exact h6) | (with_reducible exact h7) | (refine Exists.intro _ (Exists.intro _ (And.intro h2 (And.intro h6 ?_)))) | (refine Exists.intro _ (And.intro h2 ?_)) | (refine Exists.intro _ (And.intro h6 ?_)) | apply And.intro | exact rfl | (intro hx; with_reducible exact absurd hx hz) | (intro hx; with_reducible exact absurd hx q50) | (intro hx; with_reducible exact absurd hx u1) | (intro hx; with_reducible exact absurd z0 hx) | (intro hx; with_reducible exact absurd u2 hx) | (intro hx; with_reducible exact absurd k0 hx) | (intro hx; exact absurd hx (by decide)) | (intro hx; exact absurd (by decide) hx) | decide | intro hx | (refine Exists.intro _ (And.intro rfl ?_)) | ((with_reducible change _ = true); simp only [h1, h2, h3, hb, h6, h7, Bool.true_and]; rfl))
              all_goals try first | (with_reducible change am_tI _ _) | (change Ret _ _) | (change Ret _ _ _) | (change Exists _)
              all_goals try dsimp only at *
              all_goals try (with_reducible exact absurd ‹(1000 : Int64) = 0› am_z1000)
              all_goals
                rw [h6]
                exact ⟨_, am_lt_l (by omega), _, _, _, rfl, rfl, rfl, ⟨by omega, by omega⟩, by rw [List.length_cons]; omega, nx.symm, na, es.w⟩
            · have ki : (am_ops (-M.1 c i.toNatClampNeg)).toInt = 1 := by rw [k0]; rfl
              have k1 : ¬ am_ops (-M.1 c i.toNatClampNeg) = 0 := by rw [k0]; decide
              obtain ⟨a, r, rfl⟩ : ∃ a r, V = a :: r := by
                cases V with
                | nil => simp only [List.length_nil] at nu; omega
                | cons a r => exact ⟨a, r, rfl⟩
              simp only [List.length_cons] at ep lV nu
              rw [w_ex_1 n0 k0] at nx
              have ea : M.2 10 (p - am_ops (-M.1 c i.toNatClampNeg)).toNatClampNeg = a := by
                rw [show (p - am_ops (-M.1 c i.toNatClampNeg)).toNatClampNeg = r.length by omega]
                exact er.1
              have er2 : r_atL (M.2 10) r := er.2
              have na : ∀ v, r_atL ((am_wJ M 10 (p - am_ops (-M.1 c i.toNatClampNeg)).toNatClampNeg v).2 10) (v :: r) := fun v => er2.put (by rw [am_wJ_1, if_pos ⟨rfl, by omega⟩]) (fun k hk => by rw [am_wJ_1, if_neg (fun q => by omega)])
              by_cases z3 : M.1 c i.toNatClampNeg = -33
              · rw [if_pos z3] at nx
                by_cases z4 : lg_cmp (M.2 10 (p - am_ops (-M.1 c i.toNatClampNeg)).toNatClampNeg) 0 = 0
                · have z5 := z4
                  rw [lc_eq, ea] at z5
                  rw [if_pos z5] at nx
                  have na2 := na ((1 : Int32).toInt64)
                  repeat' (first | (with_reducible exact hmn) | (with_reducible exact x1) | (with_reducible exact x2) | (with_reducible exact v1) | (with_reducible exact v2) | (with_reducible exact h1) | (with_reducible exact h2) | (with_reducible exact h3) | (with_reducible exact hb) | (with_reducible exact h6) | (with_reducible exact h7) | (refine Exists.intro _ (Exists.intro _ (And.intro h2 (And.intro h6 ?_)))) | (refine Exists.intro _ (And.intro h2 ?_)) | (refine Exists.intro _ (And.intro h6 ?_)) | apply And.intro | exact rfl | (intro hx; with_reducible exact absurd hx hz) | (intro hx; with_reducible exact absurd hx q50) | (intro hx; with_reducible exact absurd hx u1) | (intro hx; with_reducible exact absurd hx k1) | (intro hx; with_reducible exact absurd z0 hx) | (intro hx; with_reducible exact absurd u2 hx) | (intro hx; with_reducible exact absurd k0 hx) | (intro hx; with_reducible exact absurd z3 hx) | (intro hx; with_reducible exact absurd z4 hx) | (intro hx; exact absurd hx (by decide)) | (intro hx; exact absurd (by decide) hx) | decide | intro hx | (refine Exists.intro _ (And.intro rfl ?_)) | ((with_reducible change _ = true); simp only [h1, h2, h3, hb, h6, h7, Bool.true_and]; rfl))
                  all_goals try first | (with_reducible change am_tI _ _) | (change Ret _ _) | (change Ret _ _ _) | (change Exists _)
                  all_goals try dsimp only at *
                  all_goals try (with_reducible exact absurd ‹(1000 : Int64) = 0› am_z1000)
                  all_goals
                    rw [h6]
                    exact ⟨_, am_lt_l (by omega), _, _, _, rfl, rfl, rfl, ⟨by omega, by omega⟩, by rw [List.length_cons]; omega, nx.symm, na2, es.w⟩
                · have z5 := z4
                  rw [lc_eq, ea] at z5
                  rw [if_neg z5] at nx
                  have na2 := na ((0 : Int32).toInt64)
                  repeat' (first | (with_reducible exact hmn) | (with_reducible exact x1) | (with_reducible exact x2) | (with_reducible exact v1) | (with_reducible exact v2) | (with_reducible exact h1) | (with_reducible exact h2) | (with_reducible exact h3) | (with_reducible exact hb) | (with_reducible exact h6) | (with_reducible exact h7) | (refine Exists.intro _ (Exists.intro _ (And.intro h2 (And.intro h6 ?_)))) | (refine Exists.intro _ (And.intro h2 ?_)) | (refine Exists.intro _ (And.intro h6 ?_)) | apply And.intro | exact rfl | (intro hx; with_reducible exact absurd hx hz) | (intro hx; with_reducible exact absurd hx q50) | (intro hx; with_reducible exact absurd hx u1) | (intro hx; with_reducible exact absurd hx k1) | (intro hx; with_reducible exact absurd hx z4) | (intro hx; with_reducible exact absurd z0 hx) | (intro hx; with_reducible exact absurd u2 hx) | (intro hx; with_reducible exact absurd k0 hx) | (intro hx; with_reducible exact absurd z3 hx) | (intro hx; exact absurd hx (by decide)) | (intro hx; exact absurd (by decide) hx) | decide | intro hx | (refine Exists.intro _ (And.intro rfl ?_)) | ((with_reducible change _ = true); simp only [h1, h2, h3, hb, h6, h7, Bool.true_and]; rfl))
                  all_goals try first | (with_reducible change am_tI _ _) | (change Ret _ _) | (change Ret _ _ _) | (change Exists _)
                  all_goals try dsimp only at *
                  all_goals try (with_reducible exact absurd ‹(1000 : Int64) = 0› am_z1000)
                  all_goals
                    rw [h6]
                    exact ⟨_, am_lt_l (by omega), _, _, _, rfl, rfl, rfl, ⟨by omega, by omega⟩, by rw [List.length_cons]; omega, nx.symm, na2, es.w⟩
              · rw [if_neg z3, ← ea] at nx
                have na2 := na (-(M.2 10 (p - am_ops (-M.1 c i.toNatClampNeg)).toNatClampNeg))
                repeat' (first | (with_reducible exact hmn) | (with_reducible exact x1) | (with_reducible exact x2) | (with_reducible exact v1) | (with_reducible exact v2) | (with_reducible exact h1) | (with_reducible exact h2) | (with_reducible exact h3) | (with_reducible exact hb) | (with_reducible exact h6) | (with_reducible exact h7) | (refine Exists.intro _ (Exists.intro _ (And.intro h2 (And.intro h6 ?_)))) | (refine Exists.intro _ (And.intro h2 ?_)) | (refine Exists.intro _ (And.intro h6 ?_)) | apply And.intro | exact rfl | (intro hx; with_reducible exact absurd hx hz) | (intro hx; with_reducible exact absurd hx q50) | (intro hx; with_reducible exact absurd hx u1) | (intro hx; with_reducible exact absurd hx k1) | (intro hx; with_reducible exact absurd hx z3) | (intro hx; with_reducible exact absurd z0 hx) | (intro hx; with_reducible exact absurd u2 hx) | (intro hx; with_reducible exact absurd k0 hx) | (intro hx; exact absurd hx (by decide)) | (intro hx; exact absurd (by decide) hx) | decide | intro hx | (refine Exists.intro _ (And.intro rfl ?_)) | ((with_reducible change _ = true); simp only [h1, h2, h3, hb, h6, h7, Bool.true_and]; rfl))
                all_goals try first | (with_reducible change am_tI _ _) | (change Ret _ _) | (change Ret _ _ _) | (change Exists _)
                all_goals try dsimp only at *
                all_goals try (with_reducible exact absurd ‹(1000 : Int64) = 0› am_z1000)
                all_goals
                  rw [h6]
                  exact ⟨_, am_lt_l (by omega), _, _, _, rfl, rfl, rfl, ⟨by omega, by omega⟩, by rw [List.length_cons]; omega, nx.symm, na2, es.w⟩
            · have ki : (am_ops (-M.1 c i.toNatClampNeg)).toInt = 2 := by rw [k0]; rfl
              have k1 : ¬ am_ops (-M.1 c i.toNatClampNeg) = 0 := by rw [k0]; decide
              have k2 : ¬ am_ops (-M.1 c i.toNatClampNeg) = 1 := by rw [k0]; decide
              obtain ⟨b, a, r, rfl⟩ : ∃ b a r, V = b :: a :: r := by
                match V, nu with
                | [], nu => simp only [List.length_nil] at nu; omega
                | [x], nu => simp only [List.length_cons, List.length_nil] at nu; omega
                | b :: a :: r, _ => exact ⟨b, a, r, rfl⟩
              simp only [List.length_cons] at ep lV nu
              rw [w_ex_2b n0 k0] at nx
              have w1 : 0 ≤ (p - am_ops (-M.1 c i.toNatClampNeg) + 1).toInt := by omega
              have w2 : (p - am_ops (-M.1 c i.toNatClampNeg) + 1).toInt < (am_len 10 : Int) := by rw [l10]; omega
              have cp1 := i_clamp w1
              have ea : M.2 10 (p - am_ops (-M.1 c i.toNatClampNeg)).toNatClampNeg = a := by
                rw [show (p - am_ops (-M.1 c i.toNatClampNeg)).toNatClampNeg = r.length by omega]
                exact er.2.1
              have eb : M.2 10 (p - am_ops (-M.1 c i.toNatClampNeg) + 1).toNatClampNeg = b := by
                rw [show (p - am_ops (-M.1 c i.toNatClampNeg) + 1).toNatClampNeg = r.length + 1 by omega]
                exact er.1
              have er2 : r_atL (M.2 10) r := er.2.2
              have na : ∀ v, r_atL ((am_wJ M 10 (p - am_ops (-M.1 c i.toNatClampNeg)).toNatClampNeg v).2 10) (v :: r) := fun v => er2.put (by rw [am_wJ_1, if_pos ⟨rfl, by omega⟩]) (fun k hk => by rw [am_wJ_1, if_neg (fun q => by omega)])
              rw [← ea, ← eb] at nx
              have na2 := na (am_join (-M.1 c i.toNatClampNeg) (M.2 10 (p - am_ops (-M.1 c i.toNatClampNeg)).toNatClampNeg) (M.2 10 (p - am_ops (-M.1 c i.toNatClampNeg) + 1).toNatClampNeg))
              repeat' (first | (with_reducible exact hmn) | (with_reducible exact x1) | (with_reducible exact x2) | (with_reducible exact v1) | (with_reducible exact v2) | (with_reducible exact w1) | (with_reducible exact w2) | (with_reducible exact h1) | (with_reducible exact h2) | (with_reducible exact h3) | (with_reducible exact hb) | (with_reducible exact h6) | (with_reducible exact h7) | (refine Exists.intro _ (Exists.intro _ (And.intro h2 (And.intro h6 ?_)))) | (refine Exists.intro _ (And.intro h2 ?_)) | (refine Exists.intro _ (And.intro h6 ?_)) | apply And.intro | exact rfl | (intro hx; with_reducible exact absurd hx hz) | (intro hx; with_reducible exact absurd hx q50) | (intro hx; with_reducible exact absurd hx u1) | (intro hx; with_reducible exact absurd hx k1) | (intro hx; with_reducible exact absurd hx k2) | (intro hx; with_reducible exact absurd z0 hx) | (intro hx; with_reducible exact absurd u2 hx) | (intro hx; with_reducible exact absurd k0 hx) | (intro hx; exact absurd hx (by decide)) | (intro hx; exact absurd (by decide) hx) | decide | intro hx | (refine Exists.intro _ (And.intro rfl ?_)) | ((with_reducible change _ = true); simp only [h1, h2, h3, hb, h6, h7, Bool.true_and]; rfl))
              all_goals try first | (with_reducible change am_tI _ _) | (change Ret _ _) | (change Ret _ _ _) | (change Exists _)
              all_goals try dsimp only at *
              all_goals try (with_reducible exact absurd ‹(1000 : Int64) = 0› am_z1000)
              all_goals
                rw [h6]
                exact ⟨_, am_lt_l (by omega), _, _, _, rfl, rfl, rfl, ⟨by omega, by omega⟩, by rw [List.length_cons]; omega, nx.symm, na2, es.w⟩
            · have ki : (am_ops (-M.1 c i.toNatClampNeg)).toInt = 3 := by rw [k0]; rfl
              have k1 : ¬ am_ops (-M.1 c i.toNatClampNeg) = 0 := by rw [k0]; decide
              have k2 : ¬ am_ops (-M.1 c i.toNatClampNeg) = 1 := by rw [k0]; decide
              have k3 : ¬ am_ops (-M.1 c i.toNatClampNeg) = 2 := by rw [k0]; decide
              obtain ⟨z, y, x, r, rfl⟩ : ∃ z y x r, V = z :: y :: x :: r := by
                match V, nu with
                | [], nu => simp only [List.length_nil] at nu; omega
                | [x], nu => simp only [List.length_cons, List.length_nil] at nu; omega
                | [x, y], nu => simp only [List.length_cons, List.length_nil] at nu; omega
                | z :: y :: x :: r, _ => exact ⟨z, y, x, r, rfl⟩
              simp only [List.length_cons] at ep lV nu
              rw [w_ex_3b n0 k0] at nx
              have s2 := i_add (x := p - am_ops (-M.1 c i.toNatClampNeg)) (y := 2) (by simp only [Int32.reduceToInt]; omega) (by simp only [Int32.reduceToInt]; omega)
              simp only [Int32.reduceToInt] at s2
              have w1 : 0 ≤ (p - am_ops (-M.1 c i.toNatClampNeg) + 1).toInt := by omega
              have w2 : (p - am_ops (-M.1 c i.toNatClampNeg) + 1).toInt < (am_len 10 : Int) := by rw [l10]; omega
              have w3 : 0 ≤ (p - am_ops (-M.1 c i.toNatClampNeg) + 2).toInt := by omega
              have w4 : (p - am_ops (-M.1 c i.toNatClampNeg) + 2).toInt < (am_len 10 : Int) := by rw [l10]; omega
              have cp1 := i_clamp w1
              have cp2 := i_clamp w3
              have ea : M.2 10 (p - am_ops (-M.1 c i.toNatClampNeg)).toNatClampNeg = x := by
                rw [show (p - am_ops (-M.1 c i.toNatClampNeg)).toNatClampNeg = r.length by omega]
                exact er.2.2.1
              have eb : M.2 10 (p - am_ops (-M.1 c i.toNatClampNeg) + 1).toNatClampNeg = y := by
                rw [show (p - am_ops (-M.1 c i.toNatClampNeg) + 1).toNatClampNeg = r.length + 1 by omega]
                exact er.2.1
              have ez : M.2 10 (p - am_ops (-M.1 c i.toNatClampNeg) + 2).toNatClampNeg = z := by
                rw [show (p - am_ops (-M.1 c i.toNatClampNeg) + 2).toNatClampNeg = r.length + 2 by omega]
                exact er.1
              have er2 : r_atL (M.2 10) r := er.2.2.2
              have na : ∀ v, r_atL ((am_wJ M 10 (p - am_ops (-M.1 c i.toNatClampNeg)).toNatClampNeg v).2 10) (v :: r) := fun v => er2.put (by rw [am_wJ_1, if_pos ⟨rfl, by omega⟩]) (fun k hk => by rw [am_wJ_1, if_neg (fun q => by omega)])
              by_cases z4 : lg_cmp (M.2 10 (p - am_ops (-M.1 c i.toNatClampNeg)).toNatClampNeg) 0 = 0
              · have z5 := z4
                rw [lc_eq, ea] at z5
                rw [if_neg (fun q => q z5), ← ez] at nx
                have na2 := na (M.2 10 (p - am_ops (-M.1 c i.toNatClampNeg) + 2).toNatClampNeg)
                repeat' (first | (with_reducible exact hmn) | (with_reducible exact x1) | (with_reducible exact x2) | (with_reducible exact v1) | (with_reducible exact v2) | (with_reducible exact w1) | (with_reducible exact w2) | (with_reducible exact w3) | (with_reducible exact w4) | (with_reducible exact h1) | (with_reducible exact h2) | (with_reducible exact h3) | (with_reducible exact hb) | (with_reducible exact h6) | (with_reducible exact h7) | (refine Exists.intro _ (Exists.intro _ (And.intro h2 (And.intro h6 ?_)))) | (refine Exists.intro _ (And.intro h2 ?_)) | (refine Exists.intro _ (And.intro h6 ?_)) | apply And.intro | exact rfl | (intro hx; with_reducible exact absurd hx hz) | (intro hx; with_reducible exact absurd hx q50) | (intro hx; with_reducible exact absurd hx u1) | (intro hx; with_reducible exact absurd hx k1) | (intro hx; with_reducible exact absurd hx k2) | (intro hx; with_reducible exact absurd hx k3) | (intro hx; with_reducible exact absurd z0 hx) | (intro hx; with_reducible exact absurd u2 hx) | (intro hx; with_reducible exact absurd z4 hx) | (intro hx; exact absurd hx (by decide)) | (intro hx; exact absurd (by decide) hx) | decide | intro hx | (refine Exists.intro _ (And.intro rfl ?_)) | ((with_reducible change _ = true); simp only [h1, h2, h3, hb, h6, h7, Bool.true_and]; rfl))
                all_goals try first | (with_reducible change am_tI _ _) | (change Ret _ _) | (change Ret _ _ _) | (change Exists _)
                all_goals try dsimp only at *
                all_goals try (with_reducible exact absurd ‹(1000 : Int64) = 0› am_z1000)
                all_goals
                  rw [h6]
                  exact ⟨_, am_lt_l (by omega), _, _, _, rfl, rfl, rfl, ⟨by omega, by omega⟩, by rw [List.length_cons]; omega, nx.symm, na2, es.w⟩
              · have z5 := z4
                rw [lc_eq, ea] at z5
                rw [if_pos z5, ← eb] at nx
                have na2 := na (M.2 10 (p - am_ops (-M.1 c i.toNatClampNeg) + 1).toNatClampNeg)
                repeat' (first | (with_reducible exact hmn) | (with_reducible exact x1) | (with_reducible exact x2) | (with_reducible exact v1) | (with_reducible exact v2) | (with_reducible exact w1) | (with_reducible exact w2) | (with_reducible exact w3) | (with_reducible exact w4) | (with_reducible exact h1) | (with_reducible exact h2) | (with_reducible exact h3) | (with_reducible exact hb) | (with_reducible exact h6) | (with_reducible exact h7) | (refine Exists.intro _ (Exists.intro _ (And.intro h2 (And.intro h6 ?_)))) | (refine Exists.intro _ (And.intro h2 ?_)) | (refine Exists.intro _ (And.intro h6 ?_)) | apply And.intro | exact rfl | (intro hx; with_reducible exact absurd hx hz) | (intro hx; with_reducible exact absurd hx q50) | (intro hx; with_reducible exact absurd hx u1) | (intro hx; with_reducible exact absurd hx k1) | (intro hx; with_reducible exact absurd hx k2) | (intro hx; with_reducible exact absurd hx k3) | (intro hx; with_reducible exact absurd hx z4) | (intro hx; with_reducible exact absurd z0 hx) | (intro hx; with_reducible exact absurd u2 hx) | (intro hx; exact absurd hx (by decide)) | (intro hx; exact absurd (by decide) hx) | decide | intro hx | (refine Exists.intro _ (And.intro rfl ?_)) | ((with_reducible change _ = true); simp only [h1, h2, h3, hb, h6, h7, Bool.true_and]; rfl))
                all_goals try first | (with_reducible change am_tI _ _) | (change Ret _ _) | (change Ret _ _ _) | (change Exists _)
                all_goals try dsimp only at *
                all_goals try (with_reducible exact absurd ‹(1000 : Int64) = 0› am_z1000)
                all_goals
                  rw [h6]
                  exact ⟨_, am_lt_l (by omega), _, _, _, rfl, rfl, rfl, ⟨by omega, by omega⟩, by rw [List.length_cons]; omega, nx.symm, na2, es.w⟩
          · have n0 : 0 ≤ (M.1 c i.toNatClampNeg).toInt := by simp only [i_lt, Int32.toInt_zero] at z0; omega
            have ex : w_ex (am_letter M0) (M.1 c i.toNatClampNeg) V = (M.1 c i.toNatClampNeg).toInt64 :: V := by
              rw [w_ex_n n0, ← Int32.toInt_toInt64 (M.1 c i.toNatClampNeg), Int64.ofInt_toInt]
            rw [ex] at nx
            have su : p - 0 = p := Int32.sub_zero p
            have u1 : ¬ p < 0 := fun q => by simp only [i_lt, Int32.toInt_zero] at q; omega
            have u2 : p - 0 < Int32.ofNat (am_len 10) := by rw [i_lt, hn, su]; omega
            have v1 : 0 ≤ (p - 0).toInt := by rw [su]; omega
            have v2 : (p - 0).toInt < (am_len 10 : Int) := by rw [l10, su]; omega
            have s1 := i_inc (x := p - 0) (by rw [su]; omega) (by rw [su]; omega)
            rw [su] at s1
            have s2 : (p - 0 + 1).toInt = p.toInt + 1 := by rw [su]; exact s1
            have cp := i_clamp v1
            have cp2 : (p - 0).toNatClampNeg = V.length := by rw [su] at cp ⊢; omega
            have na : r_atL ((am_wJ M 10 (p - 0).toNatClampNeg (M.1 c i.toNatClampNeg).toInt64).2 10) ((M.1 c i.toNatClampNeg).toInt64 :: V) := er.put (by rw [am_wJ_1, if_pos ⟨rfl, by omega⟩]) (fun k hk => by rw [am_wJ_1, if_neg (fun q => by omega)])
            repeat' (first | (with_reducible exact hmn) | (with_reducible exact x1) | (with_reducible exact x2) | (with_reducible exact v1) | (with_reducible exact v2) | (with_reducible exact h1) | (with_reducible exact h2) | (with_reducible exact h3) | (with_reducible exact hb) | (with_reducible exact h6) | (with_reducible exact h7) | (refine Exists.intro _ (Exists.intro _ (And.intro h2 (And.intro h6 ?_)))) | (refine Exists.intro _ (And.intro h2 ?_)) | (refine Exists.intro _ (And.intro h6 ?_)) | apply And.intro | exact rfl | (intro hx; with_reducible exact absurd hx hz) | (intro hx; with_reducible exact absurd hx q50) | (intro hx; with_reducible exact absurd hx z0) | (intro hx; with_reducible exact absurd hx u1) | (intro hx; with_reducible exact absurd u2 hx) | (intro hx; exact absurd hx (by decide)) | (intro hx; exact absurd (by decide) hx) | decide | intro hx | (refine Exists.intro _ (And.intro rfl ?_)) | ((with_reducible change _ = true); simp only [h1, h2, h3, hb, h6, h7, Bool.true_and]; rfl))
            all_goals try first | (with_reducible change am_tI _ _) | (change Ret _ _) | (change Ret _ _ _) | (change Exists _)
            all_goals try dsimp only at *
            all_goals try (with_reducible exact absurd ‹(1000 : Int64) = 0› am_z1000)
            all_goals
              rw [h6]
              exact ⟨_, am_lt_l (by omega), _, _, _, rfl, rfl, rfl, ⟨by omega, by omega⟩, by rw [List.length_cons]; omega, nx.symm, na, es.w⟩
      · cases hI
    · exact h.elim
end
-- part 79p.run0.lean.txt
section
/-! runs, exact: the class: what is drawn, the rate, sums together, paid ahead, taken -/
/-- sums: a place put -/
def z_u (s : Nat → Int64) (k : Nat) (v : Int64) : Nat → Int64 := fun b => if b = k then v else s b
theorem z_u_e {s : Nat → Int64} {k : Nat} {v : Int64} : z_u s k v k = v := if_pos rfl
theorem z_u_n {s : Nat → Int64} {k j : Nat} {v : Int64} (h : j ≠ k) : z_u s k v j = s j := if_neg h
theorem z_wJ {M : am_M} {n k : Nat} {v : Int64} : (am_wJ M n k v).2 n = z_u (M.2 n) k v := by
  funext b
  rw [am_wJ_1]
  unfold z_u
  by_cases z : b = k
  · rw [if_pos ⟨rfl, z⟩, if_pos z]
  · rw [if_neg (fun q => z q.2), if_neg z]
theorem z_wJo {M : am_M} {n m k : Nat} {v : Int64} (h : m ≠ n) : (am_wJ M n k v).2 m = M.2 m := by
  funext b
  rw [am_wJ_1, if_neg (fun q => h q.1)]
/-- what depends on the numbers alone -/
theorem z_cg1 {α : Type} {M N : am_M} (f : am_M → α) (hf : ∀ a b b', f (a, b) = f (a, b')) (h : N.1 = M.1) : f N = f M := by
  have e : f N = f (N.1, M.2) := hf N.1 N.2 M.2
  rw [e, h]
theorem z_cg8 {α : Type} {M N : am_M} (f : am_M → α) (hf : ∀ a b b', f (a, b) = f (a, b')) (h8 : ∀ (K : am_M) (g : Nat → Int32), f (am_cI K 8 g) = f K) (h : ∀ a, a ≠ 8 → N.1 a = M.1 a) : f N = f M := by
  have e : N.1 = (am_cI M 8 (N.1 8)).1 := by
    funext a b
    rw [am_cI_1]
    by_cases z : a = 8
    · subst z; rw [if_pos rfl]
    · rw [if_neg z, h a z]
  rw [z_cg1 f hf e, h8]
/-- behind what was drawn and given back -/
def c_dr0 (M : am_M) (l y : Int32) (o : Int64) : Int64 := if y = am_loanAt M l 2 then o + (am_loanAt M l 3).toInt64 else o
def c_bk (M : am_M) (l : Int32) : Int64 := am_sumGiven (am_loanAt M l 3) (am_loanAt M l 5 - am_loanAt M l 2)
def c_dr (M : am_M) (l y : Int32) (o : Int64) : Int64 := if y = am_loanAt M l 5 then c_dr0 M l y o - (if c_bk M l < c_dr0 M l y o then c_bk M l else c_dr0 M l y o) else c_dr0 M l y o
def TE4_draw : am_T := fun live as M R => match as with
  | [.ref n, .int l, .int y] => am_mn live ∧ n = 4 ∧ am_in l 30 ∧ R none (am_wJ M 6 l.toNatClampNeg (c_dr M l y (M.2 6 l.toNatClampNeg)))
  | _ => False
set_option maxRecDepth 100000 in
set_option maxHeartbeats 4000000 in
theorem metX4_drawE : am_Met yX4_draw cX4_draw 5 none (2) (47) TE4_draw := by
  refine am_met (own := RX4) (by decide +kernel) rfl kX4_draw koX4_draw 100 (fun _ _ _ _ _ => none) (fun live as M Ret h => ?_) (fun _ _ _ _ _ _ _ _ hI => by cases hI)
  unfold TE4_draw at h
  split at h
  · next n l y =>
    refine ⟨Nat.le_of_ble_eq_true rfl, ?_⟩
    change am_wp _ _ _ _ [(0, Value.ref n), (1, Value.int l), (2, Value.int y)] _ _
    obtain ⟨hmn, rfl, hl, h⟩ := h
    have hmn2 := hmn
    obtain ⟨i1, i2, rfl⟩ := hmn2
    have l6 : am_len 6 = 180 := rfl
    have e0 := g_ix hl 0 0 rfl (by decide)
    have x1 := e0.1
    have x2 : (0 + l).toInt < (am_len 6 : Int) := by rw [l6]; exact e0.2.1
    have c2 : am_at (M.1 34) (am_len 34) (l * M.1 33 1 + 2) = am_loanAt M l 2 := rfl
    have c5 : am_at (M.1 34) (am_len 34) (l * M.1 33 1 + 5) = am_loanAt M l 5 := rfl
    rw [← am_ix0 (l := l)] at h
    by_cases z1 : y = am_at (M.1 34) (am_len 34) (l * M.1 33 1 + 2)
    · have d0 : c_dr0 M l y (M.2 6 (0 + l).toNatClampNeg) = M.2 6 (0 + l).toNatClampNeg + (am_loanAt M l 3).toInt64 := if_pos z1
      by_cases z2 : y = am_at (M.1 34) (am_len 34) (l * M.1 33 1 + 5)
      · have d1 : c_dr M l y (M.2 6 (0 + l).toNatClampNeg) = c_dr0 M l y (M.2 6 (0 + l).toNatClampNeg) - (if c_bk M l < c_dr0 M l y (M.2 6 (0 + l).toNatClampNeg) then c_bk M l else c_dr0 M l y (M.2 6 (0 + l).toNatClampNeg)) := if_pos z2
        rw [d1, d0] at h
        repeat' (first | (with_reducible exact hmn) | (with_reducible exact x1) | (with_reducible exact x2) | apply And.intro | exact rfl | (intro hx; with_reducible exact absurd z1 hx) | (intro hx; with_reducible exact absurd z2 hx) | (intro hx; exact absurd hx (by decide)) | (intro hx; exact absurd (by decide) hx) | decide | intro hx | (refine Exists.intro _ (And.intro rfl ?_)))
        all_goals try first | (with_reducible change am_tI _ _) | (change Ret _ _) | (change Ret _ _ _) | (change Exists _)
        all_goals try dsimp only at *
        all_goals try (with_reducible exact absurd ‹(1000 : Int64) = 0› am_z1000)
        all_goals exact h
      · have d1 : c_dr M l y (M.2 6 (0 + l).toNatClampNeg) = c_dr0 M l y (M.2 6 (0 + l).toNatClampNeg) := if_neg z2
        rw [d1, d0] at h
        repeat' (first | (with_reducible exact hmn) | (with_reducible exact x1) | (with_reducible exact x2) | apply And.intro | exact rfl | (intro hx; with_reducible exact absurd hx z2) | (intro hx; with_reducible exact absurd z1 hx) | (intro hx; exact absurd hx (by decide)) | (intro hx; exact absurd (by decide) hx) | decide | intro hx | (refine Exists.intro _ (And.intro rfl ?_)))
        all_goals try first | (with_reducible change am_tI _ _) | (change Ret _ _) | (change Ret _ _ _) | (change Exists _)
        all_goals try dsimp only at *
        all_goals try (with_reducible exact absurd ‹(1000 : Int64) = 0› am_z1000)
        all_goals exact h
    · have d0 : c_dr0 M l y (M.2 6 (0 + l).toNatClampNeg) = M.2 6 (0 + l).toNatClampNeg := if_neg z1
      by_cases z2 : y = am_at (M.1 34) (am_len 34) (l * M.1 33 1 + 5)
      · have d1 : c_dr M l y (M.2 6 (0 + l).toNatClampNeg) = c_dr0 M l y (M.2 6 (0 + l).toNatClampNeg) - (if c_bk M l < c_dr0 M l y (M.2 6 (0 + l).toNatClampNeg) then c_bk M l else c_dr0 M l y (M.2 6 (0 + l).toNatClampNeg)) := if_pos z2
        rw [d1, d0] at h
        repeat' (first | (with_reducible exact hmn) | (with_reducible exact x1) | (with_reducible exact x2) | apply And.intro | exact rfl | (intro hx; with_reducible exact absurd hx z1) | (intro hx; with_reducible exact absurd z2 hx) | (intro hx; exact absurd hx (by decide)) | (intro hx; exact absurd (by decide) hx) | decide | intro hx | (refine Exists.intro _ (And.intro rfl ?_)))
        all_goals try first | (with_reducible change am_tI _ _) | (change Ret _ _) | (change Ret _ _ _) | (change Exists _)
        all_goals try dsimp only at *
        all_goals try (with_reducible exact absurd ‹(1000 : Int64) = 0› am_z1000)
        all_goals exact h
      · have d1 : c_dr M l y (M.2 6 (0 + l).toNatClampNeg) = c_dr0 M l y (M.2 6 (0 + l).toNatClampNeg) := if_neg z2
        rw [d1, d0] at h
        repeat' (first | (with_reducible exact hmn) | (with_reducible exact x1) | (with_reducible exact x2) | apply And.intro | exact rfl | (intro hx; with_reducible exact absurd hx z1) | (intro hx; with_reducible exact absurd hx z2) | (intro hx; exact absurd hx (by decide)) | (intro hx; exact absurd (by decide) hx) | decide | intro hx | (refine Exists.intro _ (And.intro rfl ?_)))
        all_goals try first | (with_reducible change am_tI _ _) | (change Ret _ _) | (change Ret _ _ _) | (change Exists _)
        all_goals try dsimp only at *
        all_goals try (with_reducible exact absurd ‹(1000 : Int64) = 0› am_z1000)
        all_goals exact h
  · exact h.elim
/-- the letters of a text -/
def c_fa (M : am_M) (l y : Int32) (o : Int64) : Int32 → Int64 := fun s => if s = 114 then (am_cell M l y 2).toInt64 else if s = 112 then (M.1 30 y.toNatClampNeg).toInt64 else if s = 101 then (M.1 4 16).toInt64 else if s = 108 then (am_cell M l y 0).toInt64 else if s = 121 then (y - am_loanAt M l 2).toInt64 else if s = 111 then o else (M.1 4 17).toInt64
def z_cl (v : Int64) : Int32 := (if (if v < 500 then v else 500) < 0 then 0 else (if v < 500 then v else 500) : Int64).toInt32
def z_rt (fa : Int32 → Int64) (σ : Nat → Int32) (n : Nat) (r : Int32) : Int32 := match w_res fa σ n 0 true [] [] with
  | .inl v => z_cl v
  | .inr _ => r
/-- the rate of a loan of which so much is owed -/
def c_rt (M : am_M) (l y : Int32) (o : Int64) : Int32 := z_rt (c_fa M l y o) (M.1 (40 + 3 * (am_pln M l y).toNatClampNeg)) (t_n M (39 + 3 * (am_pln M l y).toNatClampNeg)) (am_cell M l y 2)
/-- letters and stack have changed -/
def c_lk (M N : am_M) : Prop := ∃ _ : Unit, N.1 = M.1 ∧ ∀ a, a ≠ 9 → a ≠ 10 → N.2 a = M.2 a
theorem c_lk.rf {M : am_M} : c_lk M M := ⟨(), rfl, fun _ _ _ => rfl⟩
theorem c_lk.i {M N : am_M} (h : c_lk M N) : N.1 = M.1 := by obtain ⟨-, h, -⟩ := h; exact h
theorem c_lk.j {M N : am_M} (h : c_lk M N) {a : Nat} (h9 : a ≠ 9) (h10 : a ≠ 10) : N.2 a = M.2 a := by obtain ⟨-, -, h⟩ := h; exact h a h9 h10
theorem c_lk.sc {M N : am_M} (h : c_lk M N) : g_sc M N := ⟨(), fun a b z => ⟨by rw [h.i], by rw [h.j (by omega) (by omega)]⟩⟩
theorem c_lk.w9 {M N : am_M} {k : Nat} {v : Int64} (h : c_lk M N) : c_lk M (am_wJ N 9 k v) := ⟨(), h.i, fun a h9 h10 => by rw [z_wJo h9]; exact h.j h9 h10⟩
theorem c_lk.st {M N K : am_M} (h : c_lk M N) (h2 : am_st N K) : c_lk M K := by
  obtain ⟨-, a, b⟩ := h2
  exact ⟨(), by rw [a]; exact h.i, fun c h9 h10 => (funext fun d => b c d h10).trans (h.j h9 h10)⟩
def kX4_rateOfE (live : am_E) (Ret : am_R) : am_code := [(0, am_aload 0 1), (1, am_iload 1 2), (2, am_iload 2 3), (3, am_callV live 4 2 TX4_cellOf 6), (6, am_istore 3 7 7), (7, am_aload 0 8), (8, am_getR live 4 0 11), (11, am_getR live 0 7 14), (14, am_aload 0 15), (15, am_iload 1 16), (16, am_iload 2 17), (17, am_callV live 4 2 TX4_planIn 20), (20, am_aald live 3 21), (21, am_astore 4 7 23), (23, am_aload 4 25), (25, am_getI live 5 6 28), (28, am_const (.int (-1)) 29), (29, am_if2 (fun x y => x = y) 41 32), (32, am_aload 0 33), (33, am_getR live 4 1 36), (36, am_iload 3 37), (37, am_const (.int 2) 38), (38, am_i2 (fun x y => x + y) 39), (39, am_ald live 0 40), (40, am_retI Ret), (41, am_aload 0 42), (42, am_getR live 4 5 45), (45, am_aload 0 46), (46, am_getR live 4 1 49), (49, am_iload 3 50), (50, am_const (.int 2) 51), (51, am_i2 (fun x y => x + y) 52), (52, am_ald live 0 53), (53, am_i2l 54), (54, am_putJ live 1 0 57), (57, am_aload 0 58), (58, am_getR live 4 5 61), (61, am_aload 0 62), (62, am_getR live 4 0 65), (65, am_getR live 0 2 68), (68, am_iload 2 69), (69, am_ald live 0 70), (70, am_i2l 71), (71, am_putJ live 1 1 74), (74, am_aload 0 75), (75, am_getR live 4 5 78), (78, am_aload 0 79), (79, am_getI live 4 16 82), (82, am_i2l 83), (83, am_putJ live 1 2 86), (86, am_aload 0 87), (87, am_getR live 4 5 90), (90, am_aload 0 91), (91, am_getR live 4 1 94), (94, am_iload 3 95), (95, am_const (.int 0) 96), (96, am_i2 (fun x y => x + y) 97), (97, am_ald live 0 98), (98, am_i2l 99), (99, am_putJ live 1 3 102), (102, am_aload 0 103), (103, am_getR live 4 5 106), (106, am_iload 2 107), (107, am_aload 0 108), (108, am_getR live 4 0 111), (111, am_getR live 0 4 114), (114, am_iload 1 115), (115, am_const (.int 2) 116), (116, am_callV live 3 2 TX3_at 119), (119, am_i2 (fun x y => x - y) 120), (120, am_i2l 121), (121, am_putJ live 1 4 124), (124, am_aload 0 125), (125, am_getR live 4 5 128), (128, am_aload 0 129), (129, am_getR live 4 2 132), (132, am_const (.int 0) 133), (133, am_iload 1 134), (134, am_i2 (fun x y => x + y) 135), (135, am_lald live 1 136), (136, am_putJ live 1 5 139), (139, am_aload 0 140), (140, am_getR live 4 5 143), (143, am_aload 0 144), (144, am_getI live 4 17 147), (147, am_i2l 148), (148, am_putJ live 1 6 151), (151, am_aload 4 153), (153, am_aload 0 154), (154, am_getR live 4 5 157), (157, am_aload 0 158), (158, am_getR live 4 6 161), (161, am_callV live 5 2 TE5_worked 164), (164, am_lstore 5 7 166), (166, am_const (.long 0) 167), (167, am_const (.long 500) 170), (170, am_lload 5 172), (172, am_mathl (fun x y => if y < x then y else x) 50 175), (175, am_mathl (fun x y => if y < x then x else y) 50 178), (178, am_l2i 179), (179, am_retI Ret)]
theorem koX4_rateOfE (live : am_E) (Ret : am_R) : ∀ q ∈ kX4_rateOfE live Ret, am_ok RX4 cX4_rateOf 7 (some .int) 2 50 live Ret q.1 q.2 :=
  am_kz dzX4_rateOf <|
  am_kd (fun d => ak_aload_n d rfl rfl) <|
  am_kd (fun d => ak_iload_n d rfl rfl) <|
  am_kd (fun d => ak_iload_n d rfl rfl) <|
  am_kd (fun d => ak_callV (C := RX4) (F := TX4) (N := 19) metX4_cellOf rfl ⟨rfl, hy_X4_cellOf⟩ (am_w5 wd_580 wd_582 wd_4 wd_60 wd_583) (by decide) d rfl) <|
  am_kd (fun d => ak_istore_n d rfl rfl) <|
  am_kd (fun d => ak_aload_n d rfl rfl) <|
  am_kd (fun d => ak_getR (C := RX4) (T := TX4) (N := 19) rfl inX4w (by decide) rfl rfl rfl wd_291 d rfl) <|
  am_kd (fun d => ak_getR (C := RX0) (T := TX0) (N := 13) rfl inX0w (by decide) rfl rfl rfl wd_214 d rfl) <|
  am_kd (fun d => ak_aload_n d rfl rfl) <|
  am_kd (fun d => ak_iload_n d rfl rfl) <|
  am_kd (fun d => ak_iload_n d rfl rfl) <|
  am_kd (fun d => ak_callV (C := RX4) (F := TX4) (N := 19) metX4_planIn rfl ⟨rfl, hy_X4_planIn⟩ (am_w5 wd_584 wd_586 wd_5 wd_60 wd_587) (by decide) d rfl) <|
  am_kd (fun d => ak_aald (t := 3) (fun _ => rfl) rfl d rfl) <|
  am_kd (fun d => ak_astore d rfl) <|
  am_kd (fun d => ak_aload d rfl) <|
  am_kd (fun d => ak_getI (C := RX5) (T := TX5) (N := 7) rfl inX5w (by decide) rfl rfl rfl wd_176 d rfl) <|
  am_kd (fun d => ak_iconst d (by decide +kernel) rfl) <|
  am_kd (fun d => ak_icmp_eq d (by decide +kernel) rfl) <|
  am_kd (fun d => ak_aload_n d rfl rfl) <|
  am_kd (fun d => ak_getR (C := RX4) (T := TX4) (N := 19) rfl inX4w (by decide) rfl rfl rfl wd_294 d rfl) <|
  am_kd (fun d => ak_iload_n d rfl rfl) <|
  am_kd (fun d => ak_iconst d (by decide +kernel) rfl) <|
  am_kd (fun d => ak_iadd d rfl) <|
  am_kd (fun d => ak_iald (t := 0) (fun _ => rfl) rfl d rfl) <|
  am_kd (fun d => ak_retI d) <|
  am_kd (fun d => ak_aload_n d rfl rfl) <|
  am_kd (fun d => ak_getR (C := RX4) (T := TX4) (N := 19) rfl inX4w (by decide) rfl rfl rfl wd_301 d rfl) <|
  am_kd (fun d => ak_aload_n d rfl rfl) <|
  am_kd (fun d => ak_getR (C := RX4) (T := TX4) (N := 19) rfl inX4w (by decide) rfl rfl rfl wd_294 d rfl) <|
  am_kd (fun d => ak_iload_n d rfl rfl) <|
  am_kd (fun d => ak_iconst d (by decide +kernel) rfl) <|
  am_kd (fun d => ak_iadd d rfl) <|
  am_kd (fun d => ak_iald (t := 0) (fun _ => rfl) rfl d rfl) <|
  am_kd (fun d => ak_i2l d rfl) <|
  am_kd (fun d => ak_putJ (C := RX1) (T := TX1) (N := 7) rfl inX1w tyX1_ok nmX1 (by decide) rfl rfl rfl rfl (by decide +kernel) wd_262 d rfl) <|
  am_kd (fun d => ak_aload_n d rfl rfl) <|
  am_kd (fun d => ak_getR (C := RX4) (T := TX4) (N := 19) rfl inX4w (by decide) rfl rfl rfl wd_301 d rfl) <|
  am_kd (fun d => ak_aload_n d rfl rfl) <|
  am_kd (fun d => ak_getR (C := RX4) (T := TX4) (N := 19) rfl inX4w (by decide) rfl rfl rfl wd_291 d rfl) <|
  am_kd (fun d => ak_getR (C := RX0) (T := TX0) (N := 13) rfl inX0w (by decide) rfl rfl rfl wd_201 d rfl) <|
  am_kd (fun d => ak_iload_n d rfl rfl) <|
  am_kd (fun d => ak_iald (t := 0) (fun _ => rfl) rfl d rfl) <|
  am_kd (fun d => ak_i2l d rfl) <|
  am_kd (fun d => ak_putJ (C := RX1) (T := TX1) (N := 7) rfl inX1w tyX1_ok nmX1 (by decide) rfl rfl rfl rfl (by decide +kernel) wd_264 d rfl) <|
  am_kd (fun d => ak_aload_n d rfl rfl) <|
  am_kd (fun d => ak_getR (C := RX4) (T := TX4) (N := 19) rfl inX4w (by decide) rfl rfl rfl wd_301 d rfl) <|
  am_kd (fun d => ak_aload_n d rfl rfl) <|
  am_kd (fun d => ak_getI (C := RX4) (T := TX4) (N := 19) rfl inX4w (by decide) rfl rfl rfl wd_313 d rfl) <|
  am_kd (fun d => ak_i2l d rfl) <|
  am_kd (fun d => ak_putJ (C := RX1) (T := TX1) (N := 7) rfl inX1w tyX1_ok nmX1 (by decide) rfl rfl rfl rfl (by decide +kernel) wd_266 d rfl) <|
  am_kd (fun d => ak_aload_n d rfl rfl) <|
  am_kd (fun d => ak_getR (C := RX4) (T := TX4) (N := 19) rfl inX4w (by decide) rfl rfl rfl wd_301 d rfl) <|
  am_kd (fun d => ak_aload_n d rfl rfl) <|
  am_kd (fun d => ak_getR (C := RX4) (T := TX4) (N := 19) rfl inX4w (by decide) rfl rfl rfl wd_294 d rfl) <|
  am_kd (fun d => ak_iload_n d rfl rfl) <|
  am_kd (fun d => ak_iconst d (by decide +kernel) rfl) <|
  am_kd (fun d => ak_iadd d rfl) <|
  am_kd (fun d => ak_iald (t := 0) (fun _ => rfl) rfl d rfl) <|
  am_kd (fun d => ak_i2l d rfl) <|
  am_kd (fun d => ak_putJ (C := RX1) (T := TX1) (N := 7) rfl inX1w tyX1_ok nmX1 (by decide) rfl rfl rfl rfl (by decide +kernel) wd_268 d rfl) <|
  am_kd (fun d => ak_aload_n d rfl rfl) <|
  am_kd (fun d => ak_getR (C := RX4) (T := TX4) (N := 19) rfl inX4w (by decide) rfl rfl rfl wd_301 d rfl) <|
  am_kd (fun d => ak_iload_n d rfl rfl) <|
  am_kd (fun d => ak_aload_n d rfl rfl) <|
  am_kd (fun d => ak_getR (C := RX4) (T := TX4) (N := 19) rfl inX4w (by decide) rfl rfl rfl wd_291 d rfl) <|
  am_kd (fun d => ak_getR (C := RX0) (T := TX0) (N := 13) rfl inX0w (by decide) rfl rfl rfl wd_206 d rfl) <|
  am_kd (fun d => ak_iload_n d rfl rfl) <|
  am_kd (fun d => ak_iconst d (by decide +kernel) rfl) <|
  am_kd (fun d => ak_callV (C := RX3) (F := TX3) (N := 3) metX3_at rfl ⟨rfl, hy_X3_at⟩ (am_w5 wd_502 wd_503 wd_504 wd_64 wd_505) (by decide) d rfl) <|
  am_kd (fun d => ak_isub d rfl) <|
  am_kd (fun d => ak_i2l d rfl) <|
  am_kd (fun d => ak_putJ (C := RX1) (T := TX1) (N := 7) rfl inX1w tyX1_ok nmX1 (by decide) rfl rfl rfl rfl (by decide +kernel) wd_270 d rfl) <|
  am_kd (fun d => ak_aload_n d rfl rfl) <|
  am_kd (fun d => ak_getR (C := RX4) (T := TX4) (N := 19) rfl inX4w (by decide) rfl rfl rfl wd_301 d rfl) <|
  am_kd (fun d => ak_aload_n d rfl rfl) <|
  am_kd (fun d => ak_getR (C := RX4) (T := TX4) (N := 19) rfl inX4w (by decide) rfl rfl rfl wd_296 d rfl) <|
  am_kd (fun d => ak_iconst d (by decide +kernel) rfl) <|
  am_kd (fun d => ak_iload_n d rfl rfl) <|
  am_kd (fun d => ak_iadd d rfl) <|
  am_kd (fun d => ak_lald (t := 1) (fun _ => rfl) rfl d rfl) <|
  am_kd (fun d => ak_putJ (C := RX1) (T := TX1) (N := 7) rfl inX1w tyX1_ok nmX1 (by decide) rfl rfl rfl rfl (by decide +kernel) wd_272 d rfl) <|
  am_kd (fun d => ak_aload_n d rfl rfl) <|
  am_kd (fun d => ak_getR (C := RX4) (T := TX4) (N := 19) rfl inX4w (by decide) rfl rfl rfl wd_301 d rfl) <|
  am_kd (fun d => ak_aload_n d rfl rfl) <|
  am_kd (fun d => ak_getI (C := RX4) (T := TX4) (N := 19) rfl inX4w (by decide) rfl rfl rfl wd_314 d rfl) <|
  am_kd (fun d => ak_i2l d rfl) <|
  am_kd (fun d => ak_putJ (C := RX1) (T := TX1) (N := 7) rfl inX1w tyX1_ok nmX1 (by decide) rfl rfl rfl rfl (by decide +kernel) wd_274 d rfl) <|
  am_kd (fun d => ak_aload d rfl) <|
  am_kd (fun d => ak_aload_n d rfl rfl) <|
  am_kd (fun d => ak_getR (C := RX4) (T := TX4) (N := 19) rfl inX4w (by decide) rfl rfl rfl wd_301 d rfl) <|
  am_kd (fun d => ak_aload_n d rfl rfl) <|
  am_kd (fun d => ak_getR (C := RX4) (T := TX4) (N := 19) rfl inX4w (by decide) rfl rfl rfl wd_302 d rfl) <|
  am_kd (fun d => ak_callV (C := RX5) (F := TX5) (N := 7) metX5_workedE rfl ⟨rfl, hy_X5_worked⟩ (am_w5 wd_592 wd_593 wd_594 wd_65 wd_595) (by decide) d rfl) <|
  am_kd (fun d => ak_lstore d rfl) <|
  am_kd (fun d => ak_lconst d (by decide +kernel) rfl) <|
  am_kd (fun d => ak_ldc2 wd_606 d rfl) <|
  am_kd (fun d => ak_lload d rfl) <|
  am_kd (fun d => ak_lmin (am_w4 wd_607 wd_608 wd_68 wd_609) (by decide) d rfl) <|
  am_kd (fun d => ak_lmax (am_w4 wd_610 wd_611 wd_68 wd_612) (by decide) d rfl) <|
  am_kd (fun d => ak_l2i d rfl) <|
  am_kd (fun d => ak_retI d) <| am_kdn
def TE4_rateOf : am_T := fun live as M R => match as with
  | [.ref n, .int l, .int y] => am_mn live ∧ n = 4 ∧ am_in l 30 ∧ am_in y 40 ∧ g_rI M ∧ t_b M 20 ∧ ∀ M', c_lk M M' → R (some (.int (c_rt M l y (M.2 6 l.toNatClampNeg)))) M'
  | _ => False
set_option maxRecDepth 100000 in
set_option maxHeartbeats 4000000 in
theorem metX4_rateOfE : am_Met yX4_rateOf cX4_rateOf 7 (some .int) (2) (50) TE4_rateOf := by
  refine am_met (own := RX4) (by decide +kernel) rfl kX4_rateOfE koX4_rateOfE 150 (fun _ _ _ _ _ => none) (fun live as M Ret h => ?_) (fun _ _ _ _ _ _ _ _ hI => by cases hI)
  unfold TE4_rateOf at h
  split at h
  · next n l y =>
    refine ⟨Nat.le_of_ble_eq_true rfl, ?_⟩
    change am_wp _ _ _ _ [(0, Value.ref n), (1, Value.int l), (2, Value.int y)] _ _
    obtain ⟨hmn, rfl, hl, hy, hr, htb, h⟩ := h
    have hp := hr.pln hl hy
    obtain ⟨t, s, c, h2, k1, k2, k3, h1, ht, et, ess, ecc, k4⟩ := g_txt hmn hp
    have hmn2 := hmn
    obtain ⟨i1, i2, rfl⟩ := hmn2
    have tx := htb.v (g_cl hp)
    rw [show 20 + (19 + 3 * (am_pln M l y).toNatClampNeg) = t by omega, show 20 + (20 + 3 * (am_pln M l y).toNatClampNeg) = s by omega, show 20 + (21 + 3 * (am_pln M l y).toNatClampNeg) = c by omega] at tx
    have e0 := am_celly hy hp (k := 0) ⟨by decide, by decide⟩
    have e2 := am_celly hy hp (k := 2) ⟨by decide, by decide⟩
    have f0 := g_ix hl 0 0 rfl (by decide)
    have l5 : am_len 5 = 1200 := rfl
    have l6 : am_len 6 = 180 := rfl
    have l30 : am_len 30 = 40 := rfl
    have l38 : am_len 38 = 5 := rfl
    have k0 : Int32.toInt 0 = 0 := rfl
    have k22 : Int32.toInt 2 = 2 := rfl
    have hy1 := hy.1
    have hy2 := hy.2
    have hp1 := hp.1
    have hp2 := hp.2
    obtain ⟨-, tx1, tx2⟩ := tx
    unfold c_rt at h
    rw [show 39 + 3 * (am_pln M l y).toNatClampNeg = t by omega, show 40 + 3 * (am_pln M l y).toNatClampNeg = s by omega, ← am_ix0 (l := l)] at h
    by_cases zw : M.1 t 6 = -1
    · skip
      repeat' (first | (with_reducible exact hmn) | (with_reducible exact hl) | (with_reducible exact hy) | (with_reducible exact h1) | (with_reducible exact h2) | (refine Exists.intro _ (And.intro h2 ?_)) | apply And.intro | exact rfl | (intro hx; with_reducible exact absurd zw hx) | intro hx | (refine Exists.intro _ (And.intro rfl ?_)) | (refine am_tP_in k1 k2 k3 ?_) | ((with_reducible change _ = true); simp only [h1, h2, Bool.true_and]; rfl))
      all_goals try first | (with_reducible change am_tI _ _) | (change Ret _ _) | (change Ret _ _ _) | (change Exists _)
      all_goals try dsimp only at *
      all_goals try (with_reducible exact absurd ‹(1000 : Int64) = 0› am_z1000)
      all_goals first
        | omega
        | (rw [l5]; omega)
        | (rw [l38]; omega)
        | (rw [l30]; omega)
        | (with_reducible exact f0.1)
        | (rw [l6]; exact f0.2.1)
        | (with_reducible exact k4 _ hr.t)
        | exact f0.1
        | exact k4 _ hr.t
        | exact (fun q => ⟨_, q.2 _⟩) (tx1 zw _).choose_spec
        | skip
      all_goals
        rename_i v N hv
        have hst := hx
        have hv2 : w_ev (c_fa M l y (M.2 6 (0 + l).toNatClampNeg)) (M.1 c) 0 (t_c M t) [] = [v] := hv
        obtain ⟨v', q1, q2⟩ := tx1 zw (c_fa M l y (M.2 6 (0 + l).toNatClampNeg))
        rw [q2] at hv2
        have ev : v' = v := (List.cons.inj hv2).1
        subst ev
        have hh := h N (c_lk.st (((((((c_lk.rf.w9).w9).w9).w9).w9).w9).w9) hst)
        unfold z_rt at hh
        rw [q1] at hh
        exact hh
    · have hh := h M c_lk.rf
      unfold z_rt at hh
      rw [tx2 zw] at hh
      repeat' (first | (with_reducible exact hmn) | (with_reducible exact hl) | (with_reducible exact hy) | (with_reducible exact h1) | (with_reducible exact h2) | (refine Exists.intro _ (And.intro h2 ?_)) | apply And.intro | exact rfl | (intro hx; with_reducible exact absurd hx zw) | intro hx | (refine Exists.intro _ (And.intro rfl ?_)) | (refine am_tP_in k1 k2 k3 ?_) | ((with_reducible change _ = true); simp only [h1, h2, Bool.true_and]; rfl))
      all_goals try first | (with_reducible change am_tI _ _) | (change Ret _ _) | (change Ret _ _ _) | (change Exists _)
      all_goals try dsimp only at *
      all_goals try (with_reducible exact absurd ‹(1000 : Int64) = 0› am_z1000)
      all_goals first
        | omega
        | (rw [l5]; omega)
        | (rw [l38]; omega)
        | (with_reducible exact hh)
        | exact hh
  · exact h.elim
/-- the loans of the run -/
def c_ms (M : am_M) (n : Nat) : List Int32 := (List.range n).map (fun i => M.1 7 i)
def c_qs (M : am_M) (n : Nat) : List Int32 := (List.range n).map (fun i => M.1 8 i)
theorem c_ms_s (M : am_M) (n : Nat) : c_ms M (n + 1) = c_ms M n ++ [M.1 7 n] := by
  unfold c_ms
  rw [List.range_succ, List.map_append]
  rfl
theorem c_qs_s (M : am_M) (n : Nat) : c_qs M (n + 1) = c_qs M n ++ [M.1 8 n] := by
  unfold c_qs
  rw [List.range_succ, List.map_append]
  rfl
abbrev c_sz (M : am_M) : Nat := (M.1 4 7).toNatClampNeg
/-- a kind of sums of all loans together -/
def z_tog (s : Nat → Int64) (w : Nat) (ms : List Int32) : Int64 := ms.foldl (fun v l => v + s (w + l.toNatClampNeg)) 0
def TE4_together : am_T := fun live as M R => match as with
  | [.ref n, .int w] => am_mn live ∧ n = 4 ∧ am_in w 6 ∧ g_rI M ∧ R (some (.long (z_tog (M.2 6) (30 * w.toNatClampNeg) (c_ms M (c_sz M))))) M
  | _ => False
def JE4_together : am_E → List Value → am_M → am_R → am_inv := fun live as M0 _ pc => match as with
  | [.ref n, .int w] => (match pc with
    | 5 => some ([0, 1, 2, 4], fun k L st M => ∃ (v : Int64) (i : Int32), L = [(0, .ref 4), (1, .int w), (2, .long v), (4, .int i)] ∧ st = [] ∧ k = ((31 - i.toInt).toNat, 0) ∧ (0 ≤ i.toInt ∧ i.toInt ≤ (M0.1 4 7).toInt) ∧ v = z_tog (M0.2 6) (30 * w.toNatClampNeg) (c_ms M0 i.toNatClampNeg) ∧ M = M0)
    | _ => none)
  | _ => none
set_option maxRecDepth 100000 in
set_option maxHeartbeats 4000000 in
theorem metX4_togetherE : am_Met yX4_together cX4_together 5 (some .long) (0) (0) TE4_together := by
  refine am_met (own := RX4) (by decide +kernel) rfl kX4_together koX4_together 100 JE4_together ?_ ?_
  · intro live as M Ret h
    unfold TE4_together at h
    split at h
    · next n w =>
      refine ⟨Nat.le_of_ble_eq_true rfl, ?_⟩
      change am_wp _ _ _ _ [(0, Value.ref n), (1, Value.int w)] _ _
      obtain ⟨hmn, rfl, hw, hr, h⟩ := h
      have q := hr.s.sz
      repeat' (first | apply And.intro | exact rfl | intro hx | (refine Exists.intro _ (And.intro rfl ?_)))
      all_goals try first | (with_reducible change am_tI _ _) | (change Ret _ _) | (change Ret _ _ _) | (change Exists _)
      all_goals try dsimp only at *
      all_goals try (with_reducible exact absurd ‹(1000 : Int64) = 0› am_z1000)
      exact ⟨_, _, _, rfl, rfl, rfl, ⟨by decide, q.1⟩, rfl, rfl⟩
    · exact h.elim
  · intro live as M0 Ret h k pc I hI L st M hi
    unfold TE4_together at h
    split at h
    · next n w =>
      obtain ⟨hmn, rfl, hw, hr, h⟩ := h
      obtain ⟨i1, i2, rfl⟩ := hmn
      change (match pc with | 5 => _ | _ => none) = _ at hI
      split at hI
      · cases hI
        obtain ⟨v, i, rfl, rfl, rfl, ⟨e1, e2⟩, ev, rfl⟩ := hi
        have q := hr.s.sz
        have ci := i_clamp e1
        have cs : (c_sz M : Int) = (M.1 4 7).toInt := i_clamp q.1
        by_cases hz : M.1 4 7 ≤ i
        · have hz2 := hz
          simp only [i_le] at hz2
          rw [show i.toNatClampNeg = c_sz M by omega] at ev
          rw [← ev] at h
          repeat' (first | apply And.intro | exact rfl | (intro hx; with_reducible exact absurd hz hx) | intro hx | (refine Exists.intro _ (And.intro rfl ?_)))
          all_goals try first | (with_reducible change am_tI _ _) | (change Ret _ _) | (change Ret _ _ _) | (change Exists _)
          all_goals try dsimp only at *
          all_goals try (with_reducible exact absurd ‹(1000 : Int64) = 0› am_z1000)
          exact h
        · have hz2 := hz
          simp only [i_le] at hz2
          have ha : am_in i 30 := ⟨e1, by omega⟩
          have hb := hr.s.mi (g_cl ha)
          have l6 : am_len 6 = 180 := rfl
          have l7 : am_len 7 = 30 := rfl
          have hi := i_inc (x := i) (by omega) (by omega)
          have ci1 := i_clamp (x := i + 1) (by omega)
          have e30 := i_mul (x := w) (y := 30) (by simp only [Int32.reduceToInt]; have := hw.1; have := hw.2; omega) (by simp only [Int32.reduceToInt]; have := hw.1; have := hw.2; omega)
          simp only [Int32.reduceToInt] at e30
          have hw1 := hw.1
          have hw2 := hw.2
          have hb1 := hb.1
          have hb2 := hb.2
          have e := i_add (x := w * 30) (y := M.1 7 i.toNatClampNeg) (by rw [e30]; omega) (by rw [e30]; omega)
          have c1 := i_clamp (x := w * 30 + M.1 7 i.toNatClampNeg) (by omega)
          have c2 := i_clamp hw1
          have c3 := i_clamp hb1
          have nx : v + M.2 6 (w * 30 + M.1 7 i.toNatClampNeg).toNatClampNeg = z_tog (M.2 6) (30 * w.toNatClampNeg) (c_ms M (i + 1).toNatClampNeg) := by
            rw [show (i + 1).toNatClampNeg = i.toNatClampNeg + 1 by omega, c_ms_s]
            unfold z_tog
            rw [List.foldl_append]
            show _ = List.foldl _ 0 (c_ms M i.toNatClampNeg) + M.2 6 (30 * w.toNatClampNeg + (M.1 7 i.toNatClampNeg).toNatClampNeg)
            rw [ev, show (w * 30 + M.1 7 i.toNatClampNeg).toNatClampNeg = 30 * w.toNatClampNeg + (M.1 7 i.toNatClampNeg).toNatClampNeg by omega]
            rfl
          repeat' (first | apply And.intro | exact rfl | (intro hx; with_reducible exact absurd hx hz) | intro hx | (refine Exists.intro _ (And.intro rfl ?_)))
          all_goals try first | (with_reducible change am_tI _ _) | (change Ret _ _) | (change Ret _ _ _) | (change Exists _)
          all_goals try dsimp only at *
          all_goals try (with_reducible exact absurd ‹(1000 : Int64) = 0› am_z1000)
          all_goals first
            | omega
            | (rw [l7]; exact ha.2)
            | (rw [l6]; omega)
            | skip
          exact ⟨_, am_lt_l (by omega), _, i + 1, rfl, rfl, rfl, ⟨by omega, by omega⟩, nx, rfl⟩
      · cases hI
    · exact h.elim
end
