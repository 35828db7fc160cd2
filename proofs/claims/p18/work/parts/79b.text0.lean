/-! texts, pure: the reference's reader as a machine of lists (last first) -/
def w_b (b : Bool) : Int64 := if b = true then 1 else 0
/-- a value comes: the signs ahead of it work -/
def w_lay : List Int32 → Int64 → List Int64 → List Int32 × List Int64
  | [], x, V => ([], x :: V)
  | c :: W, x, V => if c = 1 then w_lay W (if x = 0 then 1 else 0) V else if c = 2 then w_lay W (-x) V else (c :: W, x :: V)
def w_red (k : Int32) : List Int32 → List Int64 → List Int32 × List Int64
  | c :: W, b :: a :: V => if k ≤ r_clo c then w_red k W (am_join c a b :: V) else (c :: W, b :: a :: V)
  | [], V => ([], V)
  | c :: W, V => (c :: W, V)
def w_cho : List Int32 → List Int64 → List Int32 × List Int64
  | c :: W, z :: y :: x :: V => if c = 58 then w_cho W ((if x ≠ 0 then y else z) :: V) else (c :: W, z :: y :: x :: V)
  | [], V => ([], V)
  | c :: W, V => (c :: W, V)
def w_chs (W : List Int32) (V : List Int64) : List Int32 × List Int64 := w_cho (w_red 2 W V).1 (w_red 2 W V).2
def w_hdc : List Int32 → Int32
  | [] => 0
  | c :: _ => c
def w_beh (c : Int32) (W : List Int32) (V : List Int64) : Option (List Int32 × List Int64) :=
  if 4 < (r_clo c).toInt then some (c :: (w_red (r_clo c) W V).1, (w_red (r_clo c) W V).2)
  else if r_clo c = 4 then (if r_clo (w_hdc (w_red 5 W V).1) = 4 then none else some (c :: (w_red 5 W V).1, (w_red 5 W V).2))
  else if 0 < (r_clo c).toInt then some (c :: (w_red (r_clo c) W V).1, (w_red (r_clo c) W V).2)
  else if c = 63 then some (c :: (w_red 2 W V).1, (w_red 2 W V).2)
  else if c = 58 then (if w_hdc (w_chs W V).1 = 63 then some (58 :: (w_chs W V).1.tail, (w_chs W V).2) else none)
  else if c = 41 then (if w_hdc (w_chs W V).1 = 40 then (match (w_chs W V).2 with
    | v :: V' => some (w_lay (w_chs W V).1.tail v V')
    | [] => none) else none)
  else none
def w_dgt (c : Int32) : Bool := decide (48 ≤ c.toInt ∧ c.toInt ≤ 57)
/-- a number read: the place behind it and what it says; none: it is too long -/
def w_dig (σ : Nat → Int32) (n : Nat) : Nat → Nat → Nat → Int → Option (Nat × Int)
  | 0, _, _, _ => none
  | u + 1, i, k, v => if i < n ∧ w_dgt (σ i) = true then (if k = 6 then none else w_dig σ n u (i + 1) (k + 1) (10 * v + ((σ i).toInt - 48))) else some (i, v)
def w_opn (W : List Int32) : Nat := W.countP (fun c => decide (c = 40))
abbrev w_S := Nat × Bool × List Int32 × List Int64
/-- one step of the reader, at a place in the text -/
def w_stp (fa : Int32 → Int64) (σ : Nat → Int32) (n : Nat) (i : Nat) (due : Bool) (W : List Int32) (V : List Int64) : Sum w_S Int :=
  if σ i = 32 then .inl (i + 1, due, W, V)
  else if due = true ∧ w_dgt (σ i) = true then (match w_dig σ n 8 i 0 0 with
    | none => .inr (10 * (i : Int) + 2)
    | some (j, v) => .inl (j, false, w_lay W (Int64.ofInt v) V))
  else if due = true ∧ 0 ≤ (r_fact (σ i)).toInt then .inl (i + 1, false, w_lay W (fa (σ i)) V)
  else if due = true ∧ σ i = 40 then (if w_opn W = 8 then .inr (10 * (i : Int) + 3) else .inl (i + 1, true, 40 :: W, V))
  else if due = true ∧ (σ i = 33 ∨ σ i = 45) then .inl (i + 1, true, (if σ i = 33 then 1 else 2) :: W, V)
  else if due = false then (match w_beh (σ i) W V with
    | some (W', V') => .inl (i + 1, !(decide (σ i = 41)), W', V')
    | none => .inr (10 * (i : Int) + 1))
  else .inr (10 * (i : Int) + 1)
def w_end (n : Nat) (due : Bool) (W : List Int32) (V : List Int64) : Sum Int64 Int :=
  if due = true then .inr (10 * (n : Int) + 1) else (match w_chs W V with
    | ([], v :: _) => .inl v
    | _ => .inr (10 * (n : Int) + 1))
def w_run (fa : Int32 → Int64) (σ : Nat → Int32) (n : Nat) : Nat → Nat → Bool → List Int32 → List Int64 → Sum Int64 Int
  | 0, _, due, W, V => w_end n due W V
  | u + 1, i, due, W, V => if i < n then (match w_stp fa σ n i due W V with
    | .inl (j, d, W', V') => w_run fa σ n u j d W' V'
    | .inr f => .inr f) else w_end n due W V
theorem w_dig_ge {σ : Nat → Int32} {n : Nat} : ∀ {u i k : Nat} {v : Int} {j : Nat} {w : Int}, w_dig σ n u i k v = some (j, w) → i ≤ j
  | 0, _, _, _, _, _, h => by cases h
  | u + 1, i, k, v, j, w, h => by
    unfold w_dig at h
    split at h
    · split at h
      · cases h
      · have := w_dig_ge h
        omega
    · cases h
      exact Nat.le_refl _
theorem w_stp_gt {fa : Int32 → Int64} {σ : Nat → Int32} {n i : Nat} {due : Bool} {W : List Int32} {V : List Int64} {S : w_S} (hi : i < n) (h : w_stp fa σ n i due W V = .inl S) : i < S.1 := by
  unfold w_stp at h
  split at h
  · cases h; exact Nat.lt_succ_self _
  · split at h
    · next hd =>
      split at h
      · cases h
      · next j v e =>
        cases h
        show i < j
        unfold w_dig at e
        rw [if_pos ⟨hi, hd.2⟩, if_neg (by decide)] at e
        have := w_dig_ge e
        omega
    · split at h
      · cases h; exact Nat.lt_succ_self _
      · split at h
        · split at h
          · cases h
          · cases h; exact Nat.lt_succ_self _
        · split at h
          · cases h; exact Nat.lt_succ_self _
          · split at h
            · split at h
              · cases h; exact Nat.lt_succ_self _
              · cases h
            · cases h
/-- enough steps are enough -/
theorem w_run_eq {fa : Int32 → Int64} {σ : Nat → Int32} {n : Nat} : ∀ {u u' i : Nat} {due : Bool} {W : List Int32} {V : List Int64}, n ≤ i + u → n ≤ i + u' → w_run fa σ n u i due W V = w_run fa σ n u' i due W V
  | 0, 0, _, _, _, _, _, _ => rfl
  | 0, u' + 1, i, due, W, V, h1, _ => by
    unfold w_run
    rw [if_neg (by omega)]
  | u + 1, 0, i, due, W, V, _, h2 => by
    unfold w_run
    rw [if_neg (by omega)]
  | u + 1, u' + 1, i, due, W, V, h1, h2 => by
    unfold w_run
    by_cases z : i < n
    · rw [if_pos z, if_pos z]
      cases e : w_stp fa σ n i due W V with
      | inr f => rfl
      | inl S =>
        obtain ⟨j, d, W', V'⟩ := S
        have := w_stp_gt z e
        dsimp only at this ⊢
        exact w_run_eq (by omega) (by omega)
    · rw [if_neg z, if_neg z]
/-- what comes of it from a state on -/
def w_res (fa : Int32 → Int64) (σ : Nat → Int32) (n : Nat) (i : Nat) (due : Bool) (W : List Int32) (V : List Int64) : Sum Int64 Int := w_run fa σ n (n - i) i due W V
theorem w_res_s {fa : Int32 → Int64} {σ : Nat → Int32} {n i j : Nat} {due d : Bool} {W W' : List Int32} {V V' : List Int64} (hi : i < n) (h : w_stp fa σ n i due W V = .inl (j, d, W', V')) : w_res fa σ n i due W V = w_res fa σ n j d W' V' := by
  have hj : i < j := w_stp_gt hi h
  unfold w_res
  rw [show n - i = (n - i - 1) + 1 by omega]
  conv => lhs; unfold w_run
  rw [if_pos hi, h]
  exact w_run_eq (by omega) (by omega)
theorem w_res_f {fa : Int32 → Int64} {σ : Nat → Int32} {n i : Nat} {due : Bool} {W : List Int32} {V : List Int64} {f : Int} (hi : i < n) (h : w_stp fa σ n i due W V = .inr f) : w_res fa σ n i due W V = .inr f := by
  unfold w_res
  rw [show n - i = (n - i - 1) + 1 by omega]
  conv => lhs; unfold w_run
  rw [if_pos hi, h]
theorem w_res_e {fa : Int32 → Int64} {σ : Nat → Int32} {n i : Nat} {due : Bool} {W : List Int32} {V : List Int64} (hi : n ≤ i) : w_res fa σ n i due W V = w_end n due W V := by
  unfold w_res
  rw [show n - i = 0 by omega]
  rfl
/-- blanks are passed -/
theorem w_res_b {fa : Int32 → Int64} {σ : Nat → Int32} {n : Nat} {due : Bool} {W : List Int32} {V : List Int64} : ∀ (k i : Nat), i + k ≤ n → (∀ j, i ≤ j → j < i + k → σ j = 32) → w_res fa σ n i due W V = w_res fa σ n (i + k) due W V
  | 0, _, _, _ => rfl
  | k + 1, i, h1, h2 => by
    rw [w_res_s (j := i + 1) (d := due) (W' := W) (V' := V) (by omega) (by unfold w_stp; rw [if_pos (h2 i (by omega) (by omega))]), w_res_b k (i + 1) (by omega) (fun j a b => h2 j (by omega) (by omega)), show i + 1 + k = i + (k + 1) by omega]
/-- the sign on top lets reducing stop -/
def w_hd (W : List Int32) (k : Int) : Prop := match W with
  | [] => True
  | c :: _ => (r_clo c).toInt < k ∧ c ≠ 1 ∧ c ≠ 2
theorem w_red_hd {W : List Int32} {k : Int32} {V : List Int64} (h : w_hd W k.toInt) : w_red k W V = (W, V) := by
  unfold w_red
  split
  · next c W b a V => rw [if_neg (fun q => by have := h.1; rw [i_le] at q; omega)]
  · rfl
  · rfl
theorem w_lay_hd {W : List Int32} {k : Int} {v : Int64} {V : List Int64} (h : w_hd W k) : w_lay W v V = (W, v :: V) := by
  unfold w_lay
  split
  · rfl
  · next c W => rw [if_neg h.2.1, if_neg h.2.2]
theorem w_red_red {m k : Int32} (h : m.toInt ≤ k.toInt) : ∀ (W : List Int32) (V : List Int64), w_red m W V = w_red m (w_red k W V).1 (w_red k W V).2
  | [], V => by
    have e : w_red k [] V = ([], V) := by unfold w_red; rfl
    rw [e]
  | c :: W, [] => by
    have e : w_red k (c :: W) [] = (c :: W, []) := by unfold w_red; rfl
    rw [e]
  | c :: W, [b] => by
    have e : w_red k (c :: W) [b] = (c :: W, [b]) := by unfold w_red; rfl
    rw [e]
  | c :: W, b :: a :: V => by
    by_cases z : k ≤ r_clo c
    · have e : w_red k (c :: W) (b :: a :: V) = w_red k W (am_join c a b :: V) := by
        conv => lhs; unfold w_red
        rw [if_pos z]
      have e2 : w_red m (c :: W) (b :: a :: V) = w_red m W (am_join c a b :: V) := by
        conv => lhs; unfold w_red
        rw [if_pos (by rw [i_le] at z ⊢; omega)]
      rw [e, e2]
      exact w_red_red h W _
    · have e : w_red k (c :: W) (b :: a :: V) = (c :: W, b :: a :: V) := by
        conv => lhs; unfold w_red
        rw [if_neg z]
      rw [e]
theorem w_red_y {k c : Int32} {W : List Int32} {a b : Int64} {V : List Int64} (h : k ≤ r_clo c) : w_red k (c :: W) (b :: a :: V) = w_red k W (am_join c a b :: V) := by
  conv => lhs; unfold w_red
  rw [if_pos h]
theorem w_red_to {k m : Int32} {W W0 : List Int32} {V V0 : List Int64} (h : w_red k W V = (W0, V0)) (hm : m.toInt ≤ k.toInt) : w_red m W V = w_red m W0 V0 := by
  rw [w_red_red hm, h]
theorem w_cho_hd {W : List Int32} {V : List Int64} (h : w_hdc W ≠ 58) : w_cho W V = (W, V) := by
  unfold w_cho
  split
  · next c W z y x V => rw [if_neg (show c ≠ 58 from h)]
  · rfl
  · rfl
theorem w_cho_y {W : List Int32} {x y z : Int64} {V : List Int64} : w_cho (58 :: W) (z :: y :: x :: V) = w_cho W ((if x ≠ 0 then y else z) :: V) := by
  conv => lhs; unfold w_cho
  rw [if_pos rfl]
/-- the signs ahead of a value, from a place on -/
def w_un (σ : Nat → Int32) (b : Nat) : Nat → List Int32
  | 0 => []
  | k + 1 => if σ (b + k) = 33 then 1 :: w_un σ b k else if σ (b + k) = 45 then 2 :: w_un σ b k else w_un σ b k
def w_ap : List Int32 → Int64 → Int64
  | [], x => x
  | c :: U, x => w_ap U (if c = 1 then (if x = 0 then 1 else 0) else -x)
theorem w_un_in {σ : Nat → Int32} {b : Nat} : ∀ {k : Nat}, ∀ c ∈ w_un σ b k, c = 1 ∨ c = 2
  | 0, c, h => by cases h
  | k + 1, c, h => by
    unfold w_un at h
    split at h
    · rcases List.mem_cons.mp h with q | q
      · exact Or.inl q
      · exact w_un_in c q
    · split at h
      · rcases List.mem_cons.mp h with q | q
        · exact Or.inr q
        · exact w_un_in c q
      · exact w_un_in c h
theorem w_lay_un {W : List Int32} {V : List Int64} : ∀ {U : List Int32} {x : Int64}, (∀ c ∈ U, c = 1 ∨ c = 2) → w_lay (U ++ W) x V = w_lay W (w_ap U x) V
  | [], _, _ => rfl
  | c :: U, x, h => by
    have h1 := h c List.mem_cons_self
    have h2 : ∀ c ∈ U, c = 1 ∨ c = 2 := fun d hd => h d (List.mem_cons_of_mem _ hd)
    have e : w_lay ((c :: U) ++ W) x V = w_lay (U ++ W) (if c = 1 then (if x = 0 then 1 else 0) else -x) V := by
      show w_lay (c :: (U ++ W)) x V = _
      conv => lhs; unfold w_lay
      rcases h1 with rfl | rfl
      · rw [if_pos rfl, if_pos rfl]
      · rw [if_neg (by decide), if_pos rfl, if_neg (by decide)]
    rw [e, w_lay_un h2]
    rfl
theorem w_opn_un {W : List Int32} : ∀ {U : List Int32}, (∀ c ∈ U, c = 1 ∨ c = 2) → w_opn (U ++ W) = w_opn W
  | [], _ => rfl
  | c :: U, h => by
    have h1 := h c List.mem_cons_self
    have h2 : ∀ c ∈ U, c = 1 ∨ c = 2 := fun d hd => h d (List.mem_cons_of_mem _ hd)
    have e : w_opn ((c :: U) ++ W) = w_opn (U ++ W) := by
      show List.countP _ (c :: (U ++ W)) = _
      rw [List.countP_cons_of_neg (by rcases h1 with rfl | rfl <;> decide)]
      rfl
    rw [e, w_opn_un h2]
theorem w_opn_c {c : Int32} {W : List Int32} (h : c ≠ 40) : w_opn (c :: W) = w_opn W := by
  unfold w_opn
  rw [List.countP_cons_of_neg (by simpa using h)]
theorem w_opn_p {W : List Int32} : w_opn (40 :: W) = w_opn W + 1 := by
  unfold w_opn
  rw [List.countP_cons_of_pos (by decide)]
/-- what a code does to the stack -/
def w_ex (fa : Int32 → Int64) (c : Int32) (st : List Int64) : List Int64 :=
  if 0 ≤ c.toInt then Int64.ofInt c.toInt :: st
  else if am_ops (-c) = 0 then fa (-c) :: st
  else if am_ops (-c) = 1 then (match st with
    | x :: r => (if c = -33 then (if x = 0 then 1 else 0) else -x) :: r
    | r => 0 :: r)
  else if am_ops (-c) = 2 then (match st with
    | b :: a :: r => am_join (-c) a b :: r
    | r => r)
  else (match st with
    | z :: y :: x :: r => (if x ≠ 0 then y else z) :: r
    | r => r)
/-- codes from a place on, so many -/
def w_ev (fa : Int32 → Int64) (cd : Nat → Int32) (b : Nat) : Nat → List Int64 → List Int64
  | 0, st => st
  | k + 1, st => w_ex fa (cd (b + k)) (w_ev fa cd b k st)
theorem w_ev_cg {fa : Int32 → Int64} {cd cd' : Nat → Int32} {b : Nat} : ∀ {k : Nat} {st : List Int64}, (∀ j, b ≤ j → j < b + k → cd' j = cd j) → w_ev fa cd' b k st = w_ev fa cd b k st
  | 0, _, _ => rfl
  | k + 1, st, h => by
    show w_ex fa (cd' (b + k)) (w_ev fa cd' b k st) = w_ex fa (cd (b + k)) (w_ev fa cd b k st)
    rw [h (b + k) (by omega) (by omega), w_ev_cg (fun j a c => h j a (by omega))]
theorem w_ev_add {fa : Int32 → Int64} {cd : Nat → Int32} {b k : Nat} : ∀ {m : Nat} {st : List Int64}, w_ev fa cd b (k + m) st = w_ev fa cd (b + k) m (w_ev fa cd b k st)
  | 0, _ => rfl
  | m + 1, st => by
    show w_ex fa (cd (b + (k + m))) (w_ev fa cd b (k + m) st) = w_ex fa (cd (b + k + m)) (w_ev fa cd (b + k) m (w_ev fa cd b k st))
    rw [w_ev_add, Nat.add_assoc]
