/-! helpers for the conditions that come out -/
theorem i_lt (x y : Int32) : x < y ↔ x.toInt < y.toInt := Int32.lt_iff_toInt_lt
theorem i_le (x y : Int32) : x ≤ y ↔ x.toInt ≤ y.toInt := Int32.le_iff_toInt_le
theorem i_eq (x y : Int32) : x = y ↔ x.toInt = y.toInt := Int32.toInt_inj.symm
theorem am_in_of {j : Int32} {n : Nat} (h : n < 100000) (h1 : ¬ j < 0) (h2 : ¬ Int32.ofNat n ≤ j) : am_in j n := by
  have e : (Int32.ofNat n).toInt = (n : Int) := Int32.toInt_ofNat_small (by omega)
  rw [i_lt, Int32.toInt_zero] at h1
  rw [i_le, e] at h2
  exact ⟨by omega, by omega⟩
theorem am_in_no1 {j : Int32} {n : Nat} (h1 : j < 0) : ¬ am_in j n := by
  rw [i_lt, Int32.toInt_zero] at h1
  exact fun q => by have := q.1; omega
theorem am_in_no2 {j : Int32} {n : Nat} (h : n < 100000) (h2 : Int32.ofNat n ≤ j) : ¬ am_in j n := by
  have e : (Int32.ofNat n).toInt = (n : Int) := Int32.toInt_ofNat_small (by omega)
  rw [i_le, e] at h2
  exact fun q => by have := q.2; omega
def am_at (f : Nat → Int32) (n : Nat) (i : Int32) : Int32 := if 0 ≤ i.toInt ∧ i.toInt < (n : Int) then f i.toNatClampNeg else -1
theorem am_at_in {f : Nat → Int32} {n : Nat} {i : Int32} (h : am_in i n) : am_at f n i = f i.toNatClampNeg := if_pos h
theorem am_at_no {f : Nat → Int32} {n : Nat} {i : Int32} (h : ¬ am_in i n) : am_at f n i = -1 := if_neg h
/-- a store that may be left out -/
def am_wIc (q : Prop) [Decidable q] (M : am_M) (n k : Nat) (v : Int32) : am_M := (fun a b => if q ∧ a = n ∧ b = k then v else M.1 a b, M.2)
theorem am_wIc_t {q : Prop} [Decidable q] {M : am_M} {n k : Nat} {v : Int32} (h : q) : am_wIc q M n k v = am_wI M n k v := by
  unfold am_wIc am_wI
  simp only [h, true_and]
theorem am_wIc_f {q : Prop} [Decidable q] {M : am_M} {n k : Nat} {v : Int32} (h : ¬ q) : am_wIc q M n k v = M := by
  unfold am_wIc
  simp only [h, false_and, if_false]
/-- a stretch of an array laid with one number -/
def am_lay (M : am_M) (n : Nat) (lo hi : Int) (v : Int32) : am_M := (fun a b => if a = n ∧ lo ≤ (b : Int) ∧ (b : Int) ≤ hi then v else M.1 a b, M.2)
theorem i_add {x y : Int32} (h1 : -2147483648 ≤ x.toInt + y.toInt) (h2 : x.toInt + y.toInt < 2147483648) : (x + y).toInt = x.toInt + y.toInt := by
  rw [Int32.toInt_add]
  exact Int.bmod_eq_of_le (by omega) (by omega)
theorem i_sub {x y : Int32} (h1 : -2147483648 ≤ x.toInt - y.toInt) (h2 : x.toInt - y.toInt < 2147483648) : (x - y).toInt = x.toInt - y.toInt := by
  rw [Int32.toInt_sub]
  exact Int.bmod_eq_of_le (by omega) (by omega)
theorem i_mul {x y : Int32} (h1 : -2147483648 ≤ x.toInt * y.toInt) (h2 : x.toInt * y.toInt < 2147483648) : (x * y).toInt = x.toInt * y.toInt := by
  rw [Int32.toInt_mul]
  exact Int.bmod_eq_of_le (by omega) (by omega)
theorem i_nat {n : Nat} (h : n < 2147483648) : (Int32.ofNat n).toInt = (n : Int) := Int32.toInt_ofNat_small (by omega)
theorem i_clamp {x : Int32} (h : 0 ≤ x.toInt) : (x.toNatClampNeg : Int) = x.toInt := by
  show ((x.toInt.toNat : Nat) : Int) = x.toInt
  omega
theorem i_lo (x : Int32) : -2147483648 ≤ x.toInt := Int32.le_toInt x
theorem i_hi (x : Int32) : x.toInt < 2147483648 := Int32.toInt_lt x
/-- the main cells stand, the references are as they are made -/
def am_mn (live : am_E) : Prop := ∃ i1 i2 : Bool, live = (am_lv i1 i2, am_q i1 i2)
theorem am_lay_eq {M : am_M} {n : Nat} {lo hi lo' hi' : Int} {v : Int32} (h : ∀ b : Nat, (lo ≤ (b : Int) ∧ (b : Int) ≤ hi) ↔ (lo' ≤ (b : Int) ∧ (b : Int) ≤ hi')) : am_lay M n lo hi v = am_lay M n lo' hi' v := by
  unfold am_lay
  refine Prod.ext ?_ rfl
  funext a b
  simp only [h b]
theorem am_Mext {M M' : am_M} (h : ∀ a b, M.1 a b = M'.1 a b) (h2 : M.2 = M'.2) : M = M' := Prod.ext (funext fun a => funext fun b => h a b) h2
theorem am_lay_1 (M : am_M) (n : Nat) (lo hi : Int) (v : Int32) (a b : Nat) : (am_lay M n lo hi v).1 a b = if a = n ∧ lo ≤ (b : Int) ∧ (b : Int) ≤ hi then v else M.1 a b := rfl
theorem am_wI_1 (M : am_M) (n k : Nat) (v : Int32) (a b : Nat) : (am_wI M n k v).1 a b = if a = n ∧ b = k then v else M.1 a b := rfl
theorem am_wJ_1 (M : am_M) (n k : Nat) (v : Int64) (a b : Nat) : (am_wJ M n k v).2 a b = if a = n ∧ b = k then v else M.2 a b := rfl
theorem am_lay_nil {M : am_M} {n : Nat} {lo hi : Int} {v : Int32} (h : hi < lo) : am_lay M n lo hi v = M := by
  refine am_Mext (fun a b => ?_) rfl
  rw [am_lay_1, if_neg (fun q => by have := q.2; omega)]
theorem am_lay_put {M : am_M} {n k : Nat} {lo i : Int} {v : Int32} (h1 : lo ≤ i) (h2 : (k : Int) = i) : am_wI (am_lay M n lo (i - 1) v) n k v = am_lay M n lo i v := by
  refine am_Mext (fun a b => ?_) rfl
  rw [am_wI_1, am_lay_1, am_lay_1]
  by_cases e : a = n
  · subst e
    by_cases e2 : b = k
    · subst e2
      rw [if_pos ⟨rfl, rfl⟩, if_pos ⟨rfl, by omega, by omega⟩]
    · rw [if_neg (fun q => e2 q.2)]
      have : ((lo ≤ (b : Int) ∧ (b : Int) ≤ i - 1) ↔ (lo ≤ (b : Int) ∧ (b : Int) ≤ i)) := by omega
      simp only [this]
  · rw [if_neg (fun q => e q.1), if_neg (fun q => e q.1), if_neg (fun q => e q.1)]
/-! rows of numbers: the object r, its array c, of len numbers -/
def am_rc (live : am_E) (r c : Nat) : Bool := am_isO live 3 r && am_isA live 0 c && Nat.blt (am_len c) 100000
theorem am_rc_spec {live : am_E} {r c : Nat} (h : am_rc live r c = true) : am_isO live 3 r = true ∧ am_isA live 0 c = true ∧ am_len c < 100000 ∧ r ≠ c := by
  unfold am_rc at h
  rw [Bool.and_eq_true, Bool.and_eq_true] at h
  refine ⟨h.1.1, h.1.2, Nat.le_of_ble_eq_true h.2, fun e => ?_⟩
  subst e
  have h1 := (am_isO_spec h.1.1).2
  have h2 := (am_isA_spec h.1.2).2
  rw [h1] at h2
  cases h2
theorem am_OA {live : am_E} {r c ci t : Nat} (h1 : am_isO live ci r = true) (h2 : am_isA live t c = true) : r ≠ c := by
  intro e
  subst e
  have h1 := (am_isO_spec h1).2
  have h2 := (am_isA_spec h2).2
  rw [h1] at h2
  cases h2
theorem am_cI_1 (M : am_M) (n : Nat) (f : Nat → Int32) (a b : Nat) : (am_cI M n f).1 a b = if a = n then f b else M.1 a b := rfl
def am_ix (i : Int32) (n : Nat) : Prop := 0 ≤ i.toInt ∧ i.toInt < (n : Int)
/-- Rows.put as one store that may be left out -/
def am_rput (M : am_M) (r c : Nat) (a b v : Int32) : am_M := am_wIc (b < M.1 r 1 ∧ 0 ≤ (a * M.1 r 1 + b).toInt ∧ (a * M.1 r 1 + b).toInt < (am_len c : Int)) M c (a * M.1 r 1 + b).toNatClampNeg v
theorem am_rput_ne {M : am_M} {r c n k : Nat} {a b v : Int32} (h : n ≠ c) : (am_rput M r c a b v).1 n k = M.1 n k := by
  show (if _ ∧ n = c ∧ k = _ then v else M.1 n k) = _
  rw [if_neg (fun q => h q.2.1)]
theorem am_rput_t {M : am_M} {r c : Nat} {a b v : Int32} (h : b < M.1 r 1) (h2 : am_in (a * M.1 r 1 + b) (am_len c)) : am_rput M r c a b v = am_wI M c (a * M.1 r 1 + b).toNatClampNeg v := am_wIc_t ⟨h, h2⟩
theorem am_rput_f {M : am_M} {r c : Nat} {a b v : Int32} (h : ¬ (b < M.1 r 1 ∧ am_in (a * M.1 r 1 + b) (am_len c))) : am_rput M r c a b v = M := am_wIc_f h
def am_mixI (f : Nat → Int32) : Nat → Int64 → Int64
  | 0, h => h
  | n + 1, h => 31 * am_mixI f n h + (f n).toInt64
/-! what has changed at most -/
def am_ch (S : Nat → Nat → Prop) (M M' : am_M) : Prop := (∀ a b, ¬ S a b → M'.1 a b = M.1 a b) ∧ (∀ a b, ¬ S a b → M'.2 a b = M.2 a b)
theorem am_ch.rf {S : Nat → Nat → Prop} {M : am_M} : am_ch S M M := ⟨fun _ _ _ => rfl, fun _ _ _ => rfl⟩
theorem am_ch.tr {S : Nat → Nat → Prop} {M M' M'' : am_M} (h : am_ch S M M') (h2 : am_ch S M' M'') : am_ch S M M'' := ⟨fun a b q => (h2.1 a b q).trans (h.1 a b q), fun a b q => (h2.2 a b q).trans (h.2 a b q)⟩
theorem am_ch.mono {S S' : Nat → Nat → Prop} {M M' : am_M} (h : am_ch S M M') (hs : ∀ a b, S a b → S' a b) : am_ch S' M M' := ⟨fun a b q => h.1 a b (fun z => q (hs a b z)), fun a b q => h.2 a b (fun z => q (hs a b z))⟩
theorem am_ch.wI {S : Nat → Nat → Prop} {M M' : am_M} {n k : Nat} {v : Int32} (h : am_ch S M M') (hs : S n k) : am_ch S M (am_wI M' n k v) := by
  refine ⟨fun a b q => ?_, h.2⟩
  rw [am_wI_1, if_neg (fun z => q (by rw [z.1, z.2]; exact hs))]
  exact h.1 a b q
theorem am_ch.wJ {S : Nat → Nat → Prop} {M M' : am_M} {n k : Nat} {v : Int64} (h : am_ch S M M') (hs : S n k) : am_ch S M (am_wJ M' n k v) := by
  refine ⟨h.1, fun a b q => ?_⟩
  rw [am_wJ_1, if_neg (fun z => q (by rw [z.1, z.2]; exact hs))]
  exact h.2 a b q
theorem am_ch.cI {S : Nat → Nat → Prop} {M M' : am_M} {n : Nat} {f : Nat → Int32} (h : am_ch S M M') (hs : ∀ k, S n k) : am_ch S M (am_cI M' n f) := by
  refine ⟨fun a b q => ?_, h.2⟩
  rw [am_cI_1, if_neg (fun z => q (by rw [z]; exact hs b))]
  exact h.1 a b q
/-! texts: the object t, its characters s, its code c -/
def am_tc (live : am_E) (t s c : Nat) : Bool := am_isO live 5 t && am_isA live 0 s && am_isA live 0 c && Nat.beq (am_len s) 50 && Nat.beq (am_len c) 50 && !(Nat.beq s c)
theorem am_tc_spec {live : am_E} {t s c : Nat} (h : am_tc live t s c = true) : am_isO live 5 t = true ∧ am_isA live 0 s = true ∧ am_isA live 0 c = true ∧ am_len s = 50 ∧ am_len c = 50 ∧ s ≠ c ∧ t ≠ s ∧ t ≠ c := by
  unfold am_tc at h
  simp only [Bool.and_eq_true, Bool.not_eq_true'] at h
  obtain ⟨⟨⟨⟨⟨h1, h2⟩, h3⟩, h4⟩, h5⟩, h6⟩ := h
  exact ⟨h1, h2, h3, Nat.eq_of_beq_eq_true h4, Nat.eq_of_beq_eq_true h5, Nat.ne_of_beq_eq_false h6, am_OA h1 h2, am_OA h1 h3⟩
/-- a text's numbers are in their ranges -/
def am_tI (M : am_M) (t : Nat) : Prop := ∃ _ : Unit, (0 ≤ (M.1 t 2).toInt ∧ (M.1 t 2).toInt ≤ 50) ∧ (0 ≤ (M.1 t 3).toInt ∧ (M.1 t 3).toInt ≤ (M.1 t 5).toInt) ∧ (M.1 t 5).toInt ≤ 50
/-- what reading a text may change -/
def am_tS (t c a b : Nat) : Prop := a = c ∨ (a = t ∧ (b = 2 ∨ b = 3 ∨ b = 4 ∨ b = 6))
def am_tP (live : am_E) (t : Nat) (P : Nat → Nat → Prop) : Prop := ∃ s c, live.2 t 0 = some s ∧ live.2 t 1 = some c ∧ am_tc live t s c = true ∧ P s c
theorem am_tP_mp {live : am_E} {t : Nat} {P : Nat → Nat → Prop} (h : am_tP live t P) : ∃ s c, live.2 t 0 = some s ∧ live.2 t 1 = some c ∧ am_tc live t s c = true ∧ am_isO live 5 t = true ∧ am_isA live 0 s = true ∧ am_isA live 0 c = true ∧ am_len s = 50 ∧ am_len c = 50 ∧ s ≠ c ∧ t ≠ s ∧ t ≠ c ∧ P s c := by
  obtain ⟨s, c, h1, h2, hb, h⟩ := h
  obtain ⟨a1, a2, a3, a4, a5, a6, a7, a8⟩ := am_tc_spec hb
  exact ⟨s, c, h1, h2, hb, a1, a2, a3, a4, a5, a6, a7, a8, h⟩
theorem am_tI_of {M : am_M} {t : Nat} (h1 : 0 ≤ (M.1 t 2).toInt) (h2 : (M.1 t 2).toInt ≤ 50) (h3 : 0 ≤ (M.1 t 3).toInt) (h4 : (M.1 t 3).toInt ≤ (M.1 t 5).toInt) (h5 : (M.1 t 5).toInt ≤ 50) : am_tI M t := ⟨(), ⟨h1, h2⟩, ⟨h3, h4⟩, h5⟩
theorem am_tS_c {t c b : Nat} : am_tS t c c b := Or.inl rfl
theorem am_tS_2 {t c : Nat} : am_tS t c t 2 := Or.inr ⟨rfl, Or.inl rfl⟩
theorem am_tS_3 {t c : Nat} : am_tS t c t 3 := Or.inr ⟨rfl, Or.inr (Or.inl rfl)⟩
theorem am_tS_4 {t c : Nat} : am_tS t c t 4 := Or.inr ⟨rfl, Or.inr (Or.inr (Or.inl rfl))⟩
theorem am_tS_6 {t c : Nat} : am_tS t c t 6 := Or.inr ⟨rfl, Or.inr (Or.inr (Or.inr rfl))⟩
theorem am_ch.wIc {S : Nat → Nat → Prop} {M M' : am_M} {n k : Nat} {v : Int32} {q : Prop} [Decidable q] (h : am_ch S M M') (hs : S n k) : am_ch S M (am_wIc q M' n k v) := by
  by_cases hq : q
  · rw [am_wIc_t hq]; exact h.wI hs
  · rw [am_wIc_f hq]; exact h
theorem am_wIc_1 (q : Prop) [Decidable q] (M : am_M) (n k : Nat) (v : Int32) (a b : Nat) : (am_wIc q M n k v).1 a b = if q ∧ a = n ∧ b = k then v else M.1 a b := rfl
/-- the signs and the size stay -/
theorem am_ch_t5 {M M' : am_M} {t c : Nat} (h : am_ch (am_tS t c) M M') (hn : t ≠ c) : M'.1 t 5 = M.1 t 5 := h.1 t 5 (fun q => by
  rcases q with q | ⟨-, q | q | q | q⟩
  · exact hn q
  all_goals exact absurd q (by decide))
theorem am_ch_s {M M' : am_M} {t c s : Nat} (h : am_ch (am_tS t c) M M') (h1 : s ≠ c) (h2 : t ≠ s) (j : Nat) : M'.1 s j = M.1 s j := h.1 s j (fun q => by
  rcases q with q | ⟨q, -⟩
  · exact h1 q
  · exact h2 q.symm)
