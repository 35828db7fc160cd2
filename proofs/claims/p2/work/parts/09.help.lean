/-! helpers for the conditions that come out -/
theorem i_lt (x y : Int32) : x < y ↔ x.toInt < y.toInt := Int32.lt_iff_toInt_lt
theorem i_le (x y : Int32) : x ≤ y ↔ x.toInt ≤ y.toInt := Int32.le_iff_toInt_le
theorem i_eq (x y : Int32) : x = y ↔ x.toInt = y.toInt := Int32.toInt_inj.symm
theorem am_in_of {j : Int32} {n : Nat} (h : n < 100000) (h1 : ¬ j < 0) (h2 : ¬ Int32.ofNat n ≤ j) : am_in j n := by
  have e : (Int32.ofNat n).toInt = (n : Int) := Int32.toInt_ofNat_small (by omega)
  rw [i_lt, Int32.toInt_zero] at h1
  rw [i_le, e] at h2
  exact ⟨by omega, by omega⟩
theorem am_in_no1 {j : Int32} {n : Nat} (h1 : j < 0) : ¬ am_in j n := by
  rw [i_lt, Int32.toInt_zero] at h1
  exact fun q => by have := q.1; omega
theorem am_in_no2 {j : Int32} {n : Nat} (h : n < 100000) (h2 : Int32.ofNat n ≤ j) : ¬ am_in j n := by
  have e : (Int32.ofNat n).toInt = (n : Int) := Int32.toInt_ofNat_small (by omega)
  rw [i_le, e] at h2
  exact fun q => by have := q.2; omega
def am_at (f : Nat → Int32) (n : Nat) (i : Int32) : Int32 := if 0 ≤ i.toInt ∧ i.toInt < (n : Int) then f i.toNatClampNeg else -1
theorem am_at_in {f : Nat → Int32} {n : Nat} {i : Int32} (h : am_in i n) : am_at f n i = f i.toNatClampNeg := if_pos h
theorem am_at_no {f : Nat → Int32} {n : Nat} {i : Int32} (h : ¬ am_in i n) : am_at f n i = -1 := if_neg h
/-- a store that may be left out -/
def am_wIc (q : Prop) [Decidable q] (M : am_M) (n k : Nat) (v : Int32) : am_M := (fun a b => if q ∧ a = n ∧ b = k then v else M.1 a b, M.2)
theorem am_wIc_t {q : Prop} [Decidable q] {M : am_M} {n k : Nat} {v : Int32} (h : q) : am_wIc q M n k v = am_wI M n k v := by
  unfold am_wIc am_wI
  simp only [h, true_and]
theorem am_wIc_f {q : Prop} [Decidable q] {M : am_M} {n k : Nat} {v : Int32} (h : ¬ q) : am_wIc q M n k v = M := by
  unfold am_wIc
  simp only [h, false_and, if_false]
/-- a stretch of an array laid with one number -/
def am_lay (M : am_M) (n : Nat) (lo hi : Int) (v : Int32) : am_M := (fun a b => if a = n ∧ lo ≤ (b : Int) ∧ (b : Int) ≤ hi then v else M.1 a b, M.2)
