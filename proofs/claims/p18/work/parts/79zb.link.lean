/-! runs: a year's numbers: what the class reads is what the reference reads -/
/-- class L, reference K: told alike, as a year of a person's run reads it -/
def z_lk (K L : am_M) (p y e a : Int32) : Prop := ∃ _ : Unit, (L.1 33 1 = 8 ∧ (∀ l w, l < 30 → w < 8 → L.1 34 (8 * l + w) = K.1 201 (2838 + 8 * l + w)) ∧ (∀ k, k < 4 → L.1 29 k = K.1 201 (514 + k)) ∧ ∀ k, k < 40 → L.1 30 k = K.1 201 (518 + k)) ∧ (L.1 4 16 = e ∧ L.1 4 17 = a) ∧ (∀ l, am_in l 30 → l.toInt < (K.1 201 1).toInt → am_pln L l y = r_pl K l y) ∧ (∀ pl w, am_in pl 5 → am_in w 6 → L.1 5 ((y * 5 + pl) * 6 + w).toNatClampNeg = r_inF K pl w p y) ∧ (∀ pl, am_in pl 5 → (∀ fa, w_res fa (L.1 (40 + 3 * pl.toNatClampNeg)) (t_n L (39 + 3 * pl.toNatClampNeg)) 0 true [] [] = w_res fa (r_sg K pl) (r_sn K pl) 0 true [] []) ∧ ∀ fa fa' : Int32 → Int64, (∀ c, am_ops c = 0 → fa c = fa' c) → w_res fa (r_sg K pl) (r_sn K pl) 0 true [] [] = w_res fa' (r_sg K pl) (r_sn K pl) 0 true [] []) ∧ (∀ pl w, am_in pl 5 → am_in w 6 → am_isNum w (r_inF K pl w p y)) ∧ t_ok (K.1 201) ∧ (-1 ≤ e.toInt ∧ e.toInt ≤ 10000000) ∧ am_in a 4 ∧ am_in y 40 ∧ r_I K
section ZLK
variable {K L : am_M} {p y e a : Int32}
theorem z_lk.w8 (h : z_lk K L p y e a) : L.1 33 1 = 8 := by obtain ⟨-, ⟨h, -⟩, -⟩ := h; exact h
theorem z_lk.lo0 (h : z_lk K L p y e a) {l w : Nat} (hl : l < 30) (hw : w < 8) : L.1 34 (8 * l + w) = K.1 201 (2838 + 8 * l + w) := by obtain ⟨-, ⟨-, h, -⟩, -⟩ := h; exact h l w hl hw
theorem z_lk.sc (h : z_lk K L p y e a) {k : Nat} (hk : k < 4) : L.1 29 k = K.1 201 (514 + k) := by obtain ⟨-, ⟨-, -, h, -⟩, -⟩ := h; exact h k hk
theorem z_lk.pr (h : z_lk K L p y e a) {k : Nat} (hk : k < 40) : L.1 30 k = K.1 201 (518 + k) := by obtain ⟨-, ⟨-, -, -, h⟩, -⟩ := h; exact h k hk
theorem z_lk.ee (h : z_lk K L p y e a) : L.1 4 16 = e := by obtain ⟨-, -, ⟨h, -⟩, -⟩ := h; exact h
theorem z_lk.aa (h : z_lk K L p y e a) : L.1 4 17 = a := by obtain ⟨-, -, ⟨-, h⟩, -⟩ := h; exact h
theorem z_lk.pl (h : z_lk K L p y e a) {l : Int32} (hl : am_in l 30) (h2 : l.toInt < (K.1 201 1).toInt) : am_pln L l y = r_pl K l y := by obtain ⟨-, -, -, h, -⟩ := h; exact h l hl h2
theorem z_lk.nm (h : z_lk K L p y e a) {pl w : Int32} (hp : am_in pl 5) (hw : am_in w 6) : L.1 5 ((y * 5 + pl) * 6 + w).toNatClampNeg = r_inF K pl w p y := by obtain ⟨-, -, -, -, h, -⟩ := h; exact h pl w hp hw
theorem z_lk.tx (h : z_lk K L p y e a) {pl : Int32} (hp : am_in pl 5) : (∀ fa, w_res fa (L.1 (40 + 3 * pl.toNatClampNeg)) (t_n L (39 + 3 * pl.toNatClampNeg)) 0 true [] [] = w_res fa (r_sg K pl) (r_sn K pl) 0 true [] []) ∧ ∀ fa fa' : Int32 → Int64, (∀ c, am_ops c = 0 → fa c = fa' c) → w_res fa (r_sg K pl) (r_sn K pl) 0 true [] [] = w_res fa' (r_sg K pl) (r_sn K pl) 0 true [] [] := by obtain ⟨-, -, -, -, -, h, -⟩ := h; exact h pl hp
theorem z_lk.rg (h : z_lk K L p y e a) {pl w : Int32} (hp : am_in pl 5) (hw : am_in w 6) : am_isNum w (r_inF K pl w p y) := by obtain ⟨-, -, -, -, -, -, h, -⟩ := h; exact h pl w hp hw
theorem z_lk.ok (h : z_lk K L p y e a) : t_ok (K.1 201) := by obtain ⟨-, -, -, -, -, -, -, h, -⟩ := h; exact h
theorem z_lk.er (h : z_lk K L p y e a) : -1 ≤ e.toInt ∧ e.toInt ≤ 10000000 := by obtain ⟨-, -, -, -, -, -, -, -, h, -⟩ := h; exact h
theorem z_lk.ar (h : z_lk K L p y e a) : am_in a 4 := by obtain ⟨-, -, -, -, -, -, -, -, -, h, -⟩ := h; exact h
theorem z_lk.yr (h : z_lk K L p y e a) : am_in y 40 := by obtain ⟨-, -, -, -, -, -, -, -, -, -, h, -⟩ := h; exact h
theorem z_lk.ri (h : z_lk K L p y e a) : r_I K := by obtain ⟨-, -, -, -, -, -, -, -, -, -, -, h⟩ := h; exact h
/-- a loan's numbers -/
theorem z_lk.lo (h : z_lk K L p y e a) {l w : Int32} {n : Nat} (hl : am_in l 30) (hw : w.toInt = (n : Int)) (hn : n < 8) : am_loanAt L l w = r_lo K l w := by
  have l1 := hl.1
  have l2 := hl.2
  have e1 := i_mul (x := l) (y := 8) (by simp only [Int32.reduceToInt]; omega) (by simp only [Int32.reduceToInt]; omega)
  simp only [Int32.reduceToInt] at e1
  have e2 := i_add (x := l * 8) (y := w) (by omega) (by omega)
  have c1 := i_clamp (x := l * 8 + w) (by omega)
  have c2 := i_clamp l1
  have r1 := r_lcol hl (w := w) ⟨by omega, by omega⟩
  have c3 := i_clamp (x := 2838 + 8 * l + w) (by omega)
  unfold am_loanAt r_lo
  rw [h.w8, am_at_in (show am_in (l * 8 + w) 240 from ⟨by omega, by omega⟩), show (l * 8 + w).toNatClampNeg = 8 * l.toNatClampNeg + n by omega, h.lo0 (g_cl hl) hn, show (2838 + 8 * l + w).toNatClampNeg = 2838 + 8 * l.toNatClampNeg + n by omega]
/-- ranges of a loan's numbers -/
theorem z_lk.lr (h : z_lk K L p y e a) {l : Int32} (hl : am_in l 30) : (0 ≤ (r_lo K l 2).toInt ∧ (r_lo K l 2).toInt ≤ 39) ∧ (0 ≤ (r_lo K l 3).toInt ∧ (r_lo K l 3).toInt ≤ 10000000) ∧ (-1 ≤ (r_lo K l 5).toInt ∧ (r_lo K l 5).toInt ≤ 39) ∧ (-1 ≤ (r_lo K l 7).toInt ∧ (r_lo K l 7).toInt ≤ 39) := by
  have l1 := hl.1
  have g := g_cl hl
  have c2 := i_clamp l1
  have r2 := r_lcol hl (w := 2) ⟨by decide, by decide⟩
  have r3 := r_lcol hl (w := 3) ⟨by decide, by decide⟩
  have r5 := r_lcol hl (w := 5) ⟨by decide, by decide⟩
  have r7 := r_lcol hl (w := 7) ⟨by decide, by decide⟩
  simp only [Int32.reduceToInt] at r2 r3 r5 r7
  have c22 := i_clamp (x := 2838 + 8 * l + 2) (by omega)
  have c33 := i_clamp (x := 2838 + 8 * l + 3) (by omega)
  have c55 := i_clamp (x := 2838 + 8 * l + 5) (by omega)
  have c77 := i_clamp (x := 2838 + 8 * l + 7) (by omega)
  exact ⟨(h.ok.v (by omega)).a19 ⟨by omega, by omega, by omega⟩, (h.ok.v (by omega)).a20 ⟨by omega, by omega, by omega⟩, (h.ok.v (by omega)).a22 ⟨by omega, by omega, by omega⟩, (h.ok.v (by omega)).a24 ⟨by omega, by omega, by omega⟩⟩
theorem z_isNum {w v : Int32} (h : am_isNum w v) : (w = 0 → 0 ≤ v.toInt ∧ v.toInt ≤ 10000000) ∧ (w = 1 → 0 ≤ v.toInt ∧ v.toInt ≤ 1000) ∧ (w = 2 → 0 ≤ v.toInt ∧ v.toInt ≤ 500) ∧ (w = 3 → 1 ≤ v.toInt ∧ v.toInt ≤ 60) ∧ (w = 4 → 0 ≤ v.toInt ∧ v.toInt ≤ 9) ∧ (w = 5 → 0 ≤ v.toInt ∧ v.toInt ≤ 1000000) := by
  obtain ⟨-, h1, h2⟩ := h
  rw [i_le] at h1 h2
  refine ⟨?_, ?_, ?_, ?_, ?_, ?_⟩ <;> (rintro rfl; exact ⟨h1, h2⟩)
/-- a loan of the run -/
def z_in (K : am_M) (p l : Int32) : Prop := am_in l 30 ∧ l.toInt < (K.1 201 1).toInt ∧ r_lo K l 0 = p
theorem z_lk.cell (h : z_lk K L p y e a) {l w : Int32} (hl : z_in K p l) (hw : am_in w 6) : am_cell L l y w = r_inF K (r_pl K l y) w p y := by
  unfold am_cell
  rw [h.pl hl.1 hl.2.1]
  exact h.nm (r_pl_in h.ri hl.1) hw
theorem z_lk.cr (h : z_lk K L p y e a) {l w : Int32} (hl : z_in K p l) (hw : am_in w 6) : am_isNum w (r_inF K (r_pl K l y) w p y) := h.rg (r_pl_in h.ri hl.1) hw
theorem z_fa_l {c : Int32} (h : am_ops c = 0) : c = 114 ∨ c = 112 ∨ c = 101 ∨ c = 108 ∨ c = 121 ∨ c = 111 ∨ c = 97 := by
  unfold am_ops at h
  split at h
  · assumption
  · split at h
    · exact absurd h (by decide)
    · split at h <;> exact absurd h (by decide)
/-- the rate -/
theorem z_lk.rt (h : z_lk K L p y e a) {l : Int32} (hl : z_in K p l) (o : Int64) : c_rt L l y o = r_rt K l y e a o := by
  have hp := r_pl_in h.ri (y := y) hl.1
  obtain ⟨t1, t2⟩ := h.tx hp
  have e2 := h.cell hl (w := 2) ⟨by decide, by decide⟩
  have e0 := h.cell hl (w := 0) ⟨by decide, by decide⟩
  have yi := h.yr
  have cy := i_clamp yi.1
  have y2 := yi.2
  have e518 := r_off (c := 518) (x := y) ⟨by decide, by decide⟩ ⟨yi.1, by omega⟩
  simp only [Int32.reduceToInt] at e518
  have c518 := i_clamp (x := 518 + y) (by omega)
  have pr : L.1 30 y.toNatClampNeg = K.1 201 (518 + y).toNatClampNeg := by
    rw [h.pr (g_cl yi), show (518 + y).toNatClampNeg = 518 + y.toNatClampNeg by omega]
  unfold c_rt r_rt
  rw [h.pl hl.1 hl.2.1, e2, hl.2.2]
  unfold z_rt
  rw [t1, t2 (c_fa L l y o) (r_fx K l y e a o) (fun c hc => ?_)]
  unfold c_fa r_fx
  rw [e2, e0, pr, h.ee, h.aa, h.lo hl.1 (n := 2) rfl (by decide), hl.2.2]
  rcases z_fa_l hc with rfl | rfl | rfl | rfl | rfl | rfl | rfl <;> rfl
theorem z_cl_in (v : Int64) : 0 ≤ (z_cl v).toInt ∧ (z_cl v).toInt ≤ 500 := by
  by_cases h0 : v < 0
  · rw [z_cl_n h0]; decide
  · by_cases h5 : 500 < v
    · rw [z_cl_m h0 h5]; decide
    · rw [z_cl_v h0 h5]
      rw [Int64.lt_iff_toInt_lt] at h0 h5
      have k0 : (0 : Int64).toInt = 0 := rfl
      have k5 : (500 : Int64).toInt = 500 := rfl
      have e : v.toInt32.toInt = v.toInt := by
        rw [Int64.toInt_toInt32]
        exact Int.bmod_eq_of_le (by omega) (by omega)
      omega
theorem z_lk.rr (h : z_lk K L p y e a) {l : Int32} (hl : z_in K p l) (o : Int64) : 0 ≤ (r_rt K l y e a o).toInt ∧ (r_rt K l y e a o).toInt ≤ 500 := by
  unfold r_rt z_rt
  split
  · exact z_cl_in _
  · rw [hl.2.2]
    exact (z_isNum (h.cr hl (w := 2) ⟨by decide, by decide⟩)).2.2.1 rfl
/-- what is given back -/
theorem z_gb {s : Int32} (hs : 0 ≤ s.toInt ∧ s.toInt ≤ 10000000) {q : Int32} (hq : q = 750 ∨ q = 500 ∨ q = 0) : (s.toInt64 * q.toInt64 / 1000).toInt32.toInt64 = s.toInt64 * q.toInt64 / 1000 ∧ 0 ≤ (s.toInt64 * q.toInt64 / 1000).toInt ∧ (s.toInt64 * q.toInt64 / 1000).toInt ≤ 10000000 := by
  have es : s.toInt64.toInt = s.toInt := Int32.toInt_toInt64 s
  have eq : q.toInt64.toInt = q.toInt := Int32.toInt_toInt64 q
  have hq2 : 0 ≤ q.toInt ∧ q.toInt ≤ 750 := by rcases hq with rfl | rfl | rfl <;> decide
  have m0 : 0 ≤ s.toInt * q.toInt := Int.mul_nonneg hs.1 hq2.1
  have m1 : s.toInt * q.toInt ≤ 10000000 * 750 := Int.mul_le_mul hs.2 hq2.2 hq2.1 (by omega)
  have em := l_mul (x := s.toInt64) (y := q.toInt64) (by rw [es, eq]; omega) (by rw [es, eq]; omega)
  rw [es, eq] at em
  have ed := l_div (x := s.toInt64 * q.toInt64) (y := 1000) (by omega) (by decide)
  have k1 : (1000 : Int64).toInt = 1000 := rfl
  rw [em, k1] at ed
  have d0 := Int.ediv_nonneg m0 (show (0 : Int) ≤ 1000 by decide)
  refine ⟨?_, by omega, by omega⟩
  apply Int64.toInt_inj.mp
  rw [Int32.toInt_toInt64, Int64.toInt_toInt32]
  exact Int.bmod_eq_of_le (by omega) (by omega)
theorem z_lk.bk (h : z_lk K L p y e a) {l : Int32} (hl : am_in l 30) (h5 : r_lo K l 5 = y) : c_bk L l = (r_given K l y).toInt64 ∧ 0 ≤ (c_bk L l).toInt ∧ (c_bk L l).toInt ≤ 10000000 := by
  obtain ⟨-, h3, -, -⟩ := h.lr hl
  have e2 := h.lo hl (w := 2) (n := 2) rfl (by decide)
  have e3 := h.lo hl (w := 3) (n := 3) rfl (by decide)
  have e5 := h.lo hl (w := 5) (n := 5) rfl (by decide)
  unfold c_bk am_sumGiven r_given
  rw [e2, e3, e5, h5]
  show (if y - r_lo K l 2 = 0 then (r_lo K l 3).toInt64 * 750 / 1000 else if y - r_lo K l 2 = 1 then (r_lo K l 3).toInt64 * 500 / 1000 else 0) = ((r_lo K l 3).toInt64 * (if y - r_lo K l 2 = 0 then 750 else if y - r_lo K l 2 = 1 then 500 else 0 : Int32).toInt64 / 1000).toInt32.toInt64 ∧ _
  by_cases z0 : y - r_lo K l 2 = 0
  · rw [if_pos z0, if_pos z0]
    have q := z_gb h3 (q := 750) (Or.inl rfl)
    exact ⟨q.1.symm, q.2⟩
  · rw [if_neg z0, if_neg z0]
    by_cases z1 : y - r_lo K l 2 = 1
    · rw [if_pos z1, if_pos z1]
      have q := z_gb h3 (q := 500) (Or.inr (Or.inl rfl))
      exact ⟨q.1.symm, q.2⟩
    · rw [if_neg z1, if_neg z1]
      have q := z_gb h3 (q := 0) (Or.inr (Or.inr rfl))
      rw [q.1]
      have e0 : (r_lo K l 3).toInt64 * (0 : Int32).toInt64 / 1000 = 0 := by
        rw [show (0 : Int32).toInt64 = 0 from rfl, Int64.mul_zero]
        rfl
      rw [e0]
      exact ⟨rfl, by decide, by show (0 : Int64).toInt ≤ 10000000; rw [show (0 : Int64).toInt = 0 from rfl]; omega⟩
/-- drawn and given back -/
theorem z_lk.dr (h : z_lk K L p y e a) {l : Int32} (hl : am_in l 30) (o : Int64) : c_dr L l y o = r_dr K y l (r_o1 K y l o) := by
  have e2 := h.lo hl (w := 2) (n := 2) rfl (by decide)
  have e3 := h.lo hl (w := 3) (n := 3) rfl (by decide)
  have e5 := h.lo hl (w := 5) (n := 5) rfl (by decide)
  have d0 : c_dr0 L l y o = r_o1 K y l o := by
    unfold c_dr0 r_o1
    rw [e2, e3]
    by_cases z : y = r_lo K l 2
    · rw [if_pos z, if_pos z.symm]
    · rw [if_neg z, if_neg (fun q => z q.symm), Int64.add_zero]
  unfold c_dr r_dr
  rw [e5, d0]
  by_cases z : y = r_lo K l 5
  · rw [if_pos z, if_pos z.symm, (h.bk hl z.symm).1]
    rfl
  · rw [if_neg z, if_neg (fun q => z q.symm)]
theorem z_lk.db (h : z_lk K L p y e a) {l : Int32} (hl : am_in l 30) {o : Int64} (h0 : 0 ≤ o.toInt) (h1 : o.toInt ≤ 1000000000000) : z_ok (c_dr L l y o) := by
  obtain ⟨-, h3, -, -⟩ := h.lr hl
  have e2 := h.lo hl (w := 2) (n := 2) rfl (by decide)
  have e3 := h.lo hl (w := 3) (n := 3) rfl (by decide)
  have e5 := h.lo hl (w := 5) (n := 5) rfl (by decide)
  have d0 : z_ok (c_dr0 L l y o) := by
    unfold c_dr0
    rw [e2, e3]
    split
    · have ea := l_add (x := o) (y := (r_lo K l 3).toInt64) (by rw [Int32.toInt_toInt64]; omega) (by rw [Int32.toInt_toInt64]; omega)
      rw [Int32.toInt_toInt64] at ea
      exact ⟨by omega, by omega⟩
    · exact ⟨h0, by omega⟩
  unfold c_dr
  split
  · next z =>
    have b := h.bk hl (by rw [← e5]; exact z.symm)
    have m : 0 ≤ (if c_bk L l < c_dr0 L l y o then c_bk L l else c_dr0 L l y o : Int64).toInt ∧ (if c_bk L l < c_dr0 L l y o then c_bk L l else c_dr0 L l y o : Int64).toInt ≤ (c_dr0 L l y o).toInt := by
      split
      · next q =>
        rw [Int64.lt_iff_toInt_lt] at q
        exact ⟨b.2.1, by omega⟩
      · exact ⟨d0.1, Int.le_refl _⟩
    have d1 := d0.1
    have d2 := d0.2
    have es := l_sub (x := c_dr0 L l y o) (y := if c_bk L l < c_dr0 L l y o then c_bk L l else c_dr0 L l y o) (by omega) (by omega)
    exact ⟨by omega, by omega⟩
  · exact d0
theorem z_lk.d00 (h : z_lk K L p y e a) {l : Int32} (hl : am_in l 30) (hy : (r_lo K l 2).toInt < y.toInt) : c_dr L l y 0 = 0 := by
  have e2 := h.lo hl (w := 2) (n := 2) rfl (by decide)
  have e5 := h.lo hl (w := 5) (n := 5) rfl (by decide)
  have d0 : c_dr0 L l y 0 = 0 := by
    unfold c_dr0
    rw [e2, if_neg (fun q => by rw [q] at hy; omega)]
  unfold c_dr
  rw [d0]
  split
  · next z =>
    have b := h.bk hl (by rw [← e5]; exact z.symm)
    rw [if_neg (fun q => by rw [Int64.lt_iff_toInt_lt] at q; have k0 : (0 : Int64).toInt = 0 := rfl; omega)]
    rfl
  · rfl
/-- order, what is asked, sold -/
theorem z_lk.of (h : z_lk K L p y e a) {l : Int32} (hl : z_in K p l) : c_of L y l = r_of K p y l ∧ c_of L y l < 10 := by
  have e4 := h.cell hl (w := 4) ⟨by decide, by decide⟩
  have r4 := (z_isNum (h.cr hl (w := 4) ⟨by decide, by decide⟩)).2.2.2.2.1 rfl
  have c := i_clamp r4.1
  unfold c_of r_of
  rw [e4]
  exact ⟨rfl, by omega⟩
theorem z_lk.sd (h : z_lk K L p y e a) {l : Int32} (hl : am_in l 30) : c_sd L y l = r_sd K y l := by
  have e7 := h.lo hl (w := 7) (n := 7) rfl (by decide)
  obtain ⟨-, -, -, h7⟩ := h.lr hl
  have n1 := neg1 h7.1
  unfold c_sd r_sd
  rw [e7]
  exact decide_eq_decide.mpr ⟨fun q => ⟨fun w => q.1 (n1.mpr w), q.2⟩, fun q => ⟨fun w => q.1 (n1.mp w), q.2⟩⟩
theorem z_lk.ask (h : z_lk K L p y e a) {l : Int32} (hl : z_in K p l) : c_ask L y l = r_due K y e a l := by
  have hp := r_pl_in h.ri (y := y) hl.1
  have yi := h.yr
  have ai := h.ar
  have cA := i_clamp ai.1
  have er := h.er
  have c0 := h.nm hp (w := 0) ⟨by decide, by decide⟩
  have c1 := h.nm hp (w := 1) ⟨by decide, by decide⟩
  have c5 := h.nm hp (w := 5) ⟨by decide, by decide⟩
  have r0 := (z_isNum (h.rg hp (w := 0) ⟨by decide, by decide⟩)).1 rfl
  have a4 := ai.2
  have e514 := r_off (c := 514) (x := a) ⟨by decide, by decide⟩ ⟨ai.1, by omega⟩
  simp only [Int32.reduceToInt] at e514
  have c514 := i_clamp (x := 514 + a) (by have := ai.1; omega)
  have sc : L.1 29 a.toNatClampNeg = K.1 201 (514 + a).toNatClampNeg := by
    rw [h.sc (g_cl ai), show (514 + a).toNatClampNeg = 514 + a.toNatClampNeg by omega]
  have sr := (h.ok.v (k := (514 + a).toNatClampNeg) (by omega)).a9 (by omega)
  unfold c_ask am_asked r_due
  rw [h.pl hl.1 hl.2.1, h.ee, h.aa, hl.2.2, sc]
  dsimp only
  rw [c0, c1, c5]
  have n1 := neg1 er.1
  by_cases z : e = -1
  · rw [if_pos z, if_pos (n1.mp z)]
  · rw [if_neg z, if_neg (fun q => z (n1.mpr q))]
    have el : (if a = 0 then (r_inF K (r_pl K l y) 0 p y).toInt64 else (r_inF K (r_pl K l y) 0 p y).toInt64 * (K.1 201 (514 + a).toNatClampNeg).toInt64 / 1000) = r_line K l y a := by
      unfold r_line
      rw [hl.2.2]
    rw [el]
    have lb : 0 ≤ (r_line K l y a).toInt ∧ (r_line K l y a).toInt ≤ 50000000 := by
      unfold r_line
      rw [hl.2.2]
      split
      · rw [Int32.toInt_toInt64]; omega
      · have m0 : 0 ≤ (r_inF K (r_pl K l y) 0 p y).toInt * (K.1 201 (514 + a).toNatClampNeg).toInt := Int.mul_nonneg r0.1 (by omega)
        have m1 : (r_inF K (r_pl K l y) 0 p y).toInt * (K.1 201 (514 + a).toNatClampNeg).toInt ≤ 10000000 * 5000 := Int.mul_le_mul r0.2 sr.2 (by omega) (by omega)
        have em := l_mul (x := (r_inF K (r_pl K l y) 0 p y).toInt64) (y := (K.1 201 (514 + a).toNatClampNeg).toInt64) (by rw [Int32.toInt_toInt64, Int32.toInt_toInt64]; omega) (by rw [Int32.toInt_toInt64, Int32.toInt_toInt64]; omega)
        rw [Int32.toInt_toInt64, Int32.toInt_toInt64] at em
        have ed := l_div (x := (r_inF K (r_pl K l y) 0 p y).toInt64 * (K.1 201 (514 + a).toNatClampNeg).toInt64) (y := 1000) (by omega) (by decide)
        have k1 : (1000 : Int64).toInt = 1000 := rfl
        rw [em, k1] at ed
        omega
    have ee : e.toInt64.toInt = e.toInt := Int32.toInt_toInt64 e
    have es := l_sub (x := e.toInt64) (y := r_line K l y a) (by omega) (by omega)
    have k0 : (0 : Int64).toInt = 0 := rfl
    by_cases w : r_line K l y a < e.toInt64
    · rw [if_pos w, if_neg (fun q => by rw [Int64.lt_iff_toInt_lt] at w q; omega)]
    · rw [if_neg w]
      have e0 : (if e.toInt64 - r_line K l y a < 0 then 0 else e.toInt64 - r_line K l y a : Int64) = 0 := by
        split
        · rfl
        · next q =>
          apply Int64.toInt_inj.mp
          rw [Int64.lt_iff_toInt_lt] at w q
          omega
      rw [e0, Int64.zero_mul]
      rfl
/-- struck: what is asked of years -/
theorem z_lk.ye (h : z_lk K L p y e a) {l : Int32} (hl : z_in K p l) : (y - am_loanAt L l 2 < am_cell L l y 3 ↔ y - r_lo K l 2 < r_inF K (r_pl K l y) 3 (r_lo K l 0) y) ∧ (¬ (y - r_lo K l 2 < r_inF K (r_pl K l y) 3 (r_lo K l 0) y) → (r_lo K l 2).toInt < y.toInt) := by
  have e3 := h.cell hl (w := 3) ⟨by decide, by decide⟩
  have r3 := (z_isNum (h.cr hl (w := 3) ⟨by decide, by decide⟩)).2.2.2.1 rfl
  obtain ⟨h2, -, -, -⟩ := h.lr hl.1
  have yi := h.yr
  have y1 := yi.1
  have y2 := yi.2
  have es := i_sub (x := y) (y := r_lo K l 2) (by omega) (by omega)
  rw [h.lo hl.1 (w := 2) (n := 2) rfl (by decide), e3, hl.2.2]
  exact ⟨Iff.rfl, fun q => by rw [i_lt] at q; omega⟩
/-- a year of a loan, class and reference -/
theorem z_lk.H (h : z_lk K L p y e a) {l d : Int32} (hl : z_in K p l) {v : Int64} {bv : Int32} (h1 : ¬ bv = 0 → ¬ L.1 4 18 = 0 ∨ (r_lo K l 2).toInt < y.toInt) (h2 : bv = 0 → (¬ L.1 4 18 = 0 ↔ ¬ d = 0)) : z_H (c_stk L y) (r_ends K y d) (c_gr L y) (fun l o => r_cap o (r_rt K l y e a o)) (fun l o => c_dr L l y o) (r_o1 K y) (r_dr K y) v bv l := by
  refine ⟨fun q => ?_, fun q => ?_, ⟨r_rt K l y e a v, h.rr hl v, by unfold c_gr; rw [h.rt hl], rfl⟩, fun o => h.dr hl.1 o, fun o h0 h1 => h.db hl.1 h0 h1⟩
  · rcases h1 q with w | w
    · exact Or.inl (decide_eq_true (Or.inl w))
    · exact Or.inr (h.d00 hl.1 w)
  · unfold r_ends c_stk
    exact decide_eq_decide.mpr (or_congr (h2 q).symm (not_congr (h.ye hl).1.symm))
end ZLK
