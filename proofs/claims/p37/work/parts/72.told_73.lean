-- part 72.told.lean.txt
section
/-! told calls keep what holds between calls; class and reference answer alike -/
theorem x_off {c x : Int32} {cn : Nat} (hc : c.toInt = (cn : Int)) (hx : 0 ≤ x.toInt ∧ x.toInt ≤ 10000) (hcn : cn ≤ 10000) : (c + x).toNatClampNeg = cn + x.toNatClampNeg := by
  have e := i_add (x := c) (y := x) (by omega) (by omega)
  have c1 := i_clamp (x := c + x) (by omega)
  have c2 := i_clamp (x := x) hx.1
  omega
theorem x_offi {c x : Int32} {cn : Nat} (hc : c.toInt = (cn : Int)) (hx : 0 ≤ x.toInt ∧ x.toInt ≤ 10000) (hcn : cn ≤ 10000) : (c + x).toInt = cn + x.toInt := by
  have e := i_add (x := c) (y := x) (by omega) (by omega)
  omega
theorem x_mul {c x : Int32} {cn : Nat} (hc : c.toInt = (cn : Int)) (hx : 0 ≤ x.toInt ∧ x.toInt ≤ 100) (hcn : cn ≤ 100) : (c * x).toInt = cn * x.toInt := by
  have h3 : 0 ≤ (cn : Int) * x.toInt := Int.mul_nonneg (by omega) hx.1
  have h4 : (cn : Int) * x.toInt ≤ 100 * 100 := Int.mul_le_mul (by omega) hx.2 hx.1 (by decide)
  have e := i_mul (x := c) (y := x) (by rw [hc]; omega) (by rw [hc]; omega)
  rw [e, hc]
theorem x_mulr {c x : Int32} {cn : Nat} (hc : c.toInt = (cn : Int)) (hx : 0 ≤ x.toInt ∧ x.toInt ≤ 100) (hcn : cn ≤ 100) : (x * c).toInt = cn * x.toInt := by
  have h3 : 0 ≤ (cn : Int) * x.toInt := Int.mul_nonneg (by omega) hx.1
  have h4 : (cn : Int) * x.toInt ≤ 100 * 100 := Int.mul_le_mul (by omega) hx.2 hx.1 (by decide)
  have e := i_mul (x := x) (y := c) (by rw [hc, Int.mul_comm]; omega) (by rw [hc, Int.mul_comm]; omega)
  rw [e, hc, Int.mul_comm]
theorem x_in {x : Int32} {n : Nat} (h : am_in x n) : (x.toNatClampNeg : Int) = x.toInt ∧ x.toNatClampNeg < n := by
  have c := i_clamp h.1
  have := h.2
  exact ⟨c, by omega⟩
/-- 40 times a row and a year behind it -/
theorem x_40 {p y : Int32} (hp : 0 ≤ p.toInt ∧ p.toInt ≤ 30) (hy : 0 ≤ y.toInt ∧ y.toInt ≤ 39) : (40 * p + y).toInt = 40 * p.toInt + y.toInt ∧ (p * 40 + y).toInt = 40 * p.toInt + y.toInt := by
  have a := x_mul (c := 40) (cn := 40) rfl (x := p) ⟨hp.1, by omega⟩ (by decide)
  have b := x_mulr (c := 40) (cn := 40) rfl (x := p) ⟨hp.1, by omega⟩ (by decide)
  have a2 := i_add (x := 40 * p) (y := y) (by omega) (by omega)
  have b2 := i_add (x := p * 40) (y := y) (by omega) (by omega)
  exact ⟨by omega, by omega⟩
theorem yr {y : Int32} (h : 0 ≤ y ∧ y < 40) : 0 ≤ y.toInt ∧ y.toInt ≤ 39 := by
  simp only [i_le, i_lt, Int32.reduceToInt] at h
  omega
theorem bt {y a b : Int32} (h : a ≤ y ∧ y ≤ b) : a.toInt ≤ y.toInt ∧ y.toInt ≤ b.toInt := by
  simp only [i_le] at h
  exact h
theorem b4 {y n : Int32} (h : 0 ≤ y ∧ y < n) : 0 ≤ y.toInt ∧ y.toInt < n.toInt := by
  simp only [i_le, i_lt, Int32.reduceToInt] at h
  exact h
/-- a row's number put -/
theorem rput_at {X : am_M} {r c : Nat} {a b v : Int32} {w n k : Nat} (hw : (X.1 r 1).toInt = (w : Int)) (ha : a.toInt = (n : Int)) (hb : 0 ≤ b.toInt) (hbw : b.toInt < (w : Int)) (hk : (k : Int) = (n : Int) * (w : Int) + b.toInt) (hl : k < am_len c) (hl2 : am_len c < 100000) : am_rput X r c a b v = am_wI X c k v := by
  have h3 : 0 ≤ (n : Int) * (w : Int) := Int.mul_nonneg (by omega) (by omega)
  have e1 := i_mul (x := a) (y := X.1 r 1) (by rw [ha, hw]; omega) (by rw [ha, hw]; omega)
  rw [ha, hw] at e1
  have e2 := i_add (x := a * X.1 r 1) (y := b) (by rw [e1]; omega) (by rw [e1]; omega)
  rw [e1, ← hk] at e2
  have e3 := i_clamp (x := a * X.1 r 1 + b) (by omega)
  rw [am_rput_t (by rw [i_lt, hw]; exact hbw) ⟨by omega, by omega⟩, show (a * X.1 r 1 + b).toNatClampNeg = k by omega]
theorem radd_at {X : am_M} {r c : Nat} {x y z : Int32} {w n k : Nat} (hrc : r ≠ c) (hw : (X.1 r 1).toInt = (w : Int)) (h3 : 3 ≤ w) (ha : (X.1 r 2).toInt = (n : Int)) (hk : (k : Int) = (n : Int) * (w : Int)) (hl : k + 2 < am_len c) (hl2 : am_len c < 100000) : am_radd X r c x y z = am_wI (am_wI (am_wI (am_wI X c k x) c (k + 1) y) c (k + 2) z) r 2 (X.1 r 2 + 1) := by
  have d0 : (0 : Int32).toInt = 0 := rfl
  have d1 : (1 : Int32).toInt = 1 := rfl
  have d2 : (2 : Int32).toInt = 2 := rfl
  have o1 : ∀ (N : am_M) j v, (am_wI N c j v).1 r 1 = N.1 r 1 := fun N j v => by rw [am_wI_1, if_neg (fun q => hrc q.1)]
  unfold am_radd
  rw [rput_at (b := 0) (v := x) (k := k) hw ha (by decide) (by omega) (by omega) (by omega) hl2, rput_at (b := 1) (v := y) (w := w) (n := n) (k := k + 1) (by rw [o1]; exact hw) ha (by decide) (by omega) (by omega) (by omega) hl2, rput_at (b := 2) (v := z) (w := w) (n := n) (k := k + 2) (by rw [o1, o1]; exact hw) ha (by decide) (by omega) (by omega) (by omega) hl2]
/-- one told call of both -/
def st (i1 i2 : Bool) (M : am_M) (c : Int32 × am_M) (r : am_M → Int32 × am_M) : Prop := ∃ _ : Unit, c.1 = (r c.2).1 ∧ LI i1 i2 (r c.2).2 ∧ ∀ a k, 200 ≤ a → c.2.1 a k = M.1 a k
section STS
variable {i1 i2 : Bool} {M : am_M}
theorem st.e {c : Int32 × am_M} {r : am_M → Int32 × am_M} (h : st i1 i2 M c r) : c.1 = (r c.2).1 := by obtain ⟨-, h, -⟩ := h; exact h
theorem st.l {c : Int32 × am_M} {r : am_M → Int32 × am_M} (h : st i1 i2 M c r) : LI i1 i2 (r c.2).2 := by obtain ⟨-, -, h, -⟩ := h; exact h
theorem st.c {c : Int32 × am_M} {r : am_M → Int32 × am_M} (h : st i1 i2 M c r) : ∀ a k, 200 ≤ a → c.2.1 a k = M.1 a k := by obtain ⟨-, -, -, h⟩ := h; exact h
theorem st.no (h : LI i1 i2 M) {c : Int32 × am_M} {r : am_M → Int32 × am_M} {v : Int32} (ec : c = (v, M)) (er : r M = (v, M)) : st i1 i2 M c r := by
  subst ec
  exact ⟨(), by (try dsimp only); rw [er], by (try dsimp only); rw [er]; exact h, fun _ _ _ => rfl⟩
theorem st.yes {c : Int32 × am_M} {r : am_M → Int32 × am_M} {v w : Int32} {Mc F : am_M} (ec : c = (v, Mc)) (er : r Mc = (w, F)) (e : v = w) (hF : LI i1 i2 F) (hc : ∀ a k, 200 ≤ a → Mc.1 a k = M.1 a k) : st i1 i2 M c r := by
  subst ec
  exact ⟨(), by (try dsimp only); rw [er]; exact e, by (try dsimp only); rw [er]; exact hF, hc⟩
theorem st_scale (h : LI i1 i2 M) (l v : Int32) : st i1 i2 M (c_scale M l v) (fun N => r_scale N l v) := by
  by_cases z0 : 0 ≤ l ∧ l ≤ 3
  rotate_left
  · exact st.no h (if_neg z0) (if_neg z0)
  by_cases z1 : 1 ≤ v ∧ v ≤ 5000
  rotate_left
  · exact st.no h (by unfold c_scale; rw [if_pos z0, if_neg z1]) (by (try dsimp only); unfold r_scale; rw [if_pos z0, if_neg z1])
  have b0 := bt z0
  have b1 := bt z1
  simp only [Int32.reduceToInt] at b0 b1
  have c0 := i_clamp b0.1
  have x0 := x_off (c := 514) (cn := 514) rfl (x := l) ⟨b0.1, by omega⟩ (by decide)
  have eN : ∀ k, (am_wI M 29 l.toNatClampNeg v).1 201 k = M.1 201 k := fun k => by (repeat (first | rw [am_wI_1, if_pos ⟨rfl, by omega⟩] | rw [am_wI_1, if_neg (fun q => by omega)] | rw [am_lay_1, if_pos ⟨rfl, by omega, by omega⟩] | rw [am_lay_1, if_neg (fun q => by omega)]))
  have hv := h.e (o := 9) (k0 := 0) (b0 := 514) (n := 4) (by decide) (k := l.toNatClampNeg) (by omega)
  rw [Nat.zero_add, ← x0] at hv
  refine st.yes (v := M.1 201 (514 + l).toNatClampNeg) (by unfold c_scale; rw [if_pos z0, if_pos z1, ← hv]) (by (try dsimp only); unfold r_scale; rw [if_pos z0, if_pos z1, eN]) rfl ?_ (fun a k z => by (repeat (first | rw [am_wI_1, if_pos ⟨rfl, by omega⟩] | rw [am_wI_1, if_neg (fun q => by omega)] | rw [am_lay_1, if_pos ⟨rfl, by omega, by omega⟩] | rw [am_lay_1, if_neg (fun q => by omega)])))
  exact h.told (h.b.put (u := 9) (k0 := 0) (b0 := 514) (n := 4) (k := l.toNatClampNeg) (n1 := 29) (k1 := l.toNatClampNeg) (k2 := (514 + l).toNatClampNeg) (by decide) (by omega) rfl (by omega) (by omega) v (by exact t_v.m9 (by omega) (by omega)) (by (unfold t_dep; omega))) (fun a k z1 z2 => by (repeat (first | rw [am_wI_1, if_pos ⟨rfl, by omega⟩] | rw [am_wI_1, if_neg (fun q => by omega)] | rw [am_lay_1, if_pos ⟨rfl, by omega, by omega⟩] | rw [am_lay_1, if_neg (fun q => by omega)]))) (fun k => by (simp only [am_wI_1, am_lay_1, Nat.reduceEqDiff, false_and, true_and, if_false])) (fun a k z1 z2 => by (repeat (first | rw [am_wI_1, if_pos ⟨rfl, by omega⟩] | rw [am_wI_1, if_neg (fun q => by omega)] | rw [am_lay_1, if_pos ⟨rfl, by omega, by omega⟩] | rw [am_lay_1, if_neg (fun q => by omega)]))) (fun a z => by (repeat (first | rw [am_wI_1, if_pos ⟨rfl, by omega⟩] | rw [am_wI_1, if_neg (fun q => by omega)] | rw [am_lay_1, if_pos ⟨rfl, by omega, by omega⟩] | rw [am_lay_1, if_neg (fun q => by omega)])))
theorem st_prices (h : LI i1 i2 M) (y v : Int32) : st i1 i2 M (c_prices M y v) (fun N => r_prices N y v) := by
  by_cases z0 : 0 ≤ y ∧ y < 40
  rotate_left
  · exact st.no h (if_neg z0) (if_neg z0)
  by_cases z1 : -100 ≤ v ∧ v ≤ 500
  rotate_left
  · exact st.no h (by unfold c_prices; rw [if_pos z0, if_neg z1]) (by (try dsimp only); unfold r_prices; rw [if_pos z0, if_neg z1])
  have b0 := yr z0
  have b1 := bt z1
  simp only [Int32.reduceToInt] at b1
  have c0 := i_clamp b0.1
  have x0 := x_off (c := 518) (cn := 518) rfl (x := y) ⟨b0.1, by omega⟩ (by decide)
  have eN : ∀ k, (am_wI M 30 y.toNatClampNeg v).1 201 k = M.1 201 k := fun k => by (repeat (first | rw [am_wI_1, if_pos ⟨rfl, by omega⟩] | rw [am_wI_1, if_neg (fun q => by omega)] | rw [am_lay_1, if_pos ⟨rfl, by omega, by omega⟩] | rw [am_lay_1, if_neg (fun q => by omega)]))
  have hv := h.e (o := 10) (k0 := 0) (b0 := 518) (n := 40) (by decide) (k := y.toNatClampNeg) (by omega)
  rw [Nat.zero_add, ← x0] at hv
  refine st.yes (v := M.1 201 (518 + y).toNatClampNeg) (by unfold c_prices; rw [if_pos z0, if_pos z1, ← hv]) (by (try dsimp only); unfold r_prices; rw [if_pos z0, if_pos z1, eN]) rfl ?_ (fun a k z => by (repeat (first | rw [am_wI_1, if_pos ⟨rfl, by omega⟩] | rw [am_wI_1, if_neg (fun q => by omega)] | rw [am_lay_1, if_pos ⟨rfl, by omega, by omega⟩] | rw [am_lay_1, if_neg (fun q => by omega)])))
  exact h.told (h.b.put (u := 10) (k0 := 0) (b0 := 518) (n := 40) (k := y.toNatClampNeg) (n1 := 30) (k1 := y.toNatClampNeg) (k2 := (518 + y).toNatClampNeg) (by decide) (by omega) rfl (by omega) (by omega) v (by exact t_v.m10 (by omega) (by omega)) (by (unfold t_dep; omega))) (fun a k z1 z2 => by (repeat (first | rw [am_wI_1, if_pos ⟨rfl, by omega⟩] | rw [am_wI_1, if_neg (fun q => by omega)] | rw [am_lay_1, if_pos ⟨rfl, by omega, by omega⟩] | rw [am_lay_1, if_neg (fun q => by omega)]))) (fun k => by (simp only [am_wI_1, am_lay_1, Nat.reduceEqDiff, false_and, true_and, if_false])) (fun a k z1 z2 => by (repeat (first | rw [am_wI_1, if_pos ⟨rfl, by omega⟩] | rw [am_wI_1, if_neg (fun q => by omega)] | rw [am_lay_1, if_pos ⟨rfl, by omega, by omega⟩] | rw [am_lay_1, if_neg (fun q => by omega)]))) (fun a z => by (repeat (first | rw [am_wI_1, if_pos ⟨rfl, by omega⟩] | rw [am_wI_1, if_neg (fun q => by omega)] | rw [am_lay_1, if_pos ⟨rfl, by omega, by omega⟩] | rw [am_lay_1, if_neg (fun q => by omega)])))
theorem neg1 {x : Int32} (h : -1 ≤ x.toInt) : x = -1 ↔ x < 0 := by
  simp only [i_eq, i_lt, Int32.reduceToInt]
  omega
theorem st_dies (h : LI i1 i2 M) (p y : Int32) : st i1 i2 M (c_dies M p y) (fun N => r_dies N p y) := by
  have e0 := h.e0
  have n0 := h.n0
  by_cases z0 : 0 ≤ p ∧ p < M.1 201 0
  rotate_left
  · exact st.no h (by unfold c_dies; rw [e0]; exact if_neg z0) (if_neg z0)
  by_cases z1 : 0 ≤ y ∧ y < 40
  rotate_left
  · exact st.no h (by unfold c_dies; rw [e0, if_pos z0, if_neg z1]) (by (try dsimp only); unfold r_dies; rw [if_pos z0, if_neg z1])
  have b0 := b4 z0
  have b1 := yr z1
  have c0 := i_clamp b0.1
  have x0 := x_off (c := 22) (cn := 22) rfl (x := p) ⟨b0.1, by omega⟩ (by decide)
  have hv := h.e (o := 3) (k0 := 0) (b0 := 22) (n := 12) (by decide) (k := p.toNatClampNeg) (by omega)
  rw [Nat.zero_add, ← x0] at hv
  have hv : M.1 23 p.toNatClampNeg = M.1 201 (22 + p).toNatClampNeg := hv
  have hr := (h.v (k := (22 + p).toNatClampNeg) (by omega)).a7 ⟨by omega, by omega⟩
  have hn := neg1 hr.1
  by_cases z2 : M.1 201 (22 + p).toNatClampNeg < 0
  rotate_left
  · exact st.no h (by unfold c_dies; rw [e0, if_pos z0, if_pos z1, hv, if_neg (fun q => z2 (hn.mp q))]) (by (try dsimp only); unfold r_dies; rw [if_pos z0, if_pos z1, if_neg z2])
  have eN : ∀ k, (am_wI M 23 p.toNatClampNeg y).1 201 k = M.1 201 k := fun k => by (repeat (first | rw [am_wI_1, if_pos ⟨rfl, by omega⟩] | rw [am_wI_1, if_neg (fun q => by omega)] | rw [am_lay_1, if_pos ⟨rfl, by omega, by omega⟩] | rw [am_lay_1, if_neg (fun q => by omega)]))
  refine st.yes (by unfold c_dies; rw [e0, if_pos z0, if_pos z1, hv, if_pos (hn.mpr z2)]) (by (try dsimp only); unfold r_dies; rw [eN, eN, if_pos z0, if_pos z1, if_pos z2]) rfl ?_ (fun a k z => by (repeat (first | rw [am_wI_1, if_pos ⟨rfl, by omega⟩] | rw [am_wI_1, if_neg (fun q => by omega)] | rw [am_lay_1, if_pos ⟨rfl, by omega, by omega⟩] | rw [am_lay_1, if_neg (fun q => by omega)])))
  exact h.told (h.b.put (u := 3) (k0 := 0) (b0 := 22) (n := 12) (k := p.toNatClampNeg) (n1 := 23) (k1 := p.toNatClampNeg) (k2 := (22 + p).toNatClampNeg) (by decide) (by omega) rfl (by omega) (by omega) y (by exact t_v.m7 (by omega) (by omega)) (by (unfold t_dep; omega))) (fun a k z1 z2 => by (repeat (first | rw [am_wI_1, if_pos ⟨rfl, by omega⟩] | rw [am_wI_1, if_neg (fun q => by omega)] | rw [am_lay_1, if_pos ⟨rfl, by omega, by omega⟩] | rw [am_lay_1, if_neg (fun q => by omega)]))) (fun k => by (simp only [am_wI_1, am_lay_1, Nat.reduceEqDiff, false_and, true_and, if_false])) (fun a k z1 z2 => by (repeat (first | rw [am_wI_1, if_pos ⟨rfl, by omega⟩] | rw [am_wI_1, if_neg (fun q => by omega)] | rw [am_lay_1, if_pos ⟨rfl, by omega, by omega⟩] | rw [am_lay_1, if_neg (fun q => by omega)]))) (fun a z => by (repeat (first | rw [am_wI_1, if_pos ⟨rfl, by omega⟩] | rw [am_wI_1, if_neg (fun q => by omega)] | rw [am_lay_1, if_pos ⟨rfl, by omega, by omega⟩] | rw [am_lay_1, if_neg (fun q => by omega)])))
theorem st_earn (h : LI i1 i2 M) (p y c k : Int32) : st i1 i2 M (c_earn M p y c k) (fun N => r_earn N p y c k) := by
  have e0 := h.e0
  have n0 := h.n0
  by_cases z0 : 0 ≤ p ∧ p < M.1 201 0
  rotate_left
  · exact st.no h (by unfold c_earn; rw [e0]; exact if_neg z0) (if_neg z0)
  by_cases z1 : 0 ≤ y ∧ y ≤ k ∧ k < 40
  rotate_left
  · refine st.no h (by unfold c_earn; rw [e0, if_pos z0, if_neg z1]) ?_
    (try dsimp only)
    unfold r_earn
    rw [if_pos z0]
    by_cases y1 : 0 ≤ y ∧ y < 40
    · rw [if_pos y1]
      by_cases y2 : 0 ≤ c ∧ c ≤ 10000000
      · rw [if_pos y2, if_neg]
        intro q
        refine z1 ⟨y1.1, q.1, ?_⟩
        have q2 := q.2
        simp only [i_le, i_lt, Int32.reduceToInt] at q2 ⊢
        omega
      · rw [if_neg y2]
    · rw [if_neg y1]
  have y1 : 0 ≤ y ∧ y < 40 := by
    simp only [i_le, i_lt, Int32.reduceToInt] at z1 ⊢
    omega
  have y2 : y ≤ k ∧ k ≤ 39 := by
    simp only [i_le, i_lt, Int32.reduceToInt] at z1 ⊢
    omega
  by_cases z2 : 0 ≤ c ∧ c ≤ 10000000
  rotate_left
  · exact st.no h (by unfold c_earn; rw [e0, if_pos z0, if_pos z1, if_neg z2]) (by (try dsimp only); unfold r_earn; rw [if_pos z0, if_pos y1, if_neg z2])
  have b0 := b4 z0
  have b1 := yr y1
  have b2 := bt z2
  have b3 := bt y2
  simp only [Int32.reduceToInt] at b2 b3
  have f := x_40 ⟨b0.1, by omega⟩ b1
  have c1 := i_clamp (x := 40 * p + y) (by omega)
  have c2 := i_clamp (x := p * 40 + y) (by omega)
  have x1 := x_off (c := 558) (cn := 558) rfl (x := 40 * p + y) ⟨by omega, by omega⟩ (by decide)
  have x2 := x_off (c := 1038) (cn := 1038) rfl (x := 40 * p + y) ⟨by omega, by omega⟩ (by decide)
  have hv := h.e (o := 6) (k0 := 0) (b0 := 1038) (n := 480) (by decide) (k := (p * 40 + y).toNatClampNeg) (by omega)
  rw [Nat.zero_add, show 1038 + (p * 40 + y).toNatClampNeg = (1038 + (40 * p + y)).toNatClampNeg by omega] at hv
  have hv : M.1 26 (p * 40 + y).toNatClampNeg = M.1 201 (1038 + (40 * p + y)).toNatClampNeg := hv
  have hr := (h.v (k := (1038 + (40 * p + y)).toNatClampNeg) (by omega)).a12 (by omega)
  have hn := neg1 hr.1
  by_cases z3 : M.1 201 (1038 + (40 * p + y)).toNatClampNeg < 0
  rotate_left
  · exact st.no h (by unfold c_earn; rw [e0, if_pos z0, if_pos z1, if_pos z2, hv, if_neg (fun q => z3 (hn.mp q))]) (by (try dsimp only); unfold r_earn; rw [if_pos z0, if_pos y1, if_pos z2, if_pos y2, if_neg z3])
  have eN : ∀ j, (am_wI (am_wI M 25 (p * 40 + y).toNatClampNeg c) 26 (p * 40 + y).toNatClampNeg k).1 201 j = M.1 201 j := fun j => by (repeat (first | rw [am_wI_1, if_pos ⟨rfl, by omega⟩] | rw [am_wI_1, if_neg (fun q => by omega)] | rw [am_lay_1, if_pos ⟨rfl, by omega, by omega⟩] | rw [am_lay_1, if_neg (fun q => by omega)]))
  refine st.yes (by unfold c_earn; rw [e0, if_pos z0, if_pos z1, if_pos z2, hv, if_pos (hn.mpr z3)]) (by (try dsimp only); unfold r_earn; rw [eN, eN, if_pos z0, if_pos y1, if_pos z2, if_pos y2, if_pos z3]) rfl ?_ (fun a k z => by (repeat (first | rw [am_wI_1, if_pos ⟨rfl, by omega⟩] | rw [am_wI_1, if_neg (fun q => by omega)] | rw [am_lay_1, if_pos ⟨rfl, by omega, by omega⟩] | rw [am_lay_1, if_neg (fun q => by omega)])))
  exact h.told ((h.b.put (u := 5) (k0 := 0) (b0 := 558) (n := 480) (k := (p * 40 + y).toNatClampNeg) (n1 := 25) (k1 := (p * 40 + y).toNatClampNeg) (k2 := (558 + (40 * p + y)).toNatClampNeg) (by decide) (by omega) rfl (by omega) (by omega) c (by exact t_v.m11 (by omega) (by omega)) (by (unfold t_dep; omega))).put (u := 6) (k0 := 0) (b0 := 1038) (n := 480) (k := (p * 40 + y).toNatClampNeg) (n1 := 26) (k1 := (p * 40 + y).toNatClampNeg) (k2 := (1038 + (40 * p + y)).toNatClampNeg) (by decide) (by omega) rfl (by omega) (by omega) k (by exact t_v.m12 (by omega) (by omega)) (by (unfold t_dep; omega))) (fun a k z1 z2 => by (repeat (first | rw [am_wI_1, if_pos ⟨rfl, by omega⟩] | rw [am_wI_1, if_neg (fun q => by omega)] | rw [am_lay_1, if_pos ⟨rfl, by omega, by omega⟩] | rw [am_lay_1, if_neg (fun q => by omega)]))) (fun k => by (simp only [am_wI_1, am_lay_1, Nat.reduceEqDiff, false_and, true_and, if_false])) (fun a k z1 z2 => by (repeat (first | rw [am_wI_1, if_pos ⟨rfl, by omega⟩] | rw [am_wI_1, if_neg (fun q => by omega)] | rw [am_lay_1, if_pos ⟨rfl, by omega, by omega⟩] | rw [am_lay_1, if_neg (fun q => by omega)]))) (fun a z => by (repeat (first | rw [am_wI_1, if_pos ⟨rfl, by omega⟩] | rw [am_wI_1, if_neg (fun q => by omega)] | rw [am_lay_1, if_pos ⟨rfl, by omega, by omega⟩] | rw [am_lay_1, if_neg (fun q => by omega)])))
theorem st_right (h : LI i1 i2 M) (p y c k : Int32) : st i1 i2 M (c_right M p y c k) (fun N => r_right N p y c k) := by
  have e0 := h.e0
  have n0 := h.n0
  by_cases z0 : 0 ≤ p ∧ p < M.1 201 0
  rotate_left
  · exact st.no h (by unfold c_right; rw [e0]; exact if_neg z0) (if_neg z0)
  by_cases z1 : 0 ≤ y ∧ y < 40
  rotate_left
  · exact st.no h (by unfold c_right; rw [e0, if_pos z0, if_neg z1]) (by (try dsimp only); unfold r_right; rw [if_pos z0, if_neg z1])
  by_cases z2 : 0 ≤ c ∧ c ≤ 10000000
  rotate_left
  · exact st.no h (by unfold c_right; rw [e0, if_pos z0, if_pos z1, if_neg z2]) (by (try dsimp only); unfold r_right; rw [if_pos z0, if_pos z1, if_neg z2])
  by_cases z3 : 0 ≤ k ∧ k < 40
  rotate_left
  · exact st.no h (by unfold c_right; rw [e0, if_pos z0, if_pos z1, if_pos z2, if_neg z3]) (by (try dsimp only); unfold r_right; rw [if_pos z0, if_pos z1, if_pos z2, if_neg z3])
  have b0 := b4 z0
  have b1 := yr z1
  have b2 := bt z2
  have b3 := yr z3
  simp only [Int32.reduceToInt] at b2
  have f := x_40 ⟨b0.1, by omega⟩ b1
  have c1 := i_clamp (x := 40 * p + y) (by omega)
  have c2 := i_clamp (x := p * 40 + y) (by omega)
  have x1 := x_off (c := 1518) (cn := 1518) rfl (x := 40 * p + y) ⟨by omega, by omega⟩ (by decide)
  have x2 := x_off (c := 1038) (cn := 1038) rfl (x := 40 * p + y) ⟨by omega, by omega⟩ (by decide)
  have x3 := x_off (c := 1998) (cn := 1998) rfl (x := 40 * p + y) ⟨by omega, by omega⟩ (by decide)
  have hv := h.e (o := 6) (k0 := 0) (b0 := 1038) (n := 480) (by decide) (k := (p * 40 + y).toNatClampNeg) (by omega)
  rw [Nat.zero_add, show 1038 + (p * 40 + y).toNatClampNeg = (1038 + (40 * p + y)).toNatClampNeg by omega] at hv
  have hv : M.1 26 (p * 40 + y).toNatClampNeg = M.1 201 (1038 + (40 * p + y)).toNatClampNeg := hv
  have hw := h.e (o := 8) (k0 := 0) (b0 := 1998) (n := 480) (by decide) (k := (p * 40 + y).toNatClampNeg) (by omega)
  rw [Nat.zero_add, show 1998 + (p * 40 + y).toNatClampNeg = (1998 + (40 * p + y)).toNatClampNeg by omega] at hw
  have hw : M.1 28 (p * 40 + y).toNatClampNeg = M.1 201 (1998 + (40 * p + y)).toNatClampNeg := hw
  have hr := (h.v (k := (1038 + (40 * p + y)).toNatClampNeg) (by omega)).a12 (by omega)
  have hs := (h.v (k := (1998 + (40 * p + y)).toNatClampNeg) (by omega)).a12 (by omega)
  have hn := neg1 hr.1
  have hm := neg1 hs.1
  by_cases z4 : M.1 201 (1038 + (40 * p + y)).toNatClampNeg < 0
  · have y4 : M.1 201 (1038 + (40 * p + y)).toNatClampNeg ≤ k := by
      simp only [i_lt, i_le, Int32.reduceToInt] at z4 ⊢
      omega
    exact st.no h (by unfold c_right; rw [e0, if_pos z0, if_pos z1, if_pos z2, if_pos z3, hv, if_pos y4, if_pos (hn.mpr z4)]) (by (try dsimp only); unfold r_right; rw [if_pos z0, if_pos z1, if_pos z2, if_pos z3, if_pos z4])
  have y5 : ¬ M.1 201 (1038 + (40 * p + y)).toNatClampNeg = -1 := fun q => z4 (hn.mp q)
  by_cases z5 : M.1 201 (1038 + (40 * p + y)).toNatClampNeg ≤ k
  rotate_left
  · exact st.no h (by unfold c_right; rw [e0, if_pos z0, if_pos z1, if_pos z2, if_pos z3, hv, if_neg z5]) (by (try dsimp only); unfold r_right; rw [if_pos z0, if_pos z1, if_pos z2, if_pos z3, if_neg z4, if_neg z5])
  by_cases z6 : M.1 201 (1998 + (40 * p + y)).toNatClampNeg < 0
  rotate_left
  · exact st.no h (by unfold c_right; rw [e0, if_pos z0, if_pos z1, if_pos z2, if_pos z3, hv, if_pos z5, if_neg y5, hw, if_neg (fun q => z6 (hm.mp q))]) (by (try dsimp only); unfold r_right; rw [if_pos z0, if_pos z1, if_pos z2, if_pos z3, if_neg z4, if_pos z5, if_neg z6])
  have eN : ∀ j, (am_wI (am_wI M 27 (p * 40 + y).toNatClampNeg c) 28 (p * 40 + y).toNatClampNeg k).1 201 j = M.1 201 j := fun j => by (repeat (first | rw [am_wI_1, if_pos ⟨rfl, by omega⟩] | rw [am_wI_1, if_neg (fun q => by omega)] | rw [am_lay_1, if_pos ⟨rfl, by omega, by omega⟩] | rw [am_lay_1, if_neg (fun q => by omega)]))
  refine st.yes (by unfold c_right; rw [e0, if_pos z0, if_pos z1, if_pos z2, if_pos z3, hv, if_pos z5, if_neg y5, hw, if_pos (hm.mpr z6)]) (by (try dsimp only); unfold r_right; simp only [eN]; rw [if_pos z0, if_pos z1, if_pos z2, if_pos z3, if_neg z4, if_pos z5, if_pos z6]) rfl ?_ (fun a k z => by (repeat (first | rw [am_wI_1, if_pos ⟨rfl, by omega⟩] | rw [am_wI_1, if_neg (fun q => by omega)] | rw [am_lay_1, if_pos ⟨rfl, by omega, by omega⟩] | rw [am_lay_1, if_neg (fun q => by omega)])))
  exact h.told ((h.b.put (u := 7) (k0 := 0) (b0 := 1518) (n := 480) (k := (p * 40 + y).toNatClampNeg) (n1 := 27) (k1 := (p * 40 + y).toNatClampNeg) (k2 := (1518 + (40 * p + y)).toNatClampNeg) (by decide) (by omega) rfl (by omega) (by omega) c (by exact t_v.m11 (by omega) (by omega)) (by (unfold t_dep; omega))).put (u := 8) (k0 := 0) (b0 := 1998) (n := 480) (k := (p * 40 + y).toNatClampNeg) (n1 := 28) (k1 := (p * 40 + y).toNatClampNeg) (k2 := (1998 + (40 * p + y)).toNatClampNeg) (by decide) (by omega) rfl (by omega) (by omega) k (by exact t_v.m12 (by omega) (by omega)) (by (unfold t_dep; omega))) (fun a k z1 z2 => by (repeat (first | rw [am_wI_1, if_pos ⟨rfl, by omega⟩] | rw [am_wI_1, if_neg (fun q => by omega)] | rw [am_lay_1, if_pos ⟨rfl, by omega, by omega⟩] | rw [am_lay_1, if_neg (fun q => by omega)]))) (fun k => by (simp only [am_wI_1, am_lay_1, Nat.reduceEqDiff, false_and, true_and, if_false])) (fun a k z1 z2 => by (repeat (first | rw [am_wI_1, if_pos ⟨rfl, by omega⟩] | rw [am_wI_1, if_neg (fun q => by omega)] | rw [am_lay_1, if_pos ⟨rfl, by omega, by omega⟩] | rw [am_lay_1, if_neg (fun q => by omega)]))) (fun a z => by (repeat (first | rw [am_wI_1, if_pos ⟨rfl, by omega⟩] | rw [am_wI_1, if_neg (fun q => by omega)] | rw [am_lay_1, if_pos ⟨rfl, by omega, by omega⟩] | rw [am_lay_1, if_neg (fun q => by omega)])))
theorem sp {f t : Int32} (h : 0 ≤ f ∧ f ≤ t ∧ t < 40) : 0 ≤ f.toInt ∧ f.toInt ≤ t.toInt ∧ t.toInt ≤ 39 := by
  simp only [i_le, i_lt, Int32.reduceToInt] at h
  omega
theorem spa {f t : Int32} (h : 0 ≤ f ∧ f ≤ t ∧ t < 40) : (0 ≤ f ∧ f < 40) ∧ (0 ≤ t ∧ t < 40) ∧ f ≤ t := by
  simp only [i_le, i_lt, Int32.reduceToInt] at h ⊢
  omega
theorem spb {f t : Int32} (h1 : 0 ≤ f ∧ f < 40) (h2 : 0 ≤ t ∧ t < 40) (h3 : f ≤ t) : 0 ≤ f ∧ f ≤ t ∧ t < 40 := ⟨h1.1, h3, h2.2⟩
theorem st_land (h : LI i1 i2 M) (p l f t : Int32) : st i1 i2 M (c_land M p l f t) (fun N => r_land N p l f t) := by
  have e0 := h.e0
  have n0 := h.n0
  by_cases z0 : 0 ≤ p ∧ p < M.1 201 0
  rotate_left
  · exact st.no h (by unfold c_land; rw [e0]; exact if_neg z0) (if_neg z0)
  by_cases z1 : 0 ≤ l ∧ l ≤ 3
  rotate_left
  · exact st.no h (by unfold c_land; rw [e0, if_pos z0, if_neg z1]) (by (try dsimp only); unfold r_land; rw [if_pos z0, if_neg z1])
  by_cases z2 : 0 ≤ f ∧ f ≤ t ∧ t < 40
  rotate_left
  · refine st.no h (by unfold c_land; rw [e0, if_pos z0, if_pos z1, if_neg z2]) ?_
    (try dsimp only)
    unfold r_land
    rw [if_pos z0, if_pos z1]
    by_cases y1 : 0 ≤ f ∧ f < 40
    · rw [if_pos y1]
      by_cases y2 : 0 ≤ t ∧ t < 40
      · rw [if_pos y2, if_neg (fun q => z2 (spb y1 y2 q))]
      · rw [if_neg y2]
    · rw [if_neg y1]
  obtain ⟨y1, y2, y3⟩ := spa z2
  have b0 := b4 z0
  have b1 := bt z1
  simp only [Int32.reduceToInt] at b1
  have b2 := sp z2
  have f1 := x_40 (p := p) (y := f) ⟨b0.1, by omega⟩ ⟨b2.1, by omega⟩
  have f2 := x_40 (p := p) (y := t) ⟨b0.1, by omega⟩ ⟨by omega, b2.2.2⟩
  have l24 : am_len 24 = 480 := rfl
  refine st.yes (by unfold c_land; rw [e0, if_pos z0, if_pos z1, if_pos z2]) (by (try dsimp only); unfold r_land; rw [show (am_lay M 24 (max (p * 40 + f).toInt 0) (min (p * 40 + t).toInt ((am_len 24 : Int) - 1)) l).1 201 0 = M.1 201 0 by (repeat (first | rw [am_wI_1, if_pos ⟨rfl, by omega⟩] | rw [am_wI_1, if_neg (fun q => by omega)] | rw [am_lay_1, if_pos ⟨rfl, by omega, by omega⟩] | rw [am_lay_1, if_neg (fun q => by omega)])), if_pos z0, if_pos z1, if_pos y1, if_pos y2, if_pos y3]) rfl ?_ (fun a k z => by (repeat (first | rw [am_wI_1, if_pos ⟨rfl, by omega⟩] | rw [am_wI_1, if_neg (fun q => by omega)] | rw [am_lay_1, if_pos ⟨rfl, by omega, by omega⟩] | rw [am_lay_1, if_neg (fun q => by omega)])))
  exact h.told (h.b.lay (u := 4) (b0 := 34) (n := 480) (n1 := 24) (lo := 40 * p.toInt + f.toInt) (hi := 40 * p.toInt + t.toInt) (l1 := max (p * 40 + f).toInt 0) (h1 := min (p * 40 + t).toInt ((am_len 24 : Int) - 1)) (l2 := 34 + 40 * p.toInt + f.toInt) (h2 := 34 + 40 * p.toInt + t.toInt) (by decide) (by omega) (by omega) rfl (fun j => by rw [l24]; omega) (fun j => by omega) l (fun j j1 j2 => by exact t_v.m8 (by omega) (by omega)) (fun j j1 j2 => by ((unfold t_dep; omega)))) (fun a k z1 z2 => by (repeat (first | rw [am_wI_1, if_pos ⟨rfl, by omega⟩] | rw [am_wI_1, if_neg (fun q => by omega)] | rw [am_lay_1, if_pos ⟨rfl, by omega, by omega⟩] | rw [am_lay_1, if_neg (fun q => by omega)]))) (fun k => by (simp only [am_wI_1, am_lay_1, Nat.reduceEqDiff, false_and, true_and, if_false])) (fun a k z1 z2 => by (repeat (first | rw [am_wI_1, if_pos ⟨rfl, by omega⟩] | rw [am_wI_1, if_neg (fun q => by omega)] | rw [am_lay_1, if_pos ⟨rfl, by omega, by omega⟩] | rw [am_lay_1, if_neg (fun q => by omega)]))) (fun a z => by (repeat (first | rw [am_wI_1, if_pos ⟨rfl, by omega⟩] | rw [am_wI_1, if_neg (fun q => by omega)] | rw [am_lay_1, if_pos ⟨rfl, by omega, by omega⟩] | rw [am_lay_1, if_neg (fun q => by omega)])))
theorem st_live (h : LI i1 i2 M) (l f t c : Int32) : st i1 i2 M (c_live M l f t c) (fun N => r_live N l f t c) := by
  by_cases z1 : 0 ≤ l ∧ l ≤ 3
  rotate_left
  · exact st.no h (by unfold c_live; rw [if_neg z1]) (by (try dsimp only); unfold r_live; rw [if_neg z1])
  by_cases z2 : 0 ≤ f ∧ f ≤ t ∧ t < 40
  rotate_left
  · refine st.no h (by unfold c_live; rw [if_pos z1, if_neg z2]) ?_
    (try dsimp only)
    unfold r_live
    rw [if_pos z1]
    by_cases y1 : 0 ≤ f ∧ f < 40
    · rw [if_pos y1]
      by_cases y2 : 0 ≤ t ∧ t < 40
      · rw [if_pos y2, if_neg (fun q => z2 (spb y1 y2 q))]
      · rw [if_neg y2]
    · rw [if_neg y1]
  obtain ⟨y1, y2, y3⟩ := spa z2
  by_cases z3 : 0 ≤ c ∧ c ≤ 10000000
  rotate_left
  · exact st.no h (by unfold c_live; rw [if_pos z1, if_pos z2, if_neg z3]) (by (try dsimp only); unfold r_live; rw [if_pos z1, if_pos y1, if_pos y2, if_pos y3, if_neg z3])
  have b0 := bt z1
  have b1 := bt z3
  simp only [Int32.reduceToInt] at b0 b1
  have b2 := sp z2
  have f1 := x_40 (p := l) (y := f) ⟨b0.1, by omega⟩ ⟨b2.1, by omega⟩
  have f2 := x_40 (p := l) (y := t) ⟨b0.1, by omega⟩ ⟨by omega, b2.2.2⟩
  have l56 : am_len 56 = 160 := rfl
  refine st.yes (by unfold c_live; rw [if_pos z1, if_pos z2, if_pos z3]) (by (try dsimp only); unfold r_live; rw [if_pos z1, if_pos y1, if_pos y2, if_pos y3, if_pos z3]) rfl ?_ (fun a k z => by (repeat (first | rw [am_wI_1, if_pos ⟨rfl, by omega⟩] | rw [am_wI_1, if_neg (fun q => by omega)] | rw [am_lay_1, if_pos ⟨rfl, by omega, by omega⟩] | rw [am_lay_1, if_neg (fun q => by omega)])))
  exact h.told (h.b.lay (u := 36) (b0 := 3573) (n := 160) (n1 := 56) (lo := 40 * l.toInt + f.toInt) (hi := 40 * l.toInt + t.toInt) (l1 := max (l * 40 + f).toInt 0) (h1 := min (l * 40 + t).toInt ((am_len 56 : Int) - 1)) (l2 := 3573 + 40 * l.toInt + f.toInt) (h2 := 3573 + 40 * l.toInt + t.toInt) (by decide) (by omega) (by omega) rfl (fun j => by rw [l56]; omega) (fun j => by omega) c (fun j j1 j2 => by exact t_v.m33 (by omega) (by omega)) (fun j j1 j2 => by ((unfold t_dep; omega)))) (fun a k z1 z2 => by (repeat (first | rw [am_wI_1, if_pos ⟨rfl, by omega⟩] | rw [am_wI_1, if_neg (fun q => by omega)] | rw [am_lay_1, if_pos ⟨rfl, by omega, by omega⟩] | rw [am_lay_1, if_neg (fun q => by omega)]))) (fun k => by (simp only [am_wI_1, am_lay_1, Nat.reduceEqDiff, false_and, true_and, if_false])) (fun a k z1 z2 => by (repeat (first | rw [am_wI_1, if_pos ⟨rfl, by omega⟩] | rw [am_wI_1, if_neg (fun q => by omega)] | rw [am_lay_1, if_pos ⟨rfl, by omega, by omega⟩] | rw [am_lay_1, if_neg (fun q => by omega)]))) (fun a z => by (repeat (first | rw [am_wI_1, if_pos ⟨rfl, by omega⟩] | rw [am_wI_1, if_neg (fun q => by omega)] | rw [am_lay_1, if_pos ⟨rfl, by omega, by omega⟩] | rw [am_lay_1, if_neg (fun q => by omega)])))
theorem st_untell (h : LI i1 i2 M) : st i1 i2 M (c_untell M) (fun N => r_untell N) := by
  have zz : Int32.toNatClampNeg 5 = 5 := rfl
  have z0 : (0 : Int32).toInt = 0 := rfl
  have eN : ∀ k, (am_wI M 20 12 0).1 201 k = M.1 201 k := fun k => by (repeat (first | rw [am_wI_1, if_pos ⟨rfl, by omega⟩] | rw [am_wI_1, if_neg (fun q => by omega)] | rw [am_lay_1, if_pos ⟨rfl, by omega, by omega⟩] | rw [am_lay_1, if_neg (fun q => by omega)]))
  refine st.yes (v := M.1 201 5) (by unfold c_untell; rw [h.e5]) (by (try dsimp only); unfold r_untell; rw [zz, eN]) rfl ?_ (fun a k z => by (repeat (first | rw [am_wI_1, if_pos ⟨rfl, by omega⟩] | rw [am_wI_1, if_neg (fun q => by omega)] | rw [am_lay_1, if_pos ⟨rfl, by omega, by omega⟩] | rw [am_lay_1, if_neg (fun q => by omega)])))
  exact h.told (h.b.put (u := 0) (k0 := 12) (b0 := 5) (n := 1) (k := 0) (n1 := 20) (k1 := 12) (k2 := 5) (by decide) (by omega) rfl (by omega) (by omega) 0 (by exact t_v.m5 (by omega) (by omega)) (by (unfold t_dep; omega))) (fun a k z1 z2 => by (repeat (first | rw [am_wI_1, if_pos ⟨rfl, by omega⟩] | rw [am_wI_1, if_neg (fun q => by omega)] | rw [am_lay_1, if_pos ⟨rfl, by omega, by omega⟩] | rw [am_lay_1, if_neg (fun q => by omega)]))) (fun k => by (simp only [am_wI_1, am_lay_1, Nat.reduceEqDiff, false_and, true_and, if_false])) (fun a k z1 z2 => by (repeat (first | rw [am_wI_1, if_pos ⟨rfl, by omega⟩] | rw [am_wI_1, if_neg (fun q => by omega)] | rw [am_lay_1, if_pos ⟨rfl, by omega, by omega⟩] | rw [am_lay_1, if_neg (fun q => by omega)]))) (fun a z => by (repeat (first | rw [am_wI_1, if_pos ⟨rfl, by omega⟩] | rw [am_wI_1, if_neg (fun q => by omega)] | rw [am_lay_1, if_pos ⟨rfl, by omega, by omega⟩] | rw [am_lay_1, if_neg (fun q => by omega)])))
theorem st_tell (h : LI i1 i2 M) (v : Int32) : st i1 i2 M (c_tell M v) (fun N => r_tell N v) := by
  have zz : Int32.toNatClampNeg 5 = 5 := rfl
  have e5 := h.e5
  have n5 := h.n5
  by_cases z0 : 0 ≤ v ∧ v ≤ 10000000
  rotate_left
  · exact st.no h (if_neg z0) (if_neg z0)
  have b0 := bt z0
  simp only [Int32.reduceToInt] at b0
  by_cases z1 : M.1 201 5 = 9
  · exact st.no h (by unfold c_tell; rw [if_pos z0, e5, if_neg (by rw [z1]; decide)]) (by (try dsimp only); unfold r_tell; rw [zz, if_pos z0, if_pos z1])
  have zi : (M.1 201 5).toInt < 9 := by have q := z1; simp only [i_eq, Int32.reduceToInt] at q; omega
  have y1 : M.1 201 5 < 9 := by simp only [i_lt, Int32.reduceToInt]; exact zi
  have c0 := i_clamp n5.1
  have x0 := x_off (c := 3745) (cn := 3745) rfl (x := M.1 201 5) ⟨n5.1, by omega⟩ (by decide)
  have hi := i_inc (x := M.1 201 5) (by omega) (by omega)
  have eN : ∀ k, (am_wI (am_wI M 58 (M.1 201 5).toNatClampNeg v) 20 12 (M.1 201 5 + 1)).1 201 k = M.1 201 k := fun k => by (repeat (first | rw [am_wI_1, if_pos ⟨rfl, by omega⟩] | rw [am_wI_1, if_neg (fun q => by omega)] | rw [am_lay_1, if_pos ⟨rfl, by omega, by omega⟩] | rw [am_lay_1, if_neg (fun q => by omega)]))
  refine st.yes (v := M.1 201 5 + 1) (by unfold c_tell; rw [if_pos z0, e5, if_pos y1]) (by
    (try dsimp only)
    unfold r_tell
    rw [zz, eN, if_pos z0, if_neg z1]
    (try dsimp only)
    rw [am_wI_self, show (am_wI (am_wI (am_wI M 58 (M.1 201 5).toNatClampNeg v) 20 12 (M.1 201 5 + 1)) 201 (3745 + M.1 201 5).toNatClampNeg v).1 201 5 = M.1 201 5 by (repeat (first | rw [am_wI_1, if_pos ⟨rfl, by omega⟩] | rw [am_wI_1, if_neg (fun q => by omega)] | rw [am_lay_1, if_pos ⟨rfl, by omega, by omega⟩] | rw [am_lay_1, if_neg (fun q => by omega)]))]) rfl ?_ (fun a k z => by (repeat (first | rw [am_wI_1, if_pos ⟨rfl, by omega⟩] | rw [am_wI_1, if_neg (fun q => by omega)] | rw [am_lay_1, if_pos ⟨rfl, by omega, by omega⟩] | rw [am_lay_1, if_neg (fun q => by omega)])))
  exact h.told ((h.b.put (u := 38) (k0 := 0) (b0 := 3745) (n := 9) (k := (M.1 201 5).toNatClampNeg) (n1 := 58) (k1 := (M.1 201 5).toNatClampNeg) (k2 := (3745 + M.1 201 5).toNatClampNeg) (by decide) (by omega) rfl (by omega) (by omega) v (by exact t_v.m35 (by omega) (by omega)) (by (unfold t_dep; omega))).put (u := 0) (k0 := 12) (b0 := 5) (n := 1) (k := 0) (n1 := 20) (k1 := 12) (k2 := 5) (by decide) (by omega) rfl (by omega) (by omega) (M.1 201 5 + 1) (by exact t_v.m5 (by omega) (by omega)) (by (unfold t_dep; omega))) (fun a k z1 z2 => by (repeat (first | rw [am_wI_1, if_pos ⟨rfl, by omega⟩] | rw [am_wI_1, if_neg (fun q => by omega)] | rw [am_lay_1, if_pos ⟨rfl, by omega, by omega⟩] | rw [am_lay_1, if_neg (fun q => by omega)]))) (fun k => by (simp only [am_wI_1, am_lay_1, Nat.reduceEqDiff, false_and, true_and, if_false])) (fun a k z1 z2 => by (repeat (first | rw [am_wI_1, if_pos ⟨rfl, by omega⟩] | rw [am_wI_1, if_neg (fun q => by omega)] | rw [am_lay_1, if_pos ⟨rfl, by omega, by omega⟩] | rw [am_lay_1, if_neg (fun q => by omega)]))) (fun a z => by (repeat (first | rw [am_wI_1, if_pos ⟨rfl, by omega⟩] | rw [am_wI_1, if_neg (fun q => by omega)] | rw [am_lay_1, if_pos ⟨rfl, by omega, by omega⟩] | rw [am_lay_1, if_neg (fun q => by omega)])))
/-- a person more -/
theorem lb.pe {A B : am_M} (h : lb 20 201 0 A B) {v : Int32} (h1 : (B.1 201 0).toInt ≤ v.toInt) (h2 : v.toInt ≤ 12) : lb 20 201 0 (am_wI A 21 7 v) (am_wI B 201 0 v) := by
  have n0 := (h.t.v (k := 0) (by decide)).a0 rfl
  have b0 : 0 ≤ v.toInt := by
    have n0 : 0 ≤ (B.1 201 0).toInt ∧ (B.1 201 0).toInt ≤ 12 := n0
    omega
  have hB : ∀ j, (am_wI B 201 0 v).1 201 (0 + j) = if j = 0 then v else B.1 201 (0 + j) := fun j => by
    rw [am_wI_1]
    by_cases z : j = 0
    · rw [if_pos ⟨rfl, by omega⟩, if_pos z]
    · rw [if_neg (fun q => z (by omega)), if_neg z]
  have h17 : (am_wI A 21 7 v).1 (20 + 17) = A.1 (20 + 17) := funext fun j => by rw [am_wI_1, if_neg (fun z => by omega)]
  have hr := h.r.put (q := (1, 7, 0, 1)) (by decide) (k := 0) (by decide) v h.a
  refine ⟨(), hr, h.t.up (fun j hj => ?_), ?_, fun j hj => ?_, fun t ht => ?_⟩
  · (try dsimp only)
    rw [hB]
    by_cases z : j = 0
    · subst z; rw [if_pos rfl]; exact Or.inr (by exact t_v.m0 (by omega) (by omega))
    · rw [if_neg z]; exact Or.inl rfl
  · have e : (fun k => (am_wI B 201 0 v).1 201 (0 + k)) = fun k => if k = 0 then v else B.1 201 (0 + k) := funext hB
    rw [e, h17]
    obtain ⟨-, r1, r2, r3, r4⟩ := h.l
    (try dsimp only at r1 r2 r3 r4)
    refine ⟨(), fun l hl z => ?_, fun m hm z => ?_, fun a ha => ?_, fun l hl z y hy => ?_⟩
    · (try dsimp only at z ⊢)
      rw [if_neg (by decide)] at z
      rw [if_neg (by omega), if_pos rfl]
      have q := r1 l hl z
      have h1 : (B.1 201 (0 + 0)).toInt ≤ v.toInt := h1
      omega
    · (try dsimp only at z ⊢)
      rw [if_neg (by decide)] at z
      rw [if_neg (by omega), if_neg (by decide)]
      exact r2 m hm z
    · (try dsimp only)
      rw [if_neg (by omega), if_neg (by omega)]
      exact r3 a ha
    · (try dsimp only at z ⊢)
      rw [if_neg (by decide)] at z
      rw [if_neg (by decide), r4 l hl z y hy]
      exact (r_plm_cg (by (try dsimp only); rw [if_neg (by omega)]) _ (fun k z1 z2 => by (try dsimp only); rw [if_neg (by omega)])).symm
  · rw [h17]; exact h.p hj
  · rw [am_wI_1, if_neg (fun z => by omega)]; exact h.c ht
theorem st_person (h : LI i1 i2 M) (b : Int32) : st i1 i2 M (c_person M b) (fun N => r_person N b) := by
  have zz : Int32.toNatClampNeg 0 = 0 := rfl
  have e0 := h.e0
  have n0 := h.n0
  by_cases z0 : 0 ≤ b ∧ b < 40
  rotate_left
  · exact st.no h (if_neg z0) (if_neg z0)
  have b0 := yr z0
  by_cases z1 : M.1 201 0 = 12
  · exact st.no h (by unfold c_person; rw [if_pos z0, e0, if_neg (by rw [z1]; decide)]) (by (try dsimp only); unfold r_person; rw [zz, if_pos z0, if_pos z1])
  have zi : (M.1 201 0).toInt < 12 := by have q := z1; simp only [i_eq, Int32.reduceToInt] at q; omega
  have y1 : M.1 201 0 < 12 := by simp only [i_lt, Int32.reduceToInt]; exact zi
  have c0 := i_clamp n0.1
  have x0 := x_off (c := 10) (cn := 10) rfl (x := M.1 201 0) ⟨n0.1, by omega⟩ (by decide)
  have hi := i_inc (x := M.1 201 0) (by omega) (by omega)
  have eN : ∀ k, (am_wI (am_wI M 22 (M.1 201 0).toNatClampNeg b) 21 7 (M.1 201 0 + 1)).1 201 k = M.1 201 k := fun k => by (repeat (first | rw [am_wI_1, if_pos ⟨rfl, by omega⟩] | rw [am_wI_1, if_neg (fun q => by omega)] | rw [am_lay_1, if_pos ⟨rfl, by omega, by omega⟩] | rw [am_lay_1, if_neg (fun q => by omega)]))
  refine st.yes (v := M.1 201 0 + 1 - 1) (by unfold c_person; rw [if_pos z0, e0, if_pos y1]) (by
    (try dsimp only)
    unfold r_person
    rw [zz, eN, if_pos z0, if_neg z1]
    (try dsimp only)
    rw [am_wI_self, show (am_wI (am_wI (am_wI M 22 (M.1 201 0).toNatClampNeg b) 21 7 (M.1 201 0 + 1)) 201 (10 + M.1 201 0).toNatClampNeg b).1 201 0 = M.1 201 0 by (repeat (first | rw [am_wI_1, if_pos ⟨rfl, by omega⟩] | rw [am_wI_1, if_neg (fun q => by omega)] | rw [am_lay_1, if_pos ⟨rfl, by omega, by omega⟩] | rw [am_lay_1, if_neg (fun q => by omega)]))]) rfl ?_ (fun a k z => by (repeat (first | rw [am_wI_1, if_pos ⟨rfl, by omega⟩] | rw [am_wI_1, if_neg (fun q => by omega)] | rw [am_lay_1, if_pos ⟨rfl, by omega, by omega⟩] | rw [am_lay_1, if_neg (fun q => by omega)])))
  have q := h.b.put (u := 2) (k0 := 0) (b0 := 10) (n := 12) (k := (M.1 201 0).toNatClampNeg) (n1 := 22) (k1 := (M.1 201 0).toNatClampNeg) (k2 := (10 + M.1 201 0).toNatClampNeg) (by decide) (by omega) rfl (by omega) (by omega) b (by exact t_v.m6 (by omega) (by omega)) (by (unfold t_dep; omega))
  have e : (am_wI M 201 (10 + M.1 201 0).toNatClampNeg b).1 201 0 = M.1 201 0 := by (repeat (first | rw [am_wI_1, if_pos ⟨rfl, by omega⟩] | rw [am_wI_1, if_neg (fun q => by omega)] | rw [am_lay_1, if_pos ⟨rfl, by omega, by omega⟩] | rw [am_lay_1, if_neg (fun q => by omega)]))
  exact h.told (q.pe (v := M.1 201 0 + 1) (by rw [e]; omega) (by omega)) (fun a k z1 z2 => by (repeat (first | rw [am_wI_1, if_pos ⟨rfl, by omega⟩] | rw [am_wI_1, if_neg (fun q => by omega)] | rw [am_lay_1, if_pos ⟨rfl, by omega, by omega⟩] | rw [am_lay_1, if_neg (fun q => by omega)]))) (fun k => by (simp only [am_wI_1, am_lay_1, Nat.reduceEqDiff, false_and, true_and, if_false])) (fun a k z1 z2 => by (repeat (first | rw [am_wI_1, if_pos ⟨rfl, by omega⟩] | rw [am_wI_1, if_neg (fun q => by omega)] | rw [am_lay_1, if_pos ⟨rfl, by omega, by omega⟩] | rw [am_lay_1, if_neg (fun q => by omega)]))) (fun a z => by (repeat (first | rw [am_wI_1, if_pos ⟨rfl, by omega⟩] | rw [am_wI_1, if_neg (fun q => by omega)] | rw [am_lay_1, if_pos ⟨rfl, by omega, by omega⟩] | rw [am_lay_1, if_neg (fun q => by omega)])))
end STS
end
-- part 73.told2.lean.txt
section
/-! told calls, II: rows of their own, texts, images -/
theorem rl_c_lt : ∀ q ∈ rl_c, q.1 < 39 ∧ q.1 ≠ 17 ∧ q.2.2.1 + q.2.2.2 ≤ 3760 := by decide
theorem rl_c_13 : ∀ q ∈ rl_c, (q.1 = 13 ∧ q = (13, 2, 1, 1)) ∨ (q.1 ≠ 13 ∧ (q.2.2.1 + q.2.2.2 ≤ 1 ∨ 2 ≤ q.2.2.1)) := by decide
theorem rl_c_14 : ∀ q ∈ rl_c, (q.1 = 14 ∧ q = (14, 0, 2838, 240)) ∨ (q.1 ≠ 14 ∧ (q.2.2.1 + q.2.2.2 ≤ 2838 ∨ 3078 ≤ q.2.2.1)) := by decide
theorem rl_c_15 : ∀ q ∈ rl_c, (q.1 = 15 ∧ q = (15, 2, 3, 1)) ∨ (q.1 ≠ 15 ∧ (q.2.2.1 + q.2.2.2 ≤ 3 ∨ 4 ≤ q.2.2.1)) := by decide
theorem rl_c_16 : ∀ q ∈ rl_c, (q.1 = 16 ∧ q = (16, 0, 3078, 180)) ∨ (q.1 ≠ 16 ∧ (q.2.2.1 + q.2.2.2 ≤ 3078 ∨ 3258 ≤ q.2.2.1)) := by decide
/-- an act more -/
theorem lb.act {A B A' B' : am_M} (h : lb 20 201 0 A B) {n : Nat} (hn : (B.1 201 2).toInt = (n : Int)) (h60 : n < 60)
    (hA : ∀ a k, 20 ≤ a → a < 59 → ¬ (a = 31 ∧ k = 2) → ¬ (a = 32 ∧ 6 * n ≤ k ∧ k < 6 * n + 6) → A'.1 a k = A.1 a k)
    (hB : ∀ k, k ≠ 2 → ¬ (2478 + 6 * n ≤ k ∧ k < 2484 + 6 * n) → B'.1 201 k = B.1 201 k)
    (hs : A'.1 31 2 = B'.1 201 2) (hs2 : (B'.1 201 2).toInt = (n : Int) + 1)
    (hr : ∀ c, c < 6 → A'.1 32 (6 * n + c) = B'.1 201 (2478 + 6 * n + c)) (hv : ∀ c, c < 6 → t_v (2478 + 6 * n + c) (B'.1 201 (2478 + 6 * n + c)).toInt)
    (hm : am_isNum (B'.1 201 (2479 + 6 * n)) (B'.1 201 (2480 + 6 * n))) : lb 20 201 0 A' B' := by
  have hB0 : ∀ k, k ≠ 2 → ¬ (2478 + 6 * n ≤ k ∧ k < 2484 + 6 * n) → B'.1 201 (0 + k) = B.1 201 (0 + k) := fun k z1 z2 => by rw [Nat.zero_add]; exact hB k z1 z2
  have h17 : A'.1 (20 + 17) = A.1 (20 + 17) := funext fun k => hA 37 k (by decide) (by decide) (fun z => by omega) (fun z => by omega)
  obtain ⟨-, a1, a2, a3⟩ := h.r
  have cn := i_clamp (x := B.1 201 2) (by omega)
  have cn' := i_clamp (x := B'.1 201 2) (by omega)
  refine ⟨(), ⟨(), fun q hq k hk => ?_, ?_, fun k hk => ?_⟩, h.t.up (fun k hk => ?_), ?_, fun k hk => ?_, fun t ht => ?_⟩
  · have ho := rl_c_off q hq
    have hl := rl_c_lt q hq
    rw [hA _ _ (by omega) (by omega) (fun z => by omega) (fun z => by omega), hB0 _ (by omega) (by omega)]
    exact a1 q hq k hk
  · exact hs
  · have hs' : A'.1 (20 + 11) 2 = B'.1 201 2 := hs
    rw [hs'] at hk
    show A'.1 32 k = _
    by_cases z : k < 6 * n
    · rw [hA 32 k (by decide) (by decide) (fun z => by omega) (fun z => by omega), hB0 (2478 + k) (by omega) (by omega)]
      refine a3 k ?_
      rw [a2]
      show k < 6 * (B.1 201 2).toNatClampNeg
      omega
    · have e := hr (k - 6 * n) (by omega)
      rw [show 6 * n + (k - 6 * n) = k by omega, show 2478 + 6 * n + (k - 6 * n) = 0 + (2478 + k) by omega] at e
      exact e
  · (try dsimp only)
    by_cases z : k = 2
    · subst z
      refine Or.inr ?_
      show t_v 2 (B'.1 201 2).toInt
      rw [hs2]
      exact t_v.m2 (by omega) (by omega)
    · by_cases z2 : 2478 + 6 * n ≤ k ∧ k < 2484 + 6 * n
      · have q := hv (k - (2478 + 6 * n)) (by omega)
        rw [show 2478 + 6 * n + (k - (2478 + 6 * n)) = k by omega] at q
        rw [Nat.zero_add]
        exact Or.inr q
      · exact Or.inl (hB0 k z z2)
  · obtain ⟨-, r1, r2, r3, r4⟩ := h.l
    (try dsimp only at r1 r2 r3 r4)
    rw [h17]
    refine ⟨(), fun l hl z => ?_, fun m hm' z => ?_, fun a ha => ?_, fun l hl z y hy => ?_⟩
    · (try dsimp only at z ⊢)
      rw [hB0 1 (by decide) (by omega)] at z
      rw [hB0 _ (by omega) (by omega), hB0 0 (by decide) (by omega)]
      exact r1 l hl z
    · (try dsimp only at z ⊢)
      rw [hB0 3 (by decide) (by omega)] at z
      rw [hB0 _ (by omega) (by omega), hB0 1 (by decide) (by omega)]
      exact r2 m hm' z
    · (try dsimp only)
      by_cases z : a = n
      · subst z
        rw [Nat.zero_add, Nat.zero_add]
        exact hm
      · rw [hB0 _ (by omega) (by omega), hB0 _ (by omega) (by omega)]
        exact r3 a ha
    · (try dsimp only at z ⊢)
      rw [hB0 1 (by decide) (by omega)] at z
      have b3 := (h.t.v (k := 3) (by decide)).a3 rfl
      (try dsimp only at b3)
      have c3 := i_clamp b3.1
      rw [hB0 3 (by decide) (by omega), r4 l hl z y hy]
      exact (r_plm_cg (hB0 _ (by omega) (by omega)) _ (fun k z1 z2 => hB0 k (by omega) (by omega))).symm
  · rw [h17]; exact h.p hk
  · rw [hA _ _ (by omega) (by omega) (fun z => by omega) (fun z => by omega)]; exact h.c ht
theorem r_plm_no {f : Nat → Int32} {l y : Nat} : ∀ m, (∀ j, j < m → (f (3078 + 3 * j)).toInt ≠ (l : Int)) → r_plm f l y m = f (2839 + 8 * l)
  | 0, _ => rfl
  | m + 1, h => by
    unfold r_plm
    rw [if_neg (fun q => h m (by omega) q.1)]
    exact r_plm_no m (fun j hj => h j (by omega))
/-- a loan more -/
theorem lb.loan {A B A' B' : am_M} (h : lb 20 201 0 A B) {n : Nat} (hn : (B.1 201 1).toInt = (n : Int)) (h30 : n < 30)
    (hA : ∀ a k, 20 ≤ a → a < 59 → ¬ (a = 33 ∧ k = 2) → ¬ (a = 34 ∧ 8 * n ≤ k ∧ k < 8 * n + 8) → ¬ (a = 37 ∧ 40 * n ≤ k ∧ k < 40 * n + 40) → A'.1 a k = A.1 a k)
    (hB : ∀ k, k ≠ 1 → ¬ (2838 + 8 * n ≤ k ∧ k < 2846 + 8 * n) → B'.1 201 k = B.1 201 k)
    (hs : A'.1 33 2 = B'.1 201 1) (hs2 : (B'.1 201 1).toInt = (n : Int) + 1)
    (hr : ∀ c, c < 8 → A'.1 34 (8 * n + c) = B'.1 201 (2838 + 8 * n + c)) (hv : ∀ c, c < 8 → t_v (2838 + 8 * n + c) (B'.1 201 (2838 + 8 * n + c)).toInt)
    (hp : (B'.1 201 (2838 + 8 * n)).toInt < (B.1 201 0).toInt) (hpl : ∀ y, y < 40 → A'.1 37 (40 * n + y) = B'.1 201 (2839 + 8 * n)) : lb 20 201 0 A' B' := by
  have hB0 : ∀ k, k ≠ 1 → ¬ (2838 + 8 * n ≤ k ∧ k < 2846 + 8 * n) → B'.1 201 (0 + k) = B.1 201 (0 + k) := fun k z1 z2 => by rw [Nat.zero_add]; exact hB k z1 z2
  obtain ⟨-, a1, a2, a3⟩ := h.r
  have ha := h.a
  have e31 : A'.1 (20 + 11) 2 = A.1 (20 + 11) 2 := hA 31 2 (by decide) (by decide) (fun z => by omega) (fun z => by omega) (fun z => by omega)
  refine ⟨(), ⟨(), fun q hq k hk => ?_, ?_, fun k hk => ?_⟩, h.t.up (fun k hk => ?_), ?_, fun k hk => ?_, fun t ht => ?_⟩
  · have hl := rl_c_lt q hq
    rcases rl_c_13 q hq with ⟨-, z⟩ | ⟨z1, z2⟩
    · subst z
      have k0 : k = 0 := by have : k < 1 := hk; omega
      subst k0
      exact hs
    · rcases rl_c_14 q hq with ⟨-, z⟩ | ⟨z3, z4⟩
      · subst z
        have hk : k < 240 := hk
        show A'.1 34 (0 + k) = B'.1 201 (0 + (2838 + k))
        by_cases zz : 8 * n ≤ k ∧ k < 8 * n + 8
        · have e := hr (k - 8 * n) (by omega)
          rw [show 8 * n + (k - 8 * n) = 0 + k by omega, show 2838 + 8 * n + (k - 8 * n) = 0 + (2838 + k) by omega] at e
          exact e
        · rw [hA 34 (0 + k) (by decide) (by decide) (fun z => by omega) (fun z => by omega) (fun z => by omega), hB0 (2838 + k) (by omega) (by omega)]
          exact a1 (14, 0, 2838, 240) hq k hk
      · rw [hA _ _ (by omega) (by omega) (fun z => by omega) (fun z => by omega) (fun z => by omega), hB0 _ (by omega) (by omega)]
        exact a1 q hq k hk
  · rw [e31, hB0 2 (by decide) (by omega)]; exact a2
  · rw [e31] at hk
    show A'.1 32 k = _
    rw [hA 32 k (by decide) (by decide) (fun z => by omega) (fun z => by omega) (fun z => by omega), hB0 (2478 + k) (by omega) (by omega)]
    exact a3 k hk
  · (try dsimp only)
    by_cases z : k = 1
    · subst z
      refine Or.inr ?_
      show t_v 1 (B'.1 201 1).toInt
      rw [hs2]
      exact t_v.m1 (by omega) (by omega)
    · by_cases z2 : 2838 + 8 * n ≤ k ∧ k < 2846 + 8 * n
      · have q := hv (k - (2838 + 8 * n)) (by omega)
        rw [show 2838 + 8 * n + (k - (2838 + 8 * n)) = k by omega] at q
        rw [Nat.zero_add]
        exact Or.inr q
      · exact Or.inl (hB0 k z z2)
  · obtain ⟨-, r1, r2, r3, r4⟩ := h.l
    (try dsimp only at r1 r2 r3 r4)
    have b3 := (h.t.v (k := 3) (by decide)).a3 rfl
    (try dsimp only at b3)
    have c3 := i_clamp b3.1
    have f1 : (B.1 201 (0 + 1)).toInt = (n : Int) := hn
    have f1' : (B'.1 201 (0 + 1)).toInt = (n : Int) + 1 := hs2
    refine ⟨(), fun l hl z => ?_, fun m hm' z => ?_, fun a ha => ?_, fun l hl z y hy => ?_⟩
    · (try dsimp only at z ⊢)
      rw [hB0 0 (by decide) (by omega)]
      by_cases e : l = n
      · subst e
        rw [Nat.zero_add, Nat.zero_add]
        exact hp
      · rw [hB0 _ (by omega) (by omega)]
        exact r1 l hl (by omega)
    · (try dsimp only at z ⊢)
      rw [hB0 3 (by decide) (by omega)] at z
      rw [hB0 _ (by omega) (by omega)]
      have q := r2 m hm' z
      omega
    · (try dsimp only)
      rw [hB0 _ (by omega) (by omega), hB0 _ (by omega) (by omega)]
      exact r3 a ha
    · (try dsimp only at z ⊢)
      rw [hB0 3 (by decide) (by omega)]
      by_cases e : l = n
      · subst e
        rw [r_plm_no _ (fun j hj => ?_)]
        · rw [Nat.zero_add]
          exact hpl y hy
        · (try dsimp only)
          rw [hB0 _ (by omega) (by omega)]
          have q := r2 j (by omega) (by omega)
          omega
      · have q := r4 l hl (by omega) y hy
        show A'.1 37 (40 * l + y) = _
        rw [hA 37 _ (by decide) (by decide) (fun z => by omega) (fun z => by omega) (fun z => by omega), show A.1 37 (40 * l + y) = _ from q]
        exact (r_plm_cg (hB0 _ (by omega) (by omega)) _ (fun k z1 z2 => hB0 k (by omega) (by omega))).symm
  · show am_in (A'.1 37 k) 5
    by_cases z : 40 * n ≤ k ∧ k < 40 * n + 40
    · have e := hpl (k - 40 * n) (by omega)
      rw [show 40 * n + (k - 40 * n) = k by omega] at e
      rw [e]
      have q := (hv 1 (by decide)).a18 ⟨by omega, by omega, by omega⟩
      rw [show 2838 + 8 * n + 1 = 2839 + 8 * n by omega] at q
      exact ⟨q.1, by omega⟩
    · rw [hA 37 k (by decide) (by decide) (fun z => by omega) (fun z => by omega) (fun z => by omega)]
      exact h.p hk
  · rw [hA _ _ (by omega) (by omega) (fun z => by omega) (fun z => by omega) (fun z => by omega)]; exact h.c ht
/-- a move more -/
theorem lb.move {A B A' B' : am_M} (h : lb 20 201 0 A B) {n l0 y0 : Nat} (hn : (B.1 201 3).toInt = (n : Int)) (h60 : n < 60)
    (hA : ∀ a k, 20 ≤ a → a < 59 → ¬ (a = 35 ∧ k = 2) → ¬ (a = 36 ∧ 3 * n ≤ k ∧ k < 3 * n + 3) → ¬ (a = 37 ∧ 40 * l0 + y0 ≤ k ∧ k < 40 * l0 + 40) → A'.1 a k = A.1 a k)
    (hB : ∀ k, k ≠ 3 → ¬ (3078 + 3 * n ≤ k ∧ k < 3081 + 3 * n) → B'.1 201 k = B.1 201 k)
    (hs : A'.1 35 2 = B'.1 201 3) (hs2 : (B'.1 201 3).toInt = (n : Int) + 1)
    (hr : ∀ c, c < 3 → A'.1 36 (3 * n + c) = B'.1 201 (3078 + 3 * n + c)) (hv : ∀ c, c < 3 → t_v (3078 + 3 * n + c) (B'.1 201 (3078 + 3 * n + c)).toInt)
    (hl0 : (B'.1 201 (3078 + 3 * n)).toInt = (l0 : Int)) (hl1 : (l0 : Int) < (B.1 201 1).toInt) (hy0 : (B'.1 201 (3080 + 3 * n)).toInt = (y0 : Int)) (hy1 : y0 < 40)
    (hpl : ∀ k, 40 * l0 + y0 ≤ k → k < 40 * l0 + 40 → A'.1 37 k = B'.1 201 (3079 + 3 * n)) : lb 20 201 0 A' B' := by
  have hB0 : ∀ k, k ≠ 3 → ¬ (3078 + 3 * n ≤ k ∧ k < 3081 + 3 * n) → B'.1 201 (0 + k) = B.1 201 (0 + k) := fun k z1 z2 => by rw [Nat.zero_add]; exact hB k z1 z2
  obtain ⟨-, a1, a2, a3⟩ := h.r
  have ha := h.a
  have e31 : A'.1 (20 + 11) 2 = A.1 (20 + 11) 2 := hA 31 2 (by decide) (by decide) (fun z => by omega) (fun z => by omega) (fun z => by omega)
  refine ⟨(), ⟨(), fun q hq k hk => ?_, ?_, fun k hk => ?_⟩, h.t.up (fun k hk => ?_), ?_, fun k hk => ?_, fun t ht => ?_⟩
  · have hl := rl_c_lt q hq
    rcases rl_c_15 q hq with ⟨-, z⟩ | ⟨z1, z2⟩
    · subst z
      have k0 : k = 0 := by have : k < 1 := hk; omega
      subst k0
      exact hs
    · rcases rl_c_16 q hq with ⟨-, z⟩ | ⟨z3, z4⟩
      · subst z
        have hk : k < 180 := hk
        show A'.1 36 (0 + k) = B'.1 201 (0 + (3078 + k))
        by_cases zz : 3 * n ≤ k ∧ k < 3 * n + 3
        · have e := hr (k - 3 * n) (by omega)
          rw [show 3 * n + (k - 3 * n) = 0 + k by omega, show 3078 + 3 * n + (k - 3 * n) = 0 + (3078 + k) by omega] at e
          exact e
        · rw [hA 36 (0 + k) (by decide) (by decide) (fun z => by omega) (fun z => by omega) (fun z => by omega), hB0 (3078 + k) (by omega) (by omega)]
          exact a1 (16, 0, 3078, 180) hq k hk
      · rw [hA _ _ (by omega) (by omega) (fun z => by omega) (fun z => by omega) (fun z => by omega), hB0 _ (by omega) (by omega)]
        exact a1 q hq k hk
  · rw [e31, hB0 2 (by decide) (by omega)]; exact a2
  · rw [e31] at hk
    show A'.1 32 k = _
    rw [hA 32 k (by decide) (by decide) (fun z => by omega) (fun z => by omega) (fun z => by omega), hB0 (2478 + k) (by omega) (by omega)]
    exact a3 k hk
  · (try dsimp only)
    by_cases z : k = 3
    · subst z
      refine Or.inr ?_
      show t_v 3 (B'.1 201 3).toInt
      rw [hs2]
      exact t_v.m3 (by omega) (by omega)
    · by_cases z2 : 3078 + 3 * n ≤ k ∧ k < 3081 + 3 * n
      · have q := hv (k - (3078 + 3 * n)) (by omega)
        rw [show 3078 + 3 * n + (k - (3078 + 3 * n)) = k by omega] at q
        rw [Nat.zero_add]
        exact Or.inr q
      · exact Or.inl (hB0 k z z2)
  · obtain ⟨-, r1, r2, r3, r4⟩ := h.l
    (try dsimp only at r1 r2 r3 r4)
    have f3 : (B.1 201 (0 + 3)).toInt = (n : Int) := hn
    have f3' : (B'.1 201 (0 + 3)).toInt = (n : Int) + 1 := hs2
    have c3 := i_clamp (x := B.1 201 (0 + 3)) (by omega)
    have c3' := i_clamp (x := B'.1 201 (0 + 3)) (by omega)
    have n3 : (B.1 201 (0 + 3)).toNatClampNeg = n := by omega
    have n3' : (B'.1 201 (0 + 3)).toNatClampNeg = n + 1 := by omega
    have f1 : (l0 : Int) < (B.1 201 (0 + 1)).toInt := hl1
    refine ⟨(), fun l hl z => ?_, fun m hm' z => ?_, fun a ha => ?_, fun l hl z y hy => ?_⟩
    · (try dsimp only at z ⊢)
      rw [hB0 1 (by decide) (by omega)] at z
      rw [hB0 _ (by omega) (by omega), hB0 0 (by decide) (by omega)]
      exact r1 l hl z
    · (try dsimp only at z ⊢)
      rw [hB0 1 (by decide) (by omega)]
      by_cases e : m = n
      · subst e
        rw [Nat.zero_add (3078 + 3 * m), hl0]
        exact f1
      · rw [hB0 _ (by omega) (by omega)]
        exact r2 m hm' (by omega)
    · (try dsimp only)
      rw [hB0 _ (by omega) (by omega), hB0 _ (by omega) (by omega)]
      exact r3 a ha
    · (try dsimp only at z ⊢)
      rw [hB0 1 (by decide) (by omega)] at z
      rw [n3']
      unfold r_plm
      rw [Nat.zero_add (3078 + 3 * n), Nat.zero_add (3079 + 3 * n), Nat.zero_add (3080 + 3 * n), hl0, hy0]
      show A'.1 37 (40 * l + y) = _
      by_cases e : (l0 : Int) = (l : Int) ∧ (y0 : Int) ≤ (y : Int)
      · rw [if_pos e]
        exact hpl _ (by omega) (by omega)
      · rw [if_neg e]
        have q := r4 l hl z y hy
        rw [n3] at q
        rw [hA 37 _ (by decide) (by decide) (fun z => by omega) (fun z => by omega) (fun z => by omega), show A.1 37 (40 * l + y) = _ from q]
        exact (r_plm_cg (hB0 _ (by omega) (by omega)) _ (fun k z1 z2 => hB0 k (by omega) (by omega))).symm
  · show am_in (A'.1 37 k) 5
    by_cases z : 40 * l0 + y0 ≤ k ∧ k < 40 * l0 + 40
    · rw [hpl k z.1 z.2]
      have q := (hv 1 (by decide)).a26 ⟨by omega, by omega, by omega⟩
      rw [show 3078 + 3 * n + 1 = 3079 + 3 * n by omega] at q
      exact ⟨q.1, by omega⟩
    · rw [hA 37 k (by decide) (by decide) (fun z => by omega) (fun z => by omega) (fun z => by omega)]
      exact h.p hk
  · rw [hA _ _ (by omega) (by omega) (fun z => by omega) (fun z => by omega) (fun z => by omega)]; exact h.c ht
/-- a text read: of which the reference holds nothing -/
theorem lb.tx {A B A' : am_M} (h : lb 20 201 0 A B) {t : Nat} (ht : t < 5) (hA : ∀ a k, ¬ am_tS (39 + 3 * t) (41 + 3 * t) a k → A'.1 a k = A.1 a k) (hc : am_rg (A'.1 (39 + 3 * t) 2) 50) : lb 20 201 0 A' B := by
  have hq : ∀ q ∈ rl_c, ∀ t, t < 5 → q.1 ≠ 21 + 3 * t ∧ (q.1 = 19 + 3 * t → q.2.1 = 5 ∧ q.2.2.2 = 1) := by decide
  have h17 : A'.1 (20 + 17) = A.1 (20 + 17) := funext fun k => hA 37 k (by unfold am_tS; omega)
  obtain ⟨-, a1, a2, a3⟩ := h.r
  have e31 : A'.1 (20 + 11) 2 = A.1 (20 + 11) 2 := hA 31 2 (by unfold am_tS; omega)
  refine ⟨(), ⟨(), fun q hq' k hk => ?_, ?_, fun k hk => ?_⟩, h.t, ?_, fun k hk => ?_, fun u hu => ?_⟩
  · have z := hq q hq' t ht
    rw [hA _ _ (by unfold am_tS; omega)]
    exact a1 q hq' k hk
  · rw [e31]; exact a2
  · rw [e31] at hk
    rw [hA _ _ (by unfold am_tS; omega)]
    exact a3 k hk
  · rw [h17]; exact h.l
  · rw [h17]; exact h.p hk
  · by_cases e : u = t
    · subst e
      rw [show 20 + (19 + 3 * u) = 39 + 3 * u by omega]
      exact hc
    · rw [hA _ _ (by unfold am_tS; omega)]
      exact h.c hu
section STS
variable {i1 i2 : Bool} {M : am_M}
theorem d1 {x : Int32} (h1 : 0 ≤ x.toInt) (h2 : x.toInt ≤ 1000) : x + 1 - 1 = x := by
  have a := i_inc (x := x) (by omega) (by omega)
  have b := i_sub (x := x + 1) (y := 1) (by simp only [Int32.reduceToInt]; omega) (by simp only [Int32.reduceToInt]; omega)
  simp only [Int32.reduceToInt] at b
  rw [i_eq]
  omega
/-- a number of a loan -/
theorem LI.ln (h : LI i1 i2 M) {l c : Int32} {k : Nat} (hl : 0 ≤ l.toInt ∧ l.toInt < (M.1 201 1).toInt) (hc : c.toInt = (k : Int)) (hk : k < 8) : am_at (M.1 34) (am_len 34) (l * M.1 33 1 + c) = M.1 201 (2838 + 8 * l + c).toNatClampNeg ∧ (2838 + 8 * l + c).toNatClampNeg = 2838 + 8 * l.toNatClampNeg + k ∧ am_in (l * M.1 33 1 + c) 240 ∧ (l * M.1 33 1 + c).toNatClampNeg = 8 * l.toNatClampNeg + k ∧ l.toNatClampNeg < 30 := by
  have n1 := h.n1
  have w := h.w.2.1
  have cl := i_clamp hl.1
  have a := x_mul (c := 8) (cn := 8) rfl (x := l) ⟨hl.1, by omega⟩ (by decide)
  have b := x_mulr (c := 8) (cn := 8) rfl (x := l) ⟨hl.1, by omega⟩ (by decide)
  have a2 := x_offi (c := 2838) (cn := 2838) rfl (x := 8 * l) ⟨by omega, by omega⟩ (by decide)
  have a3 := i_add (x := 2838 + 8 * l) (y := c) (by omega) (by omega)
  have b3 := i_add (x := l * 8) (y := c) (by omega) (by omega)
  have c1 := i_clamp (x := 2838 + 8 * l + c) (by omega)
  have c2 := i_clamp (x := l * 8 + c) (by omega)
  have l34 : am_len 34 = 240 := rfl
  rw [w]
  have hi : am_in (l * 8 + c) 240 := ⟨by omega, by omega⟩
  refine ⟨?_, by omega, hi, by omega, by omega⟩
  rw [l34, am_at_in hi]
  have e := h.e (o := 14) (k0 := 0) (b0 := 2838) (n := 240) (by decide) (k := (l * 8 + c).toNatClampNeg) (by omega)
  rw [Nat.zero_add, show 2838 + (l * 8 + c).toNatClampNeg = (2838 + 8 * l + c).toNatClampNeg by omega] at e
  exact e
theorem st_sell (h : LI i1 i2 M) (l b y : Int32) : st i1 i2 M (c_sell M l b y) (fun N => r_sell N l b y) := by
  have e1 := h.e1
  have n1 := h.n1
  by_cases z0 : 0 ≤ l ∧ l < M.1 201 1
  rotate_left
  · exact st.no h (by unfold c_sell; rw [e1]; exact if_neg z0) (if_neg z0)
  by_cases z1 : 0 ≤ b ∧ b ≤ 3
  rotate_left
  · exact st.no h (by unfold c_sell; rw [e1, if_pos z0, if_neg z1]) (by (try dsimp only); unfold r_sell; rw [if_pos z0, if_neg z1])
  by_cases z2 : 0 ≤ y ∧ y < 40
  rotate_left
  · exact st.no h (by unfold c_sell; rw [e1, if_pos z0, if_pos z1, if_neg z2]) (by (try dsimp only); unfold r_sell; rw [if_pos z0, if_pos z1, if_neg z2])
  have b0 := b4 z0
  have b1 := bt z1
  simp only [Int32.reduceToInt] at b1
  have b2 := yr z2
  have c0 := i_clamp b0.1
  obtain ⟨v6, x6, -⟩ := h.ln (c := 6) (k := 6) b0 rfl (by decide)
  obtain ⟨v7, x7, -⟩ := h.ln (c := 7) (k := 7) b0 rfl (by decide)
  have hr := (h.v (k := (2838 + 8 * l + 6).toNatClampNeg) (by omega)).a23 (by omega)
  have hn := neg1 hr.1
  by_cases z3 : M.1 201 (2838 + 8 * l + 6).toNatClampNeg < 0
  rotate_left
  · exact st.no h (by unfold c_sell; rw [e1, if_pos z0, if_pos z1, if_pos z2, v6, if_neg (fun q => z3 (hn.mp q))]) (by (try dsimp only); unfold r_sell; rw [if_pos z0, if_pos z1, if_pos z2, if_neg z3])
  have w := h.w.2.1
  have d8 : (8 : Int32).toInt = 8 := rfl
  have l34 : am_len 34 = 240 := rfl
  have d6 : (6 : Int32).toInt = 6 := rfl
  have d7 : (7 : Int32).toInt = 7 := rfl
  have q6 : am_rput M 33 34 l 6 b = am_wI M 34 (8 * l.toNatClampNeg + 6) b := rput_at (w := 8) (n := l.toNatClampNeg) (by rw [w]; rfl) c0.symm (by decide) (by decide) (by omega) (by omega) (by decide)
  have q7 : am_rput (am_wI M 34 (8 * l.toNatClampNeg + 6) b) 33 34 l 7 y = am_wI (am_wI M 34 (8 * l.toNatClampNeg + 6) b) 34 (8 * l.toNatClampNeg + 7) y := rput_at (w := 8) (n := l.toNatClampNeg) (by rw [am_wI_1, if_neg (fun z => by omega), w]; rfl) c0.symm (by decide) (by decide) (by omega) (by omega) (by decide)
  have eN : ∀ j, (am_wI (am_wI M 34 (8 * l.toNatClampNeg + 6) b) 34 (8 * l.toNatClampNeg + 7) y).1 201 j = M.1 201 j := fun j => by (repeat (first | rw [am_wI_1, if_pos ⟨rfl, by omega⟩] | rw [am_wI_1, if_neg (fun q => by omega)] | rw [am_lay_1, if_pos ⟨rfl, by omega, by omega⟩] | rw [am_lay_1, if_neg (fun q => by omega)]))
  refine st.yes (by unfold c_sell; rw [e1, if_pos z0, if_pos z1, if_pos z2, v6, if_pos (hn.mpr z3), q6, q7]) (by (try dsimp only); unfold r_sell; rw [eN, eN, if_pos z0, if_pos z1, if_pos z2, if_pos z3]) rfl ?_ (fun a k z => by (repeat (first | rw [am_wI_1, if_pos ⟨rfl, by omega⟩] | rw [am_wI_1, if_neg (fun q => by omega)] | rw [am_lay_1, if_pos ⟨rfl, by omega, by omega⟩] | rw [am_lay_1, if_neg (fun q => by omega)])))
  exact h.told ((h.b.put (u := 14) (k0 := 0) (b0 := 2838) (n := 240) (k := 8 * l.toNatClampNeg + 6) (n1 := 34) (k1 := 8 * l.toNatClampNeg + 6) (k2 := (2838 + 8 * l + 6).toNatClampNeg) (by decide) (by omega) rfl (by omega) (by omega) b (by exact t_v.m23 (by omega) (by omega)) (by (unfold t_dep; omega))).put (u := 14) (k0 := 0) (b0 := 2838) (n := 240) (k := 8 * l.toNatClampNeg + 7) (n1 := 34) (k1 := 8 * l.toNatClampNeg + 7) (k2 := (2838 + 8 * l + 7).toNatClampNeg) (by decide) (by omega) rfl (by omega) (by omega) y (by exact t_v.m24 (by omega) (by omega)) (by (unfold t_dep; omega))) (fun a k z1 z2 => by (repeat (first | rw [am_wI_1, if_pos ⟨rfl, by omega⟩] | rw [am_wI_1, if_neg (fun q => by omega)] | rw [am_lay_1, if_pos ⟨rfl, by omega, by omega⟩] | rw [am_lay_1, if_neg (fun q => by omega)]))) (fun k => by (simp only [am_wI_1, am_lay_1, Nat.reduceEqDiff, false_and, true_and, if_false])) (fun a k z1 z2 => by (repeat (first | rw [am_wI_1, if_pos ⟨rfl, by omega⟩] | rw [am_wI_1, if_neg (fun q => by omega)] | rw [am_lay_1, if_pos ⟨rfl, by omega, by omega⟩] | rw [am_lay_1, if_neg (fun q => by omega)]))) (fun a z => by (repeat (first | rw [am_wI_1, if_pos ⟨rfl, by omega⟩] | rw [am_wI_1, if_neg (fun q => by omega)] | rw [am_lay_1, if_pos ⟨rfl, by omega, by omega⟩] | rw [am_lay_1, if_neg (fun q => by omega)])))
theorem gv_eq (s d : Int32) : (am_sumGiven s d) = s.toInt64 * ((if d = 0 then 750 else if d = 1 then 500 else 0 : Int32)).toInt64 / 1000 := by
  unfold am_sumGiven
  by_cases z0 : d = 0
  · rw [if_pos z0, if_pos z0]; rfl
  · rw [if_neg z0, if_neg z0]
    by_cases z1 : d = 1
    · rw [if_pos z1, if_pos z1]; rfl
    · rw [if_neg z1, if_neg z1, show (0 : Int32).toInt64 = 0 from rfl, Int64.mul_zero]; rfl
theorem st_leave (h : LI i1 i2 M) (l y : Int32) : st i1 i2 M (c_leave M l y) (fun N => r_leave N l y) := by
  have e1 := h.e1
  have n1 := h.n1
  by_cases z0 : 0 ≤ l ∧ l < M.1 201 1
  rotate_left
  · exact st.no h (by unfold c_leave; rw [e1]; exact if_neg z0) (if_neg z0)
  by_cases z1 : 0 ≤ y ∧ y < 40
  rotate_left
  · exact st.no h (by unfold c_leave; rw [e1, if_pos z0, if_neg z1]) (by (try dsimp only); unfold r_leave; rw [if_pos z0, if_neg z1])
  have b0 := b4 z0
  have b1 := yr z1
  have c0 := i_clamp b0.1
  obtain ⟨v2, x2, g2, j2, -⟩ := h.ln (c := 2) (k := 2) b0 rfl (by decide)
  obtain ⟨v3, x3, g3, j3, -⟩ := h.ln (c := 3) (k := 3) b0 rfl (by decide)
  obtain ⟨v4, x4, g4, j4, -⟩ := h.ln (c := 4) (k := 4) b0 rfl (by decide)
  obtain ⟨v5, x5, g5, j5, -⟩ := h.ln (c := 5) (k := 5) b0 rfl (by decide)
  have hf := (h.v (k := (2838 + 8 * l + 4).toNatClampNeg) (by omega)).a21 (by omega)
  have hr := (h.v (k := (2838 + 8 * l + 5).toNatClampNeg) (by omega)).a22 (by omega)
  have hn := neg1 hr.1
  have hfe : (M.1 201 (2838 + 8 * l + 4).toNatClampNeg = 1) ↔ ¬ (M.1 201 (2838 + 8 * l + 4).toNatClampNeg = 0) := by
    simp only [i_eq, Int32.reduceToInt]
    omega
  by_cases z2 : M.1 201 (2838 + 8 * l + 4).toNatClampNeg = 0
  · exact st.no h (by unfold c_leave; rw [e1, if_pos z0, if_pos z1, v4, if_neg (fun q => hfe.mp q z2)]) (by (try dsimp only); unfold r_leave; rw [if_pos z0, if_pos z1, if_pos z2])
  by_cases z3 : M.1 201 (2838 + 8 * l + 2).toNatClampNeg ≤ y
  rotate_left
  · exact st.no h (by unfold c_leave; rw [e1, if_pos z0, if_pos z1, v4, if_pos (hfe.mpr z2), v2, if_neg z3]) (by (try dsimp only); unfold r_leave; rw [if_pos z0, if_pos z1, if_neg z2, if_neg z3])
  by_cases z4 : M.1 201 (2838 + 8 * l + 5).toNatClampNeg < 0
  rotate_left
  · exact st.no h (by unfold c_leave; rw [e1, if_pos z0, if_pos z1, v4, if_pos (hfe.mpr z2), v2, if_pos z3, v5, if_neg (fun q => z4 (hn.mp q))]) (by (try dsimp only); unfold r_leave; rw [if_pos z0, if_pos z1, if_neg z2, if_pos z3, if_neg z4])
  have w := h.w.2.1
  have d5 : (5 : Int32).toInt = 5 := rfl
  have l34 : am_len 34 = 240 := rfl
  have q5 : am_rput M 33 34 l 5 y = am_wI M 34 (8 * l.toNatClampNeg + 5) y := rput_at (w := 8) (n := l.toNatClampNeg) (by rw [w]; rfl) c0.symm (by decide) (by decide) (by omega) (by omega) (by decide)
  have eN : ∀ j, (am_wI M 34 (8 * l.toNatClampNeg + 5) y).1 201 j = M.1 201 j := fun j => by (repeat (first | rw [am_wI_1, if_pos ⟨rfl, by omega⟩] | rw [am_wI_1, if_neg (fun q => by omega)] | rw [am_lay_1, if_pos ⟨rfl, by omega, by omega⟩] | rw [am_lay_1, if_neg (fun q => by omega)]))
  have ew : (am_wI M 34 (8 * l.toNatClampNeg + 5) y).1 33 1 = M.1 33 1 := by (repeat (first | rw [am_wI_1, if_pos ⟨rfl, by omega⟩] | rw [am_wI_1, if_neg (fun q => by omega)] | rw [am_lay_1, if_pos ⟨rfl, by omega, by omega⟩] | rw [am_lay_1, if_neg (fun q => by omega)]))
  have a3 : am_loanAt (am_wI M 34 (8 * l.toNatClampNeg + 5) y) l 3 = M.1 201 (2838 + 8 * l + 3).toNatClampNeg := by
    unfold am_loanAt
    rw [ew, am_at_in g3, j3, ← v3, l34, am_at_in g3, j3]
    (repeat (first | rw [am_wI_1, if_pos ⟨rfl, by omega⟩] | rw [am_wI_1, if_neg (fun q => by omega)] | rw [am_lay_1, if_pos ⟨rfl, by omega, by omega⟩] | rw [am_lay_1, if_neg (fun q => by omega)]))
  have a2 : am_loanAt (am_wI M 34 (8 * l.toNatClampNeg + 5) y) l 2 = M.1 201 (2838 + 8 * l + 2).toNatClampNeg := by
    unfold am_loanAt
    rw [ew, am_at_in g2, j2, ← v2, l34, am_at_in g2, j2]
    (repeat (first | rw [am_wI_1, if_pos ⟨rfl, by omega⟩] | rw [am_wI_1, if_neg (fun q => by omega)] | rw [am_lay_1, if_pos ⟨rfl, by omega, by omega⟩] | rw [am_lay_1, if_neg (fun q => by omega)]))
  have a5 : am_loanAt (am_wI M 34 (8 * l.toNatClampNeg + 5) y) l 5 = y := by
    unfold am_loanAt
    rw [ew, am_at_in g5, j5]
    (repeat (first | rw [am_wI_1, if_pos ⟨rfl, by omega⟩] | rw [am_wI_1, if_neg (fun q => by omega)] | rw [am_lay_1, if_pos ⟨rfl, by omega, by omega⟩] | rw [am_lay_1, if_neg (fun q => by omega)]))
  refine st.yes (w := r_given (am_wI (am_wI M 34 (8 * l.toNatClampNeg + 5) y) 201 (2838 + 8 * l + 5).toNatClampNeg y) l y) (F := am_wI (am_wI M 34 (8 * l.toNatClampNeg + 5) y) 201 (2838 + 8 * l + 5).toNatClampNeg y) (by unfold c_leave; rw [e1, if_pos z0, if_pos z1, v4, if_pos (hfe.mpr z2), v2, if_pos z3, v5, if_pos (hn.mpr z4), q5, a3, a2, a5]) (by (try dsimp only); unfold r_leave; simp only [eN]; rw [if_pos z0, if_pos z1, if_neg z2, if_pos z3, if_pos z4]) ?_ ?_ (fun a k z => by (repeat (first | rw [am_wI_1, if_pos ⟨rfl, by omega⟩] | rw [am_wI_1, if_neg (fun q => by omega)] | rw [am_lay_1, if_pos ⟨rfl, by omega, by omega⟩] | rw [am_lay_1, if_neg (fun q => by omega)])))
  · unfold r_given
    rw [gv_eq, show (am_wI (am_wI M 34 (8 * l.toNatClampNeg + 5) y) 201 (2838 + 8 * l + 5).toNatClampNeg y).1 201 (2838 + 8 * l + 3).toNatClampNeg = M.1 201 (2838 + 8 * l + 3).toNatClampNeg by (repeat (first | rw [am_wI_1, if_pos ⟨rfl, by omega⟩] | rw [am_wI_1, if_neg (fun q => by omega)] | rw [am_lay_1, if_pos ⟨rfl, by omega, by omega⟩] | rw [am_lay_1, if_neg (fun q => by omega)])), show (am_wI (am_wI M 34 (8 * l.toNatClampNeg + 5) y) 201 (2838 + 8 * l + 5).toNatClampNeg y).1 201 (2838 + 8 * l + 2).toNatClampNeg = M.1 201 (2838 + 8 * l + 2).toNatClampNeg by (repeat (first | rw [am_wI_1, if_pos ⟨rfl, by omega⟩] | rw [am_wI_1, if_neg (fun q => by omega)] | rw [am_lay_1, if_pos ⟨rfl, by omega, by omega⟩] | rw [am_lay_1, if_neg (fun q => by omega)]))]
  · exact h.told (h.b.put (u := 14) (k0 := 0) (b0 := 2838) (n := 240) (k := 8 * l.toNatClampNeg + 5) (n1 := 34) (k1 := 8 * l.toNatClampNeg + 5) (k2 := (2838 + 8 * l + 5).toNatClampNeg) (by decide) (by omega) rfl (by omega) (by omega) y (by exact t_v.m22 (by omega) (by omega)) (by (unfold t_dep; omega))) (fun a k z1 z2 => by (repeat (first | rw [am_wI_1, if_pos ⟨rfl, by omega⟩] | rw [am_wI_1, if_neg (fun q => by omega)] | rw [am_lay_1, if_pos ⟨rfl, by omega, by omega⟩] | rw [am_lay_1, if_neg (fun q => by omega)]))) (fun k => by (simp only [am_wI_1, am_lay_1, Nat.reduceEqDiff, false_and, true_and, if_false])) (fun a k z1 z2 => by (repeat (first | rw [am_wI_1, if_pos ⟨rfl, by omega⟩] | rw [am_wI_1, if_neg (fun q => by omega)] | rw [am_lay_1, if_pos ⟨rfl, by omega, by omega⟩] | rw [am_lay_1, if_neg (fun q => by omega)]))) (fun a z => by (repeat (first | rw [am_wI_1, if_pos ⟨rfl, by omega⟩] | rw [am_wI_1, if_neg (fun q => by omega)] | rw [am_lay_1, if_pos ⟨rfl, by omega, by omega⟩] | rw [am_lay_1, if_neg (fun q => by omega)])))
end STS
end
