/-! told calls, III -/
theorem x_row3 {c x j : Int32} {cn k : Nat} (hc : c.toInt = (cn : Int)) (hcn : cn ≤ 4000) (hx : 0 ≤ x.toInt ∧ x.toInt ≤ 60) (hj : j.toInt = (k : Int)) (hk : k < 8) : (c + 3 * x + j).toNatClampNeg = cn + 3 * x.toNatClampNeg + k := by
  have a := x_mul (c := 3) (cn := 3) rfl (x := x) ⟨hx.1, by omega⟩ (by decide)
  have a2 := x_offi hc (x := 3 * x) ⟨by omega, by omega⟩ (by omega)
  have a3 := i_add (x := c + 3 * x) (y := j) (by omega) (by omega)
  have c1 := i_clamp (x := c + 3 * x + j) (by omega)
  have c2 := i_clamp hx.1
  omega
theorem x_row3z {c x : Int32} {cn : Nat} (hc : c.toInt = (cn : Int)) (hcn : cn ≤ 4000) (hx : 0 ≤ x.toInt ∧ x.toInt ≤ 60) : (c + 3 * x).toNatClampNeg = cn + 3 * x.toNatClampNeg := by
  have a := x_mul (c := 3) (cn := 3) rfl (x := x) ⟨hx.1, by omega⟩ (by decide)
  have a2 := x_offi hc (x := 3 * x) ⟨by omega, by omega⟩ (by omega)
  have c1 := i_clamp (x := c + 3 * x) (by omega)
  have c2 := i_clamp hx.1
  omega
theorem x_row6 {c x j : Int32} {cn k : Nat} (hc : c.toInt = (cn : Int)) (hcn : cn ≤ 4000) (hx : 0 ≤ x.toInt ∧ x.toInt ≤ 60) (hj : j.toInt = (k : Int)) (hk : k < 8) : (c + 6 * x + j).toNatClampNeg = cn + 6 * x.toNatClampNeg + k := by
  have a := x_mul (c := 6) (cn := 6) rfl (x := x) ⟨hx.1, by omega⟩ (by decide)
  have a2 := x_offi hc (x := 6 * x) ⟨by omega, by omega⟩ (by omega)
  have a3 := i_add (x := c + 6 * x) (y := j) (by omega) (by omega)
  have c1 := i_clamp (x := c + 6 * x + j) (by omega)
  have c2 := i_clamp hx.1
  omega
theorem x_row6z {c x : Int32} {cn : Nat} (hc : c.toInt = (cn : Int)) (hcn : cn ≤ 4000) (hx : 0 ≤ x.toInt ∧ x.toInt ≤ 60) : (c + 6 * x).toNatClampNeg = cn + 6 * x.toNatClampNeg := by
  have a := x_mul (c := 6) (cn := 6) rfl (x := x) ⟨hx.1, by omega⟩ (by decide)
  have a2 := x_offi hc (x := 6 * x) ⟨by omega, by omega⟩ (by omega)
  have c1 := i_clamp (x := c + 6 * x) (by omega)
  have c2 := i_clamp hx.1
  omega
theorem x_row8 {c x j : Int32} {cn k : Nat} (hc : c.toInt = (cn : Int)) (hcn : cn ≤ 4000) (hx : 0 ≤ x.toInt ∧ x.toInt ≤ 60) (hj : j.toInt = (k : Int)) (hk : k < 8) : (c + 8 * x + j).toNatClampNeg = cn + 8 * x.toNatClampNeg + k := by
  have a := x_mul (c := 8) (cn := 8) rfl (x := x) ⟨hx.1, by omega⟩ (by decide)
  have a2 := x_offi hc (x := 8 * x) ⟨by omega, by omega⟩ (by omega)
  have a3 := i_add (x := c + 8 * x) (y := j) (by omega) (by omega)
  have c1 := i_clamp (x := c + 8 * x + j) (by omega)
  have c2 := i_clamp hx.1
  omega
theorem x_row8z {c x : Int32} {cn : Nat} (hc : c.toInt = (cn : Int)) (hcn : cn ≤ 4000) (hx : 0 ≤ x.toInt ∧ x.toInt ≤ 60) : (c + 8 * x).toNatClampNeg = cn + 8 * x.toNatClampNeg := by
  have a := x_mul (c := 8) (cn := 8) rfl (x := x) ⟨hx.1, by omega⟩ (by decide)
  have a2 := x_offi hc (x := 8 * x) ⟨by omega, by omega⟩ (by omega)
  have c1 := i_clamp (x := c + 8 * x) (by omega)
  have c2 := i_clamp hx.1
  omega
section STS
variable {i1 i2 : Bool} {M : am_M}
theorem st_promise (h : LI i1 i2 M) (b y c : Int32) : st i1 i2 M (c_promise M b y c) (fun N => r_promise N b y c) := by
  have e4 := h.e4
  have n4 := h.n4
  have c4 := i_clamp n4.1
  have hi := i_inc (x := M.1 201 4) (by omega) (by omega)
  have zz : Int32.toNatClampNeg 4 = 4 := rfl
  by_cases z0 : 0 ≤ b ∧ b ≤ 3
  rotate_left
  · exact st.no h (if_neg z0) (if_neg z0)
  by_cases z1 : 0 ≤ y ∧ y < 40
  rotate_left
  · exact st.no h (by unfold c_promise; rw [if_pos z0, if_neg z1]) (by (try dsimp only); unfold r_promise; rw [if_pos z0, if_neg z1])
  by_cases z2 : 1 ≤ c ∧ c ≤ 1000000000
  rotate_left
  · exact st.no h (by unfold c_promise; rw [if_pos z0, if_pos z1, if_neg z2]) (by (try dsimp only); unfold r_promise; rw [if_pos z0, if_pos z1, if_neg z2])
  by_cases z3 : M.1 201 4 = 20
  · exact st.no h (by unfold c_promise; rw [if_pos z0, if_pos z1, if_pos z2, e4, if_neg (by rw [z3]; decide)]) (by (try dsimp only); unfold r_promise; rw [zz, if_pos z0, if_pos z1, if_pos z2, if_pos z3])
  have zi : (M.1 201 4).toInt < 20 := by have q := z3; simp only [i_eq, Int32.reduceToInt] at q; omega
  have y3 : M.1 201 4 < 20 := by simp only [i_lt, Int32.reduceToInt]; exact zi
  have b0 := bt z0
  have b1 := yr z1
  have b2 := bt z2
  simp only [Int32.reduceToInt] at b0 b2
  have x0 := x_row3z (c := 3513) (cn := 3513) rfl (by decide) (x := M.1 201 4) ⟨n4.1, by omega⟩
  have x1 := x_row3 (c := 3513) (cn := 3513) (j := 1) (k := 1) rfl (by decide) (x := M.1 201 4) ⟨n4.1, by omega⟩ rfl (by decide)
  have x2 := x_row3 (c := 3513) (cn := 3513) (j := 2) (k := 2) rfl (by decide) (x := M.1 201 4) ⟨n4.1, by omega⟩ rfl (by decide)
  have l55 : am_len 55 = 60 := rfl
  have hw := h.w.2.2.2
  have q : am_radd M 54 55 b y c = (am_wI (am_wI (am_wI (am_wI M 55 (3 * (M.1 201 4).toNatClampNeg) (b)) 55 (3 * (M.1 201 4).toNatClampNeg + 1) (y)) 55 (3 * (M.1 201 4).toNatClampNeg + 2) (c)) 54 (2) (M.1 201 4 + 1)) := by
    rw [radd_at (w := 3) (n := (M.1 201 4).toNatClampNeg) (k := 3 * (M.1 201 4).toNatClampNeg) (by decide) (by rw [hw]; rfl) (by decide) (by rw [e4]; exact c4.symm) (by omega) (by omega) (by decide), e4]
  have eN : ∀ k, (am_wI (am_wI (am_wI (am_wI M 55 (3 * (M.1 201 4).toNatClampNeg) (b)) 55 (3 * (M.1 201 4).toNatClampNeg + 1) (y)) 55 (3 * (M.1 201 4).toNatClampNeg + 2) (c)) 54 (2) (M.1 201 4 + 1)).1 201 k = M.1 201 k := fun k => by (repeat (first | rw [am_wI_1, if_pos ⟨rfl, by omega⟩] | rw [am_wI_1, if_neg (fun q => by omega)] | rw [am_lay_1, if_pos ⟨rfl, by omega, by omega⟩] | rw [am_lay_1, if_neg (fun q => by omega)]))
  refine st.yes (v := M.1 201 4 + 1) (by unfold c_promise; rw [if_pos z0, if_pos z1, if_pos z2, e4, if_pos y3, q, d1 n4.1 (by omega)]) (F := (am_wI (am_wI (am_wI (am_wI (am_wI (am_wI (am_wI (am_wI M 55 (3 * (M.1 201 4).toNatClampNeg) (b)) 55 (3 * (M.1 201 4).toNatClampNeg + 1) (y)) 55 (3 * (M.1 201 4).toNatClampNeg + 2) (c)) 54 (2) (M.1 201 4 + 1)) 201 ((3513 + 3 * M.1 201 4).toNatClampNeg) (b)) 201 ((3513 + 3 * M.1 201 4 + 1).toNatClampNeg) (y)) 201 ((3513 + 3 * M.1 201 4 + 2).toNatClampNeg) (c)) 201 (4) (M.1 201 4 + 1))) (by
    (try dsimp only)
    unfold r_promise
    rw [zz, eN, if_pos z0, if_pos z1, if_pos z2, if_neg z3]
    (try dsimp only)
    rw [am_wI_self, show (am_wI (am_wI (am_wI (am_wI (am_wI (am_wI (am_wI M 55 (3 * (M.1 201 4).toNatClampNeg) (b)) 55 (3 * (M.1 201 4).toNatClampNeg + 1) (y)) 55 (3 * (M.1 201 4).toNatClampNeg + 2) (c)) 54 (2) (M.1 201 4 + 1)) 201 ((3513 + 3 * M.1 201 4).toNatClampNeg) (b)) 201 ((3513 + 3 * M.1 201 4 + 1).toNatClampNeg) (y)) 201 ((3513 + 3 * M.1 201 4 + 2).toNatClampNeg) (c)).1 201 4 = M.1 201 4 by (repeat (first | rw [am_wI_1, if_pos ⟨rfl, by omega⟩] | rw [am_wI_1, if_neg (fun q => by omega)] | rw [am_lay_1, if_pos ⟨rfl, by omega, by omega⟩] | rw [am_lay_1, if_neg (fun q => by omega)]))]) rfl ?_ (fun a k z => by (repeat (first | rw [am_wI_1, if_pos ⟨rfl, by omega⟩] | rw [am_wI_1, if_neg (fun q => by omega)] | rw [am_lay_1, if_pos ⟨rfl, by omega, by omega⟩] | rw [am_lay_1, if_neg (fun q => by omega)])))
  exact h.told ((((h.b.put (u := 35) (k0 := 0) (b0 := 3513) (n := 60) (k := 3 * (M.1 201 4).toNatClampNeg + 0) (n1 := 55) (k1 := 3 * (M.1 201 4).toNatClampNeg) (k2 := (3513 + 3 * M.1 201 4).toNatClampNeg) (by decide) (by omega) rfl (by omega) (by omega) b (by exact t_v.m30 (by omega) (by omega)) (by (unfold t_dep; omega))).put (u := 35) (k0 := 0) (b0 := 3513) (n := 60) (k := 3 * (M.1 201 4).toNatClampNeg + 1) (n1 := 55) (k1 := 3 * (M.1 201 4).toNatClampNeg + 1) (k2 := (3513 + 3 * M.1 201 4 + 1).toNatClampNeg) (by decide) (by omega) rfl (by omega) (by omega) y (by exact t_v.m31 (by omega) (by omega)) (by (unfold t_dep; omega))).put (u := 35) (k0 := 0) (b0 := 3513) (n := 60) (k := 3 * (M.1 201 4).toNatClampNeg + 2) (n1 := 55) (k1 := 3 * (M.1 201 4).toNatClampNeg + 2) (k2 := (3513 + 3 * M.1 201 4 + 2).toNatClampNeg) (by decide) (by omega) rfl (by omega) (by omega) c (by exact t_v.m32 (by omega) (by omega)) (by (unfold t_dep; omega))).put (u := 34) (k0 := 2) (b0 := 4) (n := 1) (k := 0) (n1 := 54) (k1 := 2) (k2 := 4) (by decide) (by omega) rfl (by omega) (by omega) (M.1 201 4 + 1) (by exact t_v.m4 (by omega) (by omega)) (by (unfold t_dep; omega))) (fun a k z1 z2 => by (repeat (first | rw [am_wI_1, if_pos ⟨rfl, by omega⟩] | rw [am_wI_1, if_neg (fun q => by omega)] | rw [am_lay_1, if_pos ⟨rfl, by omega, by omega⟩] | rw [am_lay_1, if_neg (fun q => by omega)]))) (fun k => by (simp only [am_wI_1, am_lay_1, Nat.reduceEqDiff, false_and, true_and, if_false])) (fun a k z1 z2 => by (repeat (first | rw [am_wI_1, if_pos ⟨rfl, by omega⟩] | rw [am_wI_1, if_neg (fun q => by omega)] | rw [am_lay_1, if_pos ⟨rfl, by omega, by omega⟩] | rw [am_lay_1, if_neg (fun q => by omega)]))) (fun a z => by (repeat (first | rw [am_wI_1, if_pos ⟨rfl, by omega⟩] | rw [am_wI_1, if_neg (fun q => by omega)] | rw [am_lay_1, if_pos ⟨rfl, by omega, by omega⟩] | rw [am_lay_1, if_neg (fun q => by omega)])))

theorem x_off4 {s j : Int32} {k : Nat} (hs : 0 ≤ s.toInt ∧ s.toInt ≤ 2) (hj : j.toInt = (k : Int)) (hk : k < 4) : (s * 4 + j).toNatClampNeg = 4 * s.toNatClampNeg + k ∧ (3733 + 4 * s + j).toNatClampNeg = 3733 + 4 * s.toNatClampNeg + k ∧ (3733 + 4 * s).toNatClampNeg = 3733 + 4 * s.toNatClampNeg ∧ s.toNatClampNeg ≤ 2 := by
  have a := x_mul (c := 4) (cn := 4) rfl (x := s) ⟨hs.1, by omega⟩ (by decide)
  have b := x_mulr (c := 4) (cn := 4) rfl (x := s) ⟨hs.1, by omega⟩ (by decide)
  have a2 := x_offi (c := 3733) (cn := 3733) rfl (x := 4 * s) ⟨by omega, by omega⟩ (by decide)
  have a3 := i_add (x := 3733 + 4 * s) (y := j) (by omega) (by omega)
  have b3 := i_add (x := s * 4) (y := j) (by omega) (by omega)
  have c1 := i_clamp (x := 3733 + 4 * s + j) (by omega)
  have c2 := i_clamp (x := s * 4 + j) (by omega)
  have c4 := i_clamp (x := 3733 + 4 * s) (by omega)
  have c3 := i_clamp hs.1
  exact ⟨by omega, by omega, by omega, by omega⟩
theorem st_chances (h : LI i1 i2 M) (s w g a d : Int32) : st i1 i2 M (c_chances M s w g a d) (fun N => r_chances N s w g a d) := by
  by_cases z0 : 0 ≤ s ∧ s ≤ 2
  rotate_left
  · exact st.no h (by unfold c_chances; rw [if_neg z0]) (by (try dsimp only); unfold r_chances; rw [if_neg z0])
  by_cases z1 : 0 ≤ w ∧ w ≤ 10
  rotate_left
  · exact st.no h (by unfold c_chances; rw [if_pos z0, if_neg z1]) (by (try dsimp only); unfold r_chances; rw [if_pos z0, if_neg z1])
  by_cases z2 : 0 ≤ g ∧ g ≤ 10
  rotate_left
  · exact st.no h (by unfold c_chances; rw [if_pos z0, if_pos z1, if_neg z2]) (by (try dsimp only); unfold r_chances; rw [if_pos z0, if_pos z1, if_neg z2])
  by_cases z3 : 0 ≤ a ∧ a ≤ 10
  rotate_left
  · exact st.no h (by unfold c_chances; rw [if_pos z0, if_pos z1, if_pos z2, if_neg z3]) (by (try dsimp only); unfold r_chances; rw [if_pos z0, if_pos z1, if_pos z2, if_neg z3])
  by_cases z4 : 0 ≤ d ∧ d ≤ 10
  rotate_left
  · exact st.no h (by unfold c_chances; rw [if_pos z0, if_pos z1, if_pos z2, if_pos z3, if_neg z4]) (by (try dsimp only); unfold r_chances; rw [if_pos z0, if_pos z1, if_pos z2, if_pos z3, if_neg z4])
  by_cases z5 : w + g + a + d = 10
  rotate_left
  · exact st.no h (by unfold c_chances; rw [if_pos z0, if_pos z1, if_pos z2, if_pos z3, if_pos z4, if_neg z5]) (by (try dsimp only); unfold r_chances; rw [if_pos z0, if_pos z1, if_pos z2, if_pos z3, if_pos z4, if_neg z5])
  have b0 := bt z0
  have b1 := bt z1
  have b2 := bt z2
  have b3 := bt z3
  have b4 := bt z4
  simp only [Int32.reduceToInt] at b0 b1 b2 b3 b4
  have p0 := x_off4 (s := s) (j := 0) (k := 0) ⟨by omega, by omega⟩ rfl (by decide)
  have p1 := x_off4 (s := s) (j := 1) (k := 1) ⟨by omega, by omega⟩ rfl (by decide)
  have p2 := x_off4 (s := s) (j := 2) (k := 2) ⟨by omega, by omega⟩ rfl (by decide)
  have p3 := x_off4 (s := s) (j := 3) (k := 3) ⟨by omega, by omega⟩ rfl (by decide)
  refine st.yes (by unfold c_chances; rw [if_pos z0, if_pos z1, if_pos z2, if_pos z3, if_pos z4, if_pos z5]) (F := (am_wI (am_wI (am_wI (am_wI (am_wI (am_wI (am_wI (am_wI M 57 ((s * 4 + 0).toNatClampNeg) (w)) 57 ((s * 4 + 1).toNatClampNeg) (g)) 57 ((s * 4 + 2).toNatClampNeg) (a)) 57 ((s * 4 + 3).toNatClampNeg) (d)) 201 ((3733 + 4 * s).toNatClampNeg) (w)) 201 ((3733 + 4 * s + 1).toNatClampNeg) (g)) 201 ((3733 + 4 * s + 2).toNatClampNeg) (a)) 201 ((3733 + 4 * s + 3).toNatClampNeg) (d))) (by (try dsimp only); unfold r_chances; rw [if_pos z0, if_pos z1, if_pos z2, if_pos z3, if_pos z4, if_pos z5]) rfl ?_ (fun a k z => by (repeat (first | rw [am_wI_1, if_pos ⟨rfl, by omega⟩] | rw [am_wI_1, if_neg (fun q => by omega)] | rw [am_lay_1, if_pos ⟨rfl, by omega, by omega⟩] | rw [am_lay_1, if_neg (fun q => by omega)])))
  exact h.told ((((h.b.put (u := 37) (k0 := 0) (b0 := 3733) (n := 12) (k := 4 * s.toNatClampNeg + 0) (n1 := 57) (k1 := (s * 4 + 0).toNatClampNeg) (k2 := (3733 + 4 * s).toNatClampNeg) (by decide) (by omega) rfl (by omega) (by omega) w (by exact t_v.m34 (by omega) (by omega)) (by (unfold t_dep; omega))).put (u := 37) (k0 := 0) (b0 := 3733) (n := 12) (k := 4 * s.toNatClampNeg + 1) (n1 := 57) (k1 := (s * 4 + 1).toNatClampNeg) (k2 := (3733 + 4 * s + 1).toNatClampNeg) (by decide) (by omega) rfl (by omega) (by omega) g (by exact t_v.m34 (by omega) (by omega)) (by (unfold t_dep; omega))).put (u := 37) (k0 := 0) (b0 := 3733) (n := 12) (k := 4 * s.toNatClampNeg + 2) (n1 := 57) (k1 := (s * 4 + 2).toNatClampNeg) (k2 := (3733 + 4 * s + 2).toNatClampNeg) (by decide) (by omega) rfl (by omega) (by omega) a (by exact t_v.m34 (by omega) (by omega)) (by (unfold t_dep; omega))).put (u := 37) (k0 := 0) (b0 := 3733) (n := 12) (k := 4 * s.toNatClampNeg + 3) (n1 := 57) (k1 := (s * 4 + 3).toNatClampNeg) (k2 := (3733 + 4 * s + 3).toNatClampNeg) (by decide) (by omega) rfl (by omega) (by omega) d (by exact t_v.m34 (by omega) (by omega)) (by (unfold t_dep; omega))) (fun a k z1 z2 => by (repeat (first | rw [am_wI_1, if_pos ⟨rfl, by omega⟩] | rw [am_wI_1, if_neg (fun q => by omega)] | rw [am_lay_1, if_pos ⟨rfl, by omega, by omega⟩] | rw [am_lay_1, if_neg (fun q => by omega)]))) (fun k => by (simp only [am_wI_1, am_lay_1, Nat.reduceEqDiff, false_and, true_and, if_false])) (fun a k z1 z2 => by (repeat (first | rw [am_wI_1, if_pos ⟨rfl, by omega⟩] | rw [am_wI_1, if_neg (fun q => by omega)] | rw [am_lay_1, if_pos ⟨rfl, by omega, by omega⟩] | rw [am_lay_1, if_neg (fun q => by omega)]))) (fun a z => by (repeat (first | rw [am_wI_1, if_pos ⟨rfl, by omega⟩] | rw [am_wI_1, if_neg (fun q => by omega)] | rw [am_lay_1, if_pos ⟨rfl, by omega, by omega⟩] | rw [am_lay_1, if_neg (fun q => by omega)])))

theorem num_le {w v : Int32} (h : am_isNum w v) : 0 ≤ v.toInt ∧ v.toInt ≤ 10000000 := by
  obtain ⟨⟨h1, h2⟩, h3, h4⟩ := h
  have hw : w = 0 ∨ w = 1 ∨ w = 2 ∨ w = 3 ∨ w = 4 ∨ w = 5 := by
    simp only [i_le, i_lt, i_eq, Int32.reduceToInt] at h1 h2 ⊢
    omega
  rw [i_le] at h3 h4
  have b : 0 ≤ (am_sf 1 w.toNatClampNeg).toInt ∧ (am_sf 2 w.toNatClampNeg).toInt ≤ 10000000 := by
    rcases hw with rfl | rfl | rfl | rfl | rfl | rfl <;> decide
  omega
theorem st_act (h : LI i1 i2 M) (pl w v f b t : Int32) : st i1 i2 M (c_act M pl w v f b t) (fun N => r_act N pl w v f b t) := by
  have e2 := h.e2
  have n2 := h.n2
  have c2 := i_clamp n2.1
  have hi := i_inc (x := M.1 201 2) (by omega) (by omega)
  have zz : Int32.toNatClampNeg 2 = 2 := rfl
  by_cases z0 : 0 ≤ pl ∧ pl < 5
  rotate_left
  · exact st.no h (if_neg z0) (if_neg z0)
  by_cases z1 : (0 ≤ w ∧ w < 6) ∧ am_sf 1 w.toNatClampNeg ≤ v ∧ v ≤ am_sf 2 w.toNatClampNeg
  rotate_left
  · refine st.no h (by unfold c_act; rw [if_pos z0, if_neg z1]) ?_
    (try dsimp only)
    unfold r_act
    rw [if_pos z0]
    by_cases y1 : 0 ≤ w ∧ w < 6
    · rw [if_pos y1, if_neg z1]
    · rw [if_neg y1]
  have y1 := z1.1
  by_cases z2 : 0 ≤ f ∧ f < 40
  rotate_left
  · exact st.no h (by unfold c_act; rw [if_pos z0, if_pos z1, if_neg z2]) (by (try dsimp only); unfold r_act; rw [if_pos z0, if_pos y1, if_pos z1, if_neg z2])
  by_cases z3 : 0 ≤ b ∧ b ≤ t ∧ t < 40
  rotate_left
  · refine st.no h (by unfold c_act; rw [if_pos z0, if_pos z1, if_pos z2, if_neg z3]) ?_
    (try dsimp only)
    unfold r_act
    rw [if_pos z0, if_pos y1, if_pos z1, if_pos z2]
    by_cases y2 : 0 ≤ b ∧ b < 40
    · rw [if_pos y2]
      by_cases y3 : 0 ≤ t ∧ t < 40
      · rw [if_pos y3, if_neg (fun q => z3 (spb y2 y3 q))]
      · rw [if_neg y3]
    · rw [if_neg y2]
  obtain ⟨y2, y3, y4⟩ := spa z3
  by_cases z4 : M.1 201 2 = 60
  · exact st.no h (by unfold c_act; rw [if_pos z0, if_pos z1, if_pos z2, if_pos z3, e2, if_neg (by rw [z4]; decide)]) (by (try dsimp only); unfold r_act; rw [zz, if_pos z0, if_pos y1, if_pos z1, if_pos z2, if_pos y2, if_pos y3, if_pos y4, if_pos z4])
  have zi : (M.1 201 2).toInt < 60 := by have q := z4; simp only [i_eq, Int32.reduceToInt] at q; omega
  have y5 : M.1 201 2 < 60 := by simp only [i_lt, Int32.reduceToInt]; exact zi
  have b0 := b4 z0
  have b1 := b4 y1
  have b2 := yr z2
  have b3 := yr y2
  have b5 := yr y3
  have b6 := num_le z1
  simp only [Int32.reduceToInt] at b0 b1
  have x0 := x_row6z (c := 2478) (cn := 2478) rfl (by decide) (x := M.1 201 2) ⟨n2.1, by omega⟩
  have x1 := x_row6 (c := 2478) (cn := 2478) (j := 1) (k := 1) rfl (by decide) (x := M.1 201 2) ⟨n2.1, by omega⟩ rfl (by decide)
  have x2 := x_row6 (c := 2478) (cn := 2478) (j := 2) (k := 2) rfl (by decide) (x := M.1 201 2) ⟨n2.1, by omega⟩ rfl (by decide)
  have x3 := x_row6 (c := 2478) (cn := 2478) (j := 3) (k := 3) rfl (by decide) (x := M.1 201 2) ⟨n2.1, by omega⟩ rfl (by decide)
  have x4 := x_row6 (c := 2478) (cn := 2478) (j := 4) (k := 4) rfl (by decide) (x := M.1 201 2) ⟨n2.1, by omega⟩ rfl (by decide)
  have x5 := x_row6 (c := 2478) (cn := 2478) (j := 5) (k := 5) rfl (by decide) (x := M.1 201 2) ⟨n2.1, by omega⟩ rfl (by decide)
  have l32 : am_len 32 = 366 := rfl
  have hw := h.w.1
  have q0 : am_radd M 31 32 pl w v = (am_wI (am_wI (am_wI (am_wI M 32 (6 * (M.1 201 2).toNatClampNeg) (pl)) 32 (6 * (M.1 201 2).toNatClampNeg + 1) (w)) 32 (6 * (M.1 201 2).toNatClampNeg + 2) (v)) 31 (2) (M.1 201 2 + 1)) := by
    rw [radd_at (w := 6) (n := (M.1 201 2).toNatClampNeg) (k := 6 * (M.1 201 2).toNatClampNeg) (by decide) (by rw [hw]; rfl) (by decide) (by rw [e2]; exact c2.symm) (by omega) (by omega) (by decide), e2]
  have q3 : am_rput (am_wI (am_wI (am_wI (am_wI M 32 (6 * (M.1 201 2).toNatClampNeg) (pl)) 32 (6 * (M.1 201 2).toNatClampNeg + 1) (w)) 32 (6 * (M.1 201 2).toNatClampNeg + 2) (v)) 31 (2) (M.1 201 2 + 1)) 31 32 (M.1 201 2) 3 f = (am_wI (am_wI (am_wI (am_wI (am_wI M 32 (6 * (M.1 201 2).toNatClampNeg) (pl)) 32 (6 * (M.1 201 2).toNatClampNeg + 1) (w)) 32 (6 * (M.1 201 2).toNatClampNeg + 2) (v)) 31 (2) (M.1 201 2 + 1)) 32 (6 * (M.1 201 2).toNatClampNeg + 3) (f)) := rput_at (w := 6) (n := (M.1 201 2).toNatClampNeg) (by rw [show (am_wI (am_wI (am_wI (am_wI M 32 (6 * (M.1 201 2).toNatClampNeg) (pl)) 32 (6 * (M.1 201 2).toNatClampNeg + 1) (w)) 32 (6 * (M.1 201 2).toNatClampNeg + 2) (v)) 31 (2) (M.1 201 2 + 1)).1 31 1 = M.1 31 1 by (repeat (first | rw [am_wI_1, if_pos ⟨rfl, by omega⟩] | rw [am_wI_1, if_neg (fun q => by omega)] | rw [am_lay_1, if_pos ⟨rfl, by omega, by omega⟩] | rw [am_lay_1, if_neg (fun q => by omega)])), hw]; rfl) c2.symm (by decide) (by decide) (by rw [show (3 : Int32).toInt = 3 from rfl]; omega) (by omega) (by decide)
  have q4 : am_rput (am_wI (am_wI (am_wI (am_wI (am_wI M 32 (6 * (M.1 201 2).toNatClampNeg) (pl)) 32 (6 * (M.1 201 2).toNatClampNeg + 1) (w)) 32 (6 * (M.1 201 2).toNatClampNeg + 2) (v)) 31 (2) (M.1 201 2 + 1)) 32 (6 * (M.1 201 2).toNatClampNeg + 3) (f)) 31 32 (M.1 201 2) 4 b = (am_wI (am_wI (am_wI (am_wI (am_wI (am_wI M 32 (6 * (M.1 201 2).toNatClampNeg) (pl)) 32 (6 * (M.1 201 2).toNatClampNeg + 1) (w)) 32 (6 * (M.1 201 2).toNatClampNeg + 2) (v)) 31 (2) (M.1 201 2 + 1)) 32 (6 * (M.1 201 2).toNatClampNeg + 3) (f)) 32 (6 * (M.1 201 2).toNatClampNeg + 4) (b)) := rput_at (w := 6) (n := (M.1 201 2).toNatClampNeg) (by rw [show (am_wI (am_wI (am_wI (am_wI (am_wI M 32 (6 * (M.1 201 2).toNatClampNeg) (pl)) 32 (6 * (M.1 201 2).toNatClampNeg + 1) (w)) 32 (6 * (M.1 201 2).toNatClampNeg + 2) (v)) 31 (2) (M.1 201 2 + 1)) 32 (6 * (M.1 201 2).toNatClampNeg + 3) (f)).1 31 1 = M.1 31 1 by (repeat (first | rw [am_wI_1, if_pos ⟨rfl, by omega⟩] | rw [am_wI_1, if_neg (fun q => by omega)] | rw [am_lay_1, if_pos ⟨rfl, by omega, by omega⟩] | rw [am_lay_1, if_neg (fun q => by omega)])), hw]; rfl) c2.symm (by decide) (by decide) (by rw [show (4 : Int32).toInt = 4 from rfl]; omega) (by omega) (by decide)
  have q5 : am_rput (am_wI (am_wI (am_wI (am_wI (am_wI (am_wI M 32 (6 * (M.1 201 2).toNatClampNeg) (pl)) 32 (6 * (M.1 201 2).toNatClampNeg + 1) (w)) 32 (6 * (M.1 201 2).toNatClampNeg + 2) (v)) 31 (2) (M.1 201 2 + 1)) 32 (6 * (M.1 201 2).toNatClampNeg + 3) (f)) 32 (6 * (M.1 201 2).toNatClampNeg + 4) (b)) 31 32 (M.1 201 2) 5 t = (am_wI (am_wI (am_wI (am_wI (am_wI (am_wI (am_wI M 32 (6 * (M.1 201 2).toNatClampNeg) (pl)) 32 (6 * (M.1 201 2).toNatClampNeg + 1) (w)) 32 (6 * (M.1 201 2).toNatClampNeg + 2) (v)) 31 (2) (M.1 201 2 + 1)) 32 (6 * (M.1 201 2).toNatClampNeg + 3) (f)) 32 (6 * (M.1 201 2).toNatClampNeg + 4) (b)) 32 (6 * (M.1 201 2).toNatClampNeg + 5) (t)) := rput_at (w := 6) (n := (M.1 201 2).toNatClampNeg) (by rw [show (am_wI (am_wI (am_wI (am_wI (am_wI (am_wI M 32 (6 * (M.1 201 2).toNatClampNeg) (pl)) 32 (6 * (M.1 201 2).toNatClampNeg + 1) (w)) 32 (6 * (M.1 201 2).toNatClampNeg + 2) (v)) 31 (2) (M.1 201 2 + 1)) 32 (6 * (M.1 201 2).toNatClampNeg + 3) (f)) 32 (6 * (M.1 201 2).toNatClampNeg + 4) (b)).1 31 1 = M.1 31 1 by (repeat (first | rw [am_wI_1, if_pos ⟨rfl, by omega⟩] | rw [am_wI_1, if_neg (fun q => by omega)] | rw [am_lay_1, if_pos ⟨rfl, by omega, by omega⟩] | rw [am_lay_1, if_neg (fun q => by omega)])), hw]; rfl) c2.symm (by decide) (by decide) (by rw [show (5 : Int32).toInt = 5 from rfl]; omega) (by omega) (by decide)
  have q : am_addAct M pl w v f b t = (am_wI (am_wI (am_wI (am_wI (am_wI (am_wI (am_wI M 32 (6 * (M.1 201 2).toNatClampNeg) (pl)) 32 (6 * (M.1 201 2).toNatClampNeg + 1) (w)) 32 (6 * (M.1 201 2).toNatClampNeg + 2) (v)) 31 (2) (M.1 201 2 + 1)) 32 (6 * (M.1 201 2).toNatClampNeg + 3) (f)) 32 (6 * (M.1 201 2).toNatClampNeg + 4) (b)) 32 (6 * (M.1 201 2).toNatClampNeg + 5) (t)) := by
    unfold am_addAct
    rw [q0, e2, q3, q4, q5]
  have eN : ∀ k, (am_wI (am_wI (am_wI (am_wI (am_wI (am_wI (am_wI M 32 (6 * (M.1 201 2).toNatClampNeg) (pl)) 32 (6 * (M.1 201 2).toNatClampNeg + 1) (w)) 32 (6 * (M.1 201 2).toNatClampNeg + 2) (v)) 31 (2) (M.1 201 2 + 1)) 32 (6 * (M.1 201 2).toNatClampNeg + 3) (f)) 32 (6 * (M.1 201 2).toNatClampNeg + 4) (b)) 32 (6 * (M.1 201 2).toNatClampNeg + 5) (t)).1 201 k = M.1 201 k := fun k => by (repeat (first | rw [am_wI_1, if_pos ⟨rfl, by omega⟩] | rw [am_wI_1, if_neg (fun q => by omega)] | rw [am_lay_1, if_pos ⟨rfl, by omega, by omega⟩] | rw [am_lay_1, if_neg (fun q => by omega)]))
  have re0 : (am_wI (am_wI (am_wI (am_wI (am_wI (am_wI (am_wI M 201 ((2478 + 6 * M.1 201 2).toNatClampNeg) (pl)) 201 ((2478 + 6 * M.1 201 2 + 1).toNatClampNeg) (w)) 201 ((2478 + 6 * M.1 201 2 + 2).toNatClampNeg) (v)) 201 ((2478 + 6 * M.1 201 2 + 3).toNatClampNeg) (f)) 201 ((2478 + 6 * M.1 201 2 + 4).toNatClampNeg) (b)) 201 ((2478 + 6 * M.1 201 2 + 5).toNatClampNeg) (t)) 201 (2) (M.1 201 2 + 1)).1 201 (2478 + 6 * (M.1 201 2).toNatClampNeg + 0) = pl := by (repeat (first | rw [am_wI_1, if_pos ⟨rfl, by omega⟩] | rw [am_wI_1, if_neg (fun q => by omega)] | rw [am_lay_1, if_pos ⟨rfl, by omega, by omega⟩] | rw [am_lay_1, if_neg (fun q => by omega)]))
  have re1 : (am_wI (am_wI (am_wI (am_wI (am_wI (am_wI (am_wI M 201 ((2478 + 6 * M.1 201 2).toNatClampNeg) (pl)) 201 ((2478 + 6 * M.1 201 2 + 1).toNatClampNeg) (w)) 201 ((2478 + 6 * M.1 201 2 + 2).toNatClampNeg) (v)) 201 ((2478 + 6 * M.1 201 2 + 3).toNatClampNeg) (f)) 201 ((2478 + 6 * M.1 201 2 + 4).toNatClampNeg) (b)) 201 ((2478 + 6 * M.1 201 2 + 5).toNatClampNeg) (t)) 201 (2) (M.1 201 2 + 1)).1 201 (2478 + 6 * (M.1 201 2).toNatClampNeg + 1) = w := by (repeat (first | rw [am_wI_1, if_pos ⟨rfl, by omega⟩] | rw [am_wI_1, if_neg (fun q => by omega)] | rw [am_lay_1, if_pos ⟨rfl, by omega, by omega⟩] | rw [am_lay_1, if_neg (fun q => by omega)]))
  have re2 : (am_wI (am_wI (am_wI (am_wI (am_wI (am_wI (am_wI M 201 ((2478 + 6 * M.1 201 2).toNatClampNeg) (pl)) 201 ((2478 + 6 * M.1 201 2 + 1).toNatClampNeg) (w)) 201 ((2478 + 6 * M.1 201 2 + 2).toNatClampNeg) (v)) 201 ((2478 + 6 * M.1 201 2 + 3).toNatClampNeg) (f)) 201 ((2478 + 6 * M.1 201 2 + 4).toNatClampNeg) (b)) 201 ((2478 + 6 * M.1 201 2 + 5).toNatClampNeg) (t)) 201 (2) (M.1 201 2 + 1)).1 201 (2478 + 6 * (M.1 201 2).toNatClampNeg + 2) = v := by (repeat (first | rw [am_wI_1, if_pos ⟨rfl, by omega⟩] | rw [am_wI_1, if_neg (fun q => by omega)] | rw [am_lay_1, if_pos ⟨rfl, by omega, by omega⟩] | rw [am_lay_1, if_neg (fun q => by omega)]))
  have re3 : (am_wI (am_wI (am_wI (am_wI (am_wI (am_wI (am_wI M 201 ((2478 + 6 * M.1 201 2).toNatClampNeg) (pl)) 201 ((2478 + 6 * M.1 201 2 + 1).toNatClampNeg) (w)) 201 ((2478 + 6 * M.1 201 2 + 2).toNatClampNeg) (v)) 201 ((2478 + 6 * M.1 201 2 + 3).toNatClampNeg) (f)) 201 ((2478 + 6 * M.1 201 2 + 4).toNatClampNeg) (b)) 201 ((2478 + 6 * M.1 201 2 + 5).toNatClampNeg) (t)) 201 (2) (M.1 201 2 + 1)).1 201 (2478 + 6 * (M.1 201 2).toNatClampNeg + 3) = f := by (repeat (first | rw [am_wI_1, if_pos ⟨rfl, by omega⟩] | rw [am_wI_1, if_neg (fun q => by omega)] | rw [am_lay_1, if_pos ⟨rfl, by omega, by omega⟩] | rw [am_lay_1, if_neg (fun q => by omega)]))
  have re4 : (am_wI (am_wI (am_wI (am_wI (am_wI (am_wI (am_wI M 201 ((2478 + 6 * M.1 201 2).toNatClampNeg) (pl)) 201 ((2478 + 6 * M.1 201 2 + 1).toNatClampNeg) (w)) 201 ((2478 + 6 * M.1 201 2 + 2).toNatClampNeg) (v)) 201 ((2478 + 6 * M.1 201 2 + 3).toNatClampNeg) (f)) 201 ((2478 + 6 * M.1 201 2 + 4).toNatClampNeg) (b)) 201 ((2478 + 6 * M.1 201 2 + 5).toNatClampNeg) (t)) 201 (2) (M.1 201 2 + 1)).1 201 (2478 + 6 * (M.1 201 2).toNatClampNeg + 4) = b := by (repeat (first | rw [am_wI_1, if_pos ⟨rfl, by omega⟩] | rw [am_wI_1, if_neg (fun q => by omega)] | rw [am_lay_1, if_pos ⟨rfl, by omega, by omega⟩] | rw [am_lay_1, if_neg (fun q => by omega)]))
  have re5 : (am_wI (am_wI (am_wI (am_wI (am_wI (am_wI (am_wI M 201 ((2478 + 6 * M.1 201 2).toNatClampNeg) (pl)) 201 ((2478 + 6 * M.1 201 2 + 1).toNatClampNeg) (w)) 201 ((2478 + 6 * M.1 201 2 + 2).toNatClampNeg) (v)) 201 ((2478 + 6 * M.1 201 2 + 3).toNatClampNeg) (f)) 201 ((2478 + 6 * M.1 201 2 + 4).toNatClampNeg) (b)) 201 ((2478 + 6 * M.1 201 2 + 5).toNatClampNeg) (t)) 201 (2) (M.1 201 2 + 1)).1 201 (2478 + 6 * (M.1 201 2).toNatClampNeg + 5) = t := by (repeat (first | rw [am_wI_1, if_pos ⟨rfl, by omega⟩] | rw [am_wI_1, if_neg (fun q => by omega)] | rw [am_lay_1, if_pos ⟨rfl, by omega, by omega⟩] | rw [am_lay_1, if_neg (fun q => by omega)]))
  have rc0 : (am_wI (am_wI (am_wI (am_wI (am_wI (am_wI (am_wI M 32 (6 * (M.1 201 2).toNatClampNeg) (pl)) 32 (6 * (M.1 201 2).toNatClampNeg + 1) (w)) 32 (6 * (M.1 201 2).toNatClampNeg + 2) (v)) 31 (2) (M.1 201 2 + 1)) 32 (6 * (M.1 201 2).toNatClampNeg + 3) (f)) 32 (6 * (M.1 201 2).toNatClampNeg + 4) (b)) 32 (6 * (M.1 201 2).toNatClampNeg + 5) (t)).1 32 (6 * (M.1 201 2).toNatClampNeg + 0) = pl := by (repeat (first | rw [am_wI_1, if_pos ⟨rfl, by omega⟩] | rw [am_wI_1, if_neg (fun q => by omega)] | rw [am_lay_1, if_pos ⟨rfl, by omega, by omega⟩] | rw [am_lay_1, if_neg (fun q => by omega)]))
  have rc1 : (am_wI (am_wI (am_wI (am_wI (am_wI (am_wI (am_wI M 32 (6 * (M.1 201 2).toNatClampNeg) (pl)) 32 (6 * (M.1 201 2).toNatClampNeg + 1) (w)) 32 (6 * (M.1 201 2).toNatClampNeg + 2) (v)) 31 (2) (M.1 201 2 + 1)) 32 (6 * (M.1 201 2).toNatClampNeg + 3) (f)) 32 (6 * (M.1 201 2).toNatClampNeg + 4) (b)) 32 (6 * (M.1 201 2).toNatClampNeg + 5) (t)).1 32 (6 * (M.1 201 2).toNatClampNeg + 1) = w := by (repeat (first | rw [am_wI_1, if_pos ⟨rfl, by omega⟩] | rw [am_wI_1, if_neg (fun q => by omega)] | rw [am_lay_1, if_pos ⟨rfl, by omega, by omega⟩] | rw [am_lay_1, if_neg (fun q => by omega)]))
  have rc2 : (am_wI (am_wI (am_wI (am_wI (am_wI (am_wI (am_wI M 32 (6 * (M.1 201 2).toNatClampNeg) (pl)) 32 (6 * (M.1 201 2).toNatClampNeg + 1) (w)) 32 (6 * (M.1 201 2).toNatClampNeg + 2) (v)) 31 (2) (M.1 201 2 + 1)) 32 (6 * (M.1 201 2).toNatClampNeg + 3) (f)) 32 (6 * (M.1 201 2).toNatClampNeg + 4) (b)) 32 (6 * (M.1 201 2).toNatClampNeg + 5) (t)).1 32 (6 * (M.1 201 2).toNatClampNeg + 2) = v := by (repeat (first | rw [am_wI_1, if_pos ⟨rfl, by omega⟩] | rw [am_wI_1, if_neg (fun q => by omega)] | rw [am_lay_1, if_pos ⟨rfl, by omega, by omega⟩] | rw [am_lay_1, if_neg (fun q => by omega)]))
  have rc3 : (am_wI (am_wI (am_wI (am_wI (am_wI (am_wI (am_wI M 32 (6 * (M.1 201 2).toNatClampNeg) (pl)) 32 (6 * (M.1 201 2).toNatClampNeg + 1) (w)) 32 (6 * (M.1 201 2).toNatClampNeg + 2) (v)) 31 (2) (M.1 201 2 + 1)) 32 (6 * (M.1 201 2).toNatClampNeg + 3) (f)) 32 (6 * (M.1 201 2).toNatClampNeg + 4) (b)) 32 (6 * (M.1 201 2).toNatClampNeg + 5) (t)).1 32 (6 * (M.1 201 2).toNatClampNeg + 3) = f := by (repeat (first | rw [am_wI_1, if_pos ⟨rfl, by omega⟩] | rw [am_wI_1, if_neg (fun q => by omega)] | rw [am_lay_1, if_pos ⟨rfl, by omega, by omega⟩] | rw [am_lay_1, if_neg (fun q => by omega)]))
  have rc4 : (am_wI (am_wI (am_wI (am_wI (am_wI (am_wI (am_wI M 32 (6 * (M.1 201 2).toNatClampNeg) (pl)) 32 (6 * (M.1 201 2).toNatClampNeg + 1) (w)) 32 (6 * (M.1 201 2).toNatClampNeg + 2) (v)) 31 (2) (M.1 201 2 + 1)) 32 (6 * (M.1 201 2).toNatClampNeg + 3) (f)) 32 (6 * (M.1 201 2).toNatClampNeg + 4) (b)) 32 (6 * (M.1 201 2).toNatClampNeg + 5) (t)).1 32 (6 * (M.1 201 2).toNatClampNeg + 4) = b := by (repeat (first | rw [am_wI_1, if_pos ⟨rfl, by omega⟩] | rw [am_wI_1, if_neg (fun q => by omega)] | rw [am_lay_1, if_pos ⟨rfl, by omega, by omega⟩] | rw [am_lay_1, if_neg (fun q => by omega)]))
  have rc5 : (am_wI (am_wI (am_wI (am_wI (am_wI (am_wI (am_wI M 32 (6 * (M.1 201 2).toNatClampNeg) (pl)) 32 (6 * (M.1 201 2).toNatClampNeg + 1) (w)) 32 (6 * (M.1 201 2).toNatClampNeg + 2) (v)) 31 (2) (M.1 201 2 + 1)) 32 (6 * (M.1 201 2).toNatClampNeg + 3) (f)) 32 (6 * (M.1 201 2).toNatClampNeg + 4) (b)) 32 (6 * (M.1 201 2).toNatClampNeg + 5) (t)).1 32 (6 * (M.1 201 2).toNatClampNeg + 5) = t := by (repeat (first | rw [am_wI_1, if_pos ⟨rfl, by omega⟩] | rw [am_wI_1, if_neg (fun q => by omega)] | rw [am_lay_1, if_pos ⟨rfl, by omega, by omega⟩] | rw [am_lay_1, if_neg (fun q => by omega)]))
  have hl : lb 20 201 0 (am_wI (am_wI (am_wI (am_wI (am_wI (am_wI (am_wI M 32 (6 * (M.1 201 2).toNatClampNeg) (pl)) 32 (6 * (M.1 201 2).toNatClampNeg + 1) (w)) 32 (6 * (M.1 201 2).toNatClampNeg + 2) (v)) 31 (2) (M.1 201 2 + 1)) 32 (6 * (M.1 201 2).toNatClampNeg + 3) (f)) 32 (6 * (M.1 201 2).toNatClampNeg + 4) (b)) 32 (6 * (M.1 201 2).toNatClampNeg + 5) (t)) (am_wI (am_wI (am_wI (am_wI (am_wI (am_wI (am_wI M 201 ((2478 + 6 * M.1 201 2).toNatClampNeg) (pl)) 201 ((2478 + 6 * M.1 201 2 + 1).toNatClampNeg) (w)) 201 ((2478 + 6 * M.1 201 2 + 2).toNatClampNeg) (v)) 201 ((2478 + 6 * M.1 201 2 + 3).toNatClampNeg) (f)) 201 ((2478 + 6 * M.1 201 2 + 4).toNatClampNeg) (b)) 201 ((2478 + 6 * M.1 201 2 + 5).toNatClampNeg) (t)) 201 (2) (M.1 201 2 + 1)) := by
    refine h.b.act (n := (M.1 201 2).toNatClampNeg) c2.symm (by omega) (fun a k z1 z2 z3 z4 => by (repeat (first | rw [am_wI_1, if_pos ⟨rfl, by omega⟩] | rw [am_wI_1, if_neg (fun q => by omega)] | rw [am_lay_1, if_pos ⟨rfl, by omega, by omega⟩] | rw [am_lay_1, if_neg (fun q => by omega)]))) (fun k z1 z2 => by (repeat (first | rw [am_wI_1, if_pos ⟨rfl, by omega⟩] | rw [am_wI_1, if_neg (fun q => by omega)] | rw [am_lay_1, if_pos ⟨rfl, by omega, by omega⟩] | rw [am_lay_1, if_neg (fun q => by omega)]))) (by (repeat (first | rw [am_wI_1, if_pos ⟨rfl, by omega⟩] | rw [am_wI_1, if_neg (fun q => by omega)] | rw [am_lay_1, if_pos ⟨rfl, by omega, by omega⟩] | rw [am_lay_1, if_neg (fun q => by omega)]))) (by rw [am_wI_self]; omega) (fun c hc => ?_) (fun c hc => ?_) ?_
    · rcases (show c = 0 ∨ c = 1 ∨ c = 2 ∨ c = 3 ∨ c = 4 ∨ c = 5 by omega) with rfl | rfl | rfl | rfl | rfl | rfl
      · rw [re0, rc0]
      · rw [re1, rc1]
      · rw [re2, rc2]
      · rw [re3, rc3]
      · rw [re4, rc4]
      · rw [re5, rc5]
    · rcases (show c = 0 ∨ c = 1 ∨ c = 2 ∨ c = 3 ∨ c = 4 ∨ c = 5 by omega) with rfl | rfl | rfl | rfl | rfl | rfl
      · rw [re0]; exact (by exact t_v.m13 (by omega) (by omega))
      · rw [re1]; exact (by exact t_v.m14 (by omega) (by omega))
      · rw [re2]; exact (by exact t_v.m15 (by omega) (by omega))
      · rw [re3]; exact (by exact t_v.m16 (by omega) (by omega))
      · rw [re4]; exact (by exact t_v.m16 (by omega) (by omega))
      · rw [re5]; exact (by exact t_v.m16 (by omega) (by omega))
    · rw [show 2479 + 6 * (M.1 201 2).toNatClampNeg = 2478 + 6 * (M.1 201 2).toNatClampNeg + 1 by omega, show 2480 + 6 * (M.1 201 2).toNatClampNeg = 2478 + 6 * (M.1 201 2).toNatClampNeg + 2 by omega, re1, re2]
      exact z1
  refine st.yes (v := M.1 201 2) (by unfold c_act; rw [if_pos z0, if_pos z1, if_pos z2, if_pos z3, e2, if_pos y5, q]) (F := (am_wI (am_wI (am_wI (am_wI (am_wI (am_wI (am_wI (am_wI (am_wI (am_wI (am_wI (am_wI (am_wI (am_wI M 32 (6 * (M.1 201 2).toNatClampNeg) (pl)) 32 (6 * (M.1 201 2).toNatClampNeg + 1) (w)) 32 (6 * (M.1 201 2).toNatClampNeg + 2) (v)) 31 (2) (M.1 201 2 + 1)) 32 (6 * (M.1 201 2).toNatClampNeg + 3) (f)) 32 (6 * (M.1 201 2).toNatClampNeg + 4) (b)) 32 (6 * (M.1 201 2).toNatClampNeg + 5) (t)) 201 ((2478 + 6 * M.1 201 2).toNatClampNeg) (pl)) 201 ((2478 + 6 * M.1 201 2 + 1).toNatClampNeg) (w)) 201 ((2478 + 6 * M.1 201 2 + 2).toNatClampNeg) (v)) 201 ((2478 + 6 * M.1 201 2 + 3).toNatClampNeg) (f)) 201 ((2478 + 6 * M.1 201 2 + 4).toNatClampNeg) (b)) 201 ((2478 + 6 * M.1 201 2 + 5).toNatClampNeg) (t)) 201 (2) (M.1 201 2 + 1))) (w := M.1 201 2 + 1 - 1) (by
    (try dsimp only)
    unfold r_act
    rw [zz, eN, if_pos z0, if_pos y1, if_pos z1, if_pos z2, if_pos y2, if_pos y3, if_pos y4, if_neg z4]
    (try dsimp only)
    rw [am_wI_self, show (am_wI (am_wI (am_wI (am_wI (am_wI (am_wI (am_wI (am_wI (am_wI (am_wI (am_wI (am_wI (am_wI M 32 (6 * (M.1 201 2).toNatClampNeg) (pl)) 32 (6 * (M.1 201 2).toNatClampNeg + 1) (w)) 32 (6 * (M.1 201 2).toNatClampNeg + 2) (v)) 31 (2) (M.1 201 2 + 1)) 32 (6 * (M.1 201 2).toNatClampNeg + 3) (f)) 32 (6 * (M.1 201 2).toNatClampNeg + 4) (b)) 32 (6 * (M.1 201 2).toNatClampNeg + 5) (t)) 201 ((2478 + 6 * M.1 201 2).toNatClampNeg) (pl)) 201 ((2478 + 6 * M.1 201 2 + 1).toNatClampNeg) (w)) 201 ((2478 + 6 * M.1 201 2 + 2).toNatClampNeg) (v)) 201 ((2478 + 6 * M.1 201 2 + 3).toNatClampNeg) (f)) 201 ((2478 + 6 * M.1 201 2 + 4).toNatClampNeg) (b)) 201 ((2478 + 6 * M.1 201 2 + 5).toNatClampNeg) (t)).1 201 2 = M.1 201 2 by (repeat (first | rw [am_wI_1, if_pos ⟨rfl, by omega⟩] | rw [am_wI_1, if_neg (fun q => by omega)] | rw [am_lay_1, if_pos ⟨rfl, by omega, by omega⟩] | rw [am_lay_1, if_neg (fun q => by omega)]))]) (d1 n2.1 (by omega)).symm ?_ (fun a k z => by (repeat (first | rw [am_wI_1, if_pos ⟨rfl, by omega⟩] | rw [am_wI_1, if_neg (fun q => by omega)] | rw [am_lay_1, if_pos ⟨rfl, by omega, by omega⟩] | rw [am_lay_1, if_neg (fun q => by omega)])))
  exact h.told hl (fun a k z1 z2 => by (repeat (first | rw [am_wI_1, if_pos ⟨rfl, by omega⟩] | rw [am_wI_1, if_neg (fun q => by omega)] | rw [am_lay_1, if_pos ⟨rfl, by omega, by omega⟩] | rw [am_lay_1, if_neg (fun q => by omega)]))) (fun k => by (simp only [am_wI_1, am_lay_1, Nat.reduceEqDiff, false_and, true_and, if_false])) (fun a k z1 z2 => by (repeat (first | rw [am_wI_1, if_pos ⟨rfl, by omega⟩] | rw [am_wI_1, if_neg (fun q => by omega)] | rw [am_lay_1, if_pos ⟨rfl, by omega, by omega⟩] | rw [am_lay_1, if_neg (fun q => by omega)]))) (fun a z => by (repeat (first | rw [am_wI_1, if_pos ⟨rfl, by omega⟩] | rw [am_wI_1, if_neg (fun q => by omega)] | rw [am_lay_1, if_pos ⟨rfl, by omega, by omega⟩] | rw [am_lay_1, if_neg (fun q => by omega)])))

theorem st_loan (h : LI i1 i2 M) (p pl y s fe : Int32) (hfe : fe = 0 ∨ fe = 1) : st i1 i2 M (c_loan M p pl y s fe) (fun N => r_loan N p pl y s fe) := by
  have e0 := h.e0
  have e1 := h.e1
  have n0 := h.n0
  have n1 := h.n1
  have c1 := i_clamp n1.1
  have hi := i_inc (x := M.1 201 1) (by omega) (by omega)
  have zz : Int32.toNatClampNeg 1 = 1 := rfl
  by_cases z0 : 0 ≤ p ∧ p < M.1 201 0
  rotate_left
  · exact st.no h (by unfold c_loan; rw [e0]; exact if_neg z0) (if_neg z0)
  by_cases z1 : 0 ≤ pl ∧ pl < 5
  rotate_left
  · exact st.no h (by unfold c_loan; rw [e0, if_pos z0, if_neg z1]) (by (try dsimp only); unfold r_loan; rw [if_pos z0, if_neg z1])
  by_cases z2 : 0 ≤ y ∧ y < 40
  rotate_left
  · exact st.no h (by unfold c_loan; rw [e0, if_pos z0, if_pos z1, if_neg z2]) (by (try dsimp only); unfold r_loan; rw [if_pos z0, if_pos z1, if_neg z2])
  by_cases z3 : 0 ≤ s ∧ s ≤ 10000000
  rotate_left
  · have nz : ¬ (1 ≤ s ∧ s ≤ 10000000) := fun q => z3 (by
      simp only [i_le, Int32.reduceToInt] at q ⊢
      omega)
    exact st.no h (by unfold c_loan; rw [e0, if_pos z0, if_pos z1, if_pos z2, if_neg z3]) (by (try dsimp only); unfold r_loan; rw [if_pos z0, if_pos z1, if_pos z2, if_neg nz])
  by_cases z4 : s = 0
  · have nz : ¬ (1 ≤ s ∧ s ≤ 10000000) := fun q => by
      rw [z4] at q
      exact absurd q.1 (by decide)
    exact st.no h (by unfold c_loan; rw [e0, if_pos z0, if_pos z1, if_pos z2, if_pos z3, if_pos z4]) (by (try dsimp only); unfold r_loan; rw [if_pos z0, if_pos z1, if_pos z2, if_neg nz])
  have y3 : 1 ≤ s ∧ s ≤ 10000000 := by
    simp only [i_le, i_eq, Int32.reduceToInt] at z3 z4 ⊢
    omega
  by_cases z5 : M.1 201 1 = 30
  · exact st.no h (by unfold c_loan; rw [e0, if_pos z0, if_pos z1, if_pos z2, if_pos z3, if_neg z4, e1, if_neg (by rw [z5]; decide)]) (by (try dsimp only); unfold r_loan; rw [zz, if_pos z0, if_pos z1, if_pos z2, if_pos y3, if_pos z5])
  have zi : (M.1 201 1).toInt < 30 := by have q := z5; simp only [i_eq, Int32.reduceToInt] at q; omega
  have y5 : M.1 201 1 < 30 := by simp only [i_lt, Int32.reduceToInt]; exact zi
  have b0 := b4 z0
  have b1 := b4 z1
  have b2 := yr z2
  have b3 := bt y3
  have b5 : 0 ≤ fe.toInt ∧ fe.toInt ≤ 1 := by rcases hfe with rfl | rfl <;> decide
  have b6 : (-1 : Int32).toInt = -1 := rfl
  simp only [Int32.reduceToInt] at b1 b3
  have f40 := x_mulr (c := 40) (cn := 40) rfl (x := M.1 201 1) ⟨n1.1, by omega⟩ (by decide)
  have f39 := i_add (x := M.1 201 1 * 40) (y := 39) (by simp only [Int32.reduceToInt]; omega) (by simp only [Int32.reduceToInt]; omega)
  simp only [Int32.reduceToInt] at f39
  have x0 := x_row8z (c := 2838) (cn := 2838) rfl (by decide) (x := M.1 201 1) ⟨n1.1, by omega⟩
  have x1 := x_row8 (c := 2838) (cn := 2838) (j := 1) (k := 1) rfl (by decide) (x := M.1 201 1) ⟨n1.1, by omega⟩ rfl (by decide)
  have x2 := x_row8 (c := 2838) (cn := 2838) (j := 2) (k := 2) rfl (by decide) (x := M.1 201 1) ⟨n1.1, by omega⟩ rfl (by decide)
  have x3 := x_row8 (c := 2838) (cn := 2838) (j := 3) (k := 3) rfl (by decide) (x := M.1 201 1) ⟨n1.1, by omega⟩ rfl (by decide)
  have x4 := x_row8 (c := 2838) (cn := 2838) (j := 4) (k := 4) rfl (by decide) (x := M.1 201 1) ⟨n1.1, by omega⟩ rfl (by decide)
  have x5 := x_row8 (c := 2838) (cn := 2838) (j := 5) (k := 5) rfl (by decide) (x := M.1 201 1) ⟨n1.1, by omega⟩ rfl (by decide)
  have x6 := x_row8 (c := 2838) (cn := 2838) (j := 6) (k := 6) rfl (by decide) (x := M.1 201 1) ⟨n1.1, by omega⟩ rfl (by decide)
  have x7 := x_row8 (c := 2838) (cn := 2838) (j := 7) (k := 7) rfl (by decide) (x := M.1 201 1) ⟨n1.1, by omega⟩ rfl (by decide)
  have l34 : am_len 34 = 240 := rfl
  have l37 : ((am_len 37 : Nat) : Int) = 1200 := rfl
  have hw := h.w.2.1
  have q0 : am_radd M 33 34 p pl y = (am_wI (am_wI (am_wI (am_wI M 34 (8 * (M.1 201 1).toNatClampNeg) (p)) 34 (8 * (M.1 201 1).toNatClampNeg + 1) (pl)) 34 (8 * (M.1 201 1).toNatClampNeg + 2) (y)) 33 (2) (M.1 201 1 + 1)) := by
    rw [radd_at (w := 8) (n := (M.1 201 1).toNatClampNeg) (k := 8 * (M.1 201 1).toNatClampNeg) (by decide) (by rw [hw]; rfl) (by decide) (by rw [e1]; exact c1.symm) (by omega) (by omega) (by decide), e1]
  have q3 : am_rput (am_wI (am_wI (am_wI (am_wI M 34 (8 * (M.1 201 1).toNatClampNeg) (p)) 34 (8 * (M.1 201 1).toNatClampNeg + 1) (pl)) 34 (8 * (M.1 201 1).toNatClampNeg + 2) (y)) 33 (2) (M.1 201 1 + 1)) 33 34 (M.1 201 1) 3 (s) = (am_wI (am_wI (am_wI (am_wI (am_wI M 34 (8 * (M.1 201 1).toNatClampNeg) (p)) 34 (8 * (M.1 201 1).toNatClampNeg + 1) (pl)) 34 (8 * (M.1 201 1).toNatClampNeg + 2) (y)) 33 (2) (M.1 201 1 + 1)) 34 (8 * (M.1 201 1).toNatClampNeg + 3) (s)) := rput_at (w := 8) (n := (M.1 201 1).toNatClampNeg) (by rw [show (am_wI (am_wI (am_wI (am_wI M 34 (8 * (M.1 201 1).toNatClampNeg) (p)) 34 (8 * (M.1 201 1).toNatClampNeg + 1) (pl)) 34 (8 * (M.1 201 1).toNatClampNeg + 2) (y)) 33 (2) (M.1 201 1 + 1)).1 33 1 = M.1 33 1 by (repeat (first | rw [am_wI_1, if_pos ⟨rfl, by omega⟩] | rw [am_wI_1, if_neg (fun q => by omega)] | rw [am_lay_1, if_pos ⟨rfl, by omega, by omega⟩] | rw [am_lay_1, if_neg (fun q => by omega)])), hw]; rfl) c1.symm (by decide) (by decide) (by rw [show (3 : Int32).toInt = 3 from rfl]; omega) (by omega) (by decide)
  have q4 : am_rput (am_wI (am_wI (am_wI (am_wI (am_wI M 34 (8 * (M.1 201 1).toNatClampNeg) (p)) 34 (8 * (M.1 201 1).toNatClampNeg + 1) (pl)) 34 (8 * (M.1 201 1).toNatClampNeg + 2) (y)) 33 (2) (M.1 201 1 + 1)) 34 (8 * (M.1 201 1).toNatClampNeg + 3) (s)) 33 34 (M.1 201 1) 4 (fe) = (am_wI (am_wI (am_wI (am_wI (am_wI (am_wI M 34 (8 * (M.1 201 1).toNatClampNeg) (p)) 34 (8 * (M.1 201 1).toNatClampNeg + 1) (pl)) 34 (8 * (M.1 201 1).toNatClampNeg + 2) (y)) 33 (2) (M.1 201 1 + 1)) 34 (8 * (M.1 201 1).toNatClampNeg + 3) (s)) 34 (8 * (M.1 201 1).toNatClampNeg + 4) (fe)) := rput_at (w := 8) (n := (M.1 201 1).toNatClampNeg) (by rw [show (am_wI (am_wI (am_wI (am_wI (am_wI M 34 (8 * (M.1 201 1).toNatClampNeg) (p)) 34 (8 * (M.1 201 1).toNatClampNeg + 1) (pl)) 34 (8 * (M.1 201 1).toNatClampNeg + 2) (y)) 33 (2) (M.1 201 1 + 1)) 34 (8 * (M.1 201 1).toNatClampNeg + 3) (s)).1 33 1 = M.1 33 1 by (repeat (first | rw [am_wI_1, if_pos ⟨rfl, by omega⟩] | rw [am_wI_1, if_neg (fun q => by omega)] | rw [am_lay_1, if_pos ⟨rfl, by omega, by omega⟩] | rw [am_lay_1, if_neg (fun q => by omega)])), hw]; rfl) c1.symm (by decide) (by decide) (by rw [show (4 : Int32).toInt = 4 from rfl]; omega) (by omega) (by decide)
  have q5 : am_rput (am_wI (am_wI (am_wI (am_wI (am_wI (am_wI M 34 (8 * (M.1 201 1).toNatClampNeg) (p)) 34 (8 * (M.1 201 1).toNatClampNeg + 1) (pl)) 34 (8 * (M.1 201 1).toNatClampNeg + 2) (y)) 33 (2) (M.1 201 1 + 1)) 34 (8 * (M.1 201 1).toNatClampNeg + 3) (s)) 34 (8 * (M.1 201 1).toNatClampNeg + 4) (fe)) 33 34 (M.1 201 1) 5 (-1) = (am_wI (am_wI (am_wI (am_wI (am_wI (am_wI (am_wI M 34 (8 * (M.1 201 1).toNatClampNeg) (p)) 34 (8 * (M.1 201 1).toNatClampNeg + 1) (pl)) 34 (8 * (M.1 201 1).toNatClampNeg + 2) (y)) 33 (2) (M.1 201 1 + 1)) 34 (8 * (M.1 201 1).toNatClampNeg + 3) (s)) 34 (8 * (M.1 201 1).toNatClampNeg + 4) (fe)) 34 (8 * (M.1 201 1).toNatClampNeg + 5) (-1)) := rput_at (w := 8) (n := (M.1 201 1).toNatClampNeg) (by rw [show (am_wI (am_wI (am_wI (am_wI (am_wI (am_wI M 34 (8 * (M.1 201 1).toNatClampNeg) (p)) 34 (8 * (M.1 201 1).toNatClampNeg + 1) (pl)) 34 (8 * (M.1 201 1).toNatClampNeg + 2) (y)) 33 (2) (M.1 201 1 + 1)) 34 (8 * (M.1 201 1).toNatClampNeg + 3) (s)) 34 (8 * (M.1 201 1).toNatClampNeg + 4) (fe)).1 33 1 = M.1 33 1 by (repeat (first | rw [am_wI_1, if_pos ⟨rfl, by omega⟩] | rw [am_wI_1, if_neg (fun q => by omega)] | rw [am_lay_1, if_pos ⟨rfl, by omega, by omega⟩] | rw [am_lay_1, if_neg (fun q => by omega)])), hw]; rfl) c1.symm (by decide) (by decide) (by rw [show (5 : Int32).toInt = 5 from rfl]; omega) (by omega) (by decide)
  have q6 : am_rput (am_wI (am_wI (am_wI (am_wI (am_wI (am_wI (am_wI M 34 (8 * (M.1 201 1).toNatClampNeg) (p)) 34 (8 * (M.1 201 1).toNatClampNeg + 1) (pl)) 34 (8 * (M.1 201 1).toNatClampNeg + 2) (y)) 33 (2) (M.1 201 1 + 1)) 34 (8 * (M.1 201 1).toNatClampNeg + 3) (s)) 34 (8 * (M.1 201 1).toNatClampNeg + 4) (fe)) 34 (8 * (M.1 201 1).toNatClampNeg + 5) (-1)) 33 34 (M.1 201 1) 6 (-1) = (am_wI (am_wI (am_wI (am_wI (am_wI (am_wI (am_wI (am_wI M 34 (8 * (M.1 201 1).toNatClampNeg) (p)) 34 (8 * (M.1 201 1).toNatClampNeg + 1) (pl)) 34 (8 * (M.1 201 1).toNatClampNeg + 2) (y)) 33 (2) (M.1 201 1 + 1)) 34 (8 * (M.1 201 1).toNatClampNeg + 3) (s)) 34 (8 * (M.1 201 1).toNatClampNeg + 4) (fe)) 34 (8 * (M.1 201 1).toNatClampNeg + 5) (-1)) 34 (8 * (M.1 201 1).toNatClampNeg + 6) (-1)) := rput_at (w := 8) (n := (M.1 201 1).toNatClampNeg) (by rw [show (am_wI (am_wI (am_wI (am_wI (am_wI (am_wI (am_wI M 34 (8 * (M.1 201 1).toNatClampNeg) (p)) 34 (8 * (M.1 201 1).toNatClampNeg + 1) (pl)) 34 (8 * (M.1 201 1).toNatClampNeg + 2) (y)) 33 (2) (M.1 201 1 + 1)) 34 (8 * (M.1 201 1).toNatClampNeg + 3) (s)) 34 (8 * (M.1 201 1).toNatClampNeg + 4) (fe)) 34 (8 * (M.1 201 1).toNatClampNeg + 5) (-1)).1 33 1 = M.1 33 1 by (repeat (first | rw [am_wI_1, if_pos ⟨rfl, by omega⟩] | rw [am_wI_1, if_neg (fun q => by omega)] | rw [am_lay_1, if_pos ⟨rfl, by omega, by omega⟩] | rw [am_lay_1, if_neg (fun q => by omega)])), hw]; rfl) c1.symm (by decide) (by decide) (by rw [show (6 : Int32).toInt = 6 from rfl]; omega) (by omega) (by decide)
  have q7 : am_rput (am_wI (am_wI (am_wI (am_wI (am_wI (am_wI (am_wI (am_wI M 34 (8 * (M.1 201 1).toNatClampNeg) (p)) 34 (8 * (M.1 201 1).toNatClampNeg + 1) (pl)) 34 (8 * (M.1 201 1).toNatClampNeg + 2) (y)) 33 (2) (M.1 201 1 + 1)) 34 (8 * (M.1 201 1).toNatClampNeg + 3) (s)) 34 (8 * (M.1 201 1).toNatClampNeg + 4) (fe)) 34 (8 * (M.1 201 1).toNatClampNeg + 5) (-1)) 34 (8 * (M.1 201 1).toNatClampNeg + 6) (-1)) 33 34 (M.1 201 1) 7 (-1) = (am_wI (am_wI (am_wI (am_wI (am_wI (am_wI (am_wI (am_wI (am_wI M 34 (8 * (M.1 201 1).toNatClampNeg) (p)) 34 (8 * (M.1 201 1).toNatClampNeg + 1) (pl)) 34 (8 * (M.1 201 1).toNatClampNeg + 2) (y)) 33 (2) (M.1 201 1 + 1)) 34 (8 * (M.1 201 1).toNatClampNeg + 3) (s)) 34 (8 * (M.1 201 1).toNatClampNeg + 4) (fe)) 34 (8 * (M.1 201 1).toNatClampNeg + 5) (-1)) 34 (8 * (M.1 201 1).toNatClampNeg + 6) (-1)) 34 (8 * (M.1 201 1).toNatClampNeg + 7) (-1)) := rput_at (w := 8) (n := (M.1 201 1).toNatClampNeg) (by rw [show (am_wI (am_wI (am_wI (am_wI (am_wI (am_wI (am_wI (am_wI M 34 (8 * (M.1 201 1).toNatClampNeg) (p)) 34 (8 * (M.1 201 1).toNatClampNeg + 1) (pl)) 34 (8 * (M.1 201 1).toNatClampNeg + 2) (y)) 33 (2) (M.1 201 1 + 1)) 34 (8 * (M.1 201 1).toNatClampNeg + 3) (s)) 34 (8 * (M.1 201 1).toNatClampNeg + 4) (fe)) 34 (8 * (M.1 201 1).toNatClampNeg + 5) (-1)) 34 (8 * (M.1 201 1).toNatClampNeg + 6) (-1)).1 33 1 = M.1 33 1 by (repeat (first | rw [am_wI_1, if_pos ⟨rfl, by omega⟩] | rw [am_wI_1, if_neg (fun q => by omega)] | rw [am_lay_1, if_pos ⟨rfl, by omega, by omega⟩] | rw [am_lay_1, if_neg (fun q => by omega)])), hw]; rfl) c1.symm (by decide) (by decide) (by rw [show (7 : Int32).toInt = 7 from rfl]; omega) (by omega) (by decide)
  have eN : ∀ k, (am_lay (am_wI (am_wI (am_wI (am_wI (am_wI (am_wI (am_wI (am_wI (am_wI M 34 (8 * (M.1 201 1).toNatClampNeg) (p)) 34 (8 * (M.1 201 1).toNatClampNeg + 1) (pl)) 34 (8 * (M.1 201 1).toNatClampNeg + 2) (y)) 33 (2) (M.1 201 1 + 1)) 34 (8 * (M.1 201 1).toNatClampNeg + 3) (s)) 34 (8 * (M.1 201 1).toNatClampNeg + 4) (fe)) 34 (8 * (M.1 201 1).toNatClampNeg + 5) (-1)) 34 (8 * (M.1 201 1).toNatClampNeg + 6) (-1)) 34 (8 * (M.1 201 1).toNatClampNeg + 7) (-1)) 37 (max (M.1 201 1 * 40).toInt 0) (min (M.1 201 1 * 40 + 39).toInt ((am_len 37 : Int) - 1)) pl).1 201 k = M.1 201 k := fun k => by (repeat (first | rw [am_wI_1, if_pos ⟨rfl, by omega⟩] | rw [am_wI_1, if_neg (fun q => by omega)] | rw [am_lay_1, if_pos ⟨rfl, by omega, by omega⟩] | rw [am_lay_1, if_neg (fun q => by omega)]))
  have re0 : (am_wI (am_wI (am_wI (am_wI (am_wI (am_wI (am_wI (am_wI (am_wI M 201 ((2838 + 8 * M.1 201 1).toNatClampNeg) (p)) 201 ((2838 + 8 * M.1 201 1 + 1).toNatClampNeg) (pl)) 201 ((2838 + 8 * M.1 201 1 + 2).toNatClampNeg) (y)) 201 ((2838 + 8 * M.1 201 1 + 3).toNatClampNeg) (s)) 201 ((2838 + 8 * M.1 201 1 + 4).toNatClampNeg) (fe)) 201 ((2838 + 8 * M.1 201 1 + 5).toNatClampNeg) (-1)) 201 ((2838 + 8 * M.1 201 1 + 6).toNatClampNeg) (-1)) 201 ((2838 + 8 * M.1 201 1 + 7).toNatClampNeg) (-1)) 201 (1) (M.1 201 1 + 1)).1 201 (2838 + 8 * (M.1 201 1).toNatClampNeg + 0) = p := by (repeat (first | rw [am_wI_1, if_pos ⟨rfl, by omega⟩] | rw [am_wI_1, if_neg (fun q => by omega)] | rw [am_lay_1, if_pos ⟨rfl, by omega, by omega⟩] | rw [am_lay_1, if_neg (fun q => by omega)]))
  have re1 : (am_wI (am_wI (am_wI (am_wI (am_wI (am_wI (am_wI (am_wI (am_wI M 201 ((2838 + 8 * M.1 201 1).toNatClampNeg) (p)) 201 ((2838 + 8 * M.1 201 1 + 1).toNatClampNeg) (pl)) 201 ((2838 + 8 * M.1 201 1 + 2).toNatClampNeg) (y)) 201 ((2838 + 8 * M.1 201 1 + 3).toNatClampNeg) (s)) 201 ((2838 + 8 * M.1 201 1 + 4).toNatClampNeg) (fe)) 201 ((2838 + 8 * M.1 201 1 + 5).toNatClampNeg) (-1)) 201 ((2838 + 8 * M.1 201 1 + 6).toNatClampNeg) (-1)) 201 ((2838 + 8 * M.1 201 1 + 7).toNatClampNeg) (-1)) 201 (1) (M.1 201 1 + 1)).1 201 (2838 + 8 * (M.1 201 1).toNatClampNeg + 1) = pl := by (repeat (first | rw [am_wI_1, if_pos ⟨rfl, by omega⟩] | rw [am_wI_1, if_neg (fun q => by omega)] | rw [am_lay_1, if_pos ⟨rfl, by omega, by omega⟩] | rw [am_lay_1, if_neg (fun q => by omega)]))
  have re2 : (am_wI (am_wI (am_wI (am_wI (am_wI (am_wI (am_wI (am_wI (am_wI M 201 ((2838 + 8 * M.1 201 1).toNatClampNeg) (p)) 201 ((2838 + 8 * M.1 201 1 + 1).toNatClampNeg) (pl)) 201 ((2838 + 8 * M.1 201 1 + 2).toNatClampNeg) (y)) 201 ((2838 + 8 * M.1 201 1 + 3).toNatClampNeg) (s)) 201 ((2838 + 8 * M.1 201 1 + 4).toNatClampNeg) (fe)) 201 ((2838 + 8 * M.1 201 1 + 5).toNatClampNeg) (-1)) 201 ((2838 + 8 * M.1 201 1 + 6).toNatClampNeg) (-1)) 201 ((2838 + 8 * M.1 201 1 + 7).toNatClampNeg) (-1)) 201 (1) (M.1 201 1 + 1)).1 201 (2838 + 8 * (M.1 201 1).toNatClampNeg + 2) = y := by (repeat (first | rw [am_wI_1, if_pos ⟨rfl, by omega⟩] | rw [am_wI_1, if_neg (fun q => by omega)] | rw [am_lay_1, if_pos ⟨rfl, by omega, by omega⟩] | rw [am_lay_1, if_neg (fun q => by omega)]))
  have re3 : (am_wI (am_wI (am_wI (am_wI (am_wI (am_wI (am_wI (am_wI (am_wI M 201 ((2838 + 8 * M.1 201 1).toNatClampNeg) (p)) 201 ((2838 + 8 * M.1 201 1 + 1).toNatClampNeg) (pl)) 201 ((2838 + 8 * M.1 201 1 + 2).toNatClampNeg) (y)) 201 ((2838 + 8 * M.1 201 1 + 3).toNatClampNeg) (s)) 201 ((2838 + 8 * M.1 201 1 + 4).toNatClampNeg) (fe)) 201 ((2838 + 8 * M.1 201 1 + 5).toNatClampNeg) (-1)) 201 ((2838 + 8 * M.1 201 1 + 6).toNatClampNeg) (-1)) 201 ((2838 + 8 * M.1 201 1 + 7).toNatClampNeg) (-1)) 201 (1) (M.1 201 1 + 1)).1 201 (2838 + 8 * (M.1 201 1).toNatClampNeg + 3) = s := by (repeat (first | rw [am_wI_1, if_pos ⟨rfl, by omega⟩] | rw [am_wI_1, if_neg (fun q => by omega)] | rw [am_lay_1, if_pos ⟨rfl, by omega, by omega⟩] | rw [am_lay_1, if_neg (fun q => by omega)]))
  have re4 : (am_wI (am_wI (am_wI (am_wI (am_wI (am_wI (am_wI (am_wI (am_wI M 201 ((2838 + 8 * M.1 201 1).toNatClampNeg) (p)) 201 ((2838 + 8 * M.1 201 1 + 1).toNatClampNeg) (pl)) 201 ((2838 + 8 * M.1 201 1 + 2).toNatClampNeg) (y)) 201 ((2838 + 8 * M.1 201 1 + 3).toNatClampNeg) (s)) 201 ((2838 + 8 * M.1 201 1 + 4).toNatClampNeg) (fe)) 201 ((2838 + 8 * M.1 201 1 + 5).toNatClampNeg) (-1)) 201 ((2838 + 8 * M.1 201 1 + 6).toNatClampNeg) (-1)) 201 ((2838 + 8 * M.1 201 1 + 7).toNatClampNeg) (-1)) 201 (1) (M.1 201 1 + 1)).1 201 (2838 + 8 * (M.1 201 1).toNatClampNeg + 4) = fe := by (repeat (first | rw [am_wI_1, if_pos ⟨rfl, by omega⟩] | rw [am_wI_1, if_neg (fun q => by omega)] | rw [am_lay_1, if_pos ⟨rfl, by omega, by omega⟩] | rw [am_lay_1, if_neg (fun q => by omega)]))
  have re5 : (am_wI (am_wI (am_wI (am_wI (am_wI (am_wI (am_wI (am_wI (am_wI M 201 ((2838 + 8 * M.1 201 1).toNatClampNeg) (p)) 201 ((2838 + 8 * M.1 201 1 + 1).toNatClampNeg) (pl)) 201 ((2838 + 8 * M.1 201 1 + 2).toNatClampNeg) (y)) 201 ((2838 + 8 * M.1 201 1 + 3).toNatClampNeg) (s)) 201 ((2838 + 8 * M.1 201 1 + 4).toNatClampNeg) (fe)) 201 ((2838 + 8 * M.1 201 1 + 5).toNatClampNeg) (-1)) 201 ((2838 + 8 * M.1 201 1 + 6).toNatClampNeg) (-1)) 201 ((2838 + 8 * M.1 201 1 + 7).toNatClampNeg) (-1)) 201 (1) (M.1 201 1 + 1)).1 201 (2838 + 8 * (M.1 201 1).toNatClampNeg + 5) = -1 := by (repeat (first | rw [am_wI_1, if_pos ⟨rfl, by omega⟩] | rw [am_wI_1, if_neg (fun q => by omega)] | rw [am_lay_1, if_pos ⟨rfl, by omega, by omega⟩] | rw [am_lay_1, if_neg (fun q => by omega)]))
  have re6 : (am_wI (am_wI (am_wI (am_wI (am_wI (am_wI (am_wI (am_wI (am_wI M 201 ((2838 + 8 * M.1 201 1).toNatClampNeg) (p)) 201 ((2838 + 8 * M.1 201 1 + 1).toNatClampNeg) (pl)) 201 ((2838 + 8 * M.1 201 1 + 2).toNatClampNeg) (y)) 201 ((2838 + 8 * M.1 201 1 + 3).toNatClampNeg) (s)) 201 ((2838 + 8 * M.1 201 1 + 4).toNatClampNeg) (fe)) 201 ((2838 + 8 * M.1 201 1 + 5).toNatClampNeg) (-1)) 201 ((2838 + 8 * M.1 201 1 + 6).toNatClampNeg) (-1)) 201 ((2838 + 8 * M.1 201 1 + 7).toNatClampNeg) (-1)) 201 (1) (M.1 201 1 + 1)).1 201 (2838 + 8 * (M.1 201 1).toNatClampNeg + 6) = -1 := by (repeat (first | rw [am_wI_1, if_pos ⟨rfl, by omega⟩] | rw [am_wI_1, if_neg (fun q => by omega)] | rw [am_lay_1, if_pos ⟨rfl, by omega, by omega⟩] | rw [am_lay_1, if_neg (fun q => by omega)]))
  have re7 : (am_wI (am_wI (am_wI (am_wI (am_wI (am_wI (am_wI (am_wI (am_wI M 201 ((2838 + 8 * M.1 201 1).toNatClampNeg) (p)) 201 ((2838 + 8 * M.1 201 1 + 1).toNatClampNeg) (pl)) 201 ((2838 + 8 * M.1 201 1 + 2).toNatClampNeg) (y)) 201 ((2838 + 8 * M.1 201 1 + 3).toNatClampNeg) (s)) 201 ((2838 + 8 * M.1 201 1 + 4).toNatClampNeg) (fe)) 201 ((2838 + 8 * M.1 201 1 + 5).toNatClampNeg) (-1)) 201 ((2838 + 8 * M.1 201 1 + 6).toNatClampNeg) (-1)) 201 ((2838 + 8 * M.1 201 1 + 7).toNatClampNeg) (-1)) 201 (1) (M.1 201 1 + 1)).1 201 (2838 + 8 * (M.1 201 1).toNatClampNeg + 7) = -1 := by (repeat (first | rw [am_wI_1, if_pos ⟨rfl, by omega⟩] | rw [am_wI_1, if_neg (fun q => by omega)] | rw [am_lay_1, if_pos ⟨rfl, by omega, by omega⟩] | rw [am_lay_1, if_neg (fun q => by omega)]))
  have rc0 : (am_lay (am_wI (am_wI (am_wI (am_wI (am_wI (am_wI (am_wI (am_wI (am_wI M 34 (8 * (M.1 201 1).toNatClampNeg) (p)) 34 (8 * (M.1 201 1).toNatClampNeg + 1) (pl)) 34 (8 * (M.1 201 1).toNatClampNeg + 2) (y)) 33 (2) (M.1 201 1 + 1)) 34 (8 * (M.1 201 1).toNatClampNeg + 3) (s)) 34 (8 * (M.1 201 1).toNatClampNeg + 4) (fe)) 34 (8 * (M.1 201 1).toNatClampNeg + 5) (-1)) 34 (8 * (M.1 201 1).toNatClampNeg + 6) (-1)) 34 (8 * (M.1 201 1).toNatClampNeg + 7) (-1)) 37 (max (M.1 201 1 * 40).toInt 0) (min (M.1 201 1 * 40 + 39).toInt ((am_len 37 : Int) - 1)) pl).1 34 (8 * (M.1 201 1).toNatClampNeg + 0) = p := by (repeat (first | rw [am_wI_1, if_pos ⟨rfl, by omega⟩] | rw [am_wI_1, if_neg (fun q => by omega)] | rw [am_lay_1, if_pos ⟨rfl, by omega, by omega⟩] | rw [am_lay_1, if_neg (fun q => by omega)]))
  have rc1 : (am_lay (am_wI (am_wI (am_wI (am_wI (am_wI (am_wI (am_wI (am_wI (am_wI M 34 (8 * (M.1 201 1).toNatClampNeg) (p)) 34 (8 * (M.1 201 1).toNatClampNeg + 1) (pl)) 34 (8 * (M.1 201 1).toNatClampNeg + 2) (y)) 33 (2) (M.1 201 1 + 1)) 34 (8 * (M.1 201 1).toNatClampNeg + 3) (s)) 34 (8 * (M.1 201 1).toNatClampNeg + 4) (fe)) 34 (8 * (M.1 201 1).toNatClampNeg + 5) (-1)) 34 (8 * (M.1 201 1).toNatClampNeg + 6) (-1)) 34 (8 * (M.1 201 1).toNatClampNeg + 7) (-1)) 37 (max (M.1 201 1 * 40).toInt 0) (min (M.1 201 1 * 40 + 39).toInt ((am_len 37 : Int) - 1)) pl).1 34 (8 * (M.1 201 1).toNatClampNeg + 1) = pl := by (repeat (first | rw [am_wI_1, if_pos ⟨rfl, by omega⟩] | rw [am_wI_1, if_neg (fun q => by omega)] | rw [am_lay_1, if_pos ⟨rfl, by omega, by omega⟩] | rw [am_lay_1, if_neg (fun q => by omega)]))
  have rc2 : (am_lay (am_wI (am_wI (am_wI (am_wI (am_wI (am_wI (am_wI (am_wI (am_wI M 34 (8 * (M.1 201 1).toNatClampNeg) (p)) 34 (8 * (M.1 201 1).toNatClampNeg + 1) (pl)) 34 (8 * (M.1 201 1).toNatClampNeg + 2) (y)) 33 (2) (M.1 201 1 + 1)) 34 (8 * (M.1 201 1).toNatClampNeg + 3) (s)) 34 (8 * (M.1 201 1).toNatClampNeg + 4) (fe)) 34 (8 * (M.1 201 1).toNatClampNeg + 5) (-1)) 34 (8 * (M.1 201 1).toNatClampNeg + 6) (-1)) 34 (8 * (M.1 201 1).toNatClampNeg + 7) (-1)) 37 (max (M.1 201 1 * 40).toInt 0) (min (M.1 201 1 * 40 + 39).toInt ((am_len 37 : Int) - 1)) pl).1 34 (8 * (M.1 201 1).toNatClampNeg + 2) = y := by (repeat (first | rw [am_wI_1, if_pos ⟨rfl, by omega⟩] | rw [am_wI_1, if_neg (fun q => by omega)] | rw [am_lay_1, if_pos ⟨rfl, by omega, by omega⟩] | rw [am_lay_1, if_neg (fun q => by omega)]))
  have rc3 : (am_lay (am_wI (am_wI (am_wI (am_wI (am_wI (am_wI (am_wI (am_wI (am_wI M 34 (8 * (M.1 201 1).toNatClampNeg) (p)) 34 (8 * (M.1 201 1).toNatClampNeg + 1) (pl)) 34 (8 * (M.1 201 1).toNatClampNeg + 2) (y)) 33 (2) (M.1 201 1 + 1)) 34 (8 * (M.1 201 1).toNatClampNeg + 3) (s)) 34 (8 * (M.1 201 1).toNatClampNeg + 4) (fe)) 34 (8 * (M.1 201 1).toNatClampNeg + 5) (-1)) 34 (8 * (M.1 201 1).toNatClampNeg + 6) (-1)) 34 (8 * (M.1 201 1).toNatClampNeg + 7) (-1)) 37 (max (M.1 201 1 * 40).toInt 0) (min (M.1 201 1 * 40 + 39).toInt ((am_len 37 : Int) - 1)) pl).1 34 (8 * (M.1 201 1).toNatClampNeg + 3) = s := by (repeat (first | rw [am_wI_1, if_pos ⟨rfl, by omega⟩] | rw [am_wI_1, if_neg (fun q => by omega)] | rw [am_lay_1, if_pos ⟨rfl, by omega, by omega⟩] | rw [am_lay_1, if_neg (fun q => by omega)]))
  have rc4 : (am_lay (am_wI (am_wI (am_wI (am_wI (am_wI (am_wI (am_wI (am_wI (am_wI M 34 (8 * (M.1 201 1).toNatClampNeg) (p)) 34 (8 * (M.1 201 1).toNatClampNeg + 1) (pl)) 34 (8 * (M.1 201 1).toNatClampNeg + 2) (y)) 33 (2) (M.1 201 1 + 1)) 34 (8 * (M.1 201 1).toNatClampNeg + 3) (s)) 34 (8 * (M.1 201 1).toNatClampNeg + 4) (fe)) 34 (8 * (M.1 201 1).toNatClampNeg + 5) (-1)) 34 (8 * (M.1 201 1).toNatClampNeg + 6) (-1)) 34 (8 * (M.1 201 1).toNatClampNeg + 7) (-1)) 37 (max (M.1 201 1 * 40).toInt 0) (min (M.1 201 1 * 40 + 39).toInt ((am_len 37 : Int) - 1)) pl).1 34 (8 * (M.1 201 1).toNatClampNeg + 4) = fe := by (repeat (first | rw [am_wI_1, if_pos ⟨rfl, by omega⟩] | rw [am_wI_1, if_neg (fun q => by omega)] | rw [am_lay_1, if_pos ⟨rfl, by omega, by omega⟩] | rw [am_lay_1, if_neg (fun q => by omega)]))
  have rc5 : (am_lay (am_wI (am_wI (am_wI (am_wI (am_wI (am_wI (am_wI (am_wI (am_wI M 34 (8 * (M.1 201 1).toNatClampNeg) (p)) 34 (8 * (M.1 201 1).toNatClampNeg + 1) (pl)) 34 (8 * (M.1 201 1).toNatClampNeg + 2) (y)) 33 (2) (M.1 201 1 + 1)) 34 (8 * (M.1 201 1).toNatClampNeg + 3) (s)) 34 (8 * (M.1 201 1).toNatClampNeg + 4) (fe)) 34 (8 * (M.1 201 1).toNatClampNeg + 5) (-1)) 34 (8 * (M.1 201 1).toNatClampNeg + 6) (-1)) 34 (8 * (M.1 201 1).toNatClampNeg + 7) (-1)) 37 (max (M.1 201 1 * 40).toInt 0) (min (M.1 201 1 * 40 + 39).toInt ((am_len 37 : Int) - 1)) pl).1 34 (8 * (M.1 201 1).toNatClampNeg + 5) = -1 := by (repeat (first | rw [am_wI_1, if_pos ⟨rfl, by omega⟩] | rw [am_wI_1, if_neg (fun q => by omega)] | rw [am_lay_1, if_pos ⟨rfl, by omega, by omega⟩] | rw [am_lay_1, if_neg (fun q => by omega)]))
  have rc6 : (am_lay (am_wI (am_wI (am_wI (am_wI (am_wI (am_wI (am_wI (am_wI (am_wI M 34 (8 * (M.1 201 1).toNatClampNeg) (p)) 34 (8 * (M.1 201 1).toNatClampNeg + 1) (pl)) 34 (8 * (M.1 201 1).toNatClampNeg + 2) (y)) 33 (2) (M.1 201 1 + 1)) 34 (8 * (M.1 201 1).toNatClampNeg + 3) (s)) 34 (8 * (M.1 201 1).toNatClampNeg + 4) (fe)) 34 (8 * (M.1 201 1).toNatClampNeg + 5) (-1)) 34 (8 * (M.1 201 1).toNatClampNeg + 6) (-1)) 34 (8 * (M.1 201 1).toNatClampNeg + 7) (-1)) 37 (max (M.1 201 1 * 40).toInt 0) (min (M.1 201 1 * 40 + 39).toInt ((am_len 37 : Int) - 1)) pl).1 34 (8 * (M.1 201 1).toNatClampNeg + 6) = -1 := by (repeat (first | rw [am_wI_1, if_pos ⟨rfl, by omega⟩] | rw [am_wI_1, if_neg (fun q => by omega)] | rw [am_lay_1, if_pos ⟨rfl, by omega, by omega⟩] | rw [am_lay_1, if_neg (fun q => by omega)]))
  have rc7 : (am_lay (am_wI (am_wI (am_wI (am_wI (am_wI (am_wI (am_wI (am_wI (am_wI M 34 (8 * (M.1 201 1).toNatClampNeg) (p)) 34 (8 * (M.1 201 1).toNatClampNeg + 1) (pl)) 34 (8 * (M.1 201 1).toNatClampNeg + 2) (y)) 33 (2) (M.1 201 1 + 1)) 34 (8 * (M.1 201 1).toNatClampNeg + 3) (s)) 34 (8 * (M.1 201 1).toNatClampNeg + 4) (fe)) 34 (8 * (M.1 201 1).toNatClampNeg + 5) (-1)) 34 (8 * (M.1 201 1).toNatClampNeg + 6) (-1)) 34 (8 * (M.1 201 1).toNatClampNeg + 7) (-1)) 37 (max (M.1 201 1 * 40).toInt 0) (min (M.1 201 1 * 40 + 39).toInt ((am_len 37 : Int) - 1)) pl).1 34 (8 * (M.1 201 1).toNatClampNeg + 7) = -1 := by (repeat (first | rw [am_wI_1, if_pos ⟨rfl, by omega⟩] | rw [am_wI_1, if_neg (fun q => by omega)] | rw [am_lay_1, if_pos ⟨rfl, by omega, by omega⟩] | rw [am_lay_1, if_neg (fun q => by omega)]))
  have hl : lb 20 201 0 (am_lay (am_wI (am_wI (am_wI (am_wI (am_wI (am_wI (am_wI (am_wI (am_wI M 34 (8 * (M.1 201 1).toNatClampNeg) (p)) 34 (8 * (M.1 201 1).toNatClampNeg + 1) (pl)) 34 (8 * (M.1 201 1).toNatClampNeg + 2) (y)) 33 (2) (M.1 201 1 + 1)) 34 (8 * (M.1 201 1).toNatClampNeg + 3) (s)) 34 (8 * (M.1 201 1).toNatClampNeg + 4) (fe)) 34 (8 * (M.1 201 1).toNatClampNeg + 5) (-1)) 34 (8 * (M.1 201 1).toNatClampNeg + 6) (-1)) 34 (8 * (M.1 201 1).toNatClampNeg + 7) (-1)) 37 (max (M.1 201 1 * 40).toInt 0) (min (M.1 201 1 * 40 + 39).toInt ((am_len 37 : Int) - 1)) pl) (am_wI (am_wI (am_wI (am_wI (am_wI (am_wI (am_wI (am_wI (am_wI M 201 ((2838 + 8 * M.1 201 1).toNatClampNeg) (p)) 201 ((2838 + 8 * M.1 201 1 + 1).toNatClampNeg) (pl)) 201 ((2838 + 8 * M.1 201 1 + 2).toNatClampNeg) (y)) 201 ((2838 + 8 * M.1 201 1 + 3).toNatClampNeg) (s)) 201 ((2838 + 8 * M.1 201 1 + 4).toNatClampNeg) (fe)) 201 ((2838 + 8 * M.1 201 1 + 5).toNatClampNeg) (-1)) 201 ((2838 + 8 * M.1 201 1 + 6).toNatClampNeg) (-1)) 201 ((2838 + 8 * M.1 201 1 + 7).toNatClampNeg) (-1)) 201 (1) (M.1 201 1 + 1)) := by
    refine h.b.loan (n := (M.1 201 1).toNatClampNeg) c1.symm (by omega) (fun a k z1 z2 z3 z4 z5 => by (repeat (first | rw [am_wI_1, if_pos ⟨rfl, by omega⟩] | rw [am_wI_1, if_neg (fun q => by omega)] | rw [am_lay_1, if_pos ⟨rfl, by omega, by omega⟩] | rw [am_lay_1, if_neg (fun q => by omega)]))) (fun k z1 z2 => by (repeat (first | rw [am_wI_1, if_pos ⟨rfl, by omega⟩] | rw [am_wI_1, if_neg (fun q => by omega)] | rw [am_lay_1, if_pos ⟨rfl, by omega, by omega⟩] | rw [am_lay_1, if_neg (fun q => by omega)]))) (by (repeat (first | rw [am_wI_1, if_pos ⟨rfl, by omega⟩] | rw [am_wI_1, if_neg (fun q => by omega)] | rw [am_lay_1, if_pos ⟨rfl, by omega, by omega⟩] | rw [am_lay_1, if_neg (fun q => by omega)]))) (by rw [am_wI_self]; omega) (fun c hc => ?_) (fun c hc => ?_) ?_ (fun u hu => ?_)
    · rcases (show c = 0 ∨ c = 1 ∨ c = 2 ∨ c = 3 ∨ c = 4 ∨ c = 5 ∨ c = 6 ∨ c = 7 by omega) with rfl | rfl | rfl | rfl | rfl | rfl | rfl | rfl
      · rw [re0, rc0]
      · rw [re1, rc1]
      · rw [re2, rc2]
      · rw [re3, rc3]
      · rw [re4, rc4]
      · rw [re5, rc5]
      · rw [re6, rc6]
      · rw [re7, rc7]
    · rcases (show c = 0 ∨ c = 1 ∨ c = 2 ∨ c = 3 ∨ c = 4 ∨ c = 5 ∨ c = 6 ∨ c = 7 by omega) with rfl | rfl | rfl | rfl | rfl | rfl | rfl | rfl
      · rw [re0]; exact (by exact t_v.m17 (by omega) (by omega))
      · rw [re1]; exact (by exact t_v.m18 (by omega) (by omega))
      · rw [re2]; exact (by exact t_v.m19 (by omega) (by omega))
      · rw [re3]; exact (by exact t_v.m20 (by omega) (by omega))
      · rw [re4]; exact (by exact t_v.m21 (by omega) (by omega))
      · rw [re5]; exact (by exact t_v.m22 (by omega) (by omega))
      · rw [re6]; exact (by exact t_v.m23 (by omega) (by omega))
      · rw [re7]; exact (by exact t_v.m24 (by omega) (by omega))
    · rw [show 2838 + 8 * (M.1 201 1).toNatClampNeg = 2838 + 8 * (M.1 201 1).toNatClampNeg + 0 from rfl, re0]
      exact b0.2
    · rw [show 2839 + 8 * (M.1 201 1).toNatClampNeg = 2838 + 8 * (M.1 201 1).toNatClampNeg + 1 by omega, re1]
      (repeat (first | rw [am_wI_1, if_pos ⟨rfl, by omega⟩] | rw [am_wI_1, if_neg (fun q => by omega)] | rw [am_lay_1, if_pos ⟨rfl, by omega, by omega⟩] | rw [am_lay_1, if_neg (fun q => by omega)]))
  refine st.yes (v := M.1 201 1) (by unfold c_loan; rw [e0, if_pos z0, if_pos z1, if_pos z2, if_pos z3, if_neg z4, e1, if_pos y5, d1 n1.1 (by omega), q0, q3, q4, q5, q6, q7]) (F := (am_wI (am_wI (am_wI (am_wI (am_wI (am_wI (am_wI (am_wI (am_wI (am_lay (am_wI (am_wI (am_wI (am_wI (am_wI (am_wI (am_wI (am_wI (am_wI M 34 (8 * (M.1 201 1).toNatClampNeg) (p)) 34 (8 * (M.1 201 1).toNatClampNeg + 1) (pl)) 34 (8 * (M.1 201 1).toNatClampNeg + 2) (y)) 33 (2) (M.1 201 1 + 1)) 34 (8 * (M.1 201 1).toNatClampNeg + 3) (s)) 34 (8 * (M.1 201 1).toNatClampNeg + 4) (fe)) 34 (8 * (M.1 201 1).toNatClampNeg + 5) (-1)) 34 (8 * (M.1 201 1).toNatClampNeg + 6) (-1)) 34 (8 * (M.1 201 1).toNatClampNeg + 7) (-1)) 37 (max (M.1 201 1 * 40).toInt 0) (min (M.1 201 1 * 40 + 39).toInt ((am_len 37 : Int) - 1)) pl) 201 ((2838 + 8 * M.1 201 1).toNatClampNeg) (p)) 201 ((2838 + 8 * M.1 201 1 + 1).toNatClampNeg) (pl)) 201 ((2838 + 8 * M.1 201 1 + 2).toNatClampNeg) (y)) 201 ((2838 + 8 * M.1 201 1 + 3).toNatClampNeg) (s)) 201 ((2838 + 8 * M.1 201 1 + 4).toNatClampNeg) (fe)) 201 ((2838 + 8 * M.1 201 1 + 5).toNatClampNeg) (-1)) 201 ((2838 + 8 * M.1 201 1 + 6).toNatClampNeg) (-1)) 201 ((2838 + 8 * M.1 201 1 + 7).toNatClampNeg) (-1)) 201 (1) (M.1 201 1 + 1))) (w := M.1 201 1 + 1 - 1) (by
    (try dsimp only)
    unfold r_loan
    rw [zz, eN, eN, if_pos z0, if_pos z1, if_pos z2, if_pos y3, if_neg z5]
    (try dsimp only)
    rw [am_wI_self, show (am_wI (am_wI (am_wI (am_wI (am_wI (am_wI (am_wI (am_wI (am_lay (am_wI (am_wI (am_wI (am_wI (am_wI (am_wI (am_wI (am_wI (am_wI M 34 (8 * (M.1 201 1).toNatClampNeg) (p)) 34 (8 * (M.1 201 1).toNatClampNeg + 1) (pl)) 34 (8 * (M.1 201 1).toNatClampNeg + 2) (y)) 33 (2) (M.1 201 1 + 1)) 34 (8 * (M.1 201 1).toNatClampNeg + 3) (s)) 34 (8 * (M.1 201 1).toNatClampNeg + 4) (fe)) 34 (8 * (M.1 201 1).toNatClampNeg + 5) (-1)) 34 (8 * (M.1 201 1).toNatClampNeg + 6) (-1)) 34 (8 * (M.1 201 1).toNatClampNeg + 7) (-1)) 37 (max (M.1 201 1 * 40).toInt 0) (min (M.1 201 1 * 40 + 39).toInt ((am_len 37 : Int) - 1)) pl) 201 ((2838 + 8 * M.1 201 1).toNatClampNeg) (p)) 201 ((2838 + 8 * M.1 201 1 + 1).toNatClampNeg) (pl)) 201 ((2838 + 8 * M.1 201 1 + 2).toNatClampNeg) (y)) 201 ((2838 + 8 * M.1 201 1 + 3).toNatClampNeg) (s)) 201 ((2838 + 8 * M.1 201 1 + 4).toNatClampNeg) (fe)) 201 ((2838 + 8 * M.1 201 1 + 5).toNatClampNeg) (-1)) 201 ((2838 + 8 * M.1 201 1 + 6).toNatClampNeg) (-1)) 201 ((2838 + 8 * M.1 201 1 + 7).toNatClampNeg) (-1)).1 201 1 = M.1 201 1 by (repeat (first | rw [am_wI_1, if_pos ⟨rfl, by omega⟩] | rw [am_wI_1, if_neg (fun q => by omega)] | rw [am_lay_1, if_pos ⟨rfl, by omega, by omega⟩] | rw [am_lay_1, if_neg (fun q => by omega)]))]) (d1 n1.1 (by omega)).symm ?_ (fun a k z => by (repeat (first | rw [am_wI_1, if_pos ⟨rfl, by omega⟩] | rw [am_wI_1, if_neg (fun q => by omega)] | rw [am_lay_1, if_pos ⟨rfl, by omega, by omega⟩] | rw [am_lay_1, if_neg (fun q => by omega)])))
  exact h.told hl (fun a k z1 z2 => by (repeat (first | rw [am_wI_1, if_pos ⟨rfl, by omega⟩] | rw [am_wI_1, if_neg (fun q => by omega)] | rw [am_lay_1, if_pos ⟨rfl, by omega, by omega⟩] | rw [am_lay_1, if_neg (fun q => by omega)]))) (fun k => by (simp only [am_wI_1, am_lay_1, Nat.reduceEqDiff, false_and, true_and, if_false])) (fun a k z1 z2 => by (repeat (first | rw [am_wI_1, if_pos ⟨rfl, by omega⟩] | rw [am_wI_1, if_neg (fun q => by omega)] | rw [am_lay_1, if_pos ⟨rfl, by omega, by omega⟩] | rw [am_lay_1, if_neg (fun q => by omega)]))) (fun a z => by (repeat (first | rw [am_wI_1, if_pos ⟨rfl, by omega⟩] | rw [am_wI_1, if_neg (fun q => by omega)] | rw [am_lay_1, if_pos ⟨rfl, by omega, by omega⟩] | rw [am_lay_1, if_neg (fun q => by omega)])))

theorem st_move (h : LI i1 i2 M) (l pl y : Int32) : st i1 i2 M (c_move M l pl y) (fun N => r_move N l pl y) := by
  have e1 := h.e1
  have e3 := h.e3
  have n1 := h.n1
  have n3 := h.n3
  have c3 := i_clamp n3.1
  have hi := i_inc (x := M.1 201 3) (by omega) (by omega)
  have zz : Int32.toNatClampNeg 3 = 3 := rfl
  by_cases z0 : 0 ≤ l ∧ l < M.1 201 1
  rotate_left
  · exact st.no h (by unfold c_move; rw [e1]; exact if_neg z0) (if_neg z0)
  by_cases z1 : 0 ≤ pl ∧ pl < 5
  rotate_left
  · exact st.no h (by unfold c_move; rw [e1, if_pos z0, if_neg z1]) (by (try dsimp only); unfold r_move; rw [if_pos z0, if_neg z1])
  by_cases z2 : 0 ≤ y ∧ y < 40
  rotate_left
  · exact st.no h (by unfold c_move; rw [e1, if_pos z0, if_pos z1, if_neg z2]) (by (try dsimp only); unfold r_move; rw [if_pos z0, if_pos z1, if_neg z2])
  by_cases z3 : M.1 201 3 = 60
  · exact st.no h (by unfold c_move; rw [e1, if_pos z0, if_pos z1, if_pos z2, e3, if_neg (by rw [z3]; decide)]) (by (try dsimp only); unfold r_move; rw [zz, if_pos z0, if_pos z1, if_pos z2, if_pos z3])
  have zi : (M.1 201 3).toInt < 60 := by have q := z3; simp only [i_eq, Int32.reduceToInt] at q; omega
  have y3 : M.1 201 3 < 60 := by simp only [i_lt, Int32.reduceToInt]; exact zi
  have b0 := b4 z0
  have b1 := b4 z1
  have b2 := yr z2
  simp only [Int32.reduceToInt] at b1
  have k0 := i_clamp b0.1
  have k2 := i_clamp b2.1
  have f1 := x_40 (p := l) (y := y) ⟨b0.1, by omega⟩ b2
  have f2 := x_40 (p := l) (y := 39) ⟨b0.1, by omega⟩ ⟨by decide, by decide⟩
  simp only [Int32.reduceToInt] at f2
  have x0 := x_row3z (c := 3078) (cn := 3078) rfl (by decide) (x := M.1 201 3) ⟨n3.1, by omega⟩
  have x1 := x_row3 (c := 3078) (cn := 3078) (j := 1) (k := 1) rfl (by decide) (x := M.1 201 3) ⟨n3.1, by omega⟩ rfl (by decide)
  have x2 := x_row3 (c := 3078) (cn := 3078) (j := 2) (k := 2) rfl (by decide) (x := M.1 201 3) ⟨n3.1, by omega⟩ rfl (by decide)
  have l36 : am_len 36 = 180 := rfl
  have l37 : ((am_len 37 : Nat) : Int) = 1200 := rfl
  have hw := h.w.2.2.1
  have q0 : am_radd M 35 36 l pl y = (am_wI (am_wI (am_wI (am_wI M 36 (3 * (M.1 201 3).toNatClampNeg) (l)) 36 (3 * (M.1 201 3).toNatClampNeg + 1) (pl)) 36 (3 * (M.1 201 3).toNatClampNeg + 2) (y)) 35 (2) (M.1 201 3 + 1)) := by
    rw [radd_at (w := 3) (n := (M.1 201 3).toNatClampNeg) (k := 3 * (M.1 201 3).toNatClampNeg) (by decide) (by rw [hw]; rfl) (by decide) (by rw [e3]; exact c3.symm) (by omega) (by omega) (by decide), e3]
  have eN : ∀ k, (am_lay (am_wI (am_wI (am_wI (am_wI M 36 (3 * (M.1 201 3).toNatClampNeg) (l)) 36 (3 * (M.1 201 3).toNatClampNeg + 1) (pl)) 36 (3 * (M.1 201 3).toNatClampNeg + 2) (y)) 35 (2) (M.1 201 3 + 1)) 37 (max (l * 40 + y).toInt 0) (min (l * 40 + 39).toInt ((am_len 37 : Int) - 1)) pl).1 201 k = M.1 201 k := fun k => by (repeat (first | rw [am_wI_1, if_pos ⟨rfl, by omega⟩] | rw [am_wI_1, if_neg (fun q => by omega)] | rw [am_lay_1, if_pos ⟨rfl, by omega, by omega⟩] | rw [am_lay_1, if_neg (fun q => by omega)]))
  have re0 : (am_wI (am_wI (am_wI (am_wI M 201 ((3078 + 3 * M.1 201 3).toNatClampNeg) (l)) 201 ((3078 + 3 * M.1 201 3 + 1).toNatClampNeg) (pl)) 201 ((3078 + 3 * M.1 201 3 + 2).toNatClampNeg) (y)) 201 (3) (M.1 201 3 + 1)).1 201 (3078 + 3 * (M.1 201 3).toNatClampNeg + 0) = l := by (repeat (first | rw [am_wI_1, if_pos ⟨rfl, by omega⟩] | rw [am_wI_1, if_neg (fun q => by omega)] | rw [am_lay_1, if_pos ⟨rfl, by omega, by omega⟩] | rw [am_lay_1, if_neg (fun q => by omega)]))
  have re1 : (am_wI (am_wI (am_wI (am_wI M 201 ((3078 + 3 * M.1 201 3).toNatClampNeg) (l)) 201 ((3078 + 3 * M.1 201 3 + 1).toNatClampNeg) (pl)) 201 ((3078 + 3 * M.1 201 3 + 2).toNatClampNeg) (y)) 201 (3) (M.1 201 3 + 1)).1 201 (3078 + 3 * (M.1 201 3).toNatClampNeg + 1) = pl := by (repeat (first | rw [am_wI_1, if_pos ⟨rfl, by omega⟩] | rw [am_wI_1, if_neg (fun q => by omega)] | rw [am_lay_1, if_pos ⟨rfl, by omega, by omega⟩] | rw [am_lay_1, if_neg (fun q => by omega)]))
  have re2 : (am_wI (am_wI (am_wI (am_wI M 201 ((3078 + 3 * M.1 201 3).toNatClampNeg) (l)) 201 ((3078 + 3 * M.1 201 3 + 1).toNatClampNeg) (pl)) 201 ((3078 + 3 * M.1 201 3 + 2).toNatClampNeg) (y)) 201 (3) (M.1 201 3 + 1)).1 201 (3078 + 3 * (M.1 201 3).toNatClampNeg + 2) = y := by (repeat (first | rw [am_wI_1, if_pos ⟨rfl, by omega⟩] | rw [am_wI_1, if_neg (fun q => by omega)] | rw [am_lay_1, if_pos ⟨rfl, by omega, by omega⟩] | rw [am_lay_1, if_neg (fun q => by omega)]))
  have rc0 : (am_lay (am_wI (am_wI (am_wI (am_wI M 36 (3 * (M.1 201 3).toNatClampNeg) (l)) 36 (3 * (M.1 201 3).toNatClampNeg + 1) (pl)) 36 (3 * (M.1 201 3).toNatClampNeg + 2) (y)) 35 (2) (M.1 201 3 + 1)) 37 (max (l * 40 + y).toInt 0) (min (l * 40 + 39).toInt ((am_len 37 : Int) - 1)) pl).1 36 (3 * (M.1 201 3).toNatClampNeg + 0) = l := by (repeat (first | rw [am_wI_1, if_pos ⟨rfl, by omega⟩] | rw [am_wI_1, if_neg (fun q => by omega)] | rw [am_lay_1, if_pos ⟨rfl, by omega, by omega⟩] | rw [am_lay_1, if_neg (fun q => by omega)]))
  have rc1 : (am_lay (am_wI (am_wI (am_wI (am_wI M 36 (3 * (M.1 201 3).toNatClampNeg) (l)) 36 (3 * (M.1 201 3).toNatClampNeg + 1) (pl)) 36 (3 * (M.1 201 3).toNatClampNeg + 2) (y)) 35 (2) (M.1 201 3 + 1)) 37 (max (l * 40 + y).toInt 0) (min (l * 40 + 39).toInt ((am_len 37 : Int) - 1)) pl).1 36 (3 * (M.1 201 3).toNatClampNeg + 1) = pl := by (repeat (first | rw [am_wI_1, if_pos ⟨rfl, by omega⟩] | rw [am_wI_1, if_neg (fun q => by omega)] | rw [am_lay_1, if_pos ⟨rfl, by omega, by omega⟩] | rw [am_lay_1, if_neg (fun q => by omega)]))
  have rc2 : (am_lay (am_wI (am_wI (am_wI (am_wI M 36 (3 * (M.1 201 3).toNatClampNeg) (l)) 36 (3 * (M.1 201 3).toNatClampNeg + 1) (pl)) 36 (3 * (M.1 201 3).toNatClampNeg + 2) (y)) 35 (2) (M.1 201 3 + 1)) 37 (max (l * 40 + y).toInt 0) (min (l * 40 + 39).toInt ((am_len 37 : Int) - 1)) pl).1 36 (3 * (M.1 201 3).toNatClampNeg + 2) = y := by (repeat (first | rw [am_wI_1, if_pos ⟨rfl, by omega⟩] | rw [am_wI_1, if_neg (fun q => by omega)] | rw [am_lay_1, if_pos ⟨rfl, by omega, by omega⟩] | rw [am_lay_1, if_neg (fun q => by omega)]))
  have hl : lb 20 201 0 (am_lay (am_wI (am_wI (am_wI (am_wI M 36 (3 * (M.1 201 3).toNatClampNeg) (l)) 36 (3 * (M.1 201 3).toNatClampNeg + 1) (pl)) 36 (3 * (M.1 201 3).toNatClampNeg + 2) (y)) 35 (2) (M.1 201 3 + 1)) 37 (max (l * 40 + y).toInt 0) (min (l * 40 + 39).toInt ((am_len 37 : Int) - 1)) pl) (am_wI (am_wI (am_wI (am_wI M 201 ((3078 + 3 * M.1 201 3).toNatClampNeg) (l)) 201 ((3078 + 3 * M.1 201 3 + 1).toNatClampNeg) (pl)) 201 ((3078 + 3 * M.1 201 3 + 2).toNatClampNeg) (y)) 201 (3) (M.1 201 3 + 1)) := by
    refine h.b.move (n := (M.1 201 3).toNatClampNeg) (l0 := l.toNatClampNeg) (y0 := y.toNatClampNeg) c3.symm (by omega) (fun a k z1 z2 z3 z4 z5 => by (repeat (first | rw [am_wI_1, if_pos ⟨rfl, by omega⟩] | rw [am_wI_1, if_neg (fun q => by omega)] | rw [am_lay_1, if_pos ⟨rfl, by omega, by omega⟩] | rw [am_lay_1, if_neg (fun q => by omega)]))) (fun k z1 z2 => by (repeat (first | rw [am_wI_1, if_pos ⟨rfl, by omega⟩] | rw [am_wI_1, if_neg (fun q => by omega)] | rw [am_lay_1, if_pos ⟨rfl, by omega, by omega⟩] | rw [am_lay_1, if_neg (fun q => by omega)]))) (by (repeat (first | rw [am_wI_1, if_pos ⟨rfl, by omega⟩] | rw [am_wI_1, if_neg (fun q => by omega)] | rw [am_lay_1, if_pos ⟨rfl, by omega, by omega⟩] | rw [am_lay_1, if_neg (fun q => by omega)]))) (by rw [am_wI_self]; omega) (fun c hc => ?_) (fun c hc => ?_) ?_ ?_ ?_ (by omega) (fun u hu1 hu2 => ?_)
    · rcases (show c = 0 ∨ c = 1 ∨ c = 2 by omega) with rfl | rfl | rfl
      · rw [re0, rc0]
      · rw [re1, rc1]
      · rw [re2, rc2]
    · rcases (show c = 0 ∨ c = 1 ∨ c = 2 by omega) with rfl | rfl | rfl
      · rw [re0]; exact (by exact t_v.m25 (by omega) (by omega))
      · rw [re1]; exact (by exact t_v.m26 (by omega) (by omega))
      · rw [re2]; exact (by exact t_v.m27 (by omega) (by omega))
    · rw [show 3078 + 3 * (M.1 201 3).toNatClampNeg = 3078 + 3 * (M.1 201 3).toNatClampNeg + 0 from rfl, re0]
      exact k0.symm
    · omega
    · rw [show 3080 + 3 * (M.1 201 3).toNatClampNeg = 3078 + 3 * (M.1 201 3).toNatClampNeg + 2 by omega, re2]
      exact k2.symm
    · rw [show 3079 + 3 * (M.1 201 3).toNatClampNeg = 3078 + 3 * (M.1 201 3).toNatClampNeg + 1 by omega, re1]
      (repeat (first | rw [am_wI_1, if_pos ⟨rfl, by omega⟩] | rw [am_wI_1, if_neg (fun q => by omega)] | rw [am_lay_1, if_pos ⟨rfl, by omega, by omega⟩] | rw [am_lay_1, if_neg (fun q => by omega)]))
  refine st.yes (v := 1) (by unfold c_move; rw [e1, if_pos z0, if_pos z1, if_pos z2, e3, if_pos y3, q0]) (F := (am_wI (am_wI (am_wI (am_wI (am_lay (am_wI (am_wI (am_wI (am_wI M 36 (3 * (M.1 201 3).toNatClampNeg) (l)) 36 (3 * (M.1 201 3).toNatClampNeg + 1) (pl)) 36 (3 * (M.1 201 3).toNatClampNeg + 2) (y)) 35 (2) (M.1 201 3 + 1)) 37 (max (l * 40 + y).toInt 0) (min (l * 40 + 39).toInt ((am_len 37 : Int) - 1)) pl) 201 ((3078 + 3 * M.1 201 3).toNatClampNeg) (l)) 201 ((3078 + 3 * M.1 201 3 + 1).toNatClampNeg) (pl)) 201 ((3078 + 3 * M.1 201 3 + 2).toNatClampNeg) (y)) 201 (3) (M.1 201 3 + 1))) (w := 1) (by
    (try dsimp only)
    unfold r_move
    rw [zz, eN, eN, if_pos z0, if_pos z1, if_pos z2, if_neg z3]
    (try dsimp only)
    rw [show (am_wI (am_wI (am_wI (am_lay (am_wI (am_wI (am_wI (am_wI M 36 (3 * (M.1 201 3).toNatClampNeg) (l)) 36 (3 * (M.1 201 3).toNatClampNeg + 1) (pl)) 36 (3 * (M.1 201 3).toNatClampNeg + 2) (y)) 35 (2) (M.1 201 3 + 1)) 37 (max (l * 40 + y).toInt 0) (min (l * 40 + 39).toInt ((am_len 37 : Int) - 1)) pl) 201 ((3078 + 3 * M.1 201 3).toNatClampNeg) (l)) 201 ((3078 + 3 * M.1 201 3 + 1).toNatClampNeg) (pl)) 201 ((3078 + 3 * M.1 201 3 + 2).toNatClampNeg) (y)).1 201 3 = M.1 201 3 by (repeat (first | rw [am_wI_1, if_pos ⟨rfl, by omega⟩] | rw [am_wI_1, if_neg (fun q => by omega)] | rw [am_lay_1, if_pos ⟨rfl, by omega, by omega⟩] | rw [am_lay_1, if_neg (fun q => by omega)]))]) rfl ?_ (fun a k z => by (repeat (first | rw [am_wI_1, if_pos ⟨rfl, by omega⟩] | rw [am_wI_1, if_neg (fun q => by omega)] | rw [am_lay_1, if_pos ⟨rfl, by omega, by omega⟩] | rw [am_lay_1, if_neg (fun q => by omega)])))
  exact h.told hl (fun a k z1 z2 => by (repeat (first | rw [am_wI_1, if_pos ⟨rfl, by omega⟩] | rw [am_wI_1, if_neg (fun q => by omega)] | rw [am_lay_1, if_pos ⟨rfl, by omega, by omega⟩] | rw [am_lay_1, if_neg (fun q => by omega)]))) (fun k => by (simp only [am_wI_1, am_lay_1, Nat.reduceEqDiff, false_and, true_and, if_false])) (fun a k z1 z2 => by (repeat (first | rw [am_wI_1, if_pos ⟨rfl, by omega⟩] | rw [am_wI_1, if_neg (fun q => by omega)] | rw [am_lay_1, if_pos ⟨rfl, by omega, by omega⟩] | rw [am_lay_1, if_neg (fun q => by omega)]))) (fun a z => by (repeat (first | rw [am_wI_1, if_pos ⟨rfl, by omega⟩] | rw [am_wI_1, if_neg (fun q => by omega)] | rw [am_lay_1, if_pos ⟨rfl, by omega, by omega⟩] | rw [am_lay_1, if_neg (fun q => by omega)])))
end STS
