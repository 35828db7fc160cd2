-- part 75.told4.lean.txt
section
/-! told calls, IV: earnings, texts, images, count -/
theorem rl_c_tx : ∀ u, u < 5 → (19 + 3 * u, 5, 3508 + u, 1) ∈ rl_c ∧ (20 + 3 * u, 0, 3258 + 50 * u, 50) ∈ rl_c := by decide
section STS
variable {i1 i2 : Bool} {M : am_M}
theorem nneg {x : Int32} (h : -1 ≤ x.toInt) : x ≠ -1 ↔ ¬ x < 0 := not_congr (neg1 h)
theorem LI.kn (h : LI i1 i2 M) {p y k : Int32} (hp : 0 ≤ p.toInt ∧ p.toInt ≤ 11) (hy : 0 ≤ y.toInt ∧ y.toInt ≤ 39) : am_earn M (p * 40 + y) k = r_known M p y k := by
  have f := x_40 (p := p) (y := y) ⟨hp.1, by omega⟩ hy
  have c1 := i_clamp (x := 40 * p + y) (by omega)
  have c2 := i_clamp (x := p * 40 + y) (by omega)
  have x1 := x_off (c := 558) (cn := 558) rfl (x := 40 * p + y) ⟨by omega, by omega⟩ (by decide)
  have x2 := x_off (c := 1038) (cn := 1038) rfl (x := 40 * p + y) ⟨by omega, by omega⟩ (by decide)
  have x3 := x_off (c := 1518) (cn := 1518) rfl (x := 40 * p + y) ⟨by omega, by omega⟩ (by decide)
  have x4 := x_off (c := 1998) (cn := 1998) rfl (x := 40 * p + y) ⟨by omega, by omega⟩ (by decide)
  have h1 := h.e (o := 5) (k0 := 0) (b0 := 558) (n := 480) (by decide) (k := (p * 40 + y).toNatClampNeg) (by omega)
  have h2 := h.e (o := 6) (k0 := 0) (b0 := 1038) (n := 480) (by decide) (k := (p * 40 + y).toNatClampNeg) (by omega)
  have h3 := h.e (o := 7) (k0 := 0) (b0 := 1518) (n := 480) (by decide) (k := (p * 40 + y).toNatClampNeg) (by omega)
  have h4 := h.e (o := 8) (k0 := 0) (b0 := 1998) (n := 480) (by decide) (k := (p * 40 + y).toNatClampNeg) (by omega)
  rw [Nat.zero_add, show 558 + (p * 40 + y).toNatClampNeg = (558 + (40 * p + y)).toNatClampNeg by omega] at h1
  rw [Nat.zero_add, show 1038 + (p * 40 + y).toNatClampNeg = (1038 + (40 * p + y)).toNatClampNeg by omega] at h2
  rw [Nat.zero_add, show 1518 + (p * 40 + y).toNatClampNeg = (1518 + (40 * p + y)).toNatClampNeg by omega] at h3
  rw [Nat.zero_add, show 1998 + (p * 40 + y).toNatClampNeg = (1998 + (40 * p + y)).toNatClampNeg by omega] at h4
  have h1 : M.1 25 (p * 40 + y).toNatClampNeg = _ := h1
  have h2 : M.1 26 (p * 40 + y).toNatClampNeg = _ := h2
  have h3 : M.1 27 (p * 40 + y).toNatClampNeg = _ := h3
  have h4 : M.1 28 (p * 40 + y).toNatClampNeg = _ := h4
  have r2 := (h.v (k := (1038 + (40 * p + y)).toNatClampNeg) (by omega)).a12 (by omega)
  have r4 := (h.v (k := (1998 + (40 * p + y)).toNatClampNeg) (by omega)).a12 (by omega)
  unfold am_earn r_known
  rw [if_neg (by omega), h1, h2, h3, h4]
  simp only [nneg r2.1, nneg r4.1, Int32.not_lt]
theorem st_earnings (h : LI i1 i2 M) (p y k : Int32) : st i1 i2 M (c_earnings M p y k) (fun N => r_earnings N p y k) := by
  have e0 := h.e0
  have n0 := h.n0
  by_cases z0 : 0 ≤ p ∧ p < M.1 201 0
  rotate_left
  · exact st.no h (by unfold c_earnings; rw [e0]; exact if_neg z0) (if_neg z0)
  by_cases z1 : 0 ≤ y ∧ y < 40
  rotate_left
  · exact st.no h (by unfold c_earnings; rw [e0, if_pos z0, if_neg z1]) (by (try dsimp only); unfold r_earnings; rw [if_pos z0, if_neg z1])
  by_cases z2 : 0 ≤ k ∧ k < 40
  rotate_left
  · exact st.no h (by unfold c_earnings; rw [e0, if_pos z0, if_pos z1, if_neg z2]) (by (try dsimp only); unfold r_earnings; rw [if_pos z0, if_pos z1, if_neg z2])
  have b0 := b4 z0
  exact st.no h (v := r_known M p y k) (by unfold c_earnings; rw [e0, if_pos z0, if_pos z1, if_pos z2, h.kn ⟨b0.1, by omega⟩ (yr z1)]) (by (try dsimp only); unfold r_earnings; rw [if_pos z0, if_pos z1, if_pos z2])
theorem ct_eq (h : LI i1 i2 M) (w : Int32) : c_count M w = r_count M w := by
  have a0 := h.e0
  have a1 := h.e1
  have a2 := h.e2
  have a3 := h.e3
  have a4 := h.e4
  have a5 := h.e5
  by_cases z : 0 ≤ w ∧ w ≤ 5
  · have hw : w = 0 ∨ w = 1 ∨ w = 2 ∨ w = 3 ∨ w = 4 ∨ w = 5 := by
      simp only [i_le, i_eq, Int32.reduceToInt] at z ⊢
      omega
    rcases hw with rfl | rfl | rfl | rfl | rfl | rfl
    · exact a0
    · exact a1
    · exact a2
    · exact a3
    · exact a4
    · exact a5
  · have hr : r_count M w = -2 := if_neg z
    rw [hr]
    unfold c_count
    have nz : ∀ c : Int32, 0 ≤ c ∧ c ≤ 5 → ¬ w = c := fun c hc e => z (e ▸ hc)
    rw [if_neg (nz 0 (by decide)), if_neg (nz 1 (by decide)), if_neg (nz 2 (by decide)), if_neg (nz 3 (by decide)), if_neg (nz 4 (by decide)), if_neg (nz 5 (by decide))]
theorem st_erase (h : LI i1 i2 M) (pl : Int32) : st i1 i2 M (c_erase M pl) (fun N => r_erase N pl) := by
  by_cases z0 : 0 ≤ pl ∧ pl < 5
  rotate_left
  · exact st.no h (if_neg z0) (if_neg z0)
  have b0 := b4 z0
  simp only [Int32.reduceToInt] at b0
  have c0 := i_clamp b0.1
  have x0 := x_off (c := 3508) (cn := 3508) rfl (x := pl) ⟨b0.1, by omega⟩ (by decide)
  have hu : pl.toNatClampNeg < 5 := by omega
  have hv := h.e (rl_c_tx _ hu).1 (k := 0) (by decide)
  rw [show 20 + (19 + 3 * pl.toNatClampNeg) = 39 + 3 * pl.toNatClampNeg by omega, show 3508 + pl.toNatClampNeg + 0 = (3508 + pl).toNatClampNeg by omega] at hv
  have hv : M.1 (39 + 3 * pl.toNatClampNeg) 5 = M.1 201 (3508 + pl).toNatClampNeg := hv
  have z00 : (0 : Int32).toInt = 0 := rfl
  have eN : ∀ k, (am_wI (am_wI (am_wI M (39 + 3 * pl.toNatClampNeg) 5 0) (39 + 3 * pl.toNatClampNeg) 2 0) (39 + 3 * pl.toNatClampNeg) 6 1).1 201 k = M.1 201 k := fun k => by (repeat (first | rw [am_wI_1, if_pos ⟨rfl, by omega⟩] | rw [am_wI_1, if_neg (fun q => by omega)] | rw [am_lay_1, if_pos ⟨rfl, by omega, by omega⟩] | rw [am_lay_1, if_neg (fun q => by omega)]))
  have q := (h.b.put (u := 19 + 3 * pl.toNatClampNeg) (k0 := 5) (b0 := 3508 + pl.toNatClampNeg) (n := 1) (k := 0) (n1 := 39 + 3 * pl.toNatClampNeg) (k1 := 5) (k2 := (3508 + pl).toNatClampNeg) (rl_c_tx _ hu).1 (by omega) (by omega) (by omega) (by omega) 0 (by exact t_v.m29 (by omega) (by omega)) (by (unfold t_dep; omega))).tx (A' := am_wI (am_wI (am_wI M (39 + 3 * pl.toNatClampNeg) 5 0) (39 + 3 * pl.toNatClampNeg) 2 0) (39 + 3 * pl.toNatClampNeg) 6 1) hu (fun a k z => by
    unfold am_tS at z
    rw [am_wI_1, if_neg (fun q => by omega), am_wI_1, if_neg (fun q => by omega)]) (by
    rw [am_wI_1, if_neg (fun q => by omega), am_wI_self]
    exact ⟨(), by decide, by decide⟩)
  refine st.yes (by unfold c_erase; rw [if_pos z0, hv]) (by (try dsimp only); unfold r_erase; rw [if_pos z0, eN]) rfl ?_ (fun a k z => by (repeat (first | rw [am_wI_1, if_pos ⟨rfl, by omega⟩] | rw [am_wI_1, if_neg (fun q => by omega)] | rw [am_lay_1, if_pos ⟨rfl, by omega, by omega⟩] | rw [am_lay_1, if_neg (fun q => by omega)])))
  exact h.told q (fun a k z1 z2 => by rw [am_wI_1, if_neg (fun q => by omega)]) (fun k => by rw [am_wI_1, eN, am_wI_1]) (fun a k z1 z2 => by (repeat (first | rw [am_wI_1, if_pos ⟨rfl, by omega⟩] | rw [am_wI_1, if_neg (fun q => by omega)] | rw [am_lay_1, if_pos ⟨rfl, by omega, by omega⟩] | rw [am_lay_1, if_neg (fun q => by omega)]))) (fun a z => by (repeat (first | rw [am_wI_1, if_pos ⟨rfl, by omega⟩] | rw [am_wI_1, if_neg (fun q => by omega)] | rw [am_lay_1, if_pos ⟨rfl, by omega, by omega⟩] | rw [am_lay_1, if_neg (fun q => by omega)])))
theorem wr_no (h : LI i1 i2 M) {pl g : Int32} (hn : ¬ ((0 ≤ pl ∧ pl < 5) ∧ (0 ≤ g ∧ g ≤ 127))) : r_write M pl g = (-2, M) := by
  unfold r_write
  by_cases z0 : 0 ≤ pl ∧ pl < 5
  · rw [if_pos z0, if_neg (fun q => hn ⟨z0, q⟩)]
  · rw [if_neg z0]
theorem wr_sz (h : LI i1 i2 M) {pl : Int32} (z0 : 0 ≤ pl ∧ pl < 5) : M.1 (39 + 3 * pl.toNatClampNeg) 5 = M.1 201 (3508 + pl).toNatClampNeg ∧ (3508 + pl).toNatClampNeg = 3508 + pl.toNatClampNeg ∧ pl.toNatClampNeg < 5 ∧ (0 ≤ (M.1 201 (3508 + pl).toNatClampNeg).toInt ∧ (M.1 201 (3508 + pl).toNatClampNeg).toInt ≤ 50) := by
  have b0 := b4 z0
  simp only [Int32.reduceToInt] at b0
  have c0 := i_clamp b0.1
  have x0 := x_off (c := 3508) (cn := 3508) rfl (x := pl) ⟨b0.1, by omega⟩ (by decide)
  have hu : pl.toNatClampNeg < 5 := by omega
  have hv := h.e (rl_c_tx _ hu).1 (k := 0) (by decide)
  rw [show 20 + (19 + 3 * pl.toNatClampNeg) = 39 + 3 * pl.toNatClampNeg by omega, show 3508 + pl.toNatClampNeg + 0 = (3508 + pl).toNatClampNeg by omega] at hv
  exact ⟨hv, x0, hu, (h.v (k := (3508 + pl).toNatClampNeg) (by omega)).a29 (by omega)⟩
theorem wr_fu (h : LI i1 i2 M) {pl g : Int32} (hz : (0 ≤ pl ∧ pl < 5) ∧ (0 ≤ g ∧ g ≤ 127)) (hf : 50 ≤ M.1 (39 + 3 * pl.toNatClampNeg) 5) : r_write M pl g = (-4, M) := by
  obtain ⟨hv, x0, hu, hs⟩ := wr_sz h hz.1
  rw [hv, i_le] at hf
  simp only [Int32.reduceToInt] at hf
  have e : M.1 201 (3508 + pl).toNatClampNeg = 50 := by
    rw [i_eq]
    simp only [Int32.reduceToInt]
    omega
  unfold r_write
  rw [if_pos hz.1, if_pos hz.2, if_pos e]
theorem wr_yes (h : LI i1 i2 M) {pl g : Int32} (hz : (0 ≤ pl ∧ pl < 5) ∧ (0 ≤ g ∧ g ≤ 127)) (hf : M.1 (39 + 3 * pl.toNatClampNeg) 5 < 50) {N : am_M} (c : am_ch (am_tS (39 + 3 * pl.toNatClampNeg) (39 + 3 * pl.toNatClampNeg + 2)) (am_wI (am_wI M (39 + 3 * pl.toNatClampNeg + 1) (M.1 (39 + 3 * pl.toNatClampNeg) 5).toNatClampNeg g) (39 + 3 * pl.toNatClampNeg) 5 (M.1 (39 + 3 * pl.toNatClampNeg) 5 + 1)) N) (h0 : am_t0 N (39 + 3 * pl.toNatClampNeg)) : N.1 (39 + 3 * pl.toNatClampNeg) 5 = (r_write N pl g).1 ∧ LI i1 i2 (r_write N pl g).2 ∧ ∀ a k, 200 ≤ a → N.1 a k = M.1 a k := by
  obtain ⟨hv, x0, hu, hs⟩ := wr_sz h hz.1
  have b0 := b4 hz.1
  have b1 := bt hz.2
  simp only [Int32.reduceToInt] at b0 b1
  have c0 := i_clamp b0.1
  rw [hv] at hf c
  rw [i_lt] at hf
  simp only [Int32.reduceToInt] at hf
  have cs := i_clamp hs.1
  have hi := i_inc (x := M.1 201 (3508 + pl).toNatClampNeg) (by omega) (by omega)
  obtain ⟨c1, -⟩ := c
  have far : ∀ a k, 200 ≤ a → N.1 a k = M.1 a k := fun a k z => by
    rw [c1 a k (by unfold am_tS; omega)]
    (repeat (first | rw [am_wI_1, if_pos ⟨rfl, by omega⟩] | rw [am_wI_1, if_neg (fun q => by omega)] | rw [am_lay_1, if_pos ⟨rfl, by omega, by omega⟩] | rw [am_lay_1, if_neg (fun q => by omega)]))
  have x1 := x_mul (c := 50) (cn := 50) rfl (x := pl) ⟨b0.1, by omega⟩ (by decide)
  have x2 := x_offi (c := 3258) (cn := 3258) rfl (x := 50 * pl) ⟨by omega, by omega⟩ (by decide)
  have x3 := i_add (x := 3258 + 50 * pl) (y := M.1 201 (3508 + pl).toNatClampNeg) (by omega) (by omega)
  have x4 := i_clamp (x := 3258 + 50 * pl + M.1 201 (3508 + pl).toNatClampNeg) (by omega)
  have hz2 : ¬ M.1 201 (3508 + pl).toNatClampNeg = 50 := fun e => by
    rw [e] at hf
    exact absurd hf (by decide)
  have hr : r_write N pl g = (M.1 201 (3508 + pl).toNatClampNeg + 1, am_wI (am_wI N 201 (3258 + 50 * pl + M.1 201 (3508 + pl).toNatClampNeg).toNatClampNeg g) 201 (3508 + pl).toNatClampNeg (M.1 201 (3508 + pl).toNatClampNeg + 1)) := by
    unfold r_write
    rw [if_pos hz.1, if_pos hz.2, far 201 _ (by decide), if_neg hz2]
    (try dsimp only)
    rw [show (am_wI N 201 (3258 + 50 * pl + M.1 201 (3508 + pl).toNatClampNeg).toNatClampNeg g).1 201 (3508 + pl).toNatClampNeg = M.1 201 (3508 + pl).toNatClampNeg by
      rw [am_wI_1, if_neg (fun q => by omega)]; exact far 201 _ (by decide)]
  rw [hr]
  refine ⟨?_, ?_, far⟩
  · rw [c1 _ _ (by unfold am_tS; omega), am_wI_self]
  · have q := ((h.b.put (u := 20 + 3 * pl.toNatClampNeg) (k0 := 0) (b0 := 3258 + 50 * pl.toNatClampNeg) (n := 50) (k := (M.1 201 (3508 + pl).toNatClampNeg).toNatClampNeg) (n1 := 39 + 3 * pl.toNatClampNeg + 1) (k1 := (M.1 201 (3508 + pl).toNatClampNeg).toNatClampNeg) (k2 := (3258 + 50 * pl + M.1 201 (3508 + pl).toNatClampNeg).toNatClampNeg) (rl_c_tx _ hu).2 (by omega) (by omega) (by omega) (by omega) g (by exact t_v.m28 (by omega) (by omega)) (by (unfold t_dep; omega))).put (u := 19 + 3 * pl.toNatClampNeg) (k0 := 5) (b0 := 3508 + pl.toNatClampNeg) (n := 1) (k := 0) (n1 := 39 + 3 * pl.toNatClampNeg) (k1 := 5) (k2 := (3508 + pl).toNatClampNeg) (rl_c_tx _ hu).1 (by omega) (by omega) (by omega) (by omega) (M.1 201 (3508 + pl).toNatClampNeg + 1) (by exact t_v.m29 (by omega) (by omega)) (by (unfold t_dep; omega))).tx (A' := N) hu (fun a k z => c1 a k (by rw [show 39 + 3 * pl.toNatClampNeg + 2 = 41 + 3 * pl.toNatClampNeg by omega]; exact z)) (by obtain ⟨-, z, -⟩ := h0; exact ⟨(), z⟩)
    exact h.told q (fun a k z1 z2 => by rw [am_wI_1, if_neg (fun q => by omega), am_wI_1, if_neg (fun q => by omega)]) (fun k => by rw [am_wI_1, am_wI_1, am_wI_1, am_wI_1, far 201 k (by decide)]) (fun a k z1 z2 => by
      rw [am_wI_1, if_neg (fun q => by omega), am_wI_1, if_neg (fun q => by omega), c1 a k (by unfold am_tS; omega)]
      (repeat (first | rw [am_wI_1, if_pos ⟨rfl, by omega⟩] | rw [am_wI_1, if_neg (fun q => by omega)] | rw [am_lay_1, if_pos ⟨rfl, by omega, by omega⟩] | rw [am_lay_1, if_neg (fun q => by omega)]))) (fun a z => by
      rw [am_wI_1, if_neg (fun q => by omega), am_wI_1, if_neg (fun q => by omega), c1 a 1 (by unfold am_tS; omega)]
      (repeat (first | rw [am_wI_1, if_pos ⟨rfl, by omega⟩] | rw [am_wI_1, if_neg (fun q => by omega)] | rw [am_lay_1, if_pos ⟨rfl, by omega, by omega⟩] | rw [am_lay_1, if_neg (fun q => by omega)])))
/-! images -/
theorem im_N (h : LI i1 i2 M) {b : Nat} (hb : b = 60 ∨ b = 100) {N : am_M} (c : g_im b M N) : (∀ a k, (a < b ∨ b + 39 ≤ a) → N.1 a k = M.1 a k) ∧ ∀ u k, g_hit g_sh0 u k = true → N.1 (b + u) k = M.1 (20 + u) k := by
  obtain ⟨-, c1, c2⟩ := c
  exact ⟨fun a k z => (c1 a k z).1, fun u k z => c2 u k z⟩
theorem li_N {N : am_M} (h : LI i1 i2 M) (e : ∀ k, N.1 200 k = M.1 200 k) : r_N N := ⟨(e 3).trans h.rn.1, (e 7).trans h.rn.2⟩
theorem im_0 (h : LI i1 i2 M) {N : am_M} (c : g_im 60 M N) : LI true i2 (r_image N 0).2 ∧ (r_image N 0).1 = 1 ∧ r_I N := by
  obtain ⟨c1, c2⟩ := im_N h (Or.inl rfl) c
  have z0 : (0 : Int32).toNatClampNeg = 0 := rfl
  have hr : r_image N 0 = (1, (am_wI (am_cI N 202 (fun b => if 3760 * 0 ≤ b ∧ b < 3760 * 0 + 3760 then N.1 201 (b - 3760 * 0) else N.1 202 b)) 203 0 (vp_nar .boolean 1))) := by
    unfold r_image
    rw [if_pos (by decide), z0]
  rw [hr]
  obtain ⟨m1, m2, m3, m4⟩ := h.im
  have far : ∀ a k, 200 ≤ a → N.1 a k = M.1 a k := fun a k z => c1 a k (by omega)
  refine ⟨?_, rfl, h.ri far⟩
  generalize hF : (am_wI (am_cI N 202 (fun b => if 3760 * 0 ≤ b ∧ b < 3760 * 0 + 3760 then N.1 201 (b - 3760 * 0) else N.1 202 b)) 203 0 (vp_nar .boolean 1)) = F
  have f1 : ∀ a k, a ≠ 202 → a ≠ 203 → F.1 a k = N.1 a k := fun a k z1 z2 => by
    rw [← hF, am_wI_1, if_neg (fun q => z2 q.1), am_cI_1, if_neg z1]
  have f2 : ∀ k, F.1 202 k = if k < 3760 then M.1 201 k else M.1 202 k := fun k => by
    rw [← hF, am_wI_1, if_neg (fun q => by omega), am_cI_1, if_pos rfl]
    by_cases z : k < 3760
    · rw [if_pos ⟨by omega, by omega⟩, if_pos z, show k - 3760 * 0 = k by omega, far 201 k (by decide)]
    · rw [if_neg (fun q => by omega), if_neg z, far 202 k (by decide)]
  have f3 : F.1 203 0 = 1 := by
    rw [← hF, am_wI_self]
    rfl
  have f4 : F.1 203 1 = M.1 203 1 := by
    rw [← hF, am_wI_1, if_neg (fun q => by omega), am_cI_1, if_neg (by decide), far 203 1 (by decide)]
  have w := h.w
  refine ⟨(), h.b.cg (fun a k z1 z2 => by rw [f1 a k (by omega) (by omega), c1 a k (by omega)]) (fun k _ => by rw [f1 201 _ (by decide) (by decide), far 201 _ (by decide)]), ?_, ⟨h.s.cg (fun a k z1 z2 => by rw [f1 a k (by omega) (by omega), c1 a k (by omega)]), li_N h (fun k => by rw [f1 200 k (by decide) (by decide), far 200 k (by decide)])⟩, fun _ => ?_, fun z => ?_, ?_, ?_⟩
  · rw [f1 31 1 (by decide) (by decide), f1 33 1 (by decide) (by decide), f1 35 1 (by decide) (by decide), f1 54 1 (by decide) (by decide), c1 31 1 (by omega), c1 33 1 (by omega), c1 35 1 (by omega), c1 54 1 (by omega)]
    exact w
  · refine h.b.cpy (fun u k z => ?_) (fun k hk => ?_)
    · have := g_sh0_lt z
      rw [f1 _ k (by omega) (by omega)]
      exact c2 u k z
    · rw [Nat.zero_add, f2, if_pos hk]
  · exact (m2 z).cg (fun a k z1 z2 => by rw [f1 a k (by omega) (by omega), c1 a k (by omega)]) (fun k _ => by rw [f2, if_neg (by omega)])
  · rw [f3]; rfl
  · rw [f4]; exact m4
theorem im_1 (h : LI i1 i2 M) {N : am_M} (c : g_im 100 M N) : LI i1 true (r_image N 1).2 ∧ (r_image N 1).1 = 1 ∧ r_I N := by
  obtain ⟨c1, c2⟩ := im_N h (Or.inr rfl) c
  have z0 : (1 : Int32).toNatClampNeg = 1 := rfl
  have hr : r_image N 1 = (1, (am_wI (am_cI N 202 (fun b => if 3760 * 1 ≤ b ∧ b < 3760 * 1 + 3760 then N.1 201 (b - 3760 * 1) else N.1 202 b)) 203 1 (vp_nar .boolean 1))) := by
    unfold r_image
    rw [if_pos (by decide), z0]
  rw [hr]
  obtain ⟨m1, m2, m3, m4⟩ := h.im
  have far : ∀ a k, 200 ≤ a → N.1 a k = M.1 a k := fun a k z => c1 a k (by omega)
  refine ⟨?_, rfl, h.ri far⟩
  generalize hF : (am_wI (am_cI N 202 (fun b => if 3760 * 1 ≤ b ∧ b < 3760 * 1 + 3760 then N.1 201 (b - 3760 * 1) else N.1 202 b)) 203 1 (vp_nar .boolean 1)) = F
  have f1 : ∀ a k, a ≠ 202 → a ≠ 203 → F.1 a k = N.1 a k := fun a k z1 z2 => by
    rw [← hF, am_wI_1, if_neg (fun q => z2 q.1), am_cI_1, if_neg z1]
  have f2 : ∀ k, F.1 202 k = if 3760 ≤ k ∧ k < 7520 then M.1 201 (k - 3760) else M.1 202 k := fun k => by
    rw [← hF, am_wI_1, if_neg (fun q => by omega), am_cI_1, if_pos rfl]
    by_cases z : 3760 ≤ k ∧ k < 7520
    · rw [if_pos ⟨by omega, by omega⟩, if_pos z, show k - 3760 * 1 = k - 3760 by omega, far 201 _ (by decide)]
    · rw [if_neg (fun q => by omega), if_neg z, far 202 k (by decide)]
  have f3 : F.1 203 1 = 1 := by
    rw [← hF, am_wI_self]
    rfl
  have f4 : F.1 203 0 = M.1 203 0 := by
    rw [← hF, am_wI_1, if_neg (fun q => by omega), am_cI_1, if_neg (by decide), far 203 0 (by decide)]
  have w := h.w
  refine ⟨(), h.b.cg (fun a k z1 z2 => by rw [f1 a k (by omega) (by omega), c1 a k (by omega)]) (fun k _ => by rw [f1 201 _ (by decide) (by decide), far 201 _ (by decide)]), ?_, ⟨h.s.cg (fun a k z1 z2 => by rw [f1 a k (by omega) (by omega), c1 a k (by omega)]), li_N h (fun k => by rw [f1 200 k (by decide) (by decide), far 200 k (by decide)])⟩, fun z => ?_, fun _ => ?_, ?_, ?_⟩
  · rw [f1 31 1 (by decide) (by decide), f1 33 1 (by decide) (by decide), f1 35 1 (by decide) (by decide), f1 54 1 (by decide) (by decide), c1 31 1 (by omega), c1 33 1 (by omega), c1 35 1 (by omega), c1 54 1 (by omega)]
    exact w
  · exact (m1 z).cg (fun a k z1 z2 => by rw [f1 a k (by omega) (by omega), c1 a k (by omega)]) (fun k hk => by rw [f2, if_neg (by omega)])
  · refine h.b.cpy (fun u k z => ?_) (fun k hk => ?_)
    · have := g_sh0_lt z
      rw [f1 _ k (by omega) (by omega)]
      exact c2 u k z
    · rw [Nat.zero_add, f2, if_pos ⟨by omega, by omega⟩, Nat.add_sub_cancel_left]
  · rw [f4]; exact m3
  · rw [f3]; rfl
theorem im_no {i : Int32} (hn : ¬ (0 ≤ i ∧ i ≤ 1)) : r_image M i = (-2, M) ∧ r_from M i = (-2, M) := ⟨if_neg hn, if_neg hn⟩
theorem fr_no0 (h : LI false i2 M) : r_from M 0 = (-3, M) := by
  obtain ⟨-, -, m3, -⟩ := h.im
  have z0 : (0 : Int32).toNatClampNeg = 0 := rfl
  unfold r_from
  rw [if_pos (by decide), z0, if_pos (by rw [m3]; rfl)]
theorem fr_no1 (h : LI i1 false M) : r_from M 1 = (-3, M) := by
  obtain ⟨-, -, -, m4⟩ := h.im
  have z0 : (1 : Int32).toNatClampNeg = 1 := rfl
  unfold r_from
  rw [if_pos (by decide), z0, if_pos (by rw [m4]; rfl)]
/-- the house goes on from an image -/
theorem fr_up (h : LI i1 i2 M) {b o : Nat} (hl : lb b 202 o M M) {N F : am_M} (c : g_cs 20 b g_sh0 M N) (f1 : ∀ a k, a ≠ 201 → F.1 a k = N.1 a k) (f2 : ∀ k, k < 3760 → F.1 201 k = M.1 202 (o + k)) : LI i1 i2 F ∧ r_I N := by
  obtain ⟨-, -, c2⟩ := c
  have far : ∀ a k, (a < 20 ∨ 59 ≤ a) → N.1 a k = M.1 a k := fun a k z => by
    rw [c2 a k, if_neg (fun q => ?_)]
    have := g_sh0_lt q.2
    omega
  have nh : ∀ u, u = 11 ∨ u = 13 ∨ u = 15 ∨ u = 34 → g_hit g_sh0 u 1 = false := by
    intro u hu
    rcases hu with rfl | rfl | rfl | rfl <;> decide
  refine ⟨h.up (hl.cpy (fun u k z => ?_) (fun k hk => by rw [Nat.zero_add]; exact f2 k hk)) (fun a z => ?_) (h.s.cg (fun a k z1 z2 => by rw [f1 a k (by omega), far a k (by omega)])) (li_N h (fun k => by rw [f1 200 k (by decide), far 200 k (by omega)])) (fun a k z => by rw [f1 a k (by omega), far a k (by omega)]), h.ri (fun a k z => far a k (by omega))⟩
  · have := g_sh0_lt z
    rw [f1 _ k (by omega), c2, Nat.add_sub_cancel_left, if_pos ⟨by omega, z⟩]
  · rw [f1 a 1 (by omega), c2, if_neg (fun q => ?_)]
    have q2 := q.2
    rw [nh (a - 20) (by omega)] at q2
    cases q2
theorem fr_0 (h : LI true i2 M) {N : am_M} (c : g_cs 20 60 g_sh0 M N) : LI true i2 (r_from N 0).2 ∧ (r_from N 0).1 = 1 ∧ r_I N := by
  obtain ⟨m1, -, m3, -⟩ := h.im
  have z0 : (0 : Int32).toNatClampNeg = 0 := rfl
  have far : ∀ a k, 59 ≤ a → N.1 a k = M.1 a k := fun a k z => by
    obtain ⟨-, -, c2⟩ := c
    rw [c2 a k, if_neg (fun q => ?_)]
    have := g_sh0_lt q.2
    omega
  have hr : r_from N 0 = (1, (am_cI N 201 (fun b => if b < 3760 then N.1 202 (3760 * 0 + b) else N.1 201 b))) := by
    unfold r_from
    rw [if_pos (by decide), z0, if_neg (by rw [far 203 0 (by decide), m3]; decide)]
  rw [hr]
  obtain ⟨g1, g2⟩ := fr_up h (m1 rfl) c (F := am_cI N 201 (fun b => if b < 3760 then N.1 202 (3760 * 0 + b) else N.1 201 b)) (fun a k z => by rw [am_cI_1, if_neg z]) (fun k hk => by rw [am_cI_1, if_pos rfl, if_pos hk, far 202 _ (by decide)])
  exact ⟨g1, rfl, g2⟩
theorem fr_1 (h : LI i1 true M) {N : am_M} (c : g_cs 20 100 g_sh0 M N) : LI i1 true (r_from N 1).2 ∧ (r_from N 1).1 = 1 ∧ r_I N := by
  obtain ⟨-, m1, -, m3⟩ := h.im
  have z0 : (1 : Int32).toNatClampNeg = 1 := rfl
  have far : ∀ a k, 59 ≤ a → N.1 a k = M.1 a k := fun a k z => by
    obtain ⟨-, -, c2⟩ := c
    rw [c2 a k, if_neg (fun q => ?_)]
    have := g_sh0_lt q.2
    omega
  have hr : r_from N 1 = (1, (am_cI N 201 (fun b => if b < 3760 then N.1 202 (3760 * 1 + b) else N.1 201 b))) := by
    unfold r_from
    rw [if_pos (by decide), z0, if_neg (by rw [far 203 1 (by decide), m3]; decide)]
  rw [hr]
  obtain ⟨g1, g2⟩ := fr_up h (m1 rfl) c (F := am_cI N 201 (fun b => if b < 3760 then N.1 202 (3760 * 1 + b) else N.1 201 b)) (fun a k z => by rw [am_cI_1, if_neg z]) (fun k hk => by rw [am_cI_1, if_pos rfl, if_pos hk, far 202 _ (by decide)])
  exact ⟨g1, rfl, g2⟩
end STS
end
-- part 76.exact.lean.txt
section
/-! exact: which plan a loan is in, what is in force: the reference -/
theorem r_plm_y {f : Nat → Int32} {l y m : Nat} (h : (f (3078 + 3 * m)).toInt = (l : Int) ∧ (f (3080 + 3 * m)).toInt ≤ (y : Int)) : r_plm f l y (m + 1) = f (3079 + 3 * m) := if_pos h
theorem r_plm_n {f : Nat → Int32} {l y m : Nat} (h : ¬ ((f (3078 + 3 * m)).toInt = (l : Int) ∧ (f (3080 + 3 * m)).toInt ≤ (y : Int))) : r_plm f l y (m + 1) = r_plm f l y m := if_neg h
/-- the plan of a loan in a year, as the reference answers -/
def r_pl (M : am_M) (l y : Int32) : Int32 := if 0 ≤ (M.1 200 7).toInt ∧ (M.1 200 8).toInt ≤ y.toInt then M.1 200 7 else r_plm (M.1 201) l.toNatClampNeg y.toNatClampNeg (M.1 201 3).toNatClampNeg
def TE8_planAt : am_T := fun live as M R => match as with
  | [.ref n, .int l, .int y] => am_mn live ∧ n = 200 ∧ am_in l 30 ∧ 0 ≤ y.toInt ∧ r_I M ∧ R (some (.int (r_pl M l y))) M
  | _ => False
def JE8_planAt : am_E → List Value → am_M → am_R → am_inv := fun live as M0 _ pc => match as with
  | [.ref n, .int l, .int y] => (match pc with
    | 41 => some ([0, 1, 2, 3, 4], fun k L st M => ∃ (q m : Int32) (j : Nat), L = [(0, .ref 200), (1, .int l), (2, .int y), (3, .int q), (4, .int m)] ∧ st = [] ∧ k = (100 - j, 0) ∧ m.toInt = 3078 + 3 * (j : Int) ∧ j ≤ (M0.1 201 3).toNatClampNeg ∧ q = r_plm (M0.1 201) l.toNatClampNeg y.toNatClampNeg j ∧ ¬ (0 ≤ (M0.1 200 7).toInt ∧ (M0.1 200 8).toInt ≤ y.toInt) ∧ M = M0)
    | _ => none)
  | _ => none
set_option maxRecDepth 100000 in
set_option maxHeartbeats 4000000 in
theorem metX8_planAtE : am_Met yX8_planAt cX8_planAt 5 (some .int) (0) (0) TE8_planAt := by
  refine am_met (own := RX8) (by decide +kernel) rfl kX8_planAt koX8_planAt 100 JE8_planAt ?_ ?_
  · intro live as M Ret h
    unfold TE8_planAt at h
    split at h
    · next n l y =>
      refine ⟨Nat.le_of_ble_eq_true rfl, ?_⟩
      change am_wp _ _ _ _ [(0, Value.ref n), (1, Value.int l), (2, Value.int y)] _ _
      obtain ⟨hmn, rfl, hl, hy, hR, h⟩ := h
      have hmn2 := hmn
      obtain ⟨i1, i2, rfl⟩ := hmn2
      have l201 : am_len 201 = 3760 := rfl
      have l1 := hl.1
      have l2 := hl.2
      have e1 := r_lcol hl (w := 1) ⟨by decide, by decide⟩
      simp only [Int32.reduceToInt] at e1
      have hpl : M.1 201 (2838 + 8 * l + 1).toNatClampNeg = r_plm (M.1 201) l.toNatClampNeg y.toNatClampNeg 0 := by
        have c1 := i_clamp (x := 2838 + 8 * l + 1) (by omega)
        have c2 := i_clamp (x := l) l1
        show _ = M.1 201 (2839 + 8 * l.toNatClampNeg)
        rw [show (2838 + 8 * l + 1).toNatClampNeg = 2839 + 8 * l.toNatClampNeg by omega]
      by_cases hz : M.1 200 7 < 0
      · have q : ¬ (0 ≤ (M.1 200 7).toInt ∧ (M.1 200 8).toInt ≤ y.toInt) := fun q => by
          have q1 := q.1
          simp only [i_lt, Int32.reduceToInt] at hz
          omega
        repeat' (first | apply And.intro | exact rfl | (intro hx; with_reducible exact absurd hz hx) | intro hx | (refine Exists.intro _ (And.intro rfl ?_)))
        all_goals try first | (with_reducible change am_tI _ _) | (change Ret _ _) | (change Ret _ _ _) | (change Exists _)
        all_goals try dsimp only at *
        all_goals try (with_reducible exact absurd ‹(1000 : Int64) = 0› am_z1000)
        all_goals first
          | omega
          | (rw [l201]; omega)
          | exact ⟨_, _, _, 0, rfl, rfl, rfl, rfl, Nat.zero_le _, hpl, q, rfl⟩
      · by_cases hw : y < M.1 200 8
        · have q : ¬ (0 ≤ (M.1 200 7).toInt ∧ (M.1 200 8).toInt ≤ y.toInt) := fun q => by
            have q1 := q.2
            simp only [i_lt] at hw
            omega
          repeat' (first | apply And.intro | exact rfl | (intro hx; with_reducible exact absurd hx hz) | (intro hx; with_reducible exact absurd hw hx) | intro hx | (refine Exists.intro _ (And.intro rfl ?_)))
          all_goals try first | (with_reducible change am_tI _ _) | (change Ret _ _) | (change Ret _ _ _) | (change Exists _)
          all_goals try dsimp only at *
          all_goals try (with_reducible exact absurd ‹(1000 : Int64) = 0› am_z1000)
          all_goals first
            | omega
            | (rw [l201]; omega)
            | exact ⟨_, _, _, 0, rfl, rfl, rfl, rfl, Nat.zero_le _, hpl, q, rfl⟩
        · have e : r_pl M l y = M.1 200 7 := if_pos ⟨by simp only [i_lt, Int32.reduceToInt] at hz; omega, by simp only [i_lt] at hw; omega⟩
          rw [e] at h
          repeat' (first | apply And.intro | exact rfl | (intro hx; with_reducible exact absurd hx hz) | (intro hx; with_reducible exact absurd hx hw) | intro hx | (refine Exists.intro _ (And.intro rfl ?_)))
          all_goals try first | (with_reducible change am_tI _ _) | (change Ret _ _) | (change Ret _ _ _) | (change Exists _)
          all_goals try dsimp only at *
          all_goals try (with_reducible exact absurd ‹(1000 : Int64) = 0› am_z1000)
          all_goals exact h
    · exact h.elim
  · intro live as M0 Ret h k pc I hI L st M hi
    unfold TE8_planAt at h
    split at h
    · next n l y =>
      obtain ⟨hmn, rfl, hl, hy, hR, h⟩ := h
      have hmn2 := hmn
      obtain ⟨i1, i2, rfl⟩ := hmn2
      have l201 : am_len 201 = 3760 := rfl
      have n3 : 0 ≤ (M0.1 201 (Int32.toNatClampNeg 3)).toInt ∧ (M0.1 201 (Int32.toNatClampNeg 3)).toInt ≤ 60 := hR.n3
      have cn : ((M0.1 201 3).toNatClampNeg : Int) = (M0.1 201 (Int32.toNatClampNeg 3)).toInt := i_clamp n3.1
      have e3 := r_mul (c := 3) (x := M0.1 201 (Int32.toNatClampNeg 3)) ⟨by decide, by decide⟩ ⟨n3.1, by omega⟩
      simp only [Int32.reduceToInt] at e3
      have e30 := r_off (c := 3078) (x := 3 * M0.1 201 (Int32.toNatClampNeg 3)) ⟨by decide, by decide⟩ ⟨by omega, by omega⟩
      simp only [e3, Int32.reduceToInt] at e30
      have cl := i_clamp (x := l) hl.1
      have cy := i_clamp (x := y) hy
      change (match pc with | 41 => _ | _ => none) = _ at hI
      split at hI
      · cases hI
        obtain ⟨q, m, j, rfl, rfl, rfl, e1, e2, hq, hno, rfl⟩ := hi
        by_cases hz : 3078 + 3 * M.1 201 (Int32.toNatClampNeg 3) ≤ m
        · have hj : j = (M.1 201 3).toNatClampNeg := by
            have hz2 := hz
            simp only [i_le] at hz2
            omega
          have e : r_pl M l y = q := by
            unfold r_pl
            rw [if_neg hno, ← hj]
            exact hq.symm
          rw [e] at h
          repeat' (first | apply And.intro | exact rfl | (intro hx; with_reducible exact absurd hz hx) | (intro hx; exact absurd hx (by decide)) | (intro hx; exact absurd (by decide) hx) | decide | intro hx | (refine Exists.intro _ (And.intro rfl ?_)))
          all_goals try first | (with_reducible change am_tI _ _) | (change Ret _ _) | (change Ret _ _ _) | (change Exists _)
          all_goals try dsimp only at *
          all_goals try (with_reducible exact absurd ‹(1000 : Int64) = 0› am_z1000)
          all_goals first
            | (show _ < _; simp only [l201]; decide)
            | (with_reducible exact h)
            | exact h
        · have hz2 := hz
          simp only [i_le] at hz2
          have em1 := r_off (c := m) (x := 1) ⟨by omega, by omega⟩ ⟨by decide, by decide⟩
          have em2 := r_off (c := m) (x := 2) ⟨by omega, by omega⟩ ⟨by decide, by decide⟩
          have em3 := r_off (c := m) (x := 3) ⟨by omega, by omega⟩ ⟨by decide, by decide⟩
          simp only [Int32.reduceToInt] at em1 em2 em3
          have c0 := i_clamp (x := m) (by omega)
          have c1 := i_clamp (x := m + 1) (by omega)
          have c2 := i_clamp (x := m + 2) (by omega)
          have f0 : m.toNatClampNeg = 3078 + 3 * j := by omega
          have f1 : (m + 1).toNatClampNeg = 3079 + 3 * j := by omega
          have f2 : (m + 2).toNatClampNeg = 3080 + 3 * j := by omega
          by_cases z1 : M.1 201 m.toNatClampNeg = l
          · by_cases z2 : y < M.1 201 (m + 2).toNatClampNeg
            · have hs : q = r_plm (M.1 201) l.toNatClampNeg y.toNatClampNeg (j + 1) := by
                rw [r_plm_n (fun w => by have w2 := w.2; simp only [i_lt, f2] at z2; omega)]
                exact hq
              repeat' (first | apply And.intro | exact rfl | (intro hx; with_reducible exact absurd hx hz) | (intro hx; with_reducible exact absurd z1 hx) | (intro hx; with_reducible exact absurd z2 hx) | (intro hx; exact absurd hx (by decide)) | (intro hx; exact absurd (by decide) hx) | decide | intro hx | (refine Exists.intro _ (And.intro rfl ?_)))
              all_goals try first | (with_reducible change am_tI _ _) | (change Ret _ _) | (change Ret _ _ _) | (change Exists _)
              all_goals try dsimp only at *
              all_goals try (with_reducible exact absurd ‹(1000 : Int64) = 0› am_z1000)
              all_goals first
                | (show _ < _; simp only [l201]; decide)
                | omega
                | (rw [l201]; omega)
                | exact ⟨_, am_lt_l (by omega), _, _, j + 1, rfl, rfl, rfl, by omega, by omega, hs, hno, rfl⟩
            · have hs : M.1 201 (m + 1).toNatClampNeg = r_plm (M.1 201) l.toNatClampNeg y.toNatClampNeg (j + 1) := by
                rw [r_plm_y ⟨by rw [← f0, z1]; omega, by simp only [i_lt, f2] at z2; omega⟩, f1]
              repeat' (first | apply And.intro | exact rfl | (intro hx; with_reducible exact absurd hx hz) | (intro hx; with_reducible exact absurd hx z2) | (intro hx; with_reducible exact absurd z1 hx) | (intro hx; exact absurd hx (by decide)) | (intro hx; exact absurd (by decide) hx) | decide | intro hx | (refine Exists.intro _ (And.intro rfl ?_)))
              all_goals try first | (with_reducible change am_tI _ _) | (change Ret _ _) | (change Ret _ _ _) | (change Exists _)
              all_goals try dsimp only at *
              all_goals try (with_reducible exact absurd ‹(1000 : Int64) = 0› am_z1000)
              all_goals first
                | (show _ < _; simp only [l201]; decide)
                | omega
                | (rw [l201]; omega)
                | exact ⟨_, am_lt_l (by omega), _, _, j + 1, rfl, rfl, rfl, by omega, by omega, hs, hno, rfl⟩
          · have hs : q = r_plm (M.1 201) l.toNatClampNeg y.toNatClampNeg (j + 1) := by
              rw [r_plm_n (fun w => z1 (by have w1 := w.1; rw [← f0] at w1; rw [i_eq]; omega))]
              exact hq
            repeat' (first | apply And.intro | exact rfl | (intro hx; with_reducible exact absurd hx hz) | (intro hx; with_reducible exact absurd hx z1) | (intro hx; exact absurd hx (by decide)) | (intro hx; exact absurd (by decide) hx) | decide | intro hx | (refine Exists.intro _ (And.intro rfl ?_)))
            all_goals try first | (with_reducible change am_tI _ _) | (change Ret _ _) | (change Ret _ _ _) | (change Exists _)
            all_goals try dsimp only at *
            all_goals try (with_reducible exact absurd ‹(1000 : Int64) = 0› am_z1000)
            all_goals first
              | (show _ < _; simp only [l201]; decide)
              | omega
              | (rw [l201]; omega)
              | exact ⟨_, am_lt_l (by omega), _, _, j + 1, rfl, rfl, rfl, by omega, by omega, hs, hno, rfl⟩
      · cases hI
    · exact h.elim
/-- does an act tell of a plan's number for those who began then -/
def q_mt (A : Nat → Int32) (bg pl w : Int32) (i : Nat) : Bool := decide (A (6 * i) = pl ∧ A (6 * i + 1) = w ∧ (A (6 * i + 4)).toInt ≤ bg.toInt ∧ bg.toInt ≤ (A (6 * i + 5)).toInt)
/-- the act in force in a year among the first ones -/
def q_R (A : Nat → Int32) (bg pl w : Int32) (y : Int) : Nat → Option Nat
  | 0 => none
  | m + 1 => match q_R A bg pl w y m with
    | none => if q_mt A bg pl w m = true ∧ (A (6 * m + 3)).toInt ≤ y then some m else none
    | some b => if (q_mt A bg pl w m = true ∧ (A (6 * m + 3)).toInt ≤ y) ∧ (A (6 * b + 3)).toInt ≤ (A (6 * m + 3)).toInt then some m else some b
theorem q_R_lt {A : Nat → Int32} {bg pl w : Int32} {y : Int} : ∀ {m b}, q_R A bg pl w y m = some b → b < m ∧ q_mt A bg pl w b = true ∧ (A (6 * b + 3)).toInt ≤ y
  | 0, _, h => by cases h
  | m + 1, b, h => by
    unfold q_R at h
    split at h
    · split at h
      · next z => cases h; exact ⟨by omega, z.1, z.2⟩
      · cases h
    · next b' e =>
      have ih := q_R_lt e
      split at h
      · next z => cases h; exact ⟨by omega, z.1.1, z.1.2⟩
      · cases h; exact ⟨by omega, ih.2⟩
/-- what it says -/
def q_F (A : Nat → Int32) (n : Nat) (bg pl w : Int32) (y : Int) : Int32 := match q_R A bg pl w y n with
  | none => am_sf 0 w.toNatClampNeg
  | some a => A (6 * a + 2)
/-- the same with a number tried -/
def q_le (A : Nat → Int32) (o : Option Nat) (t : Int32) : Bool := match o with
  | none => true
  | some b => decide ((A (6 * b + 3)).toInt ≤ t.toInt)
def r_A (M : am_M) : Nat → Int32 := fun k => M.1 201 (2478 + k)
def r_inF (M : am_M) (pl w p y : Int32) : Int32 := if M.1 200 3 = pl ∧ M.1 200 4 = w ∧ (M.1 200 6).toInt ≤ y.toInt ∧ q_le (r_A M) (q_R (r_A M) (M.1 201 (10 + p.toNatClampNeg)) pl w y.toInt (M.1 201 2).toNatClampNeg) (M.1 200 6) = true then M.1 200 5 else q_F (r_A M) (M.1 201 2).toNatClampNeg (M.1 201 (10 + p.toNatClampNeg)) pl w y.toInt
def TE8_atFirst : am_T := fun _ as M R => match as with
  | [.int w] => am_in w 6 ∧ R (some (.int (am_sf 0 w.toNatClampNeg))) M
  | _ => False
set_option maxRecDepth 100000 in
set_option maxHeartbeats 4000000 in
theorem metX8_atFirstE : am_Met yX8_atFirst cX8_atFirst 1 (some .int) (0) (0) TE8_atFirst := by
  refine am_met (own := RX8) (by decide +kernel) rfl kX8_atFirst koX8_atFirst 60 (fun _ _ _ _ _ => none) (fun live as M Ret h => ?_) (fun _ _ _ _ _ _ _ _ hI => by cases hI)
  unfold TE8_atFirst at h
  split at h
  · next w =>
    refine ⟨Nat.le_of_ble_eq_true rfl, ?_⟩
    change am_wp _ _ _ _ [(0, Value.int w)] _ _
    obtain ⟨hw, h⟩ := h
    have hc : w = 0 ∨ w = 1 ∨ w = 2 ∨ w = 3 ∨ w = 4 ∨ w = 5 := by
      have h1 := hw.1
      have h2 := hw.2
      simp only [i_eq, Int32.reduceToInt]
      omega
    rcases hc with rfl | rfl | rfl | rfl | rfl | rfl
    all_goals skip
    · skip
      repeat' (first | apply And.intro | exact rfl | (intro hx; exact absurd hx (by decide)) | (intro hx; exact absurd (by decide) hx) | decide | intro hx | (refine Exists.intro _ (And.intro rfl ?_)))
      all_goals try first | (with_reducible change am_tI _ _) | (change Ret _ _) | (change Ret _ _ _) | (change Exists _)
      all_goals try dsimp only at *
      all_goals try (with_reducible exact absurd ‹(1000 : Int64) = 0› am_z1000)
      all_goals exact h
    · skip
      repeat' (first | apply And.intro | exact rfl | (intro hx; exact absurd hx (by decide)) | (intro hx; exact absurd (by decide) hx) | decide | intro hx | (refine Exists.intro _ (And.intro rfl ?_)))
      all_goals try first | (with_reducible change am_tI _ _) | (change Ret _ _) | (change Ret _ _ _) | (change Exists _)
      all_goals try dsimp only at *
      all_goals try (with_reducible exact absurd ‹(1000 : Int64) = 0› am_z1000)
      all_goals exact h
    · skip
      repeat' (first | apply And.intro | exact rfl | (intro hx; exact absurd hx (by decide)) | (intro hx; exact absurd (by decide) hx) | decide | intro hx | (refine Exists.intro _ (And.intro rfl ?_)))
      all_goals try first | (with_reducible change am_tI _ _) | (change Ret _ _) | (change Ret _ _ _) | (change Exists _)
      all_goals try dsimp only at *
      all_goals try (with_reducible exact absurd ‹(1000 : Int64) = 0› am_z1000)
      all_goals exact h
    · skip
      repeat' (first | apply And.intro | exact rfl | (intro hx; exact absurd hx (by decide)) | (intro hx; exact absurd (by decide) hx) | decide | intro hx | (refine Exists.intro _ (And.intro rfl ?_)))
      all_goals try first | (with_reducible change am_tI _ _) | (change Ret _ _) | (change Ret _ _ _) | (change Exists _)
      all_goals try dsimp only at *
      all_goals try (with_reducible exact absurd ‹(1000 : Int64) = 0› am_z1000)
      all_goals exact h
    · skip
      repeat' (first | apply And.intro | exact rfl | (intro hx; exact absurd hx (by decide)) | (intro hx; exact absurd (by decide) hx) | decide | intro hx | (refine Exists.intro _ (And.intro rfl ?_)))
      all_goals try first | (with_reducible change am_tI _ _) | (change Ret _ _) | (change Ret _ _ _) | (change Exists _)
      all_goals try dsimp only at *
      all_goals try (with_reducible exact absurd ‹(1000 : Int64) = 0› am_z1000)
      all_goals exact h
    · skip
      repeat' (first | apply And.intro | exact rfl | (intro hx; exact absurd hx (by decide)) | (intro hx; exact absurd (by decide) hx) | decide | intro hx | (refine Exists.intro _ (And.intro rfl ?_)))
      all_goals try first | (with_reducible change am_tI _ _) | (change Ret _ _) | (change Ret _ _ _) | (change Exists _)
      all_goals try dsimp only at *
      all_goals try (with_reducible exact absurd ‹(1000 : Int64) = 0› am_z1000)
      all_goals exact h
  · exact h.elim
def q_bo (b : Int32) (o : Option Nat) : Prop := match o with
  | none => b = -1
  | some i => b.toInt = 2478 + 6 * (i : Int)
theorem q_bo.n {b : Int32} (h : q_bo b none) : b = -1 := h
theorem q_bo.s {b : Int32} {i : Nat} (h : q_bo b (some i)) : b.toInt = 2478 + 6 * (i : Int) := h
theorem q_R_s1 {A : Nat → Int32} {bg pl w : Int32} {y : Int} {m : Nat} (h : ¬ (q_mt A bg pl w m = true ∧ (A (6 * m + 3)).toInt ≤ y)) : q_R A bg pl w y (m + 1) = q_R A bg pl w y m := by
  conv => lhs; unfold q_R
  split
  · next e => rw [if_neg h, e]
  · next b e => rw [if_neg (fun z => h z.1), e]
theorem q_R_s2 {A : Nat → Int32} {bg pl w : Int32} {y : Int} {m : Nat} (h : q_mt A bg pl w m = true ∧ (A (6 * m + 3)).toInt ≤ y) (e : q_R A bg pl w y m = none) : q_R A bg pl w y (m + 1) = some m := by
  conv => lhs; unfold q_R
  rw [e]
  exact if_pos h
theorem q_R_s3 {A : Nat → Int32} {bg pl w : Int32} {y : Int} {m b : Nat} (h : q_mt A bg pl w m = true ∧ (A (6 * m + 3)).toInt ≤ y) (e : q_R A bg pl w y m = some b) (hb : (A (6 * b + 3)).toInt ≤ (A (6 * m + 3)).toInt) : q_R A bg pl w y (m + 1) = some m := by
  conv => lhs; unfold q_R
  rw [e]
  exact if_pos ⟨h, hb⟩
theorem q_R_s4 {A : Nat → Int32} {bg pl w : Int32} {y : Int} {m b : Nat} (e : q_R A bg pl w y m = some b) (hb : ¬ (A (6 * b + 3)).toInt ≤ (A (6 * m + 3)).toInt) : q_R A bg pl w y (m + 1) = some b := by
  conv => lhs; unfold q_R
  rw [e]
  exact if_neg (fun z => hb z.2)
def kX8_inForceE (live : am_E) (Ret : am_R) : am_code := [(0, am_const (.int (-1)) 1), (1, am_istore 5 9 3), (3, am_const (.int 2478) 6), (6, am_istore 6 9 8), (8, am_iload 6 10), (10, am_const (.int 2478) 13), (13, am_const (.int 6) 15), (15, am_aload 0 16), (16, am_getR live 8 0 19), (19, am_const (.int 2) 20), (20, am_ald live 0 21), (21, am_i2 (fun x y => x * y) 22), (22, am_i2 (fun x y => x + y) 23), (23, am_if2 (fun x y => y ≤ x) 165 26), (26, am_aload 0 27), (27, am_getR live 8 0 30), (30, am_iload 6 32), (32, am_ald live 0 33), (33, am_iload 1 34), (34, am_if2 (fun x y => x = y) 37 68), (37, am_aload 0 38), (38, am_getR live 8 0 41), (41, am_iload 6 43), (43, am_const (.int 1) 44), (44, am_i2 (fun x y => x + y) 45), (45, am_ald live 0 46), (46, am_iload 2 47), (47, am_if2 (fun x y => x = y) 50 68), (50, am_aload 0 51), (51, am_getR live 8 0 54), (54, am_iload 6 56), (56, am_const (.int 3) 57), (57, am_i2 (fun x y => x + y) 58), (58, am_ald live 0 59), (59, am_iload 4 61), (61, am_if2 (fun x y => y < x) 68 64), (64, am_const (.int 1) 65), (65, am_goto 69), (68, am_const (.int 0) 69), (69, am_istore 7 9 71), (71, am_iload 7 73), (73, am_if1 (fun x => x = 0) 116 76), (76, am_aload 0 77), (77, am_getR live 8 0 80), (80, am_const (.int 10) 82), (82, am_iload 3 83), (83, am_i2 (fun x y => x + y) 84), (84, am_ald live 0 85), (85, am_i2l 86), (86, am_aload 0 87), (87, am_getR live 8 0 90), (90, am_iload 6 92), (92, am_const (.int 4) 93), (93, am_i2 (fun x y => x + y) 94), (94, am_ald live 0 95), (95, am_i2l 96), (96, am_aload 0 97), (97, am_getR live 8 0 100), (100, am_iload 6 102), (102, am_const (.int 5) 103), (103, am_i2 (fun x y => x + y) 104), (104, am_ald live 0 105), (105, am_i2l 106), (106, am_callS live 3 TX8_in 109), (109, am_if1 (fun x => x = 0) 116 112), (112, am_const (.int 1) 113), (113, am_goto 117), (116, am_const (.int 0) 117), (117, am_istore 8 9 119), (119, am_iload 8 121), (121, am_if1 (fun x => x = 0) 155 124), (124, am_iload 5 126), (126, am_if1 (fun x => x < 0) 150 129), (129, am_aload 0 130), (130, am_getR live 8 0 133), (133, am_iload 6 135), (135, am_const (.int 3) 136), (136, am_i2 (fun x y => x + y) 137), (137, am_ald live 0 138), (138, am_aload 0 139), (139, am_getR live 8 0 142), (142, am_iload 5 144), (144, am_const (.int 3) 145), (145, am_i2 (fun x y => x + y) 146), (146, am_ald live 0 147), (147, am_if2 (fun x y => x < y) 155 150), (150, am_iload 6 152), (152, am_goto 157), (155, am_iload 5 157), (157, am_istore 5 9 159), (159, am_iinc 6 9 6 162), (162, am_goto 8), (165, am_aload 0 166), (166, am_getI live 8 3 169), (169, am_iload 1 170), (170, am_if2 (fun x y => x = y) 173 215), (173, am_aload 0 174), (174, am_getI live 8 4 177), (177, am_iload 2 178), (178, am_if2 (fun x y => x = y) 181 215), (181, am_iload 4 183), (183, am_aload 0 184), (184, am_getI live 8 6 187), (187, am_if2 (fun x y => x < y) 215 190), (190, am_iload 5 192), (192, am_if1 (fun x => x < 0) 211 195), (195, am_aload 0 196), (196, am_getR live 8 0 199), (199, am_iload 5 201), (201, am_const (.int 3) 202), (202, am_i2 (fun x y => x + y) 203), (203, am_ald live 0 204), (204, am_aload 0 205), (205, am_getI live 8 6 208), (208, am_if2 (fun x y => y < x) 215 211), (211, am_const (.int 1) 212), (212, am_goto 216), (215, am_const (.int 0) 216), (216, am_istore 6 9 218), (218, am_iload 6 220), (220, am_if1 (fun x => x = 0) 230 223), (223, am_aload 0 224), (224, am_getI live 8 5 227), (227, am_goto 251), (230, am_iload 5 232), (232, am_if1 (fun x => 0 ≤ x) 242 235), (235, am_iload 2 236), (236, am_callS live 1 TE8_atFirst 239), (239, am_goto 251), (242, am_aload 0 243), (243, am_getR live 8 0 246), (246, am_iload 5 248), (248, am_const (.int 2) 249), (249, am_i2 (fun x y => x + y) 250), (250, am_ald live 0 251), (251, am_retI Ret)]
theorem koX8_inForceE (live : am_E) (Ret : am_R) : ∀ q ∈ kX8_inForceE live Ret, am_ok RX8 cX8_inForce 9 (some .int) 1 25 live Ret q.1 q.2 :=
  am_kz dzX8_inForce <|
  am_kd (fun d => ak_iconst d (by decide +kernel) rfl) <|
  am_kd (fun d => ak_istore d rfl) <|
  am_kd (fun d => ak_sipush d (by decide +kernel) rfl) <|
  am_kd (fun d => ak_istore d rfl) <|
  am_kd (fun d => ak_iload d rfl) <|
  am_kd (fun d => ak_sipush d (by decide +kernel) rfl) <|
  am_kd (fun d => ak_bipush d (by decide +kernel) rfl) <|
  am_kd (fun d => ak_aload_n d rfl rfl) <|
  am_kd (fun d => ak_getR (C := RX8) (T := TX8) (N := 27) rfl inX8w (by decide) rfl rfl rfl wd_895 d rfl) <|
  am_kd (fun d => ak_iconst d (by decide +kernel) rfl) <|
  am_kd (fun d => ak_iald (t := 0) (fun _ => rfl) rfl d rfl) <|
  am_kd (fun d => ak_imul d rfl) <|
  am_kd (fun d => ak_iadd d rfl) <|
  am_kd (fun d => ak_icmp_ge d (by decide +kernel) rfl) <|
  am_kd (fun d => ak_aload_n d rfl rfl) <|
  am_kd (fun d => ak_getR (C := RX8) (T := TX8) (N := 27) rfl inX8w (by decide) rfl rfl rfl wd_895 d rfl) <|
  am_kd (fun d => ak_iload d rfl) <|
  am_kd (fun d => ak_iald (t := 0) (fun _ => rfl) rfl d rfl) <|
  am_kd (fun d => ak_iload_n d rfl rfl) <|
  am_kd (fun d => ak_icmp_ne d (by decide +kernel) rfl) <|
  am_kd (fun d => ak_aload_n d rfl rfl) <|
  am_kd (fun d => ak_getR (C := RX8) (T := TX8) (N := 27) rfl inX8w (by decide) rfl rfl rfl wd_895 d rfl) <|
  am_kd (fun d => ak_iload d rfl) <|
  am_kd (fun d => ak_iconst d (by decide +kernel) rfl) <|
  am_kd (fun d => ak_iadd d rfl) <|
  am_kd (fun d => ak_iald (t := 0) (fun _ => rfl) rfl d rfl) <|
  am_kd (fun d => ak_iload_n d rfl rfl) <|
  am_kd (fun d => ak_icmp_ne d (by decide +kernel) rfl) <|
  am_kd (fun d => ak_aload_n d rfl rfl) <|
  am_kd (fun d => ak_getR (C := RX8) (T := TX8) (N := 27) rfl inX8w (by decide) rfl rfl rfl wd_895 d rfl) <|
  am_kd (fun d => ak_iload d rfl) <|
  am_kd (fun d => ak_iconst d (by decide +kernel) rfl) <|
  am_kd (fun d => ak_iadd d rfl) <|
  am_kd (fun d => ak_iald (t := 0) (fun _ => rfl) rfl d rfl) <|
  am_kd (fun d => ak_iload d rfl) <|
  am_kd (fun d => ak_icmp_gt d (by decide +kernel) rfl) <|
  am_kd (fun d => ak_iconst d (by decide +kernel) rfl) <|
  am_kd (fun d => ak_goto d (by decide +kernel)) <|
  am_kd (fun d => ak_iconst d (by decide +kernel) rfl) <|
  am_kd (fun d => ak_istore d rfl) <|
  am_kd (fun d => ak_iload d rfl) <|
  am_kd (fun d => ak_if_eq d (by decide +kernel) rfl) <|
  am_kd (fun d => ak_aload_n d rfl rfl) <|
  am_kd (fun d => ak_getR (C := RX8) (T := TX8) (N := 27) rfl inX8w (by decide) rfl rfl rfl wd_895 d rfl) <|
  am_kd (fun d => ak_bipush d (by decide +kernel) rfl) <|
  am_kd (fun d => ak_iload_n d rfl rfl) <|
  am_kd (fun d => ak_iadd d rfl) <|
  am_kd (fun d => ak_iald (t := 0) (fun _ => rfl) rfl d rfl) <|
  am_kd (fun d => ak_i2l d rfl) <|
  am_kd (fun d => ak_aload_n d rfl rfl) <|
  am_kd (fun d => ak_getR (C := RX8) (T := TX8) (N := 27) rfl inX8w (by decide) rfl rfl rfl wd_895 d rfl) <|
  am_kd (fun d => ak_iload d rfl) <|
  am_kd (fun d => ak_iconst d (by decide +kernel) rfl) <|
  am_kd (fun d => ak_iadd d rfl) <|
  am_kd (fun d => ak_iald (t := 0) (fun _ => rfl) rfl d rfl) <|
  am_kd (fun d => ak_i2l d rfl) <|
  am_kd (fun d => ak_aload_n d rfl rfl) <|
  am_kd (fun d => ak_getR (C := RX8) (T := TX8) (N := 27) rfl inX8w (by decide) rfl rfl rfl wd_895 d rfl) <|
  am_kd (fun d => ak_iload d rfl) <|
  am_kd (fun d => ak_iconst d (by decide +kernel) rfl) <|
  am_kd (fun d => ak_iadd d rfl) <|
  am_kd (fun d => ak_iald (t := 0) (fun _ => rfl) rfl d rfl) <|
  am_kd (fun d => ak_i2l d rfl) <|
  am_kd (fun d => ak_callS metX8_in ⟨rfl, hy_X8_in⟩ (am_w4 wd_986 wd_987 wd_67 wd_988) (by decide) d rfl) <|
  am_kd (fun d => ak_if_eq d (by decide +kernel) rfl) <|
  am_kd (fun d => ak_iconst d (by decide +kernel) rfl) <|
  am_kd (fun d => ak_goto d (by decide +kernel)) <|
  am_kd (fun d => ak_iconst d (by decide +kernel) rfl) <|
  am_kd (fun d => ak_istore d rfl) <|
  am_kd (fun d => ak_iload d rfl) <|
  am_kd (fun d => ak_if_eq d (by decide +kernel) rfl) <|
  am_kd (fun d => ak_iload d rfl) <|
  am_kd (fun d => ak_if_lt d (by decide +kernel) rfl) <|
  am_kd (fun d => ak_aload_n d rfl rfl) <|
  am_kd (fun d => ak_getR (C := RX8) (T := TX8) (N := 27) rfl inX8w (by decide) rfl rfl rfl wd_895 d rfl) <|
  am_kd (fun d => ak_iload d rfl) <|
  am_kd (fun d => ak_iconst d (by decide +kernel) rfl) <|
  am_kd (fun d => ak_iadd d rfl) <|
  am_kd (fun d => ak_iald (t := 0) (fun _ => rfl) rfl d rfl) <|
  am_kd (fun d => ak_aload_n d rfl rfl) <|
  am_kd (fun d => ak_getR (C := RX8) (T := TX8) (N := 27) rfl inX8w (by decide) rfl rfl rfl wd_895 d rfl) <|
  am_kd (fun d => ak_iload d rfl) <|
  am_kd (fun d => ak_iconst d (by decide +kernel) rfl) <|
  am_kd (fun d => ak_iadd d rfl) <|
  am_kd (fun d => ak_iald (t := 0) (fun _ => rfl) rfl d rfl) <|
  am_kd (fun d => ak_icmp_lt d (by decide +kernel) rfl) <|
  am_kd (fun d => ak_iload d rfl) <|
  am_kd (fun d => ak_goto d (by decide +kernel)) <|
  am_kd (fun d => ak_iload d rfl) <|
  am_kd (fun d => ak_istore d rfl) <|
  am_kd (fun d => ak_iinc d (by decide +kernel) rfl) <|
  am_kd (fun d => ak_goto d (by decide +kernel)) <|
  am_kd (fun d => ak_aload_n d rfl rfl) <|
  am_kd (fun d => ak_getI (C := RX8) (T := TX8) (N := 27) rfl inX8w (by decide) rfl rfl rfl wd_898 d rfl) <|
  am_kd (fun d => ak_iload_n d rfl rfl) <|
  am_kd (fun d => ak_icmp_ne d (by decide +kernel) rfl) <|
  am_kd (fun d => ak_aload_n d rfl rfl) <|
  am_kd (fun d => ak_getI (C := RX8) (T := TX8) (N := 27) rfl inX8w (by decide) rfl rfl rfl wd_899 d rfl) <|
  am_kd (fun d => ak_iload_n d rfl rfl) <|
  am_kd (fun d => ak_icmp_ne d (by decide +kernel) rfl) <|
  am_kd (fun d => ak_iload d rfl) <|
  am_kd (fun d => ak_aload_n d rfl rfl) <|
  am_kd (fun d => ak_getI (C := RX8) (T := TX8) (N := 27) rfl inX8w (by decide) rfl rfl rfl wd_901 d rfl) <|
  am_kd (fun d => ak_icmp_lt d (by decide +kernel) rfl) <|
  am_kd (fun d => ak_iload d rfl) <|
  am_kd (fun d => ak_if_lt d (by decide +kernel) rfl) <|
  am_kd (fun d => ak_aload_n d rfl rfl) <|
  am_kd (fun d => ak_getR (C := RX8) (T := TX8) (N := 27) rfl inX8w (by decide) rfl rfl rfl wd_895 d rfl) <|
  am_kd (fun d => ak_iload d rfl) <|
  am_kd (fun d => ak_iconst d (by decide +kernel) rfl) <|
  am_kd (fun d => ak_iadd d rfl) <|
  am_kd (fun d => ak_iald (t := 0) (fun _ => rfl) rfl d rfl) <|
  am_kd (fun d => ak_aload_n d rfl rfl) <|
  am_kd (fun d => ak_getI (C := RX8) (T := TX8) (N := 27) rfl inX8w (by decide) rfl rfl rfl wd_901 d rfl) <|
  am_kd (fun d => ak_icmp_gt d (by decide +kernel) rfl) <|
  am_kd (fun d => ak_iconst d (by decide +kernel) rfl) <|
  am_kd (fun d => ak_goto d (by decide +kernel)) <|
  am_kd (fun d => ak_iconst d (by decide +kernel) rfl) <|
  am_kd (fun d => ak_istore d rfl) <|
  am_kd (fun d => ak_iload d rfl) <|
  am_kd (fun d => ak_if_eq d (by decide +kernel) rfl) <|
  am_kd (fun d => ak_aload_n d rfl rfl) <|
  am_kd (fun d => ak_getI (C := RX8) (T := TX8) (N := 27) rfl inX8w (by decide) rfl rfl rfl wd_900 d rfl) <|
  am_kd (fun d => ak_goto d (by decide +kernel)) <|
  am_kd (fun d => ak_iload d rfl) <|
  am_kd (fun d => ak_if_ge d (by decide +kernel) rfl) <|
  am_kd (fun d => ak_iload_n d rfl rfl) <|
  am_kd (fun d => ak_callS metX8_atFirstE ⟨rfl, hy_X8_atFirst⟩ (am_w4 wd_1057 wd_1058 wd_67 wd_1059) (by decide) d rfl) <|
  am_kd (fun d => ak_goto d (by decide +kernel)) <|
  am_kd (fun d => ak_aload_n d rfl rfl) <|
  am_kd (fun d => ak_getR (C := RX8) (T := TX8) (N := 27) rfl inX8w (by decide) rfl rfl rfl wd_895 d rfl) <|
  am_kd (fun d => ak_iload d rfl) <|
  am_kd (fun d => ak_iconst d (by decide +kernel) rfl) <|
  am_kd (fun d => ak_iadd d rfl) <|
  am_kd (fun d => ak_iald (t := 0) (fun _ => rfl) rfl d rfl) <|
  am_kd (fun d => ak_retI d) <| am_kdn
def TE8_inForce : am_T := fun live as M R => match as with
  | [.ref n, .int pl, .int w, .int p, .int y] => am_mn live ∧ n = 200 ∧ am_in w 6 ∧ am_in p 12 ∧ r_I M ∧ R (some (.int (r_inF M pl w p y))) M
  | _ => False
abbrev q_Rm (M : am_M) (pl w p y : Int32) (j : Nat) : Option Nat := q_R (r_A M) (M.1 201 (10 + p.toNatClampNeg)) pl w y.toInt j
def q_is (M : am_M) (pl w y : Int32) (j : Nat) : Int32 := if r_A M (6 * j) = pl ∧ r_A M (6 * j + 1) = w ∧ (r_A M (6 * j + 3)).toInt ≤ y.toInt then 1 else 0
def q_may (M : am_M) (pl w p y : Int32) (j : Nat) : Int32 := if q_mt (r_A M) (M.1 201 (10 + p.toNatClampNeg)) pl w j = true ∧ (r_A M (6 * j + 3)).toInt ≤ y.toInt then 1 else 0
def q_trs (M : am_M) (pl w p y : Int32) : Int32 := if M.1 200 3 = pl ∧ M.1 200 4 = w ∧ (M.1 200 6).toInt ≤ y.toInt ∧ q_le (r_A M) (q_Rm M pl w p y (M.1 201 2).toNatClampNeg) (M.1 200 6) = true then 1 else 0
def JE8_inForce : am_E → List Value → am_M → am_R → am_inv := fun live as M0 _ pc => match as with
  | [.ref n, .int pl, .int w, .int p, .int y] => (match pc with
    | 8 => some ([0, 1, 2, 3, 4, 5, 6], fun k L st M => ∃ (b a : Int32) (j : Nat), L = [(0, .ref 200), (1, .int pl), (2, .int w), (3, .int p), (4, .int y), (5, .int b), (6, .int a)] ∧ st = [] ∧ k = (100 - j, 9) ∧ a.toInt = 2478 + 6 * (j : Int) ∧ j ≤ (M0.1 201 2).toNatClampNeg ∧ q_bo b (q_Rm M0 pl w p y j) ∧ M = M0)
    | 71 => some ([0, 1, 2, 3, 4, 5, 6, 7], fun k L st M => ∃ (b a i : Int32) (j : Nat), L = [(0, .ref 200), (1, .int pl), (2, .int w), (3, .int p), (4, .int y), (5, .int b), (6, .int a), (7, .int i)] ∧ st = [] ∧ k = (100 - j, 8) ∧ a.toInt = 2478 + 6 * (j : Int) ∧ j < (M0.1 201 2).toNatClampNeg ∧ q_bo b (q_Rm M0 pl w p y j) ∧ i = q_is M0 pl w y j ∧ M = M0)
    | 119 => some ([0, 1, 2, 3, 4, 5, 6, 8], fun k L st M => ∃ (b a i : Int32) (j : Nat), L = [(0, .ref 200), (1, .int pl), (2, .int w), (3, .int p), (4, .int y), (5, .int b), (6, .int a), (8, .int i)] ∧ st = [] ∧ k = (100 - j, 7) ∧ a.toInt = 2478 + 6 * (j : Int) ∧ j < (M0.1 201 2).toNatClampNeg ∧ q_bo b (q_Rm M0 pl w p y j) ∧ i = q_may M0 pl w p y j ∧ M = M0)
    | 165 => some ([0, 1, 2, 4, 5], fun k L st M => ∃ b : Int32, L = [(0, .ref 200), (1, .int pl), (2, .int w), (4, .int y), (5, .int b)] ∧ st = [] ∧ k = (0, 9) ∧ q_bo b (q_Rm M0 pl w p y (M0.1 201 2).toNatClampNeg) ∧ M = M0)
    | 218 => some ([0, 2, 5, 6], fun k L st M => ∃ b i : Int32, L = [(0, .ref 200), (2, .int w), (5, .int b), (6, .int i)] ∧ st = [] ∧ k = (0, 8) ∧ q_bo b (q_Rm M0 pl w p y (M0.1 201 2).toNatClampNeg) ∧ i = q_trs M0 pl w p y ∧ M = M0)
    | _ => none)
  | _ => none
set_option maxRecDepth 100000 in
set_option maxHeartbeats 4000000 in
theorem metX8_inForceE : am_Met yX8_inForce cX8_inForce 9 (some .int) (1) (25) TE8_inForce := by
  refine am_met (own := RX8) (by decide +kernel) rfl kX8_inForceE koX8_inForceE 100 JE8_inForce ?_ ?_
  · intro live as M Ret h
    unfold TE8_inForce at h
    split at h
    · next n pl w p y =>
      refine ⟨Nat.le_of_ble_eq_true rfl, ?_⟩
      change am_wp _ _ _ _ [(0, Value.ref n), (1, Value.int pl), (2, Value.int w), (3, Value.int p), (4, Value.int y)] _ _
      obtain ⟨hmn, rfl, hw, hp, hR, h⟩ := h
      repeat' (first | apply And.intro | exact rfl | intro hx | (refine Exists.intro _ (And.intro rfl ?_)))
      all_goals try first | (with_reducible change am_tI _ _) | (change Ret _ _) | (change Ret _ _ _) | (change Exists _)
      all_goals try dsimp only at *
      all_goals try (with_reducible exact absurd ‹(1000 : Int64) = 0› am_z1000)
      exact ⟨_, _, _, 0, rfl, rfl, rfl, rfl, Nat.zero_le _, rfl, rfl⟩
    · exact h.elim
  · intro live as M0 Ret h k pc I hI L st M hi
    unfold TE8_inForce at h
    split at h
    · next n pl w p y =>
      obtain ⟨hmn, rfl, hw, hp, hR, h⟩ := h
      have hmn2 := hmn
      obtain ⟨i1, i2, rfl⟩ := hmn2
      have l201 : am_len 201 = 3760 := rfl
      have p1 := hp.1
      have p2 := hp.2
      have n2 : 0 ≤ (M0.1 201 (Int32.toNatClampNeg 2)).toInt ∧ (M0.1 201 (Int32.toNatClampNeg 2)).toInt ≤ 60 := hR.n2
      have cn : ((M0.1 201 2).toNatClampNeg : Int) = (M0.1 201 (Int32.toNatClampNeg 2)).toInt := i_clamp n2.1
      have e6 := r_mul (c := 6) (x := M0.1 201 (Int32.toNatClampNeg 2)) ⟨by decide, by decide⟩ ⟨n2.1, by omega⟩
      simp only [Int32.reduceToInt] at e6
      have e24 := r_off (c := 2478) (x := 6 * M0.1 201 (Int32.toNatClampNeg 2)) ⟨by decide, by decide⟩ ⟨by omega, by omega⟩
      simp only [e6, Int32.reduceToInt] at e24
      have e10 := r_off (c := 10) (x := p) ⟨by decide, by decide⟩ ⟨by omega, by omega⟩
      simp only [Int32.reduceToInt] at e10
      have c10 : (10 + p).toNatClampNeg = 10 + p.toNatClampNeg := by
        have c1 := i_clamp (x := 10 + p) (by omega)
        have c2 := i_clamp p1
        omega
      have aa : ∀ {a c : Int32} {j k : Nat}, a.toInt = 2478 + 6 * (j : Int) → j < 60 → c.toInt = (k : Int) → k < 6 → (a + c).toInt = 2478 + 6 * (j : Int) + k ∧ (a + c).toNatClampNeg = 2478 + (6 * j + k) := fun {a c j k} h1 h2 h3 h4 => by
        have e := i_add (x := a) (y := c) (by omega) (by omega)
        have c1 := i_clamp (x := a + c) (by omega)
        omega
      have a0 : ∀ {a : Int32} {j : Nat}, a.toInt = 2478 + 6 * (j : Int) → a.toNatClampNeg = 2478 + 6 * j := fun {a j} h1 => by
        have c1 := i_clamp (x := a) (by omega)
        omega
      change (match pc with | 8 => _ | 71 => _ | 119 => _ | 165 => _ | 218 => _ | _ => none) = _ at hI
      split at hI
      · cases hI
        obtain ⟨b, a, j, rfl, rfl, rfl, ea, hj, hb, rfl⟩ := hi
        by_cases hz : 2478 + 6 * M.1 201 (Int32.toNatClampNeg 2) ≤ a
        · have hz2 := hz
          simp only [i_le] at hz2
          have ej : j = (M.1 201 2).toNatClampNeg := by omega
          rw [ej] at hb
          repeat' (first | apply And.intro | exact rfl | (intro hx; with_reducible exact absurd hz hx) | (intro hx; exact absurd hx (by decide)) | (intro hx; exact absurd (by decide) hx) | decide | intro hx | (refine Exists.intro _ (And.intro rfl ?_)))
          all_goals try first | (with_reducible change am_tI _ _) | (change Ret _ _) | (change Ret _ _ _) | (change Exists _)
          all_goals try dsimp only at *
          all_goals try (with_reducible exact absurd ‹(1000 : Int64) = 0› am_z1000)
          all_goals first
            | (show _ < _; simp only [l201]; decide)
            | exact ⟨_, am_lt_l (by omega), _, rfl, rfl, rfl, hb, rfl⟩
        · have hz2 := hz
          simp only [i_le] at hz2
          have j60 : j < 60 := by omega
          have hj2 : j < (M.1 201 2).toNatClampNeg := by omega
          obtain ⟨x1, y1⟩ := aa (c := 1) (k := 1) ea j60 rfl (by decide)
          obtain ⟨x3, y3⟩ := aa (c := 3) (k := 3) ea j60 rfl (by decide)
          have y0 := a0 ea
          have f0 : M.1 201 a.toNatClampNeg = r_A M (6 * j) := by rw [y0]; rfl
          have f1 : M.1 201 (a + 1).toNatClampNeg = r_A M (6 * j + 1) := by rw [y1]; rfl
          have f3 : M.1 201 (a + 3).toNatClampNeg = r_A M (6 * j + 3) := by rw [y3]; rfl
          by_cases z1 : M.1 201 a.toNatClampNeg = pl
          · by_cases z2 : M.1 201 (a + 1).toNatClampNeg = w
            · by_cases z3 : y < M.1 201 (a + 3).toNatClampNeg
              · have e : (0 : Int32) = q_is M pl w y j := (if_neg (fun q => by have q3 := q.2.2; simp only [i_lt, f3] at z3; omega)).symm
                repeat' (first | apply And.intro | exact rfl | (intro hx; with_reducible exact absurd hx hz) | (intro hx; with_reducible exact absurd z1 hx) | (intro hx; with_reducible exact absurd z2 hx) | (intro hx; with_reducible exact absurd z3 hx) | (intro hx; exact absurd hx (by decide)) | (intro hx; exact absurd (by decide) hx) | decide | intro hx | (refine Exists.intro _ (And.intro rfl ?_)))
                all_goals try first | (with_reducible change am_tI _ _) | (change Ret _ _) | (change Ret _ _ _) | (change Exists _)
                all_goals try dsimp only at *
                all_goals try (with_reducible exact absurd ‹(1000 : Int64) = 0› am_z1000)
                all_goals first
                  | (show _ < _; simp only [l201]; decide)
                  | omega
                  | (rw [l201]; omega)
                  | exact ⟨_, am_lt_r (by omega), _, _, _, j, rfl, rfl, rfl, ea, hj2, hb, e, rfl⟩
              · have e : (1 : Int32) = q_is M pl w y j := (if_pos ⟨by rw [← f0]; exact z1, by rw [← f1]; exact z2, by simp only [i_lt, f3] at z3; omega⟩).symm
                repeat' (first | apply And.intro | exact rfl | (intro hx; with_reducible exact absurd hx hz) | (intro hx; with_reducible exact absurd hx z3) | (intro hx; with_reducible exact absurd z1 hx) | (intro hx; with_reducible exact absurd z2 hx) | (intro hx; exact absurd hx (by decide)) | (intro hx; exact absurd (by decide) hx) | decide | intro hx | (refine Exists.intro _ (And.intro rfl ?_)))
                all_goals try first | (with_reducible change am_tI _ _) | (change Ret _ _) | (change Ret _ _ _) | (change Exists _)
                all_goals try dsimp only at *
                all_goals try (with_reducible exact absurd ‹(1000 : Int64) = 0› am_z1000)
                all_goals first
                  | (show _ < _; simp only [l201]; decide)
                  | omega
                  | (rw [l201]; omega)
                  | exact ⟨_, am_lt_r (by omega), _, _, _, j, rfl, rfl, rfl, ea, hj2, hb, e, rfl⟩
            · have e : (0 : Int32) = q_is M pl w y j := (if_neg (fun q => z2 (by rw [f1]; exact q.2.1))).symm
              repeat' (first | apply And.intro | exact rfl | (intro hx; with_reducible exact absurd hx hz) | (intro hx; with_reducible exact absurd hx z2) | (intro hx; with_reducible exact absurd z1 hx) | (intro hx; exact absurd hx (by decide)) | (intro hx; exact absurd (by decide) hx) | decide | intro hx | (refine Exists.intro _ (And.intro rfl ?_)))
              all_goals try first | (with_reducible change am_tI _ _) | (change Ret _ _) | (change Ret _ _ _) | (change Exists _)
              all_goals try dsimp only at *
              all_goals try (with_reducible exact absurd ‹(1000 : Int64) = 0› am_z1000)
              all_goals first
                | (show _ < _; simp only [l201]; decide)
                | omega
                | (rw [l201]; omega)
                | exact ⟨_, am_lt_r (by omega), _, _, _, j, rfl, rfl, rfl, ea, hj2, hb, e, rfl⟩
          · have e : (0 : Int32) = q_is M pl w y j := (if_neg (fun q => z1 (by rw [f0]; exact q.1))).symm
            repeat' (first | apply And.intro | exact rfl | (intro hx; with_reducible exact absurd hx hz) | (intro hx; with_reducible exact absurd hx z1) | (intro hx; exact absurd hx (by decide)) | (intro hx; exact absurd (by decide) hx) | decide | intro hx | (refine Exists.intro _ (And.intro rfl ?_)))
            all_goals try first | (with_reducible change am_tI _ _) | (change Ret _ _) | (change Ret _ _ _) | (change Exists _)
            all_goals try dsimp only at *
            all_goals try (with_reducible exact absurd ‹(1000 : Int64) = 0› am_z1000)
            all_goals first
              | (show _ < _; simp only [l201]; decide)
              | omega
              | (rw [l201]; omega)
              | exact ⟨_, am_lt_r (by omega), _, _, _, j, rfl, rfl, rfl, ea, hj2, hb, e, rfl⟩
      · cases hI
        obtain ⟨b, a, i, j, rfl, rfl, rfl, ea, hj, hb, hi, rfl⟩ := hi
        have j60 : j < 60 := by omega
        obtain ⟨x4, y4⟩ := aa (c := 4) (k := 4) ea j60 rfl (by decide)
        obtain ⟨x5, y5⟩ := aa (c := 5) (k := 5) ea j60 rfl (by decide)
        have f4 : M.1 201 (a + 4).toNatClampNeg = r_A M (6 * j + 4) := by rw [y4]; rfl
        have f5 : M.1 201 (a + 5).toNatClampNeg = r_A M (6 * j + 5) := by rw [y5]; rfl
        by_cases hC : r_A M (6 * j) = pl ∧ r_A M (6 * j + 1) = w ∧ (r_A M (6 * j + 3)).toInt ≤ y.toInt
        · rw [show q_is M pl w y j = 1 from if_pos hC] at hi
          subst hi
          by_cases zc : (M.1 201 (a + 4).toNatClampNeg).toInt64 ≤ (M.1 201 (10 + p).toNatClampNeg).toInt64 ∧ (M.1 201 (10 + p).toNatClampNeg).toInt64 ≤ (M.1 201 (a + 5).toNatClampNeg).toInt64
          · have q0 : ¬ ((if (M.1 201 (a + 4).toNatClampNeg).toInt64 ≤ (M.1 201 (10 + p).toNatClampNeg).toInt64 ∧ (M.1 201 (10 + p).toNatClampNeg).toInt64 ≤ (M.1 201 (a + 5).toNatClampNeg).toInt64 then (1 : Int32) else 0) = 0) := by rw [if_pos zc]; decide
            have e : (1 : Int32) = q_may M pl w p y j := by
              simp only [j_le, Int32.toInt_toInt64, f4, f5, c10] at zc
              exact (if_pos ⟨decide_eq_true ⟨hC.1, hC.2.1, zc.1, zc.2⟩, hC.2.2⟩).symm
            repeat' (first | apply And.intro | exact rfl | (intro hx; with_reducible exact absurd hx q0) | (intro hx; exact absurd hx (by decide)) | (intro hx; exact absurd (by decide) hx) | decide | intro hx | (refine Exists.intro _ (And.intro rfl ?_)))
            all_goals try first | (with_reducible change am_tI _ _) | (change Ret _ _) | (change Ret _ _ _) | (change Exists _)
            all_goals try dsimp only at *
            all_goals try (with_reducible exact absurd ‹(1000 : Int64) = 0› am_z1000)
            all_goals first
              | omega
              | (rw [l201]; omega)
              | exact ⟨_, am_lt_r (by omega), _, _, _, j, rfl, rfl, rfl, ea, hj, hb, e, rfl⟩
          · have q0 : (if (M.1 201 (a + 4).toNatClampNeg).toInt64 ≤ (M.1 201 (10 + p).toNatClampNeg).toInt64 ∧ (M.1 201 (10 + p).toNatClampNeg).toInt64 ≤ (M.1 201 (a + 5).toNatClampNeg).toInt64 then (1 : Int32) else 0) = 0 := if_neg zc
            have e : (0 : Int32) = q_may M pl w p y j := by
              simp only [j_le, Int32.toInt_toInt64, f4, f5, c10] at zc
              exact (if_neg (fun z => zc (of_decide_eq_true z.1).2.2)).symm
            repeat' (first | apply And.intro | exact rfl | (intro hx; with_reducible exact absurd q0 hx) | (intro hx; exact absurd hx (by decide)) | (intro hx; exact absurd (by decide) hx) | decide | intro hx | (refine Exists.intro _ (And.intro rfl ?_)))
            all_goals try first | (with_reducible change am_tI _ _) | (change Ret _ _) | (change Ret _ _ _) | (change Exists _)
            all_goals try dsimp only at *
            all_goals try (with_reducible exact absurd ‹(1000 : Int64) = 0› am_z1000)
            all_goals first
              | omega
              | (rw [l201]; omega)
              | exact ⟨_, am_lt_r (by omega), _, _, _, j, rfl, rfl, rfl, ea, hj, hb, e, rfl⟩
        · rw [show q_is M pl w y j = 0 from if_neg hC] at hi
          subst hi
          have e : (0 : Int32) = q_may M pl w p y j := (if_neg (fun z => hC ⟨(of_decide_eq_true z.1).1, (of_decide_eq_true z.1).2.1, z.2⟩)).symm
          repeat' (first | apply And.intro | exact rfl | (intro hx; exact absurd hx (by decide)) | (intro hx; exact absurd (by decide) hx) | decide | intro hx | (refine Exists.intro _ (And.intro rfl ?_)))
          all_goals try first | (with_reducible change am_tI _ _) | (change Ret _ _) | (change Ret _ _ _) | (change Exists _)
          all_goals try dsimp only at *
          all_goals try (with_reducible exact absurd ‹(1000 : Int64) = 0› am_z1000)
          all_goals first
            | omega
            | (rw [l201]; omega)
            | exact ⟨_, am_lt_r (by omega), _, _, _, j, rfl, rfl, rfl, ea, hj, hb, e, rfl⟩
      · cases hI
        obtain ⟨b, a, i, j, rfl, rfl, rfl, ea, hj, hb, hi, rfl⟩ := hi
        have j60 : j < 60 := by omega
        obtain ⟨x3, y3⟩ := aa (c := 3) (k := 3) ea j60 rfl (by decide)
        have f3 : M.1 201 (a + 3).toNatClampNeg = r_A M (6 * j + 3) := by rw [y3]; rfl
        have x6 := r_off (c := a) (x := 6) ⟨by omega, by omega⟩ ⟨by decide, by decide⟩
        simp only [Int32.reduceToInt] at x6
        by_cases hC : q_mt (r_A M) (M.1 201 (10 + p.toNatClampNeg)) pl w j = true ∧ (r_A M (6 * j + 3)).toInt ≤ y.toInt
        · rw [show q_may M pl w p y j = 1 from if_pos hC] at hi
          subst hi
          cases ho : q_Rm M pl w p y j with
          | none =>
            rw [ho] at hb
            have hb2 := hb.n
            subst hb2
            have e : q_bo a (q_Rm M pl w p y (j + 1)) := by
              rw [show q_Rm M pl w p y (j + 1) = some j from q_R_s2 hC ho]
              exact ea
            repeat' (first | apply And.intro | exact rfl | (intro hx; exact absurd hx (by decide)) | (intro hx; exact absurd (by decide) hx) | decide | intro hx | (refine Exists.intro _ (And.intro rfl ?_)))
            all_goals try first | (with_reducible change am_tI _ _) | (change Ret _ _) | (change Ret _ _ _) | (change Exists _)
            all_goals try dsimp only at *
            all_goals try (with_reducible exact absurd ‹(1000 : Int64) = 0› am_z1000)
            all_goals first
              | omega
              | (rw [l201]; omega)
              | exact ⟨_, am_lt_l (by omega), _, _, j + 1, rfl, rfl, rfl, by omega, by omega, e, rfl⟩
          | some b' =>
            rw [ho] at hb
            have hb2 := hb.s
            have hlt := (q_R_lt ho).1
            obtain ⟨u3, v3⟩ := aa (c := 3) (k := 3) hb2 (by omega) rfl (by decide)
            have g3 : M.1 201 (b + 3).toNatClampNeg = r_A M (6 * b' + 3) := by rw [v3]; rfl
            have hn : ¬ b < 0 := fun q => by simp only [i_lt, Int32.reduceToInt] at q; omega
            by_cases z : M.1 201 (a + 3).toNatClampNeg < M.1 201 (b + 3).toNatClampNeg
            · have e : q_bo b (q_Rm M pl w p y (j + 1)) := by
                rw [show q_Rm M pl w p y (j + 1) = some b' from q_R_s4 ho (by simp only [i_lt, f3, g3] at z; omega)]
                exact hb2
              repeat' (first | apply And.intro | exact rfl | (intro hx; with_reducible exact absurd hx hn) | (intro hx; with_reducible exact absurd z hx) | (intro hx; exact absurd hx (by decide)) | (intro hx; exact absurd (by decide) hx) | decide | intro hx | (refine Exists.intro _ (And.intro rfl ?_)))
              all_goals try first | (with_reducible change am_tI _ _) | (change Ret _ _) | (change Ret _ _ _) | (change Exists _)
              all_goals try dsimp only at *
              all_goals try (with_reducible exact absurd ‹(1000 : Int64) = 0› am_z1000)
              all_goals first
                | omega
                | (rw [l201]; omega)
                | exact ⟨_, am_lt_l (by omega), _, _, j + 1, rfl, rfl, rfl, by omega, by omega, e, rfl⟩
            · have e : q_bo a (q_Rm M pl w p y (j + 1)) := by
                rw [show q_Rm M pl w p y (j + 1) = some j from q_R_s3 hC ho (by simp only [i_lt, f3, g3] at z; omega)]
                exact ea
              repeat' (first | apply And.intro | exact rfl | (intro hx; with_reducible exact absurd hx hn) | (intro hx; with_reducible exact absurd hx z) | (intro hx; exact absurd hx (by decide)) | (intro hx; exact absurd (by decide) hx) | decide | intro hx | (refine Exists.intro _ (And.intro rfl ?_)))
              all_goals try first | (with_reducible change am_tI _ _) | (change Ret _ _) | (change Ret _ _ _) | (change Exists _)
              all_goals try dsimp only at *
              all_goals try (with_reducible exact absurd ‹(1000 : Int64) = 0› am_z1000)
              all_goals first
                | omega
                | (rw [l201]; omega)
                | exact ⟨_, am_lt_l (by omega), _, _, j + 1, rfl, rfl, rfl, by omega, by omega, e, rfl⟩
        · rw [show q_may M pl w p y j = 0 from if_neg hC] at hi
          subst hi
          have e : q_bo b (q_Rm M pl w p y (j + 1)) := by
            rw [show q_Rm M pl w p y (j + 1) = q_Rm M pl w p y j from q_R_s1 hC]
            exact hb
          repeat' (first | apply And.intro | exact rfl | (intro hx; exact absurd hx (by decide)) | (intro hx; exact absurd (by decide) hx) | decide | intro hx | (refine Exists.intro _ (And.intro rfl ?_)))
          all_goals try first | (with_reducible change am_tI _ _) | (change Ret _ _) | (change Ret _ _ _) | (change Exists _)
          all_goals try dsimp only at *
          all_goals try (with_reducible exact absurd ‹(1000 : Int64) = 0› am_z1000)
          all_goals first
            | omega
            | (rw [l201]; omega)
            | exact ⟨_, am_lt_l (by omega), _, _, j + 1, rfl, rfl, rfl, by omega, by omega, e, rfl⟩
      · cases hI
        obtain ⟨b, rfl, rfl, rfl, hb, rfl⟩ := hi
        by_cases z1 : M.1 200 3 = pl
        · by_cases z2 : M.1 200 4 = w
          · by_cases z3 : y < M.1 200 6
            · have e : (0 : Int32) = q_trs M pl w p y := (if_neg (fun q => by have q3 := q.2.2.1; simp only [i_lt] at z3; omega)).symm
              repeat' (first | apply And.intro | exact rfl | (intro hx; with_reducible exact absurd z1 hx) | (intro hx; with_reducible exact absurd z2 hx) | (intro hx; with_reducible exact absurd z3 hx) | (intro hx; exact absurd hx (by decide)) | (intro hx; exact absurd (by decide) hx) | decide | intro hx | (refine Exists.intro _ (And.intro rfl ?_)))
              all_goals try first | (with_reducible change am_tI _ _) | (change Ret _ _) | (change Ret _ _ _) | (change Exists _)
              all_goals try dsimp only at *
              all_goals try (with_reducible exact absurd ‹(1000 : Int64) = 0› am_z1000)
              all_goals exact ⟨_, am_lt_r (by omega), _, _, rfl, rfl, rfl, hb, e, rfl⟩
            · cases ho : q_Rm M pl w p y (M.1 201 2).toNatClampNeg with
              | none =>
                have hb0 := hb
                rw [ho] at hb0
                have hb2 := hb0.n
                subst hb2
                have e : (1 : Int32) = q_trs M pl w p y := (if_pos ⟨z1, z2, by simp only [i_lt] at z3; omega, by rw [ho]; rfl⟩).symm
                repeat' (first | apply And.intro | exact rfl | (intro hx; with_reducible exact absurd hx z3) | (intro hx; with_reducible exact absurd z1 hx) | (intro hx; with_reducible exact absurd z2 hx) | (intro hx; exact absurd hx (by decide)) | (intro hx; exact absurd (by decide) hx) | decide | intro hx | (refine Exists.intro _ (And.intro rfl ?_)))
                all_goals try first | (with_reducible change am_tI _ _) | (change Ret _ _) | (change Ret _ _ _) | (change Exists _)
                all_goals try dsimp only at *
                all_goals try (with_reducible exact absurd ‹(1000 : Int64) = 0› am_z1000)
                all_goals exact ⟨_, am_lt_r (by omega), _, _, rfl, rfl, rfl, hb, e, rfl⟩
              | some b' =>
                have hb0 := hb
                rw [ho] at hb0
                have hb2 := hb0.s
                have hlt := (q_R_lt ho).1
                obtain ⟨u3, v3⟩ := aa (c := 3) (k := 3) hb2 (by omega) rfl (by decide)
                have g3 : M.1 201 (b + 3).toNatClampNeg = r_A M (6 * b' + 3) := by rw [v3]; rfl
                have hn : ¬ b < 0 := fun q => by simp only [i_lt, Int32.reduceToInt] at q; omega
                by_cases z : M.1 200 6 < M.1 201 (b + 3).toNatClampNeg
                · have e : (0 : Int32) = q_trs M pl w p y := (if_neg (fun q => by
                    have q4 := q.2.2.2
                    rw [ho] at q4
                    have q5 : (r_A M (6 * b' + 3)).toInt ≤ (M.1 200 6).toInt := of_decide_eq_true q4
                    simp only [i_lt, g3] at z
                    omega)).symm
                  repeat' (first | apply And.intro | exact rfl | (intro hx; with_reducible exact absurd hx z3) | (intro hx; with_reducible exact absurd hx hn) | (intro hx; with_reducible exact absurd z1 hx) | (intro hx; with_reducible exact absurd z2 hx) | (intro hx; with_reducible exact absurd z hx) | (intro hx; exact absurd hx (by decide)) | (intro hx; exact absurd (by decide) hx) | decide | intro hx | (refine Exists.intro _ (And.intro rfl ?_)))
                  all_goals try first | (with_reducible change am_tI _ _) | (change Ret _ _) | (change Ret _ _ _) | (change Exists _)
                  all_goals try dsimp only at *
                  all_goals try (with_reducible exact absurd ‹(1000 : Int64) = 0› am_z1000)
                  all_goals first
                    | omega
                    | (rw [l201]; omega)
                    | exact ⟨_, am_lt_r (by omega), _, _, rfl, rfl, rfl, hb, e, rfl⟩
                · have e : (1 : Int32) = q_trs M pl w p y := (if_pos ⟨z1, z2, by simp only [i_lt] at z3; omega, by rw [ho]; exact decide_eq_true (by simp only [i_lt, g3] at z; omega)⟩).symm
                  repeat' (first | apply And.intro | exact rfl | (intro hx; with_reducible exact absurd hx z3) | (intro hx; with_reducible exact absurd hx hn) | (intro hx; with_reducible exact absurd hx z) | (intro hx; with_reducible exact absurd z1 hx) | (intro hx; with_reducible exact absurd z2 hx) | (intro hx; exact absurd hx (by decide)) | (intro hx; exact absurd (by decide) hx) | decide | intro hx | (refine Exists.intro _ (And.intro rfl ?_)))
                  all_goals try first | (with_reducible change am_tI _ _) | (change Ret _ _) | (change Ret _ _ _) | (change Exists _)
                  all_goals try dsimp only at *
                  all_goals try (with_reducible exact absurd ‹(1000 : Int64) = 0› am_z1000)
                  all_goals first
                    | omega
                    | (rw [l201]; omega)
                    | exact ⟨_, am_lt_r (by omega), _, _, rfl, rfl, rfl, hb, e, rfl⟩
          · have e : (0 : Int32) = q_trs M pl w p y := (if_neg (fun q => z2 q.2.1)).symm
            repeat' (first | apply And.intro | exact rfl | (intro hx; with_reducible exact absurd hx z2) | (intro hx; with_reducible exact absurd z1 hx) | (intro hx; exact absurd hx (by decide)) | (intro hx; exact absurd (by decide) hx) | decide | intro hx | (refine Exists.intro _ (And.intro rfl ?_)))
            all_goals try first | (with_reducible change am_tI _ _) | (change Ret _ _) | (change Ret _ _ _) | (change Exists _)
            all_goals try dsimp only at *
            all_goals try (with_reducible exact absurd ‹(1000 : Int64) = 0› am_z1000)
            all_goals exact ⟨_, am_lt_r (by omega), _, _, rfl, rfl, rfl, hb, e, rfl⟩
        · have e : (0 : Int32) = q_trs M pl w p y := (if_neg (fun q => z1 q.1)).symm
          repeat' (first | apply And.intro | exact rfl | (intro hx; with_reducible exact absurd hx z1) | (intro hx; exact absurd hx (by decide)) | (intro hx; exact absurd (by decide) hx) | decide | intro hx | (refine Exists.intro _ (And.intro rfl ?_)))
          all_goals try first | (with_reducible change am_tI _ _) | (change Ret _ _) | (change Ret _ _ _) | (change Exists _)
          all_goals try dsimp only at *
          all_goals try (with_reducible exact absurd ‹(1000 : Int64) = 0› am_z1000)
          all_goals exact ⟨_, am_lt_r (by omega), _, _, rfl, rfl, rfl, hb, e, rfl⟩
      · cases hI
        obtain ⟨b, i, rfl, rfl, rfl, hb, hi, rfl⟩ := hi
        by_cases hC : M.1 200 3 = pl ∧ M.1 200 4 = w ∧ (M.1 200 6).toInt ≤ y.toInt ∧ q_le (r_A M) (q_Rm M pl w p y (M.1 201 2).toNatClampNeg) (M.1 200 6) = true
        · rw [show q_trs M pl w p y = 1 from if_pos hC] at hi
          subst hi
          rw [show r_inF M pl w p y = M.1 200 5 from if_pos hC] at h
          repeat' (first | apply And.intro | exact rfl | (intro hx; exact absurd hx (by decide)) | (intro hx; exact absurd (by decide) hx) | decide | intro hx | (refine Exists.intro _ (And.intro rfl ?_)))
          all_goals try first | (with_reducible change am_tI _ _) | (change Ret _ _) | (change Ret _ _ _) | (change Exists _)
          all_goals try dsimp only at *
          all_goals try (with_reducible exact absurd ‹(1000 : Int64) = 0› am_z1000)
          all_goals exact h
        · rw [show q_trs M pl w p y = 0 from if_neg hC] at hi
          subst hi
          rw [show r_inF M pl w p y = q_F (r_A M) (M.1 201 2).toNatClampNeg (M.1 201 (10 + p.toNatClampNeg)) pl w y.toInt from if_neg hC] at h
          unfold q_F at h
          cases ho : q_R (r_A M) (M.1 201 (10 + p.toNatClampNeg)) pl w y.toInt (M.1 201 2).toNatClampNeg with
          | none =>
            rw [show q_Rm M pl w p y (M.1 201 2).toNatClampNeg = none from ho] at hb
            have hb2 := hb.n
            subst hb2
            rw [ho] at h
            repeat' (first | (with_reducible exact hw) | apply And.intro | exact rfl | (intro hx; exact absurd hx (by decide)) | (intro hx; exact absurd (by decide) hx) | decide | intro hx | (refine Exists.intro _ (And.intro rfl ?_)))
            all_goals try first | (with_reducible change am_tI _ _) | (change Ret _ _) | (change Ret _ _ _) | (change Exists _)
            all_goals try dsimp only at *
            all_goals try (with_reducible exact absurd ‹(1000 : Int64) = 0› am_z1000)
            all_goals exact h
          | some b' =>
            rw [show q_Rm M pl w p y (M.1 201 2).toNatClampNeg = some b' from ho] at hb
            have hb2 := hb.s
            have hlt := (q_R_lt ho).1
            rw [ho] at h
            obtain ⟨u2, v2⟩ := aa (c := 2) (k := 2) hb2 (by omega) rfl (by decide)
            have g2 : M.1 201 (b + 2).toNatClampNeg = r_A M (6 * b' + 2) := by rw [v2]; rfl
            have hn : 0 ≤ b := by simp only [i_le, Int32.reduceToInt]; omega
            have h : Ret (some (.int (r_A M (6 * b' + 2)))) M := h
            rw [← g2] at h
            repeat' (first | apply And.intro | exact rfl | (intro hx; with_reducible exact absurd hn hx) | (intro hx; exact absurd hx (by decide)) | (intro hx; exact absurd (by decide) hx) | decide | intro hx | (refine Exists.intro _ (And.intro rfl ?_)))
            all_goals try first | (with_reducible change am_tI _ _) | (change Ret _ _) | (change Ret _ _ _) | (change Exists _)
            all_goals try dsimp only at *
            all_goals try (with_reducible exact absurd ‹(1000 : Int64) = 0› am_z1000)
            all_goals first
              | omega
              | (rw [l201]; omega)
              | (with_reducible exact h)
              | exact h
      · cases hI
    · exact h.elim
end
-- part 77.exact2.lean.txt
section
/-! exact: what is in force: the class -/
def q_L (A : Nat → Int32) (bg pl w : Int32) (y : Int) : Nat → Option Nat
  | 0 => none
  | i + 1 => if q_mt A bg pl w i = true ∧ (A (6 * i + 3)).toInt = y then some i else q_L A bg pl w y i
theorem q_L_lt {A : Nat → Int32} {bg pl w : Int32} {y : Int} : ∀ {m b}, q_L A bg pl w y m = some b → b < m ∧ (A (6 * b + 3)).toInt = y
  | 0, _, h => by cases h
  | m + 1, b, h => by
    unfold q_L at h
    split at h
    · next z => cases h; exact ⟨by omega, z.2⟩
    · have ih := q_L_lt h
      exact ⟨by omega, ih.2⟩
theorem q_L_R {A : Nat → Int32} {bg pl w : Int32} {y : Int} : ∀ m, q_R A bg pl w y m = (match q_L A bg pl w y m with | some b => some b | none => q_R A bg pl w (y - 1) m)
  | 0 => rfl
  | m + 1 => by
    have ih := q_L_R (A := A) (bg := bg) (pl := pl) (w := w) (y := y) m
    by_cases hm : q_mt A bg pl w m = true
    · by_cases h1 : (A (6 * m + 3)).toInt = y
      · have e1 : q_L A bg pl w y (m + 1) = some m := if_pos ⟨hm, h1⟩
        rw [e1]
        cases ho : q_R A bg pl w y m with
        | none => exact q_R_s2 ⟨hm, by omega⟩ ho
        | some b => exact q_R_s3 ⟨hm, by omega⟩ ho (by have := (q_R_lt ho).2.2; omega)
      · have e1 : q_L A bg pl w y (m + 1) = q_L A bg pl w y m := if_neg (fun z => h1 z.2)
        rw [e1]
        by_cases h2 : (A (6 * m + 3)).toInt ≤ y
        · cases hl : q_L A bg pl w y m with
          | some b =>
            rw [hl] at ih
            exact q_R_s4 ih (by have := (q_L_lt hl).2; omega)
          | none =>
            rw [hl] at ih
            dsimp only at ih ⊢
            cases ho : q_R A bg pl w (y - 1) m with
            | none =>
              rw [ho] at ih
              rw [q_R_s2 ⟨hm, h2⟩ ih, q_R_s2 ⟨hm, by omega⟩ ho]
            | some b =>
              rw [ho] at ih
              by_cases h3 : (A (6 * b + 3)).toInt ≤ (A (6 * m + 3)).toInt
              · rw [q_R_s3 ⟨hm, h2⟩ ih h3, q_R_s3 ⟨hm, by omega⟩ ho h3]
              · rw [q_R_s4 ih h3, q_R_s4 ho h3]
        · rw [q_R_s1 (fun z => h2 z.2), q_R_s1 (y := y - 1) (fun z => by have := z.2; omega)]
          exact ih
    · have e1 : q_L A bg pl w y (m + 1) = q_L A bg pl w y m := if_neg (fun z => hm z.1)
      rw [e1, q_R_s1 (fun z => hm z.1), q_R_s1 (y := y - 1) (fun z => hm z.1)]
      exact ih
theorem q_R_neg {A : Nat → Int32} {bg pl w : Int32} {y : Int} (h : ∀ i, 0 ≤ (A (6 * i + 3)).toInt) (hy : y < 0) : ∀ m, q_R A bg pl w y m = none
  | 0 => rfl
  | m + 1 => by
    rw [q_R_s1 (fun z => by have := z.2; have := h m; omega)]
    exact q_R_neg h hy m
theorem q_R_neg2 {A : Nat → Int32} {bg pl w : Int32} {y : Int} (hy : y < 0) : ∀ m, (∀ i, i < m → 0 ≤ (A (6 * i + 3)).toInt) → q_R A bg pl w y m = none
  | 0, _ => rfl
  | m + 1, h => by
    rw [q_R_s1 (fun z => by have := z.2; have := h m (by omega); omega)]
    exact q_R_neg2 hy m (fun i hi => h i (by omega))
/-- a year's number, the first acts of the year laid -/
def q_V (A : Nat → Int32) (n : Nat) (bg pl w : Int32) (y : Int) (i : Nat) : Int32 := match q_L A bg pl w y i with
  | some a => A (6 * a + 2)
  | none => q_F A n bg pl w (y - 1)
theorem q_V_n (A : Nat → Int32) (n : Nat) (bg pl w : Int32) (y : Int) : q_V A n bg pl w y n = q_F A n bg pl w y := by
  unfold q_V
  conv => rhs; unfold q_F
  rw [q_L_R n]
  cases q_L A bg pl w y n with
  | some a => rfl
  | none => rfl
theorem q_V_0 (A : Nat → Int32) (n : Nat) (bg pl w : Int32) (y : Int) : q_V A n bg pl w y 0 = q_F A n bg pl w (y - 1) := rfl
theorem q_V_y {A : Nat → Int32} {n : Nat} {bg pl w : Int32} {y : Int} {i : Nat} (h : q_mt A bg pl w i = true ∧ (A (6 * i + 3)).toInt = y) : q_V A n bg pl w y (i + 1) = A (6 * i + 2) := by
  unfold q_V
  rw [show q_L A bg pl w y (i + 1) = some i from if_pos h]
theorem q_V_s {A : Nat → Int32} {n : Nat} {bg pl w : Int32} {y : Int} {i : Nat} (h : ¬ (q_mt A bg pl w i = true ∧ (A (6 * i + 3)).toInt = y)) : q_V A n bg pl w y (i + 1) = q_V A n bg pl w y i := by
  unfold q_V
  rw [show q_L A bg pl w y (i + 1) = q_L A bg pl w y i from if_neg h]
theorem q_F_neg {A : Nat → Int32} {n : Nat} {bg pl w : Int32} {y : Int} (hy : y < 0) (h : ∀ i, i < n → 0 ≤ (A (6 * i + 3)).toInt) : q_F A n bg pl w y = am_sf 0 w.toNatClampNeg := by
  unfold q_F
  rw [q_R_neg2 hy n h]
/-- the class's acts: as wide as they must be, their plans and numbers are such -/
def c_A (M : am_M) : Prop := ∃ _ : Unit, M.1 31 1 = 6 ∧ (0 ≤ (M.1 31 2).toInt ∧ (M.1 31 2).toInt ≤ 61) ∧ ∀ i : Nat, (i : Int) < (M.1 31 2).toInt → am_in (M.1 32 (6 * i)) 5 ∧ am_in (M.1 32 (6 * i + 1)) 6 ∧ 0 ≤ (M.1 32 (6 * i + 3)).toInt
theorem c_A.w {M : am_M} (h : c_A M) : M.1 31 1 = 6 := by obtain ⟨-, h, -⟩ := h; exact h
theorem c_A.n {M : am_M} (h : c_A M) : 0 ≤ (M.1 31 2).toInt ∧ (M.1 31 2).toInt ≤ 61 := by obtain ⟨-, -, h, -⟩ := h; exact h
theorem c_A.a {M : am_M} (h : c_A M) {i : Nat} (hi : (i : Int) < (M.1 31 2).toInt) : am_in (M.1 32 (6 * i)) 5 ∧ am_in (M.1 32 (6 * i + 1)) 6 ∧ 0 ≤ (M.1 32 (6 * i + 3)).toInt := by obtain ⟨-, -, -, h⟩ := h; exact h i hi
theorem c_A.cg {M N : am_M} (h : c_A M) (e1 : N.1 31 = M.1 31) (e2 : N.1 32 = M.1 32) : c_A N := by
  obtain ⟨-, a, b, c⟩ := h
  exact ⟨(), by rw [e1]; exact a, by rw [e1]; exact b, fun i hi => by rw [e2]; rw [e1] at hi; exact c i hi⟩
theorem c_at {M : am_M} {a c : Int32} {k : Nat} (hw : M.1 31 1 = 6) (ha : am_in a 61) (hc : c.toInt = (k : Int)) (hk : k < 6) : am_at (M.1 32) (am_len 32) (a * M.1 31 1 + c) = M.1 32 (6 * a.toNatClampNeg + k) := by
  have a1 := ha.1
  have a2 := ha.2
  rw [hw]
  have e := i_mul (x := a) (y := 6) (by simp only [Int32.reduceToInt]; omega) (by simp only [Int32.reduceToInt]; omega)
  simp only [Int32.reduceToInt] at e
  have e2 := i_add (x := a * 6) (y := c) (by omega) (by omega)
  have l32 : am_len 32 = 366 := rfl
  rw [am_at_in (show am_in (a * 6 + c) (am_len 32) from ⟨by omega, by rw [l32]; omega⟩)]
  have c1 := i_clamp (x := a * 6 + c) (by omega)
  have c2 := i_clamp a1
  rw [show (a * 6 + c).toNatClampNeg = 6 * a.toNatClampNeg + k by omega]
theorem c_cell {y p w : Int32} (hy : am_in y 40) (hp : am_in p 5) (hw : am_in w 6) : ((y * 5 + p) * 6 + w).toInt = 30 * y.toInt + 6 * p.toInt + w.toInt ∧ ((y * 5 + p) * 6 + w).toNatClampNeg = 30 * y.toNatClampNeg + 6 * p.toNatClampNeg + w.toNatClampNeg := by
  have y1 := hy.1
  have y2 := hy.2
  have p1 := hp.1
  have p2 := hp.2
  have w1 := hw.1
  have w2 := hw.2
  have e := i_mul (x := y) (y := 5) (by simp only [Int32.reduceToInt]; omega) (by simp only [Int32.reduceToInt]; omega)
  simp only [Int32.reduceToInt] at e
  have e2 := i_add (x := y * 5) (y := p) (by omega) (by omega)
  have e3 := i_mul (x := y * 5 + p) (y := 6) (by simp only [Int32.reduceToInt]; omega) (by simp only [Int32.reduceToInt]; omega)
  simp only [Int32.reduceToInt] at e3
  have e4 := i_add (x := (y * 5 + p) * 6) (y := w) (by omega) (by omega)
  have c1 := i_clamp (x := (y * 5 + p) * 6 + w) (by omega)
  have c2 := i_clamp y1
  have c3 := i_clamp p1
  have c4 := i_clamp w1
  exact ⟨by omega, by omega⟩
def c_lay (M : am_M) (a y b : Int32) : am_M := if (M.1 32 (6 * a.toNatClampNeg + 4)).toInt ≤ b.toInt ∧ b.toInt ≤ (M.1 32 (6 * a.toNatClampNeg + 5)).toInt then am_wI M 5 (30 * y.toNatClampNeg + 6 * (M.1 32 (6 * a.toNatClampNeg)).toNatClampNeg + (M.1 32 (6 * a.toNatClampNeg + 1)).toNatClampNeg) (M.1 32 (6 * a.toNatClampNeg + 2)) else M
def TE4_layAct : am_T := fun live as M R => match as with
  | [.ref n, .int a, .int y, .int b] => am_mn live ∧ n = 4 ∧ M.1 31 1 = 6 ∧ am_in a 61 ∧ am_in y 40 ∧ am_in (M.1 32 (6 * a.toNatClampNeg)) 5 ∧ am_in (M.1 32 (6 * a.toNatClampNeg + 1)) 6 ∧ R none (c_lay M a y b)
  | _ => False
set_option maxRecDepth 100000 in
set_option maxHeartbeats 4000000 in
theorem metX4_layActE : am_Met yX4_layAct cX4_layAct 6 none (1) (23) TE4_layAct := by
  refine am_met (own := RX4) (by decide +kernel) rfl kX4_layAct koX4_layAct 100 (fun _ _ _ _ _ => none) (fun live as M Ret h => ?_) (fun _ _ _ _ _ _ _ _ hI => by cases hI)
  unfold TE4_layAct at h
  split at h
  · next n a y b =>
    refine ⟨Nat.le_of_ble_eq_true rfl, ?_⟩
    change am_wp _ _ _ _ [(0, Value.ref n), (1, Value.int a), (2, Value.int y), (3, Value.int b)] _ _
    obtain ⟨hmn, rfl, hw, ha, hy, hpl, hwh, h⟩ := h
    have hmn2 := hmn
    obtain ⟨i1, i2, rfl⟩ := hmn2
    have l5 : am_len 5 = 1200 := rfl
    have f0 := c_at hw ha (c := 0) (k := 0) rfl (by decide)
    have f1 := c_at hw ha (c := 1) (k := 1) rfl (by decide)
    have f2 := c_at hw ha (c := 2) (k := 2) rfl (by decide)
    have f4 := c_at hw ha (c := 4) (k := 4) rfl (by decide)
    have f5 := c_at hw ha (c := 5) (k := 5) rfl (by decide)
    rw [Nat.add_zero] at f0
    rw [← f0] at hpl
    rw [← f1] at hwh
    have cc := c_cell hy hpl hwh
    have y1 := hy.1
    have y2 := hy.2
    have p1 := hpl.1
    have p2 := hpl.2
    have w1 := hwh.1
    have w2 := hwh.2
    have hc1 : ¬ (y * 5 + am_at (M.1 32) (am_len 32) (a * M.1 31 1 + 0)) * 6 + am_at (M.1 32) (am_len 32) (a * M.1 31 1 + 1) < 0 := fun q => by
      simp only [i_lt, cc.1, Int32.reduceToInt] at q
      omega
    have hc2 : ¬ Int32.ofNat (am_len 5) ≤ (y * 5 + am_at (M.1 32) (am_len 32) (a * M.1 31 1 + 0)) * 6 + am_at (M.1 32) (am_len 32) (a * M.1 31 1 + 1) := fun q => by
      have hn : (Int32.ofNat (am_len 5)).toInt = 1200 := by decide +kernel
      simp only [i_le, cc.1, hn] at q
      omega
    have hc3 : 0 ≤ ((y * 5 + am_at (M.1 32) (am_len 32) (a * M.1 31 1 + 0)) * 6 + am_at (M.1 32) (am_len 32) (a * M.1 31 1 + 1)).toInt := by omega
    have hc4 : ((y * 5 + am_at (M.1 32) (am_len 32) (a * M.1 31 1 + 0)) * 6 + am_at (M.1 32) (am_len 32) (a * M.1 31 1 + 1)).toInt < (am_len 5 : Int) := by rw [l5]; omega
    by_cases z4 : b < am_at (M.1 32) (am_len 32) (a * M.1 31 1 + 4)
    · have e : c_lay M a y b = M := if_neg (fun q => by have q1 := q.1; simp only [i_lt, f4] at z4; omega)
      rw [e] at h
      repeat' (first | (with_reducible exact hmn) | apply And.intro | exact rfl | (intro hx; with_reducible exact absurd z4 hx) | (intro hx; exact absurd hx (by decide)) | (intro hx; exact absurd (by decide) hx) | decide | intro hx | (refine Exists.intro _ (And.intro rfl ?_)))
      all_goals try first | (with_reducible change am_tI _ _) | (change Ret _ _) | (change Ret _ _ _) | (change Exists _)
      all_goals try dsimp only at *
      all_goals try (with_reducible exact absurd ‹(1000 : Int64) = 0› am_z1000)
      all_goals exact h
    · by_cases z5 : am_at (M.1 32) (am_len 32) (a * M.1 31 1 + 5) < b
      · have e : c_lay M a y b = M := if_neg (fun q => by have q1 := q.2; simp only [i_lt, f5] at z5; omega)
        rw [e] at h
        repeat' (first | (with_reducible exact hmn) | apply And.intro | exact rfl | (intro hx; with_reducible exact absurd hx z4) | (intro hx; with_reducible exact absurd z5 hx) | (intro hx; exact absurd hx (by decide)) | (intro hx; exact absurd (by decide) hx) | decide | intro hx | (refine Exists.intro _ (And.intro rfl ?_)))
        all_goals try first | (with_reducible change am_tI _ _) | (change Ret _ _) | (change Ret _ _ _) | (change Exists _)
        all_goals try dsimp only at *
        all_goals try (with_reducible exact absurd ‹(1000 : Int64) = 0› am_z1000)
        all_goals exact h
      · have e : c_lay M a y b = am_wI M 5 ((y * 5 + am_at (M.1 32) (am_len 32) (a * M.1 31 1 + 0)) * 6 + am_at (M.1 32) (am_len 32) (a * M.1 31 1 + 1)).toNatClampNeg (am_at (M.1 32) (am_len 32) (a * M.1 31 1 + 2)) := by
          rw [cc.2, f0, f1, f2]
          exact if_pos ⟨by simp only [i_lt, f4] at z4; omega, by simp only [i_lt, f5] at z5; omega⟩
        rw [e] at h
        repeat' (first | (with_reducible exact hmn) | (with_reducible exact hc3) | (with_reducible exact hc4) | apply And.intro | exact rfl | (intro hx; with_reducible exact absurd hx z4) | (intro hx; with_reducible exact absurd hx z5) | (intro hx; with_reducible exact absurd hx hc1) | (intro hx; with_reducible exact absurd hx hc2) | (intro hx; exact absurd hx (by decide)) | (intro hx; exact absurd (by decide) hx) | decide | intro hx | (refine Exists.intro _ (And.intro rfl ?_)))
        all_goals try first | (with_reducible change am_tI _ _) | (change Ret _ _) | (change Ret _ _ _) | (change Exists _)
        all_goals try dsimp only at *
        all_goals try (with_reducible exact absurd ‹(1000 : Int64) = 0› am_z1000)
        all_goals exact h
  · exact h.elim
def kX4_layNumbersE (live : am_E) (Ret : am_R) : am_code := [(0, am_const (.int 30) 2), (2, am_istore 2 5 3), (3, am_const (.int 0) 4), (4, am_istore 3 5 5), (5, am_iload 3 6), (6, am_iload 2 7), (7, am_if2 (fun x y => y ≤ x) 30 10), (10, am_aload 0 11), (11, am_getR live 4 1 14), (14, am_iload 3 15), (15, am_const (.ref 1000) 18), (18, am_iload 3 19), (19, am_const (.int 6) 21), (21, am_i2z (fun x y => x - x / y * y) 22), (22, am_sld 0 23), (23, am_ast live 0 24), (24, am_iinc 3 5 1 27), (27, am_goto 5), (30, am_const (.int 0) 31), (31, am_istore 3 5 32), (32, am_iload 3 33), (33, am_const (.int 40) 35), (35, am_if2 (fun x y => y ≤ x) 128 38), (38, am_iload 3 39), (39, am_if1 (fun x => x ≤ 0) 62 42), (42, am_aload 0 43), (43, am_getR live 4 1 46), (46, am_iload 3 47), (47, am_const (.int 1) 48), (48, am_i2 (fun x y => x - y) 49), (49, am_iload 2 50), (50, am_i2 (fun x y => x * y) 51), (51, am_aload 0 52), (52, am_getR live 4 1 55), (55, am_iload 3 56), (56, am_iload 2 57), (57, am_i2 (fun x y => x * y) 58), (58, am_iload 2 59), (59, am_copyI live 48 62), (62, am_const (.int 0) 63), (63, am_istore 4 5 65), (65, am_iload 4 67), (67, am_aload 0 68), (68, am_getR live 4 0 71), (71, am_getR live 0 3 74), (74, am_getI live 3 2 77), (77, am_if2 (fun x y => y ≤ x) 122 80), (80, am_aload 0 81), (81, am_getR live 4 0 84), (84, am_getR live 0 3 87), (87, am_iload 4 89), (89, am_const (.int 3) 90), (90, am_callV live 3 2 TX3_at 93), (93, am_iload 3 94), (94, am_if2 (fun x y => x = y) 97 116), (97, am_aload 0 98), (98, am_iload 4 100), (100, am_iload 3 101), (101, am_aload 0 102), (102, am_getR live 4 0 105), (105, am_getR live 0 0 108), (108, am_getR live 2 0 111), (111, am_iload 1 112), (112, am_ald live 0 113), (113, am_callV live 4 3 TE4_layAct 116), (116, am_iinc 4 5 1 119), (119, am_goto 65), (122, am_iinc 3 5 1 125), (125, am_goto 32), (128, am_retV Ret)]
theorem koX4_layNumbersE (live : am_E) (Ret : am_R) : ∀ q ∈ kX4_layNumbersE live Ret, am_ok RX4 cX4_layNumbers 5 none 2 48 live Ret q.1 q.2 :=
  am_kz dzX4_layNumbers <|
  am_kd (fun d => ak_bipush d (by decide +kernel) rfl) <|
  am_kd (fun d => ak_istore_n d rfl rfl) <|
  am_kd (fun d => ak_iconst d (by decide +kernel) rfl) <|
  am_kd (fun d => ak_istore_n d rfl rfl) <|
  am_kd (fun d => ak_iload_n d rfl rfl) <|
  am_kd (fun d => ak_iload_n d rfl rfl) <|
  am_kd (fun d => ak_icmp_ge d (by decide +kernel) rfl) <|
  am_kd (fun d => ak_aload_n d rfl rfl) <|
  am_kd (fun d => ak_getR (C := RX4) (T := TX4) (N := 19) rfl inX4w (by decide) rfl rfl rfl wd_294 d rfl) <|
  am_kd (fun d => ak_iload_n d rfl rfl) <|
  am_kd (fun d => ak_getsN (k := 0) (C := "LearnLoans") (n := "AT_FIRST") (d := "[I") (host := "LearnLoans") (by decide) rfl (by decide +kernel) d rfl) <|
  am_kd (fun d => ak_iload_n d rfl rfl) <|
  am_kd (fun d => ak_bipush d (by decide +kernel) rfl) <|
  am_kd (fun d => ak_irem d rfl) <|
  am_kd (fun d => ak_sld (by decide) d rfl) <|
  am_kd (fun d => ak_iast (t := 0) (fun _ => rfl) rfl d rfl) <|
  am_kd (fun d => ak_iinc d (by decide +kernel) rfl) <|
  am_kd (fun d => ak_goto d (by decide +kernel)) <|
  am_kd (fun d => ak_iconst d (by decide +kernel) rfl) <|
  am_kd (fun d => ak_istore_n d rfl rfl) <|
  am_kd (fun d => ak_iload_n d rfl rfl) <|
  am_kd (fun d => ak_bipush d (by decide +kernel) rfl) <|
  am_kd (fun d => ak_icmp_ge d (by decide +kernel) rfl) <|
  am_kd (fun d => ak_iload_n d rfl rfl) <|
  am_kd (fun d => ak_if_le d (by decide +kernel) rfl) <|
  am_kd (fun d => ak_aload_n d rfl rfl) <|
  am_kd (fun d => ak_getR (C := RX4) (T := TX4) (N := 19) rfl inX4w (by decide) rfl rfl rfl wd_294 d rfl) <|
  am_kd (fun d => ak_iload_n d rfl rfl) <|
  am_kd (fun d => ak_iconst d (by decide +kernel) rfl) <|
  am_kd (fun d => ak_isub d rfl) <|
  am_kd (fun d => ak_iload_n d rfl rfl) <|
  am_kd (fun d => ak_imul d rfl) <|
  am_kd (fun d => ak_aload_n d rfl rfl) <|
  am_kd (fun d => ak_getR (C := RX4) (T := TX4) (N := 19) rfl inX4w (by decide) rfl rfl rfl wd_294 d rfl) <|
  am_kd (fun d => ak_iload_n d rfl rfl) <|
  am_kd (fun d => ak_iload_n d rfl rfl) <|
  am_kd (fun d => ak_imul d rfl) <|
  am_kd (fun d => ak_iload_n d rfl rfl) <|
  am_kd (fun d => ak_copyI (am_w4 wd_499 wd_501 wd_500 wd_69) (by decide) d rfl) <|
  am_kd (fun d => ak_iconst d (by decide +kernel) rfl) <|
  am_kd (fun d => ak_istore d rfl) <|
  am_kd (fun d => ak_iload d rfl) <|
  am_kd (fun d => ak_aload_n d rfl rfl) <|
  am_kd (fun d => ak_getR (C := RX4) (T := TX4) (N := 19) rfl inX4w (by decide) rfl rfl rfl wd_291 d rfl) <|
  am_kd (fun d => ak_getR (C := RX0) (T := TX0) (N := 13) rfl inX0w (by decide) rfl rfl rfl wd_203 d rfl) <|
  am_kd (fun d => ak_getI (C := RX3) (T := TX3) (N := 3) rfl inX3w (by decide) rfl rfl rfl wd_149 d rfl) <|
  am_kd (fun d => ak_icmp_ge d (by decide +kernel) rfl) <|
  am_kd (fun d => ak_aload_n d rfl rfl) <|
  am_kd (fun d => ak_getR (C := RX4) (T := TX4) (N := 19) rfl inX4w (by decide) rfl rfl rfl wd_291 d rfl) <|
  am_kd (fun d => ak_getR (C := RX0) (T := TX0) (N := 13) rfl inX0w (by decide) rfl rfl rfl wd_203 d rfl) <|
  am_kd (fun d => ak_iload d rfl) <|
  am_kd (fun d => ak_iconst d (by decide +kernel) rfl) <|
  am_kd (fun d => ak_callV (C := RX3) (F := TX3) (N := 3) metX3_at rfl ⟨rfl, hy_X3_at⟩ (am_w5 wd_502 wd_503 wd_504 wd_64 wd_505) (by decide) d rfl) <|
  am_kd (fun d => ak_iload_n d rfl rfl) <|
  am_kd (fun d => ak_icmp_ne d (by decide +kernel) rfl) <|
  am_kd (fun d => ak_aload_n d rfl rfl) <|
  am_kd (fun d => ak_iload d rfl) <|
  am_kd (fun d => ak_iload_n d rfl rfl) <|
  am_kd (fun d => ak_aload_n d rfl rfl) <|
  am_kd (fun d => ak_getR (C := RX4) (T := TX4) (N := 19) rfl inX4w (by decide) rfl rfl rfl wd_291 d rfl) <|
  am_kd (fun d => ak_getR (C := RX0) (T := TX0) (N := 13) rfl inX0w (by decide) rfl rfl rfl wd_195 d rfl) <|
  am_kd (fun d => ak_getR (C := RX2) (T := TX2) (N := 8) rfl inX2w (by decide) rfl rfl rfl wd_107 d rfl) <|
  am_kd (fun d => ak_iload_n d rfl rfl) <|
  am_kd (fun d => ak_iald (t := 0) (fun _ => rfl) rfl d rfl) <|
  am_kd (fun d => ak_callV (C := RX4) (F := TX4) (N := 19) metX4_layActE rfl ⟨rfl, hy_X4_layAct⟩ (am_w5 wd_506 wd_508 wd_1 wd_60 wd_509) (by decide) d rfl) <|
  am_kd (fun d => ak_iinc d (by decide +kernel) rfl) <|
  am_kd (fun d => ak_goto d (by decide +kernel)) <|
  am_kd (fun d => ak_iinc d (by decide +kernel) rfl) <|
  am_kd (fun d => ak_goto d (by decide +kernel)) <|
  am_kd (fun d => ak_retV d) <| am_kdn
/-- nothing but the numbers has changed -/
def c_n5 (M N : am_M) : Prop := ∃ _ : Unit, (∀ a b, a ≠ 5 → N.1 a b = M.1 a b) ∧ ∀ a b, N.2 a b = M.2 a b
theorem c_n5.rf {M : am_M} : c_n5 M M := ⟨(), fun _ _ _ => rfl, fun _ _ => rfl⟩
theorem c_n5.i {M N : am_M} (h : c_n5 M N) {a : Nat} (ha : a ≠ 5) : N.1 a = M.1 a := by obtain ⟨-, h, -⟩ := h; exact funext fun b => h a b ha
theorem c_n5.wI {M N : am_M} {k : Nat} {v : Int32} (h : c_n5 M N) : c_n5 M (am_wI N 5 k v) := by
  obtain ⟨-, h1, h2⟩ := h
  exact ⟨(), fun a b z => by rw [am_wI_1, if_neg (fun q => z q.1)]; exact h1 a b z, h2⟩
theorem c_n5.cI {M N : am_M} {f : Nat → Int32} (h : c_n5 M N) : c_n5 M (am_cI N 5 f) := by
  obtain ⟨-, h1, h2⟩ := h
  exact ⟨(), fun a b z => by rw [am_cI_1, if_neg z]; exact h1 a b z, h2⟩
theorem c_n5.sc {M N : am_M} (h : c_n5 M N) : g_sc M N := by
  obtain ⟨-, h1, h2⟩ := h
  exact ⟨(), fun a b z => ⟨h1 a b (by omega), h2 a b⟩⟩
theorem c_n5.rI {M N : am_M} (h : c_n5 M N) (hr : g_rI M) : g_rI N := by
  obtain ⟨-, ⟨-, t1, t2, t3⟩, hs⟩ := hr
  have o := fun {a : Nat} (z : a ≠ 5) => h.i z
  refine ⟨(), ⟨(), fun k hk => by rw [o (by decide)]; exact t1 k hk, fun k hk => by rw [o (by decide)]; exact t2 k hk, ?_⟩, ?_⟩
  · unfold am_t0 at t3 ⊢
    simp only [o (show (39 : Nat) ≠ 5 by decide), o (show (42 : Nat) ≠ 5 by decide), o (show (45 : Nat) ≠ 5 by decide), o (show (48 : Nat) ≠ 5 by decide), o (show (51 : Nat) ≠ 5 by decide)]
    exact t3
  · obtain ⟨-, s1, s2, s3, s4, s5, s6, s7, s8, s9⟩ := hs
    exact ⟨(), by rw [o (by decide)]; exact s1, fun k hk => by rw [o (by decide)]; exact s2 k hk, fun k hk => by rw [o (by decide)]; exact s3 k hk, by rw [o (by decide)]; exact s4, by rw [o (by decide)]; exact s5, by rw [o (by decide)]; exact s6, by rw [o (by decide)]; exact s7, by rw [o (by decide)]; exact s8, by rw [o (by decide)]; exact s9⟩
abbrev q_Fn (M : am_M) (p : Int32) (pl w : Nat) (y : Int) : Int32 := q_F (M.1 32) (M.1 31 2).toNatClampNeg (M.1 22 p.toNatClampNeg) (Int32.ofNat pl) (Int32.ofNat w) y
abbrev q_Vn (M : am_M) (p : Int32) (pl w : Nat) (y : Int) (i : Nat) : Int32 := q_V (M.1 32) (M.1 31 2).toNatClampNeg (M.1 22 p.toNatClampNeg) (Int32.ofNat pl) (Int32.ofNat w) y i
/-- the numbers laid out for a person, for the first years -/
def c_rw (M0 : am_M) (p : Int32) (y : Nat) (M : am_M) : Prop := ∃ _ : Unit, ∀ y' pl w : Nat, y' < y → pl < 5 → w < 6 → M.1 5 (30 * y' + 6 * pl + w) = q_Fn M0 p pl w (y' : Int)
theorem c_rw.v {M0 M : am_M} {p : Int32} {y : Nat} (h : c_rw M0 p y M) {y' pl w : Nat} (h1 : y' < y) (h2 : pl < 5) (h3 : w < 6) : M.1 5 (30 * y' + 6 * pl + w) = q_Fn M0 p pl w (y' : Int) := by obtain ⟨-, h⟩ := h; exact h y' pl w h1 h2 h3
def c_rv (M0 : am_M) (p : Int32) (y i : Nat) (M : am_M) : Prop := ∃ _ : Unit, ∀ pl w : Nat, pl < 5 → w < 6 → M.1 5 (30 * y + 6 * pl + w) = q_Vn M0 p pl w (y : Int) i
theorem c_rv.v {M0 M : am_M} {p : Int32} {y i : Nat} (h : c_rv M0 p y i M) {pl w : Nat} (h2 : pl < 5) (h3 : w < 6) : M.1 5 (30 * y + 6 * pl + w) = q_Vn M0 p pl w (y : Int) i := by obtain ⟨-, h⟩ := h; exact h pl w h2 h3
theorem o_nat {n : Nat} (h : n < 100) : (Int32.ofNat n).toInt = (n : Int) ∧ (Int32.ofNat n).toNatClampNeg = n := by
  have e := i_nat (n := n) (by omega)
  have c := i_clamp (x := Int32.ofNat n) (by omega)
  exact ⟨e, by omega⟩
theorem o_eq {x : Int32} {n : Nat} (h : n < 100) (hx : 0 ≤ x.toInt) : x = Int32.ofNat n ↔ x.toNatClampNeg = n := by
  have e := o_nat h
  have c := i_clamp hx
  rw [i_eq]
  omega
theorem c_rw.n {M0 M : am_M} {p : Int32} {y : Nat} (h : c_rw M0 p y M) (hv : c_rv M0 p y (M0.1 31 2).toNatClampNeg M) : c_rw M0 p (y + 1) M := ⟨(), fun y' pl w h1 h2 h3 => by
  by_cases z : y' = y
  · subst z
    rw [hv.v h2 h3]
    exact q_V_n _ _ _ _ _ _
  · exact h.v (by omega) h2 h3⟩
theorem c_rv.s {M0 M N : am_M} {p : Int32} {y : Int32} {a : Int32} (hy : am_in y 40) (hA : c_A M0) (ha : am_in a 61) (ha2 : a.toInt < (M0.1 31 2).toInt) (e : c_n5 M0 M) (h : c_rv M0 p y.toNatClampNeg a.toNatClampNeg M) (hf : (M0.1 32 (6 * a.toNatClampNeg + 3)).toInt = y.toInt) (hN : N = c_lay M a y (M0.1 22 p.toNatClampNeg)) : c_rv M0 p y.toNatClampNeg (a.toNatClampNeg + 1) N := by
  have cy := i_clamp hy.1
  have ca := i_clamp ha.1
  obtain ⟨a1, a2, -⟩ := hA.a (i := a.toNatClampNeg) (by omega)
  refine ⟨(), fun pl w h2 h3 => ?_⟩
  have op := o_eq (x := M0.1 32 (6 * a.toNatClampNeg)) (n := pl) (by omega) a1.1
  have ow := o_eq (x := M0.1 32 (6 * a.toNatClampNeg + 1)) (n := w) (by omega) a2.1
  have c1 := i_clamp a1.1
  have c2 := i_clamp a2.1
  have b1 := a1.2
  have b2 := a2.2
  rw [hN]
  unfold c_lay
  rw [e.i (show (32 : Nat) ≠ 5 by decide)]
  by_cases z : (M0.1 32 (6 * a.toNatClampNeg + 4)).toInt ≤ (M0.1 22 p.toNatClampNeg).toInt ∧ (M0.1 22 p.toNatClampNeg).toInt ≤ (M0.1 32 (6 * a.toNatClampNeg + 5)).toInt
  · rw [if_pos z, am_wI_1]
    by_cases z2 : (M0.1 32 (6 * a.toNatClampNeg)).toNatClampNeg = pl ∧ (M0.1 32 (6 * a.toNatClampNeg + 1)).toNatClampNeg = w
    · rw [if_pos ⟨rfl, by omega⟩]
      exact (q_V_y ⟨decide_eq_true ⟨op.mpr z2.1, ow.mpr z2.2, z.1, z.2⟩, by omega⟩).symm
    · rw [if_neg (fun q => z2 (by omega)), h.v h2 h3]
      exact (q_V_s (fun q => z2 (by have q1 := of_decide_eq_true q.1; exact ⟨op.mp q1.1, ow.mp q1.2.1⟩))).symm
  · rw [if_neg z, h.v h2 h3]
    exact (q_V_s (fun q => z (by have q1 := of_decide_eq_true q.1; exact q1.2.2))).symm
theorem c_rv.k {M0 M : am_M} {p : Int32} {y i : Nat} (h : c_rv M0 p y i M) (hf : ¬ (M0.1 32 (6 * i + 3)).toInt = (y : Int)) : c_rv M0 p y (i + 1) M := ⟨(), fun pl w h2 h3 => by
  rw [h.v h2 h3]
  exact (q_V_s (fun q => hf q.2)).symm⟩
theorem c_rw.l {M0 M : am_M} {p : Int32} {a y : Int32} (h : c_rw M0 p y.toNatClampNeg M) (h1 : am_in (M.1 32 (6 * a.toNatClampNeg)) 5) (h2 : am_in (M.1 32 (6 * a.toNatClampNeg + 1)) 6) (b : Int32) : c_rw M0 p y.toNatClampNeg (c_lay M a y b) := ⟨(), fun y' pl w z1 z2 z3 => by
  unfold c_lay
  split
  · rw [am_wI_1, if_neg (fun q => by omega)]
    exact h.v z1 z2 z3
  · exact h.v z1 z2 z3⟩
theorem c_n5.l {M0 M : am_M} {a y b : Int32} (h : c_n5 M0 M) : c_n5 M0 (c_lay M a y b) := by
  unfold c_lay
  split
  · exact h.wI
  · exact h
def TE4_layNumbers : am_T := fun live as M R => match as with
  | [.ref n, .int p] => am_mn live ∧ n = 4 ∧ am_in p 12 ∧ c_A M ∧ ∀ M', c_n5 M M' → c_rw M p 40 M' → R none M'
  | _ => False
def JE4_layNumbers : am_E → List Value → am_M → am_R → am_inv := fun live as M0 _ pc => match as with
  | [.ref n, .int p] => (match pc with
    | 5 => some ([0, 1, 2, 3], fun k L st M => ∃ i : Int32, L = [(0, .ref 4), (1, .int p), (2, .int 30), (3, .int i)] ∧ st = [] ∧ k = (1000 + (31 - i.toInt).toNat, 0) ∧ (0 ≤ i.toInt ∧ i.toInt ≤ 30) ∧ c_n5 M0 M ∧ ∀ j : Nat, (j : Int) < i.toInt → M.1 5 j = am_sf 0 (j % 6))
    | 32 => some ([0, 1, 2, 3], fun k L st M => ∃ y : Int32, L = [(0, .ref 4), (1, .int p), (2, .int 30), (3, .int y)] ∧ st = [] ∧ k = ((42 - y.toInt).toNat * 2, 0) ∧ (0 ≤ y.toInt ∧ y.toInt ≤ 40) ∧ c_n5 M0 M ∧ c_rw M0 p y.toNatClampNeg M ∧ (y = 0 → ∀ j : Nat, j < 30 → M.1 5 j = am_sf 0 (j % 6)))
    | 65 => some ([0, 1, 2, 3, 4], fun k L st M => ∃ y i : Int32, L = [(0, .ref 4), (1, .int p), (2, .int 30), (3, .int y), (4, .int i)] ∧ st = [] ∧ k = ((42 - y.toInt).toNat * 2 - 1, (100 - i.toInt).toNat) ∧ (0 ≤ y.toInt ∧ y.toInt < 40) ∧ (0 ≤ i.toInt ∧ i.toInt ≤ (M0.1 31 2).toInt) ∧ c_n5 M0 M ∧ c_rw M0 p y.toNatClampNeg M ∧ c_rv M0 p y.toNatClampNeg i.toNatClampNeg M)
    | _ => none)
  | _ => none
theorem i_rem6e {x : Int32} (h1 : 0 ≤ x.toInt) (h2 : x.toInt < 1000000) : (x - x / 6 * 6).toNatClampNeg = x.toNatClampNeg % 6 := by
  have e := i_div (x := x) (y := 6) h1 (by decide)
  simp only [Int32.reduceToInt] at e
  have e2 := i_mul (x := x / 6) (y := 6) (by simp only [Int32.reduceToInt]; omega) (by simp only [Int32.reduceToInt]; omega)
  simp only [Int32.reduceToInt] at e2
  have e3 := i_sub (x := x) (y := x / 6 * 6) (by omega) (by omega)
  have c1 := i_clamp (x := x - x / 6 * 6) (by omega)
  have c2 := i_clamp h1
  omega
set_option maxRecDepth 100000 in
set_option maxHeartbeats 4000000 in
theorem metX4_layNumbersE : am_Met yX4_layNumbers cX4_layNumbers 5 none (2) (48) TE4_layNumbers := by
  refine am_met (own := RX4) (by decide +kernel) rfl kX4_layNumbersE koX4_layNumbersE 150 JE4_layNumbers ?_ ?_
  · intro live as M Ret h
    unfold TE4_layNumbers at h
    split at h
    · next n p =>
      refine ⟨Nat.le_of_ble_eq_true rfl, ?_⟩
      change am_wp _ _ _ _ [(0, Value.ref n), (1, Value.int p)] _ _
      obtain ⟨hmn, rfl, hp, hA, h⟩ := h
      repeat' (first | apply And.intro | exact rfl | intro hx | (refine Exists.intro _ (And.intro rfl ?_)))
      all_goals try first | (with_reducible change am_tI _ _) | (change Ret _ _) | (change Ret _ _ _) | (change Exists _)
      all_goals try dsimp only at *
      all_goals try (with_reducible exact absurd ‹(1000 : Int64) = 0› am_z1000)
      exact ⟨_, _, rfl, rfl, rfl, ⟨by decide, by decide⟩, c_n5.rf, fun j hj => absurd hj (by simp only [Int32.reduceToInt]; omega)⟩
    · exact h.elim
  · intro live as M0 Ret h k pc I hI L st M hi
    unfold TE4_layNumbers at h
    split at h
    · next n p =>
      obtain ⟨hmn, rfl, hp, hA, h⟩ := h
      have hmn2 := hmn
      obtain ⟨i1, i2, rfl⟩ := hmn2
      have l5 : am_len 5 = 1200 := rfl
      have hn := hA.n
      change (match pc with | 5 => _ | 32 => _ | 65 => _ | _ => none) = _ at hI
      split at hI
      · cases hI
        obtain ⟨i, rfl, rfl, rfl, ⟨e1, e4⟩, e2, e3⟩ := hi
        by_cases hz : (30 : Int32) ≤ i
        · have hz2 := hz
          simp only [i_le, Int32.reduceToInt] at hz2
          repeat' (first | apply And.intro | exact rfl | (intro hx; with_reducible exact absurd hz hx) | intro hx | (refine Exists.intro _ (And.intro rfl ?_)))
          all_goals try first | (with_reducible change am_tI _ _) | (change Ret _ _) | (change Ret _ _ _) | (change Exists _)
          all_goals try dsimp only at *
          all_goals try (with_reducible exact absurd ‹(1000 : Int64) = 0› am_z1000)
          exact ⟨_, am_lt_l (by simp only [Int32.reduceToInt]; omega), _, rfl, rfl, rfl, ⟨by decide, by decide⟩, e2, ⟨(), fun y' pl w z1 _ _ => absurd z1 (by rw [show (0 : Int32).toNatClampNeg = 0 from rfl]; omega)⟩, fun _ j hj => e3 j (by omega)⟩
        · have hz2 := hz
          simp only [i_le, Int32.reduceToInt] at hz2
          have hi := i_inc (x := i) (by omega) (by omega)
          have ci := i_clamp e1
          have hr6 := i_rem6 (x := i) e1 (by omega)
          have hr7 := i_rem6e (x := i) e1 (by omega)
          repeat' (first | apply And.intro | exact rfl | (intro hx; with_reducible exact absurd hx hz) | intro hx | (refine Exists.intro _ (And.intro rfl ?_)))
          all_goals try first | (with_reducible change am_tI _ _) | (change Ret _ _) | (change Ret _ _ _) | (change Exists _)
          all_goals try dsimp only at *
          all_goals try (with_reducible exact absurd ‹(1000 : Int64) = 0› am_z1000)
          all_goals first
            | decide
            | exact absurd hx (by decide)
            | (with_reducible exact hr6.1)
            | (with_reducible exact hr6.2)
            | omega
            | (rw [l5]; omega)
            | exact hr6.1
            | exact hr6.2
            | skip
          refine ⟨_, am_lt_l (by omega), _, rfl, rfl, rfl, ⟨by omega, by omega⟩, e2.wI, fun j hj => ?_⟩
          rw [am_wI_1]
          by_cases z : j = i.toNatClampNeg
          · rw [if_pos ⟨rfl, z⟩, hr7, z]
          · rw [if_neg (fun q => z q.2)]
            exact e3 j (by omega)
      · cases hI
        obtain ⟨y, rfl, rfl, rfl, ⟨e1, e4⟩, e2, e3, e5⟩ := hi
        by_cases hz : (40 : Int32) ≤ y
        · have hz2 := hz
          simp only [i_le, Int32.reduceToInt] at hz2
          have cy := i_clamp e1
          rw [show y.toNatClampNeg = 40 by omega] at e3
          repeat' (first | apply And.intro | exact rfl | (intro hx; with_reducible exact absurd hz hx) | intro hx | (refine Exists.intro _ (And.intro rfl ?_)))
          all_goals try first | (with_reducible change am_tI _ _) | (change Ret _ _) | (change Ret _ _ _) | (change Exists _)
          all_goals try dsimp only at *
          all_goals try (with_reducible exact absurd ‹(1000 : Int64) = 0› am_z1000)
          exact h _ e2 e3
        · have hz2 := hz
          simp only [i_le, Int32.reduceToInt] at hz2
          have cy := i_clamp e1
          have hs := i_sub (x := y) (y := 1) (by simp only [Int32.reduceToInt]; omega) (by simp only [Int32.reduceToInt]; omega)
          simp only [Int32.reduceToInt] at hs
          have ht := i_mul (x := y - 1) (y := 30) (by simp only [Int32.reduceToInt]; omega) (by simp only [Int32.reduceToInt]; omega)
          simp only [Int32.reduceToInt] at ht
          have hu := i_mul (x := y) (y := 30) (by simp only [Int32.reduceToInt]; omega) (by simp only [Int32.reduceToInt]; omega)
          simp only [Int32.reduceToInt] at hu
          have hq : ∀ j : Nat, j < (M0.1 31 2).toNatClampNeg → 0 ≤ (M0.1 32 (6 * j + 3)).toInt := fun j hj => (hA.a (i := j) (by have := i_clamp hn.1; omega)).2.2
          by_cases hw : y ≤ 0
          · have y0 : y = 0 := by
              have hw2 := hw
              simp only [i_le, Int32.reduceToInt] at hw2
              rw [i_eq]
              simp only [Int32.reduceToInt]
              omega
            have e6 : c_rv M0 p y.toNatClampNeg (0 : Int32).toNatClampNeg M := ⟨(), fun pl w h2 h3 => by
              subst y0
              show M.1 5 (30 * 0 + 6 * pl + w) = q_V _ _ _ _ _ _ 0
              rw [q_V_0, q_F_neg (by decide) hq, e5 rfl _ (by omega), (o_nat (n := w) (by omega)).2, show (30 * 0 + 6 * pl + w) % 6 = w by omega]⟩
            repeat' (first | apply And.intro | exact rfl | (intro hx; with_reducible exact absurd hx hz) | (intro hx; with_reducible exact absurd hw hx) | intro hx | (refine Exists.intro _ (And.intro rfl ?_)))
            all_goals try first | (with_reducible change am_tI _ _) | (change Ret _ _) | (change Ret _ _ _) | (change Exists _)
            all_goals try dsimp only at *
            all_goals try (with_reducible exact absurd ‹(1000 : Int64) = 0› am_z1000)
            exact ⟨_, am_lt_l (by omega), _, _, rfl, rfl, rfl, ⟨e1, by omega⟩, ⟨by decide, hn.1⟩, e2, e3, e6⟩
          · have hw2 := hw
            simp only [i_le, Int32.reduceToInt] at hw2
            have c1 := i_clamp (x := (y - 1) * 30) (by omega)
            have c2 := i_clamp (x := y * 30) (by omega)
            repeat' (first | apply And.intro | exact rfl | (intro hx; with_reducible exact absurd hx hz) | (intro hx; with_reducible exact absurd hx hw) | intro hx | (refine Exists.intro _ (And.intro rfl ?_)))
            all_goals try first | (with_reducible change am_tI _ _) | (change Ret _ _) | (change Ret _ _ _) | (change Exists _)
            all_goals try dsimp only at *
            all_goals try (with_reducible exact absurd ‹(1000 : Int64) = 0› am_z1000)
            all_goals first
              | (refine ⟨_, am_lt_l (by omega), _, _, rfl, rfl, rfl, ⟨e1, by omega⟩, ⟨by decide, hn.1⟩, e2.cI, ⟨(), fun y' pl w z1 z2 z3 => ?_⟩, ⟨(), fun pl w h2 h3 => ?_⟩⟩)
              | (simp only [l5, Int32.reduceToInt]; omega)
              | omega
              | skip
            · rw [am_cI_1, if_pos rfl]
              unfold va_cpy
              rw [if_neg (fun q => by omega)]
              exact e3.v z1 z2 z3
            · rw [am_cI_1, if_pos rfl]
              unfold va_cpy
              rw [if_pos ⟨by omega, by rw [show (30 : Int32).toNatClampNeg = 30 from rfl]; omega⟩]
              have e6 := e3.v (y' := y.toNatClampNeg - 1) (by omega) h2 h3
              rw [show ((y - 1) * 30).toNatClampNeg + (30 * y.toNatClampNeg + 6 * pl + w - (y * 30).toNatClampNeg) = 30 * (y.toNatClampNeg - 1) + 6 * pl + w by omega, e6]
              show _ = q_V _ _ _ _ _ _ 0
              rw [q_V_0, show ((y.toNatClampNeg : Nat) : Int) - 1 = ((y.toNatClampNeg - 1 : Nat) : Int) by omega]
      · cases hI
        obtain ⟨y, i, rfl, rfl, rfl, ⟨e0, e4⟩, ⟨e1, e5⟩, e2, e3, e6⟩ := hi
        have hy := i_inc (x := y) (by omega) (by omega)
        have cy := i_clamp e0
        have ci := i_clamp e1
        have cn := i_clamp hn.1
        have cy1 := i_clamp (x := y + 1) (by omega)
        have x31 := e2.i (show (31 : Nat) ≠ 5 by decide)
        have x32 := e2.i (show (32 : Nat) ≠ 5 by decide)
        have x22 := e2.i (show (22 : Nat) ≠ 5 by decide)
        by_cases hz : M.1 31 2 ≤ i
        · have hz2 := hz
          simp only [i_le, x31] at hz2
          have e7 := e3.n (by rw [show (M0.1 31 2).toNatClampNeg = i.toNatClampNeg by omega]; exact e6)
          rw [show y.toNatClampNeg + 1 = (y + 1).toNatClampNeg by omega] at e7
          have y0 : y + 1 = 0 → ∀ j : Nat, j < 30 → M.1 5 j = am_sf 0 (j % 6) := fun q => by
            rw [q] at hy
            simp only [Int32.reduceToInt] at hy
            omega
          repeat' (first | apply And.intro | exact rfl | (intro hx; with_reducible exact absurd hz hx) | intro hx | (refine Exists.intro _ (And.intro rfl ?_)))
          all_goals try first | (with_reducible change am_tI _ _) | (change Ret _ _) | (change Ret _ _ _) | (change Exists _)
          all_goals try dsimp only at *
          all_goals try (with_reducible exact absurd ‹(1000 : Int64) = 0› am_z1000)
          exact ⟨_, am_lt_l (by omega), _, rfl, rfl, rfl, ⟨by omega, by omega⟩, e2, e7, y0⟩
        · have hz2 := hz
          simp only [i_le, x31] at hz2
          have hi := i_add (x := i) (y := 1) (by simp only [Int32.reduceToInt]; omega) (by simp only [Int32.reduceToInt]; omega)
          simp only [Int32.reduceToInt] at hi
          have ci1 := i_clamp (x := i + 1) (by omega)
          have l22 : am_len 22 = 12 := rfl
          have hp1 := hp.1
          have hp2 := hp.2
          have ha : am_in i 61 := ⟨e1, by omega⟩
          have hyi : am_in y 40 := ⟨e0, by omega⟩
          have hw : M.1 31 1 = 6 := by rw [x31]; exact hA.w
          obtain ⟨a1, a2, a3⟩ := hA.a (i := i.toNatClampNeg) (by omega)
          have f3 := c_at hw ha (c := 3) (k := 3) rfl (by decide)
          have b1 : am_in (M.1 32 (6 * i.toNatClampNeg)) 5 := by rw [x32]; exact a1
          have b2 : am_in (M.1 32 (6 * i.toNatClampNeg + 1)) 6 := by rw [x32]; exact a2
          have z22 : p.toInt < (am_len 22 : Int) := by rw [l22]; omega
          by_cases hf : am_at (M.1 32) (am_len 32) (i * M.1 31 1 + 3) = y
          · have g : (M0.1 32 (6 * i.toNatClampNeg + 3)).toInt = y.toInt := by rw [← x32, ← f3, hf]
            have e7 := e6.s hyi hA ha (by omega) e2 g rfl
            rw [show i.toNatClampNeg + 1 = (i + 1).toNatClampNeg by omega, ← x22] at e7
            repeat' (first | (with_reducible exact hmn) | (with_reducible exact hw) | (with_reducible exact ha) | (with_reducible exact hyi) | (with_reducible exact b1) | (with_reducible exact b2) | (with_reducible exact hp1) | (with_reducible exact z22) | apply And.intro | exact rfl | (intro hx; with_reducible exact absurd hx hz) | (intro hx; with_reducible exact absurd hf hx) | (intro hx; exact absurd hx (by decide)) | (intro hx; exact absurd (by decide) hx) | decide | intro hx | (refine Exists.intro _ (And.intro rfl ?_)))
            all_goals try first | (with_reducible change am_tI _ _) | (change Ret _ _) | (change Ret _ _ _) | (change Exists _)
            all_goals try dsimp only at *
            all_goals try (with_reducible exact absurd ‹(1000 : Int64) = 0› am_z1000)
            all_goals exact ⟨_, am_lt_r (by omega), _, _, rfl, rfl, rfl, ⟨e0, e4⟩, ⟨by omega, by omega⟩, e2.l, e3.l b1 b2 _, e7⟩
          · have g : ¬ (M0.1 32 (6 * i.toNatClampNeg + 3)).toInt = ((y.toNatClampNeg : Nat) : Int) := fun q => hf (by rw [f3, x32, i_eq]; omega)
            have e7 := e6.k g
            rw [show i.toNatClampNeg + 1 = (i + 1).toNatClampNeg by omega] at e7
            repeat' (first | (with_reducible exact hmn) | apply And.intro | exact rfl | (intro hx; with_reducible exact absurd hx hz) | (intro hx; with_reducible exact absurd hx hf) | (intro hx; exact absurd hx (by decide)) | (intro hx; exact absurd (by decide) hx) | decide | intro hx | (refine Exists.intro _ (And.intro rfl ?_)))
            all_goals try first | (with_reducible change am_tI _ _) | (change Ret _ _) | (change Ret _ _ _) | (change Exists _)
            all_goals try dsimp only at *
            all_goals try (with_reducible exact absurd ‹(1000 : Int64) = 0› am_z1000)
            all_goals exact ⟨_, am_lt_r (by omega), _, _, rfl, rfl, rfl, ⟨e0, e4⟩, ⟨by omega, by omega⟩, e2, e3, e7⟩
      · cases hI
    · exact h.elim
end
-- part 78.exact3.lean.txt
section
/-! exact: planOf, force -/
def kX8_planOfE (live : am_E) (Ret : am_R) : am_code := [(0, am_aload 0 1), (1, am_iload 1 2), (2, am_callV live 8 1 TX8_isLoan 5), (5, am_if1 (fun x => x = 0) 24 8), (8, am_iload 2 9), (9, am_callS live 1 TX8_isYear 12), (12, am_if1 (fun x => x = 0) 24 15), (15, am_aload 0 16), (16, am_iload 1 17), (17, am_iload 2 18), (18, am_callV live 8 2 TE8_planAt 21), (21, am_goto 26), (24, am_const (.int (-2)) 26), (26, am_retI Ret)]
theorem koX8_planOfE (live : am_E) (Ret : am_R) : ∀ q ∈ kX8_planOfE live Ret, am_ok RX8 cX8_planOf 3 (some .int) 2 46 live Ret q.1 q.2 :=
  am_kz dzX8_planOf <|
  am_kd (fun d => ak_aload_n d rfl rfl) <|
  am_kd (fun d => ak_iload_n d rfl rfl) <|
  am_kd (fun d => ak_callV (C := RX8) (F := TX8) (N := 27) metX8_isLoan rfl ⟨rfl, hy_X8_isLoan⟩ (am_w5 wd_1069 wd_1071 wd_30 wd_67 wd_1072) (by decide) d rfl) <|
  am_kd (fun d => ak_if_eq d (by decide +kernel) rfl) <|
  am_kd (fun d => ak_iload_n d rfl rfl) <|
  am_kd (fun d => ak_callS metX8_isYear ⟨rfl, hy_X8_isYear⟩ (am_w4 wd_982 wd_983 wd_67 wd_984) (by decide) d rfl) <|
  am_kd (fun d => ak_if_eq d (by decide +kernel) rfl) <|
  am_kd (fun d => ak_aload_n d rfl rfl) <|
  am_kd (fun d => ak_iload_n d rfl rfl) <|
  am_kd (fun d => ak_iload_n d rfl rfl) <|
  am_kd (fun d => ak_callV (C := RX8) (F := TX8) (N := 27) metX8_planAtE rfl ⟨rfl, hy_X8_planAt⟩ (am_w5 wd_1085 wd_1087 wd_32 wd_67 wd_1088) (by decide) d rfl) <|
  am_kd (fun d => ak_goto d (by decide +kernel)) <|
  am_kd (fun d => ak_bipush d (by decide +kernel) rfl) <|
  am_kd (fun d => ak_retI d) <| am_kdn
def r_planOf (M : am_M) (l y : Int32) : Int32 × am_M := if 0 ≤ l ∧ l < M.1 201 1 then (if 0 ≤ y ∧ y < 40 then (r_pl M l y, M) else ((-2 : Int32), M)) else ((-2 : Int32), M)
def TE8_planOf : am_T := fun live as M R => match as with
  | [.ref n, .int l, .int y] => am_mn live ∧ n = 200 ∧ r_I M ∧ R (some (.int (r_planOf M l y).1)) (r_planOf M l y).2
  | _ => False
set_option maxRecDepth 100000 in
set_option maxHeartbeats 4000000 in
theorem metX8_planOfE : am_Met yX8_planOf cX8_planOf 3 (some .int) (2) (46) TE8_planOf := by
  refine am_met (own := RX8) (by decide +kernel) rfl kX8_planOfE koX8_planOfE 200 (fun _ _ _ _ _ => none) (fun live as M Ret h => ?_) (fun _ _ _ _ _ _ _ _ hI => by cases hI)
  unfold TE8_planOf at h
  split at h
  · next n l y =>
    refine ⟨Nat.le_of_ble_eq_true rfl, ?_⟩
    change am_wp _ _ _ _ [(0, Value.ref n), (1, Value.int l), (2, Value.int y)] _ _
    obtain ⟨hmn, rfl, hR, h⟩ := h
    have hmn2 := hmn
    obtain ⟨i1, i2, rfl⟩ := hmn2
    have l201 : am_len 201 = 3760 := rfl
    have n0 := hR.n0
    have n1 := hR.n1
    have n030 : 0 ≤ (M.1 201 0).toInt ∧ (M.1 201 0).toInt ≤ 30 := ⟨n0.1, by omega⟩
    by_cases z0 : 0 ≤ l ∧ l < M.1 201 1
    rotate_left
    · skip
      have q0 : (if 0 ≤ l ∧ l < M.1 201 1 then (1 : Int32) else 0) = 0 := if_neg z0
      have e : r_planOf M l y = ((-2 : Int32), M) := by unfold r_planOf; rw [if_neg z0]
      rw [e] at h
      repeat' (first | (with_reducible exact hmn) | (with_reducible exact h) | (with_reducible exact n030) | (with_reducible exact n1) | apply And.intro | exact rfl | (intro hx; with_reducible exact absurd q0 hx) | (intro hx; exact absurd hx (by decide)) | (intro hx; exact absurd (by decide) hx) | decide | intro hx | (refine Exists.intro _ (And.intro rfl ?_)))
      all_goals try first | (with_reducible change am_tI _ _) | (change Ret _ _) | (change Ret _ _ _) | (change Exists _)
      all_goals try dsimp only at *
      all_goals try (with_reducible exact absurd ‹(1000 : Int64) = 0› am_z1000)
      all_goals first | (with_reducible exact h) | (with_reducible exact n0.1) | omega | (show _ < _; simp only [l201]; decide) | exact h | exact n0.1 | skip
    · skip
      have q0 : ¬ ((if 0 ≤ l ∧ l < M.1 201 1 then (1 : Int32) else 0) = 0) := by rw [if_pos z0]; decide
      by_cases z1 : 0 ≤ y ∧ y < 40
      rotate_left
      · skip
        have q1 : (if 0 ≤ y ∧ y < 40 then (1 : Int32) else 0) = 0 := if_neg z1
        have e : r_planOf M l y = ((-2 : Int32), M) := by unfold r_planOf; rw [if_pos z0, if_neg z1]
        rw [e] at h
        repeat' (first | (with_reducible exact hmn) | (with_reducible exact h) | (with_reducible exact n030) | (with_reducible exact n1) | apply And.intro | exact rfl | (intro hx; with_reducible exact absurd hx q0) | (intro hx; with_reducible exact absurd q1 hx) | (intro hx; exact absurd hx (by decide)) | (intro hx; exact absurd (by decide) hx) | decide | intro hx | (refine Exists.intro _ (And.intro rfl ?_)))
        all_goals try first | (with_reducible change am_tI _ _) | (change Ret _ _) | (change Ret _ _ _) | (change Exists _)
        all_goals try dsimp only at *
        all_goals try (with_reducible exact absurd ‹(1000 : Int64) = 0› am_z1000)
        all_goals first | (with_reducible exact h) | (with_reducible exact n0.1) | omega | (show _ < _; simp only [l201]; decide) | exact h | exact n0.1 | skip
      · skip
        have q1 : ¬ ((if 0 ≤ y ∧ y < 40 then (1 : Int32) else 0) = 0) := by rw [if_pos z1]; decide
        have hl : am_in l 30 := ⟨by have q := z0.1; simp only [i_le, Int32.reduceToInt] at q; omega, by have q := z0.2; simp only [i_lt] at q; omega⟩
        have hy : am_in y 40 := ⟨by have q := z1.1; simp only [i_le, Int32.reduceToInt] at q; omega, by have q := z1.2; simp only [i_lt, Int32.reduceToInt] at q; omega⟩
        have hy1 := hy.1
        have e : r_planOf M l y = (r_pl M l y, M) := by unfold r_planOf; rw [if_pos z0, if_pos z1]
        rw [e] at h
        repeat' (first | (with_reducible exact hmn) | (with_reducible exact n030) | (with_reducible exact n1) | (with_reducible exact hl) | (with_reducible exact hy1) | (with_reducible exact hR) | apply And.intro | exact rfl | (intro hx; with_reducible exact absurd hx q0) | (intro hx; with_reducible exact absurd hx q1) | ((with_reducible change r_I _); (with_reducible assumption)) | (intro hx; exact absurd hx (by decide)) | (intro hx; exact absurd (by decide) hx) | decide | intro hx | (refine Exists.intro _ (And.intro rfl ?_)))
        all_goals try first | (with_reducible change am_tI _ _) | (change Ret _ _) | (change Ret _ _ _) | (change Exists _)
        all_goals try dsimp only at *
        all_goals try (with_reducible exact absurd ‹(1000 : Int64) = 0› am_z1000)
        all_goals first | (with_reducible exact h) | (with_reducible exact n0.1) | omega | (show _ < _; simp only [l201]; decide) | exact h | exact n0.1 | skip
  · exact h.elim
def kX8_forceE (live : am_E) (Ret : am_R) : am_code := [(0, am_iload 1 1), (1, am_callS live 1 TX8_isPlan 4), (4, am_if1 (fun x => x = 0) 42 7), (7, am_iload 2 8), (8, am_callS live 1 TX8_isWhat 11), (11, am_if1 (fun x => x = 0) 42 14), (14, am_aload 0 15), (15, am_iload 3 16), (16, am_callV live 8 1 TX8_isPerson 19), (19, am_if1 (fun x => x = 0) 42 22), (22, am_iload 4 24), (24, am_callS live 1 TX8_isYear 27), (27, am_if1 (fun x => x = 0) 42 30), (30, am_aload 0 31), (31, am_iload 1 32), (32, am_iload 2 33), (33, am_iload 3 34), (34, am_iload 4 36), (36, am_callV live 8 4 TE8_inForce 39), (39, am_goto 44), (42, am_const (.int (-2)) 44), (44, am_retI Ret)]
theorem koX8_forceE (live : am_E) (Ret : am_R) : ∀ q ∈ kX8_forceE live Ret, am_ok RX8 cX8_force 5 (some .int) 2 53 live Ret q.1 q.2 :=
  am_kz dzX8_force <|
  am_kd (fun d => ak_iload_n d rfl rfl) <|
  am_kd (fun d => ak_callS metX8_isPlan ⟨rfl, hy_X8_isPlan⟩ (am_w4 wd_1034 wd_1035 wd_67 wd_1036) (by decide) d rfl) <|
  am_kd (fun d => ak_if_eq d (by decide +kernel) rfl) <|
  am_kd (fun d => ak_iload_n d rfl rfl) <|
  am_kd (fun d => ak_callS metX8_isWhat ⟨rfl, hy_X8_isWhat⟩ (am_w4 wd_1038 wd_1039 wd_67 wd_1040) (by decide) d rfl) <|
  am_kd (fun d => ak_if_eq d (by decide +kernel) rfl) <|
  am_kd (fun d => ak_aload_n d rfl rfl) <|
  am_kd (fun d => ak_iload_n d rfl rfl) <|
  am_kd (fun d => ak_callV (C := RX8) (F := TX8) (N := 27) metX8_isPerson rfl ⟨rfl, hy_X8_isPerson⟩ (am_w5 wd_993 wd_995 wd_27 wd_67 wd_996) (by decide) d rfl) <|
  am_kd (fun d => ak_if_eq d (by decide +kernel) rfl) <|
  am_kd (fun d => ak_iload d rfl) <|
  am_kd (fun d => ak_callS metX8_isYear ⟨rfl, hy_X8_isYear⟩ (am_w4 wd_982 wd_983 wd_67 wd_984) (by decide) d rfl) <|
  am_kd (fun d => ak_if_eq d (by decide +kernel) rfl) <|
  am_kd (fun d => ak_aload_n d rfl rfl) <|
  am_kd (fun d => ak_iload_n d rfl rfl) <|
  am_kd (fun d => ak_iload_n d rfl rfl) <|
  am_kd (fun d => ak_iload_n d rfl rfl) <|
  am_kd (fun d => ak_iload d rfl) <|
  am_kd (fun d => ak_callV (C := RX8) (F := TX8) (N := 27) metX8_inForceE rfl ⟨rfl, hy_X8_inForce⟩ (am_w5 wd_1053 wd_1055 wd_29 wd_67 wd_1056) (by decide) d rfl) <|
  am_kd (fun d => ak_goto d (by decide +kernel)) <|
  am_kd (fun d => ak_bipush d (by decide +kernel) rfl) <|
  am_kd (fun d => ak_retI d) <| am_kdn
def r_force (M : am_M) (pl w p y : Int32) : Int32 × am_M := if 0 ≤ pl ∧ pl < 5 then (if 0 ≤ w ∧ w < 6 then (if 0 ≤ p ∧ p < M.1 201 0 then (if 0 ≤ y ∧ y < 40 then (r_inF M pl w p y, M) else ((-2 : Int32), M)) else ((-2 : Int32), M)) else ((-2 : Int32), M)) else ((-2 : Int32), M)
def TE8_force : am_T := fun live as M R => match as with
  | [.ref n, .int pl, .int w, .int p, .int y] => am_mn live ∧ n = 200 ∧ r_I M ∧ R (some (.int (r_force M pl w p y).1)) (r_force M pl w p y).2
  | _ => False
set_option maxRecDepth 100000 in
set_option maxHeartbeats 4000000 in
theorem metX8_forceE : am_Met yX8_force cX8_force 5 (some .int) (2) (53) TE8_force := by
  refine am_met (own := RX8) (by decide +kernel) rfl kX8_forceE koX8_forceE 200 (fun _ _ _ _ _ => none) (fun live as M Ret h => ?_) (fun _ _ _ _ _ _ _ _ hI => by cases hI)
  unfold TE8_force at h
  split at h
  · next n pl w p y =>
    refine ⟨Nat.le_of_ble_eq_true rfl, ?_⟩
    change am_wp _ _ _ _ [(0, Value.ref n), (1, Value.int pl), (2, Value.int w), (3, Value.int p), (4, Value.int y)] _ _
    obtain ⟨hmn, rfl, hR, h⟩ := h
    have hmn2 := hmn
    obtain ⟨i1, i2, rfl⟩ := hmn2
    have l201 : am_len 201 = 3760 := rfl
    have n0 := hR.n0
    have n1 := hR.n1
    have n030 : 0 ≤ (M.1 201 0).toInt ∧ (M.1 201 0).toInt ≤ 30 := ⟨n0.1, by omega⟩
    by_cases z0 : 0 ≤ pl ∧ pl < 5
    rotate_left
    · skip
      have q0 : (if 0 ≤ pl ∧ pl < 5 then (1 : Int32) else 0) = 0 := if_neg z0
      have e : r_force M pl w p y = ((-2 : Int32), M) := by unfold r_force; rw [if_neg z0]
      rw [e] at h
      repeat' (first | (with_reducible exact hmn) | (with_reducible exact h) | (with_reducible exact n030) | (with_reducible exact n1) | apply And.intro | exact rfl | (intro hx; with_reducible exact absurd q0 hx) | (intro hx; exact absurd hx (by decide)) | (intro hx; exact absurd (by decide) hx) | decide | intro hx | (refine Exists.intro _ (And.intro rfl ?_)))
      all_goals try first | (with_reducible change am_tI _ _) | (change Ret _ _) | (change Ret _ _ _) | (change Exists _)
      all_goals try dsimp only at *
      all_goals try (with_reducible exact absurd ‹(1000 : Int64) = 0› am_z1000)
      all_goals first | (with_reducible exact h) | (with_reducible exact n0.1) | omega | (show _ < _; simp only [l201]; decide) | exact h | exact n0.1 | skip
    · skip
      have q0 : ¬ ((if 0 ≤ pl ∧ pl < 5 then (1 : Int32) else 0) = 0) := by rw [if_pos z0]; decide
      by_cases z1 : 0 ≤ w ∧ w < 6
      rotate_left
      · skip
        have q1 : (if 0 ≤ w ∧ w < 6 then (1 : Int32) else 0) = 0 := if_neg z1
        have e : r_force M pl w p y = ((-2 : Int32), M) := by unfold r_force; rw [if_pos z0, if_neg z1]
        rw [e] at h
        repeat' (first | (with_reducible exact hmn) | (with_reducible exact h) | (with_reducible exact n030) | (with_reducible exact n1) | apply And.intro | exact rfl | (intro hx; with_reducible exact absurd hx q0) | (intro hx; with_reducible exact absurd q1 hx) | (intro hx; exact absurd hx (by decide)) | (intro hx; exact absurd (by decide) hx) | decide | intro hx | (refine Exists.intro _ (And.intro rfl ?_)))
        all_goals try first | (with_reducible change am_tI _ _) | (change Ret _ _) | (change Ret _ _ _) | (change Exists _)
        all_goals try dsimp only at *
        all_goals try (with_reducible exact absurd ‹(1000 : Int64) = 0› am_z1000)
        all_goals first | (with_reducible exact h) | (with_reducible exact n0.1) | omega | (show _ < _; simp only [l201]; decide) | exact h | exact n0.1 | skip
      · skip
        have q1 : ¬ ((if 0 ≤ w ∧ w < 6 then (1 : Int32) else 0) = 0) := by rw [if_pos z1]; decide
        by_cases z2 : 0 ≤ p ∧ p < M.1 201 0
        rotate_left
        · skip
          have q2 : (if 0 ≤ p ∧ p < M.1 201 0 then (1 : Int32) else 0) = 0 := if_neg z2
          have e : r_force M pl w p y = ((-2 : Int32), M) := by unfold r_force; rw [if_pos z0, if_pos z1, if_neg z2]
          rw [e] at h
          repeat' (first | (with_reducible exact hmn) | (with_reducible exact h) | (with_reducible exact n030) | (with_reducible exact n1) | apply And.intro | exact rfl | (intro hx; with_reducible exact absurd hx q0) | (intro hx; with_reducible exact absurd hx q1) | (intro hx; with_reducible exact absurd q2 hx) | (intro hx; exact absurd hx (by decide)) | (intro hx; exact absurd (by decide) hx) | decide | intro hx | (refine Exists.intro _ (And.intro rfl ?_)))
          all_goals try first | (with_reducible change am_tI _ _) | (change Ret _ _) | (change Ret _ _ _) | (change Exists _)
          all_goals try dsimp only at *
          all_goals try (with_reducible exact absurd ‹(1000 : Int64) = 0› am_z1000)
          all_goals first | (with_reducible exact h) | (with_reducible exact n0.1) | omega | (show _ < _; simp only [l201]; decide) | exact h | exact n0.1 | skip
        · skip
          have q2 : ¬ ((if 0 ≤ p ∧ p < M.1 201 0 then (1 : Int32) else 0) = 0) := by rw [if_pos z2]; decide
          by_cases z3 : 0 ≤ y ∧ y < 40
          rotate_left
          · skip
            have q3 : (if 0 ≤ y ∧ y < 40 then (1 : Int32) else 0) = 0 := if_neg z3
            have e : r_force M pl w p y = ((-2 : Int32), M) := by unfold r_force; rw [if_pos z0, if_pos z1, if_pos z2, if_neg z3]
            rw [e] at h
            repeat' (first | (with_reducible exact hmn) | (with_reducible exact h) | (with_reducible exact n030) | (with_reducible exact n1) | apply And.intro | exact rfl | (intro hx; with_reducible exact absurd hx q0) | (intro hx; with_reducible exact absurd hx q1) | (intro hx; with_reducible exact absurd hx q2) | (intro hx; with_reducible exact absurd q3 hx) | (intro hx; exact absurd hx (by decide)) | (intro hx; exact absurd (by decide) hx) | decide | intro hx | (refine Exists.intro _ (And.intro rfl ?_)))
            all_goals try first | (with_reducible change am_tI _ _) | (change Ret _ _) | (change Ret _ _ _) | (change Exists _)
            all_goals try dsimp only at *
            all_goals try (with_reducible exact absurd ‹(1000 : Int64) = 0› am_z1000)
            all_goals first | (with_reducible exact h) | (with_reducible exact n0.1) | omega | (show _ < _; simp only [l201]; decide) | exact h | exact n0.1 | skip
          · skip
            have q3 : ¬ ((if 0 ≤ y ∧ y < 40 then (1 : Int32) else 0) = 0) := by rw [if_pos z3]; decide
            have hp : am_in p 12 := ⟨by have q := z2.1; simp only [i_le, Int32.reduceToInt] at q; omega, by have q := z2.2; simp only [i_lt] at q; omega⟩
            have hw : am_in w 6 := ⟨by have q := z1.1; simp only [i_le, Int32.reduceToInt] at q; omega, by have q := z1.2; simp only [i_lt, Int32.reduceToInt] at q; omega⟩
            have e : r_force M pl w p y = (r_inF M pl w p y, M) := by unfold r_force; rw [if_pos z0, if_pos z1, if_pos z2, if_pos z3]
            rw [e] at h
            repeat' (first | (with_reducible exact hmn) | (with_reducible exact n030) | (with_reducible exact n1) | (with_reducible exact hw) | (with_reducible exact hp) | (with_reducible exact hR) | apply And.intro | exact rfl | (intro hx; with_reducible exact absurd hx q0) | (intro hx; with_reducible exact absurd hx q1) | (intro hx; with_reducible exact absurd hx q2) | (intro hx; with_reducible exact absurd hx q3) | ((with_reducible change r_I _); (with_reducible assumption)) | (intro hx; exact absurd hx (by decide)) | (intro hx; exact absurd (by decide) hx) | decide | intro hx | (refine Exists.intro _ (And.intro rfl ?_)))
            all_goals try first | (with_reducible change am_tI _ _) | (change Ret _ _) | (change Ret _ _ _) | (change Exists _)
            all_goals try dsimp only at *
            all_goals try (with_reducible exact absurd ‹(1000 : Int64) = 0› am_z1000)
            all_goals first | (with_reducible exact h) | (with_reducible exact n0.1) | omega | (show _ < _; simp only [l201]; decide) | exact h | exact n0.1 | skip
  · exact h.elim
def kX7_forceE (live : am_E) (Ret : am_R) : am_code := [(0, am_iload 1 1), (1, am_callS live 1 TX7_isPlan 4), (4, am_if1 (fun x => x = 0) 32 7), (7, am_iload 2 8), (8, am_const (.int 0) 9), (9, am_const (.int 5) 10), (10, am_callS live 3 TX7_within 13), (13, am_if1 (fun x => x = 0) 32 16), (16, am_aload 0 17), (17, am_iload 3 18), (18, am_callV live 7 1 TX7_isPerson 21), (21, am_if1 (fun x => x = 0) 32 24), (24, am_iload 4 26), (26, am_callS live 1 TX7_isYear 29), (29, am_if1 (fun x => x = 0) 32 35), (32, am_const (.int (-2)) 34), (34, am_retI Ret), (35, am_aload 0 36), (36, am_getR live 7 2 39), (39, am_iload 3 40), (40, am_callV live 4 1 TE4_layNumbers 43), (43, am_aload 0 44), (44, am_getR live 7 2 47), (47, am_getR live 4 1 50), (50, am_iload 4 52), (52, am_const (.int 5) 53), (53, am_i2 (fun x y => x * y) 54), (54, am_iload 1 55), (55, am_i2 (fun x y => x + y) 56), (56, am_const (.int 6) 58), (58, am_i2 (fun x y => x * y) 59), (59, am_iload 2 60), (60, am_i2 (fun x y => x + y) 61), (61, am_ald live 0 62), (62, am_retI Ret)]
theorem koX7_forceE (live : am_E) (Ret : am_R) : ∀ q ∈ kX7_forceE live Ret, am_ok RX7 cX7_force 5 (some .int) 3 72 live Ret q.1 q.2 :=
  am_kz dzX7_force <|
  am_kd (fun d => ak_iload_n d rfl rfl) <|
  am_kd (fun d => ak_callS metX7_isPlan ⟨rfl, hy_X7_isPlan⟩ (am_w4 wd_466 wd_467 wd_58 wd_468) (by decide) d rfl) <|
  am_kd (fun d => ak_if_eq d (by decide +kernel) rfl) <|
  am_kd (fun d => ak_iload_n d rfl rfl) <|
  am_kd (fun d => ak_iconst d (by decide +kernel) rfl) <|
  am_kd (fun d => ak_iconst d (by decide +kernel) rfl) <|
  am_kd (fun d => ak_callS metX7_within ⟨rfl, hy_X7_within⟩ (am_w4 wd_418 wd_419 wd_58 wd_420) (by decide) d rfl) <|
  am_kd (fun d => ak_if_eq d (by decide +kernel) rfl) <|
  am_kd (fun d => ak_aload_n d rfl rfl) <|
  am_kd (fun d => ak_iload_n d rfl rfl) <|
  am_kd (fun d => ak_callV (C := RX7) (F := TX7) (N := 4) metX7_isPerson rfl ⟨rfl, hy_X7_isPerson⟩ (am_w5 wd_414 wd_416 wd_0 wd_58 wd_417) (by decide) d rfl) <|
  am_kd (fun d => ak_if_eq d (by decide +kernel) rfl) <|
  am_kd (fun d => ak_iload d rfl) <|
  am_kd (fun d => ak_callS metX7_isYear ⟨rfl, hy_X7_isYear⟩ (am_w4 wd_407 wd_408 wd_58 wd_409) (by decide) d rfl) <|
  am_kd (fun d => ak_if_ne d (by decide +kernel) rfl) <|
  am_kd (fun d => ak_bipush d (by decide +kernel) rfl) <|
  am_kd (fun d => ak_retI d) <|
  am_kd (fun d => ak_aload_n d rfl rfl) <|
  am_kd (fun d => ak_getR (C := RX7) (T := TX7) (N := 4) rfl inX7w (by decide) rfl rfl rfl wd_392 d rfl) <|
  am_kd (fun d => ak_iload_n d rfl rfl) <|
  am_kd (fun d => ak_callV (C := RX4) (F := TX4) (N := 19) metX4_layNumbersE rfl ⟨rfl, hy_X4_layNumbers⟩ (am_w5 wd_493 wd_494 wd_495 wd_60 wd_496) (by decide) d rfl) <|
  am_kd (fun d => ak_aload_n d rfl rfl) <|
  am_kd (fun d => ak_getR (C := RX7) (T := TX7) (N := 4) rfl inX7w (by decide) rfl rfl rfl wd_392 d rfl) <|
  am_kd (fun d => ak_getR (C := RX4) (T := TX4) (N := 19) rfl inX4w (by decide) rfl rfl rfl wd_295 d rfl) <|
  am_kd (fun d => ak_iload d rfl) <|
  am_kd (fun d => ak_iconst d (by decide +kernel) rfl) <|
  am_kd (fun d => ak_imul d rfl) <|
  am_kd (fun d => ak_iload_n d rfl rfl) <|
  am_kd (fun d => ak_iadd d rfl) <|
  am_kd (fun d => ak_bipush d (by decide +kernel) rfl) <|
  am_kd (fun d => ak_imul d rfl) <|
  am_kd (fun d => ak_iload_n d rfl rfl) <|
  am_kd (fun d => ak_iadd d rfl) <|
  am_kd (fun d => ak_iald (t := 0) (fun _ => rfl) rfl d rfl) <|
  am_kd (fun d => ak_retI d) <| am_kdn
theorem o_cl {x : Int32} {n : Nat} (h : am_in x n) (hn : n ≤ 100) : Int32.ofNat x.toNatClampNeg = x := by
  have h1 := h.1
  have h2 := h.2
  have c := i_clamp h1
  exact ((o_eq (x := x) (n := x.toNatClampNeg) (by omega) h1).mpr rfl).symm
def c_forceV (M : am_M) (pl w p y : Int32) : Int32 := if 0 ≤ pl ∧ pl < 5 then (if 0 ≤ w ∧ w ≤ 5 then (if 0 ≤ p ∧ p < M.1 21 7 then (if 0 ≤ y ∧ y < 40 then q_F (M.1 32) (M.1 31 2).toNatClampNeg (M.1 22 p.toNatClampNeg) pl w y.toInt else -2) else -2) else -2) else -2
def TE7_force : am_T := fun live as M R => match as with
  | [.ref n, .int pl, .int w, .int p, .int y] => am_mn live ∧ n = 0 ∧ (g_hI M ∧ g_rI M) ∧ c_A M ∧ ∀ M', c_n5 M M' → g_rI M' → R (some (.int (c_forceV M pl w p y))) M'
  | _ => False
set_option maxRecDepth 100000 in
set_option maxHeartbeats 4000000 in
theorem metX7_forceE : am_Met yX7_force cX7_force 5 (some .int) (3) (72) TE7_force := by
  refine am_met (own := RX7) (by decide +kernel) rfl kX7_forceE koX7_forceE 150 (fun _ _ _ _ _ => none) (fun live as M Ret h => ?_) (fun _ _ _ _ _ _ _ _ hI => by cases hI)
  unfold TE7_force at h
  split at h
  · next n pl w p y =>
    refine ⟨Nat.le_of_ble_eq_true rfl, ?_⟩
    change am_wp _ _ _ _ [(0, Value.ref n), (1, Value.int pl), (2, Value.int w), (3, Value.int p), (4, Value.int y)] _ _
    obtain ⟨hmn, rfl, ⟨hH, hR⟩, hA, h⟩ := h
    have hmn2 := hmn
    obtain ⟨i1, i2, rfl⟩ := hmn2
    by_cases z0 : 0 ≤ pl ∧ pl < 5
    rotate_left
    · skip
      have q0 : (if 0 ≤ pl ∧ pl < 5 then (1 : Int32) else 0) = 0 := if_neg z0
      have e : c_forceV M pl w p y = -2 := by unfold c_forceV; rw [if_neg z0]
      rw [e] at h
      repeat' (first | (with_reducible exact hmn) | apply And.intro | exact rfl | (intro hx; with_reducible exact absurd q0 hx) | (intro hx; exact absurd hx (by decide)) | (intro hx; exact absurd (by decide) hx) | decide | intro hx | (refine Exists.intro _ (And.intro rfl ?_)))
      all_goals try first | (with_reducible change am_tI _ _) | (change Ret _ _) | (change Ret _ _ _) | (change Exists _)
      all_goals try dsimp only at *
      all_goals try (with_reducible exact absurd ‹(1000 : Int64) = 0› am_z1000)
      all_goals exact h _ c_n5.rf hR
    · skip
      have q0 : ¬ ((if 0 ≤ pl ∧ pl < 5 then (1 : Int32) else 0) = 0) := by rw [if_pos z0]; decide
      by_cases z1 : 0 ≤ w ∧ w ≤ 5
      rotate_left
      · skip
        have q1 : (if 0 ≤ w ∧ w ≤ 5 then (1 : Int32) else 0) = 0 := if_neg z1
        have e : c_forceV M pl w p y = -2 := by unfold c_forceV; rw [if_pos z0, if_neg z1]
        rw [e] at h
        repeat' (first | (with_reducible exact hmn) | apply And.intro | exact rfl | (intro hx; with_reducible exact absurd hx q0) | (intro hx; with_reducible exact absurd q1 hx) | (intro hx; exact absurd hx (by decide)) | (intro hx; exact absurd (by decide) hx) | decide | intro hx | (refine Exists.intro _ (And.intro rfl ?_)))
        all_goals try first | (with_reducible change am_tI _ _) | (change Ret _ _) | (change Ret _ _ _) | (change Exists _)
        all_goals try dsimp only at *
        all_goals try (with_reducible exact absurd ‹(1000 : Int64) = 0› am_z1000)
        all_goals exact h _ c_n5.rf hR
      · skip
        have q1 : ¬ ((if 0 ≤ w ∧ w ≤ 5 then (1 : Int32) else 0) = 0) := by rw [if_pos z1]; decide
        by_cases z2 : 0 ≤ p ∧ p < M.1 21 7
        rotate_left
        · skip
          have q2 : (if 0 ≤ p ∧ p < M.1 21 7 then (1 : Int32) else 0) = 0 := if_neg z2
          have e : c_forceV M pl w p y = -2 := by unfold c_forceV; rw [if_pos z0, if_pos z1, if_neg z2]
          rw [e] at h
          repeat' (first | (with_reducible exact hmn) | apply And.intro | exact rfl | (intro hx; with_reducible exact absurd hx q0) | (intro hx; with_reducible exact absurd hx q1) | (intro hx; with_reducible exact absurd q2 hx) | (intro hx; exact absurd hx (by decide)) | (intro hx; exact absurd (by decide) hx) | decide | intro hx | (refine Exists.intro _ (And.intro rfl ?_)))
          all_goals try first | (with_reducible change am_tI _ _) | (change Ret _ _) | (change Ret _ _ _) | (change Exists _)
          all_goals try dsimp only at *
          all_goals try (with_reducible exact absurd ‹(1000 : Int64) = 0› am_z1000)
          all_goals exact h _ c_n5.rf hR
        · skip
          have q2 : ¬ ((if 0 ≤ p ∧ p < M.1 21 7 then (1 : Int32) else 0) = 0) := by rw [if_pos z2]; decide
          by_cases z3 : 0 ≤ y ∧ y < 40
          rotate_left
          · skip
            have q3 : (if 0 ≤ y ∧ y < 40 then (1 : Int32) else 0) = 0 := if_neg z3
            have e : c_forceV M pl w p y = -2 := by unfold c_forceV; rw [if_pos z0, if_pos z1, if_pos z2, if_neg z3]
            rw [e] at h
            repeat' (first | (with_reducible exact hmn) | apply And.intro | exact rfl | (intro hx; with_reducible exact absurd hx q0) | (intro hx; with_reducible exact absurd hx q1) | (intro hx; with_reducible exact absurd hx q2) | (intro hx; with_reducible exact absurd q3 hx) | (intro hx; exact absurd hx (by decide)) | (intro hx; exact absurd (by decide) hx) | decide | intro hx | (refine Exists.intro _ (And.intro rfl ?_)))
            all_goals try first | (with_reducible change am_tI _ _) | (change Ret _ _) | (change Ret _ _ _) | (change Exists _)
            all_goals try dsimp only at *
            all_goals try (with_reducible exact absurd ‹(1000 : Int64) = 0› am_z1000)
            all_goals exact h _ c_n5.rf hR
          · skip
            have q3 : ¬ ((if 0 ≤ y ∧ y < 40 then (1 : Int32) else 0) = 0) := by rw [if_pos z3]; decide
            have e : c_forceV M pl w p y = q_F (M.1 32) (M.1 31 2).toNatClampNeg (M.1 22 p.toNatClampNeg) pl w y.toInt := by unfold c_forceV; rw [if_pos z0, if_pos z1, if_pos z2, if_pos z3]
            rw [e] at h
            have l5 : am_len 5 = 1200 := rfl
            have hp : am_in p 12 := ⟨by have q := z2.1; simp only [i_le, Int32.reduceToInt] at q; omega, by have q := z2.2; have q2 := hH.pe; simp only [i_lt] at q; omega⟩
            have hy : am_in y 40 := ⟨by have q := z3.1; simp only [i_le, Int32.reduceToInt] at q; omega, by have q := z3.2; simp only [i_lt, Int32.reduceToInt] at q; omega⟩
            have hpl : am_in pl 5 := ⟨by have q := z0.1; simp only [i_le, Int32.reduceToInt] at q; omega, by have q := z0.2; simp only [i_lt, Int32.reduceToInt] at q; omega⟩
            have hw : am_in w 6 := ⟨by have q := z1.1; simp only [i_le, Int32.reduceToInt] at q; omega, by have q := z1.2; simp only [i_le, Int32.reduceToInt] at q; omega⟩
            have cc := c_cell hy hpl hw
            have a1 := hpl.1
            have a2 := hpl.2
            have b1 := hy.1
            have b2 := hy.2
            have c1 := hw.1
            have c2 := hw.2
            have x1 : 0 ≤ ((y * 5 + pl) * 6 + w).toInt := by omega
            have x2 : ((y * 5 + pl) * 6 + w).toInt < (am_len 5 : Int) := by rw [l5]; omega
            repeat' (first | (with_reducible exact hmn) | (with_reducible exact x1) | (with_reducible exact x2) | (with_reducible exact hp) | (with_reducible exact hA) | apply And.intro | exact rfl | (intro hx; with_reducible exact absurd hx q0) | (intro hx; with_reducible exact absurd hx q1) | (intro hx; with_reducible exact absurd hx q2) | (intro hx; with_reducible exact absurd hx q3) | (intro hx; exact absurd hx (by decide)) | (intro hx; exact absurd (by decide) hx) | decide | intro hx | (refine Exists.intro _ (And.intro rfl ?_)))
            all_goals try first | (with_reducible change am_tI _ _) | (change Ret _ _) | (change Ret _ _ _) | (change Exists _)
            all_goals try dsimp only at *
            all_goals try (with_reducible exact absurd ‹(1000 : Int64) = 0› am_z1000)
            all_goals
              rename_i M1 d1
              have v := hx.v (y' := y.toNatClampNeg) (pl := pl.toNatClampNeg) (w := w.toNatClampNeg) (g_cl hy) (g_cl hpl) (g_cl hw)
              rw [← cc.2, q_Fn, o_cl hpl (by decide), o_cl hw (by decide), i_clamp hy.1] at v
              exact am_rI (h M1 d1 (d1.rI hR)) v.symm
  · exact h.elim
end
-- part 79.exact4.lean.txt
section
/-! exact: planOf, force: class and reference answer alike -/
theorem q_mt_cg {A A' : Nat → Int32} {bg pl w : Int32} {i : Nat} (h : ∀ k, k < 6 → A' (6 * i + k) = A (6 * i + k)) : q_mt A' bg pl w i = q_mt A bg pl w i := by
  unfold q_mt
  rw [h 1 (by decide), h 4 (by decide), h 5 (by decide), show A' (6 * i) = A (6 * i) from h 0 (by decide)]
theorem q_R_cg {A A' : Nat → Int32} {bg pl w : Int32} {y : Int} : ∀ {n : Nat}, (∀ k, k < 6 * n → A' k = A k) → q_R A' bg pl w y n = q_R A bg pl w y n
  | 0, _ => rfl
  | n + 1, h => by
    have ih := q_R_cg (A := A) (A' := A') (bg := bg) (pl := pl) (w := w) (y := y) (n := n) (fun k hk => h k (by omega))
    have e := q_mt_cg (A := A) (A' := A') (bg := bg) (pl := pl) (w := w) (i := n) (fun k hk => h _ (by omega))
    have e3 := h (6 * n + 3) (by omega)
    by_cases hm : q_mt A bg pl w n = true ∧ (A (6 * n + 3)).toInt ≤ y
    · have hm' : q_mt A' bg pl w n = true ∧ (A' (6 * n + 3)).toInt ≤ y := by rw [e, e3]; exact hm
      cases ho : q_R A bg pl w y n with
      | none =>
        rw [ho] at ih
        rw [q_R_s2 hm ho, q_R_s2 hm' ih]
      | some b =>
        rw [ho] at ih
        have hlt := (q_R_lt ho).1
        have e4 := h (6 * b + 3) (by omega)
        by_cases h3 : (A (6 * b + 3)).toInt ≤ (A (6 * n + 3)).toInt
        · rw [q_R_s3 hm ho h3, q_R_s3 hm' ih (by rw [e3, e4]; exact h3)]
        · rw [q_R_s4 ho h3, q_R_s4 ih (by rw [e3, e4]; exact h3)]
    · rw [q_R_s1 hm, q_R_s1 (A := A') (by rw [e, e3]; exact hm)]
      exact ih
theorem q_F_cg {A A' : Nat → Int32} {bg pl w : Int32} {y : Int} {n : Nat} (h : ∀ k, k < 6 * n → A' k = A k) : q_F A' n bg pl w y = q_F A n bg pl w y := by
  unfold q_F
  rw [q_R_cg h]
  cases ho : q_R A bg pl w y n with
  | none => rfl
  | some b =>
    have hlt := (q_R_lt ho).1
    exact h _ (by omega)
section LIX
variable {i1 i2 : Bool} {M : am_M}
theorem LI.acts (h : LI i1 i2 M) {k : Nat} (hk : k < 6 * (M.1 201 2).toNatClampNeg) : M.1 32 k = M.1 201 (2478 + k) := by
  obtain ⟨-, -, e, q⟩ := h.b.r
  have q1 := q k (by rw [show M.1 (20 + 11) 2 = M.1 201 2 from e]; exact hk)
  rw [Nat.zero_add] at q1
  exact q1
theorem LI.cA (h : LI i1 i2 M) : c_A M := by
  have n2 := h.n2
  have e2 := h.e2
  have c := i_clamp n2.1
  refine ⟨(), h.w.1, ⟨by rw [e2]; exact n2.1, by rw [e2]; omega⟩, fun i hi => ?_⟩
  rw [e2] at hi
  rw [h.acts (k := 6 * i) (by omega), h.acts (k := 6 * i + 1) (by omega), h.acts (k := 6 * i + 3) (by omega)]
  have v0 := (h.v (k := 2478 + 6 * i) (by omega)).a13 ⟨by omega, by omega, by omega⟩
  have v1 := (h.v (k := 2478 + (6 * i + 1)) (by omega)).a14 ⟨by omega, by omega, by omega⟩
  have v3 := (h.v (k := 2478 + (6 * i + 3)) (by omega)).a16 ⟨by omega, by omega, by omega⟩
  exact ⟨⟨v0.1, by omega⟩, ⟨v1.1, by omega⟩, v3.1⟩
theorem LI.bg (h : LI i1 i2 M) {p : Int32} (hp : am_in p 12) : M.1 22 p.toNatClampNeg = M.1 201 (10 + p.toNatClampNeg) := by
  have e := h.e (o := 2) (k0 := 0) (b0 := 10) (n := 12) (by decide) (k := p.toNatClampNeg) (g_cl hp)
  rw [Nat.zero_add] at e
  exact e
theorem LI.F (h : LI i1 i2 M) {pl w p : Int32} (hp : am_in p 12) (y : Int) : q_F (M.1 32) (M.1 31 2).toNatClampNeg (M.1 22 p.toNatClampNeg) pl w y = q_F (r_A M) (M.1 201 2).toNatClampNeg (M.1 201 (10 + p.toNatClampNeg)) pl w y := by
  rw [h.e2, h.bg hp]
  exact q_F_cg (fun k hk => h.acts hk)
theorem LI.inF (h : LI i1 i2 M) {pl w p y : Int32} (hpl : 0 ≤ pl.toInt) : r_inF M pl w p y = q_F (r_A M) (M.1 201 2).toNatClampNeg (M.1 201 (10 + p.toNatClampNeg)) pl w y.toInt := by
  unfold r_inF
  rw [if_neg (fun q => by have q1 := q.1; rw [h.n3t] at q1; subst q1; exact absurd hpl (by decide))]
theorem LI.pl (h : LI i1 i2 M) {l y : Int32} (hl : am_in l 30) (hl2 : l.toInt < (M.1 201 1).toInt) (hy : am_in y 40) : M.1 37 (l * 40 + y).toNatClampNeg = r_pl M l y := by
  have f := x_40 (p := l) (y := y) ⟨hl.1, by have := hl.2; omega⟩ ⟨hy.1, by have := hy.2; omega⟩
  have l1 := hl.1
  have y1 := hy.1
  have y2 := hy.2
  have c1 := i_clamp (x := l * 40 + y) (by omega)
  have c2 := i_clamp l1
  have c3 := i_clamp y1
  obtain ⟨-, -, -, -, h4⟩ := h.b.l
  have q := h4 l.toNatClampNeg (g_cl hl) (by show _ < (M.1 201 (0 + 1)).toInt; rw [Nat.zero_add]; omega) y.toNatClampNeg (g_cl hy)
  rw [show (l * 40 + y).toNatClampNeg = 40 * l.toNatClampNeg + y.toNatClampNeg by omega]
  have hf : (fun k => M.1 201 (0 + k)) = M.1 201 := funext fun k => by rw [Nat.zero_add]
  rw [hf] at q
  unfold r_pl
  rw [if_neg (fun w => by have w1 := w.1; rw [h.n7] at w1; exact absurd w1 (by decide))]
  exact q
theorem LI.planOf (h : LI i1 i2 M) (l y : Int32) : (c_planOf M l y).1 = (r_planOf M l y).1 ∧ (c_planOf M l y).2 = M ∧ (r_planOf M l y).2 = M := by
  unfold c_planOf r_planOf
  rw [h.e1]
  by_cases z0 : 0 ≤ l ∧ l < M.1 201 1
  · rw [if_pos z0, if_pos z0]
    by_cases z1 : 0 ≤ y ∧ y < 40
    · rw [if_pos z1, if_pos z1]
      have a := b4 z0
      have b := yr z1
      have n1 := h.n1
      exact ⟨h.pl ⟨a.1, by omega⟩ a.2 ⟨b.1, by omega⟩, rfl, rfl⟩
    · rw [if_neg z1, if_neg z1]
      exact ⟨rfl, rfl, rfl⟩
  · rw [if_neg z0, if_neg z0]
    exact ⟨rfl, rfl, rfl⟩
theorem LI.force (h : LI i1 i2 M) (pl w p y : Int32) : c_forceV M pl w p y = (r_force M pl w p y).1 ∧ (r_force M pl w p y).2 = M := by
  unfold c_forceV r_force
  rw [h.e0]
  by_cases z0 : 0 ≤ pl ∧ pl < 5
  · rw [if_pos z0, if_pos z0]
    by_cases z1 : 0 ≤ w ∧ w ≤ 5
    · have z1' : 0 ≤ w ∧ w < 6 := ⟨z1.1, by have q := z1.2; simp only [i_le, i_lt, Int32.reduceToInt] at q ⊢; omega⟩
      rw [if_pos z1, if_pos z1']
      by_cases z2 : 0 ≤ p ∧ p < M.1 201 0
      · rw [if_pos z2, if_pos z2]
        by_cases z3 : 0 ≤ y ∧ y < 40
        · rw [if_pos z3, if_pos z3]
          have a := b4 z2
          have n0 := h.n0
          have hp : am_in p 12 := ⟨a.1, by omega⟩
          refine ⟨?_, rfl⟩
          show _ = r_inF M pl w p y
          rw [h.inF (b4 z0).1]
          exact h.F hp _
        · rw [if_neg z3, if_neg z3]
          exact ⟨rfl, rfl⟩
      · rw [if_neg z2, if_neg z2]
        exact ⟨rfl, rfl⟩
    · have z1' : ¬ (0 ≤ w ∧ w < 6) := fun q => z1 ⟨q.1, by have q := q.2; simp only [i_le, i_lt, Int32.reduceToInt] at q ⊢; omega⟩
      rw [if_neg z1, if_neg z1']
      exact ⟨rfl, rfl⟩
  · rw [if_neg z0, if_neg z0]
    exact ⟨rfl, rfl⟩
end LIX
theorem c_forceV_cg {M N : am_M} (c : c_n5 M N) (pl w p y : Int32) : c_forceV N pl w p y = c_forceV M pl w p y := by
  unfold c_forceV
  rw [c.i (show (32 : Nat) ≠ 5 by decide), c.i (show (31 : Nat) ≠ 5 by decide), c.i (show (22 : Nat) ≠ 5 by decide), c.i (show (21 : Nat) ≠ 5 by decide)]
end
-- part 79b.text0.lean.txt
section
/-! texts, pure: the reference's reader as a machine of lists (last first) -/
def w_b (b : Bool) : Int64 := if b = true then 1 else 0
/-- a value comes: the signs ahead of it work -/
def w_lay : List Int32 → Int64 → List Int64 → List Int32 × List Int64
  | [], x, V => ([], x :: V)
  | c :: W, x, V => if c = 1 then w_lay W (if x = 0 then 1 else 0) V else if c = 2 then w_lay W (-x) V else (c :: W, x :: V)
def w_red (k : Int32) : List Int32 → List Int64 → List Int32 × List Int64
  | c :: W, b :: a :: V => if k ≤ r_clo c then w_red k W (am_join c a b :: V) else (c :: W, b :: a :: V)
  | [], V => ([], V)
  | c :: W, V => (c :: W, V)
def w_cho : List Int32 → List Int64 → List Int32 × List Int64
  | c :: W, z :: y :: x :: V => if c = 58 then w_cho W ((if x ≠ 0 then y else z) :: V) else (c :: W, z :: y :: x :: V)
  | [], V => ([], V)
  | c :: W, V => (c :: W, V)
def w_chs (W : List Int32) (V : List Int64) : List Int32 × List Int64 := w_cho (w_red 2 W V).1 (w_red 2 W V).2
def w_hdc : List Int32 → Int32
  | [] => 0
  | c :: _ => c
def w_beh (c : Int32) (W : List Int32) (V : List Int64) : Option (List Int32 × List Int64) :=
  if 4 < (r_clo c).toInt then some (c :: (w_red (r_clo c) W V).1, (w_red (r_clo c) W V).2)
  else if r_clo c = 4 then (if r_clo (w_hdc (w_red 5 W V).1) = 4 then none else some (c :: (w_red 5 W V).1, (w_red 5 W V).2))
  else if 0 < (r_clo c).toInt then some (c :: (w_red (r_clo c) W V).1, (w_red (r_clo c) W V).2)
  else if c = 63 then some (c :: (w_red 2 W V).1, (w_red 2 W V).2)
  else if c = 58 then (if w_hdc (w_chs W V).1 = 63 then some (58 :: (w_chs W V).1.tail, (w_chs W V).2) else none)
  else if c = 41 then (if w_hdc (w_chs W V).1 = 40 then (match (w_chs W V).2 with
    | v :: V' => some (w_lay (w_chs W V).1.tail v V')
    | [] => none) else none)
  else none
def w_dgt (c : Int32) : Bool := decide (48 ≤ c.toInt ∧ c.toInt ≤ 57)
/-- a number read: the place behind it and what it says; none: it is too long -/
def w_dig (σ : Nat → Int32) (n : Nat) : Nat → Nat → Nat → Int → Option (Nat × Int)
  | 0, _, _, _ => none
  | u + 1, i, k, v => if i < n ∧ w_dgt (σ i) = true then (if k = 6 then none else w_dig σ n u (i + 1) (k + 1) (10 * v + ((σ i).toInt - 48))) else some (i, v)
def w_opn (W : List Int32) : Nat := W.countP (fun c => decide (c = 40))
abbrev w_S := Nat × Bool × List Int32 × List Int64
/-- one step of the reader, at a place in the text -/
def w_stp (fa : Int32 → Int64) (σ : Nat → Int32) (n : Nat) (i : Nat) (due : Bool) (W : List Int32) (V : List Int64) : Sum w_S Int :=
  if σ i = 32 then .inl (i + 1, due, W, V)
  else if due = true ∧ w_dgt (σ i) = true then (match w_dig σ n 8 i 0 0 with
    | none => .inr (10 * (i : Int) + 2)
    | some (j, v) => .inl (j, false, w_lay W (Int64.ofInt v) V))
  else if due = true ∧ 0 ≤ (r_fact (σ i)).toInt then .inl (i + 1, false, w_lay W (fa (σ i)) V)
  else if due = true ∧ σ i = 40 then (if w_opn W = 8 then .inr (10 * (i : Int) + 3) else .inl (i + 1, true, 40 :: W, V))
  else if due = true ∧ (σ i = 33 ∨ σ i = 45) then .inl (i + 1, true, (if σ i = 33 then 1 else 2) :: W, V)
  else if due = false then (match w_beh (σ i) W V with
    | some (W', V') => .inl (i + 1, !(decide (σ i = 41)), W', V')
    | none => .inr (10 * (i : Int) + 1))
  else .inr (10 * (i : Int) + 1)
def w_end (n : Nat) (due : Bool) (W : List Int32) (V : List Int64) : Sum Int64 Int :=
  if due = true then .inr (10 * (n : Int) + 1) else (match w_chs W V with
    | ([], v :: _) => .inl v
    | _ => .inr (10 * (n : Int) + 1))
def w_run (fa : Int32 → Int64) (σ : Nat → Int32) (n : Nat) : Nat → Nat → Bool → List Int32 → List Int64 → Sum Int64 Int
  | 0, _, due, W, V => w_end n due W V
  | u + 1, i, due, W, V => if i < n then (match w_stp fa σ n i due W V with
    | .inl (j, d, W', V') => w_run fa σ n u j d W' V'
    | .inr f => .inr f) else w_end n due W V
theorem w_dig_ge {σ : Nat → Int32} {n : Nat} : ∀ {u i k : Nat} {v : Int} {j : Nat} {w : Int}, w_dig σ n u i k v = some (j, w) → i ≤ j
  | 0, _, _, _, _, _, h => by cases h
  | u + 1, i, k, v, j, w, h => by
    unfold w_dig at h
    split at h
    · split at h
      · cases h
      · have := w_dig_ge h
        omega
    · cases h
      exact Nat.le_refl _
theorem w_stp_gt {fa : Int32 → Int64} {σ : Nat → Int32} {n i : Nat} {due : Bool} {W : List Int32} {V : List Int64} {S : w_S} (hi : i < n) (h : w_stp fa σ n i due W V = .inl S) : i < S.1 := by
  unfold w_stp at h
  split at h
  · cases h; exact Nat.lt_succ_self _
  · split at h
    · next hd =>
      split at h
      · cases h
      · next j v e =>
        cases h
        show i < j
        unfold w_dig at e
        rw [if_pos ⟨hi, hd.2⟩, if_neg (by decide)] at e
        have := w_dig_ge e
        omega
    · split at h
      · cases h; exact Nat.lt_succ_self _
      · split at h
        · split at h
          · cases h
          · cases h; exact Nat.lt_succ_self _
        · split at h
          · cases h; exact Nat.lt_succ_self _
          · split at h
            · split at h
              · cases h; exact Nat.lt_succ_self _
              · cases h
            · cases h
/-- enough steps are enough -/
theorem w_run_eq {fa : Int32 → Int64} {σ : Nat → Int32} {n : Nat} : ∀ {u u' i : Nat} {due : Bool} {W : List Int32} {V : List Int64}, n ≤ i + u → n ≤ i + u' → w_run fa σ n u i due W V = w_run fa σ n u' i due W V
  | 0, 0, _, _, _, _, _, _ => rfl
  | 0, u' + 1, i, due, W, V, h1, _ => by
    unfold w_run
    rw [if_neg (by omega)]
  | u + 1, 0, i, due, W, V, _, h2 => by
    unfold w_run
    rw [if_neg (by omega)]
  | u + 1, u' + 1, i, due, W, V, h1, h2 => by
    unfold w_run
    by_cases z : i < n
    · rw [if_pos z, if_pos z]
      cases e : w_stp fa σ n i due W V with
      | inr f => rfl
      | inl S =>
        obtain ⟨j, d, W', V'⟩ := S
        have := w_stp_gt z e
        dsimp only at this ⊢
        exact w_run_eq (by omega) (by omega)
    · rw [if_neg z, if_neg z]
/-- what comes of it from a state on -/
def w_res (fa : Int32 → Int64) (σ : Nat → Int32) (n : Nat) (i : Nat) (due : Bool) (W : List Int32) (V : List Int64) : Sum Int64 Int := w_run fa σ n (n - i) i due W V
theorem w_res_s {fa : Int32 → Int64} {σ : Nat → Int32} {n i j : Nat} {due d : Bool} {W W' : List Int32} {V V' : List Int64} (hi : i < n) (h : w_stp fa σ n i due W V = .inl (j, d, W', V')) : w_res fa σ n i due W V = w_res fa σ n j d W' V' := by
  have hj : i < j := w_stp_gt hi h
  unfold w_res
  rw [show n - i = (n - i - 1) + 1 by omega]
  conv => lhs; unfold w_run
  rw [if_pos hi, h]
  exact w_run_eq (by omega) (by omega)
theorem w_res_f {fa : Int32 → Int64} {σ : Nat → Int32} {n i : Nat} {due : Bool} {W : List Int32} {V : List Int64} {f : Int} (hi : i < n) (h : w_stp fa σ n i due W V = .inr f) : w_res fa σ n i due W V = .inr f := by
  unfold w_res
  rw [show n - i = (n - i - 1) + 1 by omega]
  conv => lhs; unfold w_run
  rw [if_pos hi, h]
theorem w_res_e {fa : Int32 → Int64} {σ : Nat → Int32} {n i : Nat} {due : Bool} {W : List Int32} {V : List Int64} (hi : n ≤ i) : w_res fa σ n i due W V = w_end n due W V := by
  unfold w_res
  rw [show n - i = 0 by omega]
  rfl
/-- blanks are passed -/
theorem w_res_b {fa : Int32 → Int64} {σ : Nat → Int32} {n : Nat} {due : Bool} {W : List Int32} {V : List Int64} : ∀ (k i : Nat), i + k ≤ n → (∀ j, i ≤ j → j < i + k → σ j = 32) → w_res fa σ n i due W V = w_res fa σ n (i + k) due W V
  | 0, _, _, _ => rfl
  | k + 1, i, h1, h2 => by
    rw [w_res_s (j := i + 1) (d := due) (W' := W) (V' := V) (by omega) (by unfold w_stp; rw [if_pos (h2 i (by omega) (by omega))]), w_res_b k (i + 1) (by omega) (fun j a b => h2 j (by omega) (by omega)), show i + 1 + k = i + (k + 1) by omega]
/-- the sign on top lets reducing stop -/
def w_hd (W : List Int32) (k : Int) : Prop := match W with
  | [] => True
  | c :: _ => (r_clo c).toInt < k ∧ c ≠ 1 ∧ c ≠ 2
theorem w_red_hd {W : List Int32} {k : Int32} {V : List Int64} (h : w_hd W k.toInt) : w_red k W V = (W, V) := by
  unfold w_red
  split
  · next c W b a V => rw [if_neg (fun q => by have := h.1; rw [i_le] at q; omega)]
  · rfl
  · rfl
theorem w_lay_hd {W : List Int32} {k : Int} {v : Int64} {V : List Int64} (h : w_hd W k) : w_lay W v V = (W, v :: V) := by
  unfold w_lay
  split
  · rfl
  · next c W => rw [if_neg h.2.1, if_neg h.2.2]
theorem w_red_red {m k : Int32} (h : m.toInt ≤ k.toInt) : ∀ (W : List Int32) (V : List Int64), w_red m W V = w_red m (w_red k W V).1 (w_red k W V).2
  | [], V => by
    have e : w_red k [] V = ([], V) := by unfold w_red; rfl
    rw [e]
  | c :: W, [] => by
    have e : w_red k (c :: W) [] = (c :: W, []) := by unfold w_red; rfl
    rw [e]
  | c :: W, [b] => by
    have e : w_red k (c :: W) [b] = (c :: W, [b]) := by unfold w_red; rfl
    rw [e]
  | c :: W, b :: a :: V => by
    by_cases z : k ≤ r_clo c
    · have e : w_red k (c :: W) (b :: a :: V) = w_red k W (am_join c a b :: V) := by
        conv => lhs; unfold w_red
        rw [if_pos z]
      have e2 : w_red m (c :: W) (b :: a :: V) = w_red m W (am_join c a b :: V) := by
        conv => lhs; unfold w_red
        rw [if_pos (by rw [i_le] at z ⊢; omega)]
      rw [e, e2]
      exact w_red_red h W _
    · have e : w_red k (c :: W) (b :: a :: V) = (c :: W, b :: a :: V) := by
        conv => lhs; unfold w_red
        rw [if_neg z]
      rw [e]
theorem w_red_y {k c : Int32} {W : List Int32} {a b : Int64} {V : List Int64} (h : k ≤ r_clo c) : w_red k (c :: W) (b :: a :: V) = w_red k W (am_join c a b :: V) := by
  conv => lhs; unfold w_red
  rw [if_pos h]
theorem w_red_to {k m : Int32} {W W0 : List Int32} {V V0 : List Int64} (h : w_red k W V = (W0, V0)) (hm : m.toInt ≤ k.toInt) : w_red m W V = w_red m W0 V0 := by
  rw [w_red_red hm, h]
theorem w_cho_hd {W : List Int32} {V : List Int64} (h : w_hdc W ≠ 58) : w_cho W V = (W, V) := by
  unfold w_cho
  split
  · next c W z y x V => rw [if_neg (show c ≠ 58 from h)]
  · rfl
  · rfl
theorem w_cho_y {W : List Int32} {x y z : Int64} {V : List Int64} : w_cho (58 :: W) (z :: y :: x :: V) = w_cho W ((if x ≠ 0 then y else z) :: V) := by
  conv => lhs; unfold w_cho
  rw [if_pos rfl]
/-- the signs ahead of a value, from a place on -/
def w_un (σ : Nat → Int32) (b : Nat) : Nat → List Int32
  | 0 => []
  | k + 1 => if σ (b + k) = 33 then 1 :: w_un σ b k else if σ (b + k) = 45 then 2 :: w_un σ b k else w_un σ b k
def w_ap : List Int32 → Int64 → Int64
  | [], x => x
  | c :: U, x => w_ap U (if c = 1 then (if x = 0 then 1 else 0) else -x)
theorem w_un_in {σ : Nat → Int32} {b : Nat} : ∀ {k : Nat}, ∀ c ∈ w_un σ b k, c = 1 ∨ c = 2
  | 0, c, h => by cases h
  | k + 1, c, h => by
    unfold w_un at h
    split at h
    · rcases List.mem_cons.mp h with q | q
      · exact Or.inl q
      · exact w_un_in c q
    · split at h
      · rcases List.mem_cons.mp h with q | q
        · exact Or.inr q
        · exact w_un_in c q
      · exact w_un_in c h
theorem w_lay_un {W : List Int32} {V : List Int64} : ∀ {U : List Int32} {x : Int64}, (∀ c ∈ U, c = 1 ∨ c = 2) → w_lay (U ++ W) x V = w_lay W (w_ap U x) V
  | [], _, _ => rfl
  | c :: U, x, h => by
    have h1 := h c List.mem_cons_self
    have h2 : ∀ c ∈ U, c = 1 ∨ c = 2 := fun d hd => h d (List.mem_cons_of_mem _ hd)
    have e : w_lay ((c :: U) ++ W) x V = w_lay (U ++ W) (if c = 1 then (if x = 0 then 1 else 0) else -x) V := by
      show w_lay (c :: (U ++ W)) x V = _
      conv => lhs; unfold w_lay
      rcases h1 with rfl | rfl
      · rw [if_pos rfl, if_pos rfl]
      · rw [if_neg (by decide), if_pos rfl, if_neg (by decide)]
    rw [e, w_lay_un h2]
    rfl
theorem w_opn_un {W : List Int32} : ∀ {U : List Int32}, (∀ c ∈ U, c = 1 ∨ c = 2) → w_opn (U ++ W) = w_opn W
  | [], _ => rfl
  | c :: U, h => by
    have h1 := h c List.mem_cons_self
    have h2 : ∀ c ∈ U, c = 1 ∨ c = 2 := fun d hd => h d (List.mem_cons_of_mem _ hd)
    have e : w_opn ((c :: U) ++ W) = w_opn (U ++ W) := by
      show List.countP _ (c :: (U ++ W)) = _
      rw [List.countP_cons_of_neg (by rcases h1 with rfl | rfl <;> decide)]
      rfl
    rw [e, w_opn_un h2]
theorem w_opn_c {c : Int32} {W : List Int32} (h : c ≠ 40) : w_opn (c :: W) = w_opn W := by
  unfold w_opn
  rw [List.countP_cons_of_neg (by simpa using h)]
theorem w_opn_p {W : List Int32} : w_opn (40 :: W) = w_opn W + 1 := by
  unfold w_opn
  rw [List.countP_cons_of_pos (by decide)]
/-- what a code does to the stack -/
def w_ex (fa : Int32 → Int64) (c : Int32) (st : List Int64) : List Int64 :=
  if 0 ≤ c.toInt then Int64.ofInt c.toInt :: st
  else if am_ops (-c) = 0 then fa (-c) :: st
  else if am_ops (-c) = 1 then (match st with
    | x :: r => (if c = -33 then (if x = 0 then 1 else 0) else -x) :: r
    | r => 0 :: r)
  else if am_ops (-c) = 2 then (match st with
    | b :: a :: r => am_join (-c) a b :: r
    | r => r)
  else (match st with
    | z :: y :: x :: r => (if x ≠ 0 then y else z) :: r
    | r => r)
/-- codes from a place on, so many -/
def w_ev (fa : Int32 → Int64) (cd : Nat → Int32) (b : Nat) : Nat → List Int64 → List Int64
  | 0, st => st
  | k + 1, st => w_ex fa (cd (b + k)) (w_ev fa cd b k st)
theorem w_ev_cg {fa : Int32 → Int64} {cd cd' : Nat → Int32} {b : Nat} : ∀ {k : Nat} {st : List Int64}, (∀ j, b ≤ j → j < b + k → cd' j = cd j) → w_ev fa cd' b k st = w_ev fa cd b k st
  | 0, _, _ => rfl
  | k + 1, st, h => by
    show w_ex fa (cd' (b + k)) (w_ev fa cd' b k st) = w_ex fa (cd (b + k)) (w_ev fa cd b k st)
    rw [h (b + k) (by omega) (by omega), w_ev_cg (fun j a c => h j a (by omega))]
theorem w_ev_add {fa : Int32 → Int64} {cd : Nat → Int32} {b k : Nat} : ∀ {m : Nat} {st : List Int64}, w_ev fa cd b (k + m) st = w_ev fa cd (b + k) m (w_ev fa cd b k st)
  | 0, _ => rfl
  | m + 1, st => by
    show w_ex fa (cd (b + (k + m))) (w_ev fa cd b (k + m) st) = w_ex fa (cd (b + k + m)) (w_ev fa cd (b + k) m (w_ev fa cd b k st))
    rw [w_ev_add, Nat.add_assoc]
end
-- part 79c.text1.lean.txt
section
/-! texts, pure: what the class's reader makes is what the reference's does -/
def w_nx (σ : Nat → Int32) (n p q : Nat) (c : Int32) : Prop := p ≤ q ∧ q ≤ n ∧ (∀ j, p ≤ j → j < q → σ j = 32) ∧ (q < n → σ q ≠ 32 ∧ c = σ q ∧ c ≠ -1) ∧ (q = n → c = -1)
theorem w_nx.u {σ : Nat → Int32} {n p q q' : Nat} {c c' : Int32} (h : w_nx σ n p q c) (h' : w_nx σ n p q' c') : q = q' ∧ c = c' := by
  obtain ⟨h1, h2, h3, h4, h5⟩ := h
  obtain ⟨g1, g2, g3, g4, g5⟩ := h'
  have e : q = q' := by
    rcases Nat.lt_trichotomy q q' with z | z | z
    · exact absurd (g3 q h1 z) (h4 (by omega)).1
    · exact z
    · exact absurd (h3 q' g1 z) (g4 (by omega)).1
  subst e
  refine ⟨rfl, ?_⟩
  by_cases z : q < n
  · rw [(h4 z).2.1, (g4 z).2.1]
  · rw [h5 (by omega), g5 (by omega)]
theorem w_nx.r {σ : Nat → Int32} {n p q : Nat} {c : Int32} (h : w_nx σ n p q c) {fa : Int32 → Int64} {due : Bool} {W : List Int32} {V : List Int64} : w_res fa σ n p due W V = w_res fa σ n q due W V := by
  obtain ⟨h1, h2, h3, -, -⟩ := h
  have e := w_res_b (fa := fa) (σ := σ) (n := n) (due := due) (W := W) (V := V) (q - p) p (by omega) (fun j a b => h3 j a (by omega))
  rwa [show p + (q - p) = q by omega] at e
theorem w_nx.at {σ : Nat → Int32} {n p q : Nat} {c : Int32} (h : w_nx σ n p q c) (hc : c ≠ -1) : q < n ∧ σ q = c ∧ c ≠ 32 := by
  obtain ⟨h1, h2, h3, h4, h5⟩ := h
  have z : q < n := by
    rcases Nat.lt_or_ge q n with z | z
    · exact z
    · exact absurd (h5 (by omega)) hc
  exact ⟨z, (h4 z).2.1.symm, by rw [(h4 z).2.1]; exact (h4 z).1⟩
theorem w_nx.le {σ : Nat → Int32} {n p q : Nat} {c : Int32} (h : w_nx σ n p q c) : p ≤ q ∧ q ≤ n := ⟨h.1, h.2.1⟩
theorem w_nx.mv {σ : Nat → Int32} {n p q : Nat} {c : Int32} (h : w_nx σ n p q c) : w_nx σ n q q c := ⟨Nat.le_refl _, h.2.1, fun j a b => by omega, h.2.2.2.1, h.2.2.2.2⟩
theorem w_nx.bk {σ : Nat → Int32} {n p q q' : Nat} {c c' : Int32} (h : w_nx σ n p q c) (h' : w_nx σ n q q' c') : w_nx σ n p q' c' := ⟨by have := h.1; have := h'.1; omega, h'.2.1, fun j a b => by
  rcases Nat.lt_or_ge j q with z | z
  · exact h.2.2.1 j a z
  · exact h'.2.2.1 j z b, h'.2.2.2.1, h'.2.2.2.2⟩
/-- a plain thing was read from p to p', it says v -/
def s_pl (fa : Int32 → Int64) (σ : Nat → Int32) (n p p' op : Nat) (v : Int64) : Prop := ∀ (W : List Int32) (V : List Int64), w_opn W = op → w_res fa σ n p true W V = w_res fa σ n p' false (w_lay W v V).1 (w_lay W v V).2
/-- what may follow -/
def s_fin (σ : Nat → Int32) (n p' : Nat) (k : Int) (W' : List Int32) (V' : List Int64) : Prop := ∀ (q : Nat) (c : Int32), w_nx σ n p' q c → k ≤ (r_clo c).toInt → r_clo c = 4 ∧ k ≤ 4 ∧ r_clo (w_hdc (w_red 5 W' V').1) = 4
def s_ch (fa : Int32 → Int64) (σ : Nat → Int32) (n p p' op : Nat) (k : Int32) (v : Int64) : Prop := ∀ (W : List Int32) (V : List Int64), w_opn W = op → w_hd W k.toInt → ∃ W' V', w_res fa σ n p true W V = w_res fa σ n p' false W' V' ∧ w_red k W' V' = (W, v :: V) ∧ s_fin σ n p' k.toInt W' V'
def s_va (fa : Int32 → Int64) (σ : Nat → Int32) (n p p' op : Nat) (v : Int64) : Prop := ∀ (W : List Int32) (V : List Int64), w_opn W = op → w_hd W 1 → ∃ W' V', w_res fa σ n p true W V = w_res fa σ n p' false W' V' ∧ w_chs W' V' = w_cho W (v :: V) ∧ s_fin σ n p' 2 W' V' ∧ ∀ q c, w_nx σ n p' q c → c ≠ 63
def s_bp (fa : Int32 → Int64) (σ : Nat → Int32) (n p op : Nat) (f : Int) : Prop := ∀ (W : List Int32) (V : List Int64), w_opn W = op → w_res fa σ n p true W V = .inr f
def s_bd (fa : Int32 → Int64) (σ : Nat → Int32) (n p op : Nat) (k : Int) (f : Int) : Prop := ∀ (W : List Int32) (V : List Int64), w_opn W = op → w_hd W k → w_res fa σ n p true W V = .inr f
theorem w_clo6 (c : Int32) : r_clo c = 0 ∨ r_clo c = 2 ∨ r_clo c = 3 ∨ r_clo c = 4 ∨ r_clo c = 5 ∨ r_clo c = 6 := by
  unfold r_clo
  repeat' split
  all_goals simp
theorem w_dgt_clo {c : Int32} (h : w_dgt c = true) : c ≠ 32 ∧ c ≠ -1 := by
  have h1 := of_decide_eq_true h
  constructor
  · intro e; subst e; exact absurd h1 (by decide)
  · intro e; subst e; exact absurd h1 (by decide)
theorem s_num {fa : Int32 → Int64} {σ : Nat → Int32} {n p q op j : Nat} {c : Int32} {v : Int} (h : w_nx σ n p q c) (hd : w_dgt c = true) (e : w_dig σ n 8 q 0 0 = some (j, v)) : s_pl fa σ n p j op (Int64.ofInt v) := fun W V _ => by
  have hc := h.at (w_dgt_clo hd).2
  rw [h.r]
  exact w_res_s hc.1 (by
    unfold w_stp
    rw [if_neg (by rw [hc.2.1]; exact (w_dgt_clo hd).1), if_pos ⟨rfl, by rw [hc.2.1]; exact hd⟩, e])
theorem s_numf {fa : Int32 → Int64} {σ : Nat → Int32} {n p q op : Nat} {c : Int32} (h : w_nx σ n p q c) (hd : w_dgt c = true) (e : w_dig σ n 8 q 0 0 = none) : s_bp fa σ n p op (10 * (q : Int) + 2) := fun W V _ => by
  have hc := h.at (w_dgt_clo hd).2
  rw [h.r]
  exact w_res_f hc.1 (by
    unfold w_stp
    rw [if_neg (by rw [hc.2.1]; exact (w_dgt_clo hd).1), if_pos ⟨rfl, by rw [hc.2.1]; exact hd⟩, e])
theorem w_ops_fact {c : Int32} : am_ops c = 0 ↔ 0 ≤ (r_fact c).toInt := by
  unfold am_ops r_fact
  constructor
  · intro h
    split at h
    · next z =>
      rcases z with rfl | rfl | rfl | rfl | rfl | rfl | rfl <;> decide
    · split at h
      · exact absurd h (by decide)
      · split at h <;> exact absurd h (by decide)
  · intro h
    rw [if_pos]
    repeat' (first | (split at h; · next z => simp [z]) | exact absurd h (by decide))
theorem w_fact_no {c : Int32} (h : 0 ≤ (r_fact c).toInt) : c ≠ 32 ∧ c ≠ -1 ∧ w_dgt c = false := by
  have h2 := w_ops_fact.mpr h
  unfold am_ops at h2
  split at h2
  · next z =>
    rcases z with rfl | rfl | rfl | rfl | rfl | rfl | rfl <;> exact ⟨by decide, by decide, by decide⟩
  · split at h2
    · exact absurd h2 (by decide)
    · split at h2 <;> exact absurd h2 (by decide)
theorem s_let {fa : Int32 → Int64} {σ : Nat → Int32} {n p q op : Nat} {c : Int32} (h : w_nx σ n p q c) (hd : am_ops c = 0) : s_pl fa σ n p (q + 1) op (fa c) := fun W V _ => by
  have hf := w_fact_no (w_ops_fact.mp hd)
  have hc := h.at hf.2.1
  rw [h.r]
  exact w_res_s hc.1 (by
    unfold w_stp
    rw [hc.2.1, if_neg hf.1, if_neg (fun z => by rw [hf.2.2] at z; exact absurd z.2 (by decide)), if_pos ⟨rfl, w_ops_fact.mp hd⟩])
/-- nothing begins here -/
theorem s_oth {fa : Int32 → Int64} {σ : Nat → Int32} {n p q op : Nat} {c : Int32} (h : w_nx σ n p q c) (h1 : w_dgt c = false) (h2 : ¬ am_ops c = 0) (h3 : c ≠ 40) (h4 : c ≠ 33) (h5 : c ≠ 45) : s_bp fa σ n p op (10 * (q : Int) + 1) := fun W V _ => by
  rw [h.r]
  by_cases z : c = -1
  · have hn : q = n := by
      have := h.2.1
      rcases Nat.lt_or_ge q n with w | w
      · exact absurd z (h.2.2.2.1 w).2.2
      · omega
    rw [hn, w_res_e (Nat.le_refl _)]
    unfold w_end
    rw [if_pos rfl]
  · have hc := h.at z
    exact w_res_f hc.1 (by
      unfold w_stp
      rw [hc.2.1, if_neg hc.2.2, if_neg (fun y => by rw [h1] at y; exact absurd y.2 (by decide)), if_neg (fun y => h2 (w_ops_fact.mpr y.2)), if_neg (fun y => h3 y.2), if_neg (fun y => y.2.elim h4 h5), if_neg (by decide)])
theorem w_opsx {c : Int32} (h : 0 < (r_clo c).toInt) : c ≠ 63 ∧ c ≠ 58 ∧ c ≠ 41 ∧ c ≠ 40 ∧ c ≠ 32 ∧ c ≠ -1 ∧ c ≠ 1 ∧ c ≠ 2 := by
  refine ⟨?_, ?_, ?_, ?_, ?_, ?_, ?_, ?_⟩ <;> (intro e; subst e; exact absurd h (by decide))
theorem w_beh_no {c : Int32} {W : List Int32} {V : List Int64} (h1 : 0 < (r_clo c).toInt → r_clo c = 4 ∧ r_clo (w_hdc (w_red 5 W V).1) = 4) (h2 : c ≠ 63) (h3 : c = 58 → w_hdc (w_chs W V).1 ≠ 63) (h4 : c = 41 → w_hdc (w_chs W V).1 ≠ 40) : w_beh c W V = none := by
  unfold w_beh
  by_cases z : 0 < (r_clo c).toInt
  · have h := h1 z
    rw [if_neg (by rw [h.1]; decide), if_pos h.1, if_pos h.2]
  · rw [if_neg (by omega), if_neg (fun q => z (by rw [q]; decide)), if_neg z, if_neg h2]
    by_cases z3 : c = 58
    · rw [if_pos z3, if_neg (h3 z3)]
    · rw [if_neg z3]
      by_cases z4 : c = 41
      · rw [if_pos z4, if_neg (h4 z4)]
      · rw [if_neg z4]
/-- a value stands, what follows isn't what must follow -/
theorem s_stop {fa : Int32 → Int64} {σ : Nat → Int32} {n p' q : Nat} {c g : Int32} {W' W0 : List Int32} {V' V0 : List Int64} (hx : w_nx σ n p' q c) (hf : s_fin σ n p' 2 W' V') (h6 : c ≠ 63) (hc : w_chs W' V' = (W0, V0)) (hg : c ≠ g) (h8 : g = 41 ∨ g = 58 ∨ g = -1) (h0 : w_hdc W0 = (if g = 41 then 40 else if g = 58 then 63 else 0)) : w_res fa σ n p' false W' V' = .inr (10 * (q : Int) + 1) := by
  rw [hx.r]
  by_cases z : q = n
  · subst z
    rw [w_res_e (Nat.le_refl _)]
    unfold w_end
    rw [if_neg (by decide), hc]
    have e : c = -1 := hx.2.2.2.2 rfl
    rw [e] at hg
    split
    · next v r e2 =>
      cases e2
      rcases h8 with rfl | rfl | rfl
      · exact absurd h0 (by decide)
      · exact absurd h0 (by decide)
      · exact absurd rfl hg
    · rfl
  · have hq : q < n := by have := hx.2.1; omega
    obtain ⟨a1, a2, a3⟩ := hx.2.2.2.1 hq
    have hb : w_beh (σ q) W' V' = none := by
      rw [← a2]
      refine w_beh_no (fun w => ?_) h6 (fun w => ?_) (fun w => ?_)
      · rcases w_clo6 c with e | e | e | e | e | e
        · rw [e] at w; exact absurd w (by decide)
        all_goals
          have y := hf q c hx (by rw [e]; decide)
          exact ⟨y.1, y.2.2⟩
      · rw [hc, h0]
        subst w
        rcases h8 with rfl | rfl | rfl
        · decide
        · exact absurd rfl hg
        · decide
      · rw [hc, h0]
        subst w
        rcases h8 with rfl | rfl | rfl
        · exact absurd rfl hg
        · decide
        · decide
    exact w_res_f hq (by
      unfold w_stp
      rw [if_neg a1, if_neg (by simp), if_neg (by simp), if_neg (by simp), if_neg (by simp), if_pos rfl, hb])
theorem w_hd_p {W : List Int32} : w_hd (40 :: W) 1 := ⟨by decide, by decide, by decide⟩
theorem w_hd_q {W : List Int32} : w_hd (63 :: W) 1 := ⟨by decide, by decide, by decide⟩
theorem w_hd_c {W : List Int32} : w_hd (58 :: W) 1 := ⟨by decide, by decide, by decide⟩
theorem w_hd_up {W : List Int32} {k m : Int} (h : w_hd W k) (hk : k ≤ m) : w_hd W m := by
  unfold w_hd at h ⊢
  split
  · trivial
  · next c r => exact ⟨by have := h.1; omega, h.2⟩
/-- an opening: the step into it -/
theorem s_open {fa : Int32 → Int64} {σ : Nat → Int32} {n p q : Nat} (h : w_nx σ n p q 40) {W : List Int32} {V : List Int64} (h8 : w_opn W ≠ 8) : w_res fa σ n p true W V = w_res fa σ n (q + 1) true (40 :: W) V := by
  have hc := h.at (by decide)
  rw [h.r]
  exact w_res_s hc.1 (by
    unfold w_stp
    rw [hc.2.1, if_neg (by decide), if_neg (by decide), if_neg (by decide), if_pos ⟨rfl, rfl⟩, if_neg h8])
theorem s_full {fa : Int32 → Int64} {σ : Nat → Int32} {n p q : Nat} (h : w_nx σ n p q 40) : s_bp fa σ n p 8 (10 * (q : Int) + 3) := fun W V h8 => by
  have hc := h.at (by decide)
  rw [h.r]
  exact w_res_f hc.1 (by
    unfold w_stp
    rw [hc.2.1, if_neg (by decide), if_neg (by decide), if_neg (by decide), if_pos ⟨rfl, rfl⟩, if_pos h8])
theorem s_par {fa : Int32 → Int64} {σ : Nat → Int32} {n p q p2 q2 op : Nat} {v : Int64} (h : w_nx σ n p q 40) (ho : op ≠ 8) (hv : s_va fa σ n (q + 1) p2 (op + 1) v) (h2 : w_nx σ n p2 q2 41) : s_pl fa σ n p (q2 + 1) op v := fun W V hW => by
  rw [s_open h (by rw [hW]; exact ho)]
  obtain ⟨W', V', e1, e2, -, -⟩ := hv (40 :: W) V (by rw [w_opn_p, hW]) w_hd_p
  rw [e1, h2.r]
  have hc := h2.at (by decide)
  have e3 : w_chs W' V' = (40 :: W, v :: V) := by rw [e2]; exact w_cho_hd (show (40 : Int32) ≠ 58 by decide)
  exact w_res_s hc.1 (by
    unfold w_stp
    rw [hc.2.1, if_neg (by decide), if_neg (by simp), if_neg (by simp), if_neg (by simp), if_neg (by simp), if_pos rfl]
    have e4 : w_beh 41 W' V' = some (w_lay W v V) := by
      unfold w_beh
      rw [if_neg (by decide), if_neg (by decide), if_neg (by decide), if_neg (by decide), if_neg (by decide), if_pos rfl, e3]
      rfl
    rw [e4]
    rfl)
theorem s_parb {fa : Int32 → Int64} {σ : Nat → Int32} {n p q op : Nat} {f : Int} (h : w_nx σ n p q 40) (ho : op ≠ 8) (hv : s_bd fa σ n (q + 1) (op + 1) 1 f) : s_bp fa σ n p op f := fun W V hW => by
  rw [s_open h (by rw [hW]; exact ho)]
  exact hv (40 :: W) V (by rw [w_opn_p, hW]) w_hd_p
theorem s_parm {fa : Int32 → Int64} {σ : Nat → Int32} {n p q p2 q2 op : Nat} {v : Int64} {c : Int32} (h : w_nx σ n p q 40) (ho : op ≠ 8) (hv : s_va fa σ n (q + 1) p2 (op + 1) v) (h2 : w_nx σ n p2 q2 c) (hc : c ≠ 41) : s_bp fa σ n p op (10 * (q2 : Int) + 1) := fun W V hW => by
  rw [s_open h (by rw [hW]; exact ho)]
  obtain ⟨W', V', e1, e2, e3, e4⟩ := hv (40 :: W) V (by rw [w_opn_p, hW]) w_hd_p
  rw [e1]
  have e5 : w_chs W' V' = (40 :: W, v :: V) := by rw [e2]; exact w_cho_hd (show (40 : Int32) ≠ 58 by decide)
  exact s_stop (g := 41) h2 e3 (e4 q2 c h2) e5 hc (Or.inl rfl) rfl
/-- signs ahead, one by one -/
theorem s_sign {fa : Int32 → Int64} {σ : Nat → Int32} {n p q : Nat} {c : Int32} (h : w_nx σ n p q c) (hc : c = 33 ∨ c = 45) {W : List Int32} {V : List Int64} : w_res fa σ n p true W V = w_res fa σ n (q + 1) true ((if c = 33 then 1 else 2) :: W) V := by
  have ha := h.at (by rcases hc with rfl | rfl <;> decide)
  rw [h.r]
  exact w_res_s ha.1 (by
    unfold w_stp
    rw [ha.2.1, if_neg ha.2.2, if_neg (by rcases hc with rfl | rfl <;> decide), if_neg (by rcases hc with rfl | rfl <;> decide), if_neg (by rcases hc with rfl | rfl <;> decide), if_pos ⟨rfl, hc⟩])
theorem w_un_add {σ : Nat → Int32} {b : Nat} : ∀ {k m : Nat}, w_un σ b (k + m) = w_un σ (b + k) m ++ w_un σ b k
  | k, 0 => rfl
  | k, m + 1 => by
    have e : w_un σ b (k + (m + 1)) = if σ (b + (k + m)) = 33 then 1 :: w_un σ b (k + m) else if σ (b + (k + m)) = 45 then 2 :: w_un σ b (k + m) else w_un σ b (k + m) := rfl
    have e2 : w_un σ (b + k) (m + 1) = if σ (b + k + m) = 33 then 1 :: w_un σ (b + k) m else if σ (b + k + m) = 45 then 2 :: w_un σ (b + k) m else w_un σ (b + k) m := rfl
    rw [e, e2, ← Nat.add_assoc b k m, w_un_add]
    by_cases z1 : σ (b + k + m) = 33
    · rw [if_pos z1, if_pos z1]; rfl
    · rw [if_neg z1, if_neg z1]
      by_cases z2 : σ (b + k + m) = 45
      · rw [if_pos z2, if_pos z2]; rfl
      · rw [if_neg z2, if_neg z2]
theorem w_un_b {σ : Nat → Int32} {b : Nat} : ∀ {k : Nat}, (∀ j, b ≤ j → j < b + k → σ j = 32) → w_un σ b k = []
  | 0, _ => rfl
  | k + 1, h => by
    unfold w_un
    have e := h (b + k) (by omega) (by omega)
    rw [if_neg (by rw [e]; decide), if_neg (by rw [e]; decide)]
    exact w_un_b (fun j a c => h j a (by omega))
/-- a unit: the signs, then the plain thing -/
theorem s_unit {fa : Int32 → Int64} {σ : Nat → Int32} {n p b p' op : Nat} {v : Int64} (h1 : ∀ (W : List Int32) (V : List Int64), w_res fa σ n p true W V = w_res fa σ n b true (w_un σ p (b - p) ++ W) V) (h2 : s_pl fa σ n b p' op v) : s_ch fa σ n p p' op 7 (w_ap (w_un σ p (b - p)) v) := fun W V hW hd => by
  refine ⟨W, w_ap (w_un σ p (b - p)) v :: V, ?_, w_red_hd hd, fun q c _ w => ?_⟩
  · rw [h1, h2 _ _ (by rw [w_opn_un (fun c hc => w_un_in c hc), hW]), w_lay_un (fun c hc => w_un_in c hc), w_lay_hd hd]
  · rcases w_clo6 c with e | e | e | e | e | e <;> (rw [e] at w; exact absurd w (by decide))
theorem s_unitb {fa : Int32 → Int64} {σ : Nat → Int32} {n p b op : Nat} {f : Int} (h1 : ∀ (W : List Int32) (V : List Int64), w_res fa σ n p true W V = w_res fa σ n b true (w_un σ p (b - p) ++ W) V) (h2 : s_bp fa σ n b op f) {k : Int} : s_bd fa σ n p op k f := fun W V hW _ => by
  rw [h1]
  exact h2 _ _ (by rw [w_opn_un (fun c hc => w_un_in c hc), hW])
/-- codes of the signs ahead, the nearest first -/
theorem w_ev_un {fa : Int32 → Int64} {σ : Nat → Int32} {b : Nat} : ∀ (k : Nat) (x : Int64) (st : List Int64), ((w_un σ b k).map (fun c => if c = 1 then (-33 : Int32) else -126)).foldl (fun s c => w_ex fa c s) (x :: st) = w_ap (w_un σ b k) x :: st := by
  intro k
  have g : ∀ (U : List Int32) (x : Int64) (st : List Int64), (∀ c ∈ U, c = 1 ∨ c = 2) → (U.map (fun c => if c = 1 then (-33 : Int32) else -126)).foldl (fun s c => w_ex fa c s) (x :: st) = w_ap U x :: st := by
    intro U
    induction U with
    | nil => intro x st _; rfl
    | cons c U ih =>
      intro x st h
      have h1 := h c List.mem_cons_self
      have e : w_ex fa (if c = 1 then (-33 : Int32) else -126) (x :: st) = (if c = 1 then (if x = 0 then 1 else 0) else -x) :: st := by
        rcases h1 with rfl | rfl
        · rw [if_pos rfl, if_pos rfl]
          rfl
        · rw [if_neg (by decide), if_neg (by decide)]
          rfl
      show List.foldl _ (w_ex fa _ (x :: st)) (U.map _) = _
      rw [e, ih _ _ (fun d hd => h d (List.mem_cons_of_mem _ hd))]
      rfl
  exact fun x st => g _ x st (fun c hc => w_un_in c hc)
/-! a chain of signs of one level -/
def s_cl (fa : Int32 → Int64) (σ : Nat → Int32) (n p p' op : Nat) (k : Int32) (v : Int64) : Prop := ∀ (W : List Int32) (V : List Int64), w_opn W = op → w_hd W k.toInt → ∃ W' V', w_res fa σ n p true W V = w_res fa σ n p' false W' V' ∧ w_red k W' V' = (W, v :: V) ∧ (k = 4 → w_red 5 W' V' = (W, v :: V)) ∧ s_fin σ n p' (k.toInt + 1) W' V'
theorem s_cl.of {fa : Int32 → Int64} {σ : Nat → Int32} {n p p' op : Nat} {k k1 : Int32} {v : Int64} (h : s_ch fa σ n p p' op k1 v) (hk : k1.toInt = k.toInt + 1) : s_cl fa σ n p p' op k v := fun W V hW hd => by
  obtain ⟨W', V', e1, e2, e3⟩ := h W V hW (w_hd_up hd (by omega))
  refine ⟨W', V', e1, ?_, fun q => ?_, ?_⟩
  · rw [w_red_to e2 (by omega)]
    exact w_red_hd hd
  · subst q
    have e : k1 = 5 := by rw [i_eq, hk]; decide
    rw [← e]; exact e2
  · rw [← hk]; exact e3
theorem w_beh_op {c k : Int32} {W W' : List Int32} {V V' : List Int64} {v : Int64} (hk : r_clo c = k) (h2 : 2 ≤ k.toInt) (e : w_red k W' V' = (W, v :: V)) (e4 : k = 4 → w_red 5 W' V' = (W, v :: V)) (hd : w_hd W k.toInt) : w_beh c W' V' = some (c :: W, v :: V) := by
  unfold w_beh
  by_cases z : 4 < (r_clo c).toInt
  · rw [if_pos z, hk, e]
  · rw [if_neg z]
    by_cases z4 : r_clo c = 4
    · have k4 : k = 4 := hk ▸ z4
      rw [if_pos z4, e4 k4, if_neg (fun q => ?_)]
      subst k4
      cases W with
      | nil => exact absurd (show r_clo 0 = 4 from q) (by decide)
      | cons c' r =>
        have y := hd.1
        rw [show r_clo c' = 4 from q] at y
        exact absurd y (by decide)
    · rw [if_neg z4, if_pos (by rw [hk]; omega), hk, e]
theorem s_op {fa : Int32 → Int64} {σ : Nat → Int32} {n p p1 q1 op : Nat} {k c : Int32} {v1 : Int64} (h : s_cl fa σ n p p1 op k v1) (hx : w_nx σ n p1 q1 c) (hk : r_clo c = k) (h2 : 2 ≤ k.toInt) {W : List Int32} {V : List Int64} (hW : w_opn W = op) (hd : w_hd W k.toInt) : w_res fa σ n p true W V = w_res fa σ n (q1 + 1) true (c :: W) (v1 :: V) := by
  obtain ⟨W', V', e1, e2, e4, -⟩ := h W V hW hd
  have hc := w_opsx (c := c) (by rw [hk]; omega)
  have ha := hx.at hc.2.2.2.2.2.1
  rw [e1, hx.r]
  exact w_res_s ha.1 (by
    unfold w_stp
    rw [ha.2.1, if_neg ha.2.2, if_neg (by simp), if_neg (by simp), if_neg (by simp), if_neg (by simp), if_pos rfl, w_beh_op hk h2 e2 e4 hd, show decide (c = 41) = false from decide_eq_false hc.2.2.1]
    rfl)
theorem w_hd_op {c k : Int32} {W : List Int32} (hk : r_clo c = k) (h2 : 2 ≤ k.toInt) {m : Int} (hm : k.toInt < m) : w_hd (c :: W) m := by
  have hc := w_opsx (c := c) (by rw [hk]; omega)
  exact ⟨by rw [hk]; exact hm, hc.2.2.2.2.2.2.1, hc.2.2.2.2.2.2.2⟩
theorem s_cl.s {fa : Int32 → Int64} {σ : Nat → Int32} {n p p1 q1 p2 op : Nat} {k k1 c : Int32} {v1 v2 : Int64} (h : s_cl fa σ n p p1 op k v1) (hx : w_nx σ n p1 q1 c) (hk : r_clo c = k) (h2 : 2 ≤ k.toInt) (hk1 : k1.toInt = k.toInt + 1) (h3 : s_ch fa σ n (q1 + 1) p2 op k1 v2) (hn : k ≠ 4) : s_cl fa σ n p p2 op k (am_join c v1 v2) := fun W V hW hd => by
  have hc := w_opsx (c := c) (by rw [hk]; omega)
  obtain ⟨W', V', e1, e2, e3⟩ := h3 (c :: W) (v1 :: V) (by rw [w_opn_c hc.2.2.2.1, hW]) (w_hd_op hk h2 (by omega))
  refine ⟨W', V', by rw [s_op h hx hk h2 hW hd, e1], ?_, fun q => absurd q hn, by rw [← hk1]; exact e3⟩
  rw [w_red_to e2 (by omega), w_red_y (by rw [hk]; exact Int32.le_refl _)]
  exact w_red_hd hd
theorem s_cl.h {fa : Int32 → Int64} {σ : Nat → Int32} {n p p1 q1 p2 op : Nat} {c : Int32} {v1 v2 : Int64} (h : s_cl fa σ n p p1 op 4 v1) (hx : w_nx σ n p1 q1 c) (hk : r_clo c = 4) (h3 : s_ch fa σ n (q1 + 1) p2 op 5 v2) : s_ch fa σ n p p2 op 4 (am_join c v1 v2) := fun W V hW hd => by
  have hc := w_opsx (c := c) (by rw [hk]; decide)
  obtain ⟨W', V', e1, e2, e3⟩ := h3 (c :: W) (v1 :: V) (by rw [w_opn_c hc.2.2.2.1, hW]) (w_hd_op hk (by decide) (by decide))
  refine ⟨W', V', by rw [s_op h hx hk (by decide) hW hd, e1], ?_, fun q c' hq hc' => ?_⟩
  · rw [w_red_to e2 (by decide), w_red_y (by rw [hk]; decide)]
    exact w_red_hd hd
  · have h4 : r_clo c' = 4 := by
      rcases w_clo6 c' with e | e | e | e | e | e
      · rw [e] at hc'; exact absurd hc' (by decide)
      · rw [e] at hc'; exact absurd hc' (by decide)
      · rw [e] at hc'; exact absurd hc' (by decide)
      · exact e
      · have y := e3 q c' hq (by rw [e]; decide)
        exact y.1
      · have y := e3 q c' hq (by rw [e]; decide)
        exact y.1
    exact ⟨h4, by decide, by rw [e2]; exact hk⟩
theorem s_cl.e {fa : Int32 → Int64} {σ : Nat → Int32} {n p p1 q1 op : Nat} {k c : Int32} {v1 : Int64} (h : s_cl fa σ n p p1 op k v1) (hx : w_nx σ n p1 q1 c) (hk : r_clo c ≠ k) : s_ch fa σ n p q1 op k v1 := fun W V hW hd => by
  obtain ⟨W', V', e1, e2, -, e3⟩ := h W V hW hd
  refine ⟨W', V', by rw [e1, hx.r], e2, fun q c' hq hc' => ?_⟩
  have hu := (hx.bk hq).u hx
  have e : r_clo c' ≠ k := by rw [hu.2]; exact hk
  have ne : (r_clo c').toInt ≠ k.toInt := fun w => e (by rw [i_eq]; exact w)
  have y := e3 q c' (hx.bk hq) (by omega)
  exact ⟨y.1, by omega, y.2.2⟩
theorem s_bd.up {fa : Int32 → Int64} {σ : Nat → Int32} {n p op : Nat} {k m : Int} {f : Int} (h : s_bd fa σ n p op m f) (hk : k ≤ m) : s_bd fa σ n p op k f := fun W V hW hd => h W V hW (w_hd_up hd hk)
theorem s_bp.d {fa : Int32 → Int64} {σ : Nat → Int32} {n p op : Nat} {k : Int} {f : Int} (h : s_bp fa σ n p op f) : s_bd fa σ n p op k f := fun W V hW _ => h W V hW
theorem s_cl.b {fa : Int32 → Int64} {σ : Nat → Int32} {n p p1 q1 op : Nat} {k c : Int32} {v1 : Int64} {m f : Int} (h : s_cl fa σ n p p1 op k v1) (hx : w_nx σ n p1 q1 c) (hk : r_clo c = k) (h2 : 2 ≤ k.toInt) (hm : k.toInt < m) (h3 : s_bd fa σ n (q1 + 1) op m f) : s_bd fa σ n p op k.toInt f := fun W V hW hd => by
  have hc := w_opsx (c := c) (by rw [hk]; omega)
  rw [s_op h hx hk h2 hW hd]
  exact h3 _ _ (by rw [w_opn_c hc.2.2.2.1, hW]) (w_hd_op hk h2 hm)
/-! a value: a chain, or a choice -/
theorem s_va.of {fa : Int32 → Int64} {σ : Nat → Int32} {n p p1 q1 op : Nat} {c : Int32} {v : Int64} (h : s_ch fa σ n p p1 op 2 v) (hx : w_nx σ n p1 q1 c) (hc : c ≠ 63) : s_va fa σ n p q1 op v := fun W V hW hd => by
  obtain ⟨W', V', e1, e2, e3⟩ := h W V hW (w_hd_up hd (by decide))
  refine ⟨W', V', by rw [e1, hx.r], by unfold w_chs; rw [e2], fun q c' hq => e3 q c' (hx.bk hq), fun q c' hq => ?_⟩
  rw [((hx.bk hq).u hx).2]
  exact hc
theorem s_ask {fa : Int32 → Int64} {σ : Nat → Int32} {n p p1 q1 op : Nat} {v : Int64} (h : s_ch fa σ n p p1 op 2 v) (hx : w_nx σ n p1 q1 63) {W : List Int32} {V : List Int64} (hW : w_opn W = op) (hd : w_hd W 1) : w_res fa σ n p true W V = w_res fa σ n (q1 + 1) true (63 :: W) (v :: V) := by
  obtain ⟨W', V', e1, e2, -⟩ := h W V hW (w_hd_up hd (by decide))
  have ha := hx.at (by decide)
  rw [e1, hx.r]
  exact w_res_s ha.1 (by
    unfold w_stp
    have e : w_beh 63 W' V' = some (63 :: W, v :: V) := by
      unfold w_beh
      rw [if_neg (by decide), if_neg (by decide), if_neg (by decide), if_pos rfl, e2]
    rw [ha.2.1, if_neg ha.2.2, if_neg (by simp), if_neg (by simp), if_neg (by simp), if_neg (by simp), if_pos rfl, e]
    rfl)
theorem s_els {fa : Int32 → Int64} {σ : Nat → Int32} {n p p1 q1 p2 q2 op : Nat} {v1 v2 : Int64} (h : s_ch fa σ n p p1 op 2 v1) (hx : w_nx σ n p1 q1 63) (h2 : s_va fa σ n (q1 + 1) p2 op v2) (hx2 : w_nx σ n p2 q2 58) {W : List Int32} {V : List Int64} (hW : w_opn W = op) (hd : w_hd W 1) : w_res fa σ n p true W V = w_res fa σ n (q2 + 1) true (58 :: W) (v2 :: v1 :: V) := by
  rw [s_ask h hx hW hd]
  obtain ⟨W', V', e1, e2, -, -⟩ := h2 (63 :: W) (v1 :: V) (by rw [w_opn_c (by decide), hW]) w_hd_q
  have e3 : w_chs W' V' = (63 :: W, v2 :: v1 :: V) := by rw [e2]; exact w_cho_hd (show (63 : Int32) ≠ 58 by decide)
  have ha := hx2.at (by decide)
  rw [e1, hx2.r]
  exact w_res_s ha.1 (by
    unfold w_stp
    have e : w_beh 58 W' V' = some (58 :: W, v2 :: v1 :: V) := by
      unfold w_beh
      rw [if_neg (by decide), if_neg (by decide), if_neg (by decide), if_neg (by decide), if_pos rfl, e3]
      rfl
    rw [ha.2.1, if_neg ha.2.2, if_neg (by simp), if_neg (by simp), if_neg (by simp), if_neg (by simp), if_pos rfl, e]
    rfl)
theorem s_va.c {fa : Int32 → Int64} {σ : Nat → Int32} {n p p1 q1 p2 q2 p3 op : Nat} {v1 v2 v3 : Int64} (h : s_ch fa σ n p p1 op 2 v1) (hx : w_nx σ n p1 q1 63) (h2 : s_va fa σ n (q1 + 1) p2 op v2) (hx2 : w_nx σ n p2 q2 58) (h3 : s_va fa σ n (q2 + 1) p3 op v3) : s_va fa σ n p p3 op (if v1 ≠ 0 then v2 else v3) := fun W V hW hd => by
  rw [s_els h hx h2 hx2 hW hd]
  obtain ⟨W', V', e1, e2, e3, e4⟩ := h3 (58 :: W) (v2 :: v1 :: V) (by rw [w_opn_c (by decide), hW]) w_hd_c
  exact ⟨W', V', e1, by rw [e2, w_cho_y], e3, e4⟩
theorem s_bd.v {fa : Int32 → Int64} {σ : Nat → Int32} {n p p1 q1 op : Nat} {v1 : Int64} {f : Int} (h : s_ch fa σ n p p1 op 2 v1) (hx : w_nx σ n p1 q1 63) (h2 : s_bd fa σ n (q1 + 1) op 1 f) : s_bd fa σ n p op 1 f := fun W V hW hd => by
  rw [s_ask h hx hW hd]
  exact h2 _ _ (by rw [w_opn_c (by decide), hW]) w_hd_q
theorem s_bd.m {fa : Int32 → Int64} {σ : Nat → Int32} {n p p1 q1 p2 q2 op : Nat} {v1 v2 : Int64} {c : Int32} (h : s_ch fa σ n p p1 op 2 v1) (hx : w_nx σ n p1 q1 63) (h2 : s_va fa σ n (q1 + 1) p2 op v2) (hx2 : w_nx σ n p2 q2 c) (hc : c ≠ 58) : s_bd fa σ n p op 1 (10 * (q2 : Int) + 1) := fun W V hW hd => by
  rw [s_ask h hx hW hd]
  obtain ⟨W', V', e1, e2, e3, e4⟩ := h2 (63 :: W) (v1 :: V) (by rw [w_opn_c (by decide), hW]) w_hd_q
  rw [e1]
  have e5 : w_chs W' V' = (63 :: W, v2 :: v1 :: V) := by rw [e2]; exact w_cho_hd (show (63 : Int32) ≠ 58 by decide)
  exact s_stop (g := 58) hx2 e3 (e4 q2 c hx2) e5 hc (Or.inr (Or.inl rfl)) rfl
theorem s_bd.e {fa : Int32 → Int64} {σ : Nat → Int32} {n p p1 q1 p2 q2 op : Nat} {v1 v2 : Int64} {f : Int} (h : s_ch fa σ n p p1 op 2 v1) (hx : w_nx σ n p1 q1 63) (h2 : s_va fa σ n (q1 + 1) p2 op v2) (hx2 : w_nx σ n p2 q2 58) (h3 : s_bd fa σ n (q2 + 1) op 1 f) : s_bd fa σ n p op 1 f := fun W V hW hd => by
  rw [s_els h hx h2 hx2 hW hd]
  exact h3 _ _ (by rw [w_opn_c (by decide), hW]) w_hd_c
/-! the whole text -/
theorem s_all {fa : Int32 → Int64} {σ : Nat → Int32} {n p q : Nat} {c : Int32} {v : Int64} (h : s_va fa σ n 0 p 0 v) (hx : w_nx σ n p q c) : w_res fa σ n 0 true [] [] = (if c = -1 then .inl v else .inr (10 * (q : Int) + 1)) := by
  obtain ⟨W', V', e1, e2, e3, e4⟩ := h [] [] rfl trivial
  have e5 : w_chs W' V' = ([], [v]) := by rw [e2]; exact w_cho_hd (by decide)
  rw [e1]
  by_cases z : c = -1
  · rw [if_pos z, hx.r]
    have hn : q = n := by
      rcases Nat.lt_or_ge q n with w | w
      · exact absurd z (hx.2.2.2.1 w).2.2
      · have := hx.2.1; omega
    rw [hn, w_res_e (Nat.le_refl _)]
    unfold w_end
    rw [if_neg (by decide), e5]
  · rw [if_neg z]
    exact s_stop (g := -1) hx e3 (e4 q c hx) e5 z (Or.inr (Or.inr rfl)) rfl
theorem s_allb {fa : Int32 → Int64} {σ : Nat → Int32} {n : Nat} {f : Int} (h : s_bd fa σ n 0 0 1 f) : w_res fa σ n 0 true [] [] = .inr f := h [] [] rfl trivial
end
