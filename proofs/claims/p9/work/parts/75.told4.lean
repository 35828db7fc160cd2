/-! told calls, IV: earnings, texts, images, count -/
theorem rl_c_tx : ∀ u, u < 5 → (19 + 3 * u, 5, 3508 + u, 1) ∈ rl_c ∧ (20 + 3 * u, 0, 3258 + 50 * u, 50) ∈ rl_c := by decide
section STS
variable {i1 i2 : Bool} {M : am_M}
theorem nneg {x : Int32} (h : -1 ≤ x.toInt) : x ≠ -1 ↔ ¬ x < 0 := not_congr (neg1 h)
theorem LI.kn (h : LI i1 i2 M) {p y k : Int32} (hp : 0 ≤ p.toInt ∧ p.toInt ≤ 11) (hy : 0 ≤ y.toInt ∧ y.toInt ≤ 39) : am_earn M (p * 40 + y) k = r_known M p y k := by
  have f := x_40 (p := p) (y := y) ⟨hp.1, by omega⟩ hy
  have c1 := i_clamp (x := 40 * p + y) (by omega)
  have c2 := i_clamp (x := p * 40 + y) (by omega)
  have x1 := x_off (c := 558) (cn := 558) rfl (x := 40 * p + y) ⟨by omega, by omega⟩ (by decide)
  have x2 := x_off (c := 1038) (cn := 1038) rfl (x := 40 * p + y) ⟨by omega, by omega⟩ (by decide)
  have x3 := x_off (c := 1518) (cn := 1518) rfl (x := 40 * p + y) ⟨by omega, by omega⟩ (by decide)
  have x4 := x_off (c := 1998) (cn := 1998) rfl (x := 40 * p + y) ⟨by omega, by omega⟩ (by decide)
  have h1 := h.e (o := 5) (k0 := 0) (b0 := 558) (n := 480) (by decide) (k := (p * 40 + y).toNatClampNeg) (by omega)
  have h2 := h.e (o := 6) (k0 := 0) (b0 := 1038) (n := 480) (by decide) (k := (p * 40 + y).toNatClampNeg) (by omega)
  have h3 := h.e (o := 7) (k0 := 0) (b0 := 1518) (n := 480) (by decide) (k := (p * 40 + y).toNatClampNeg) (by omega)
  have h4 := h.e (o := 8) (k0 := 0) (b0 := 1998) (n := 480) (by decide) (k := (p * 40 + y).toNatClampNeg) (by omega)
  rw [Nat.zero_add, show 558 + (p * 40 + y).toNatClampNeg = (558 + (40 * p + y)).toNatClampNeg by omega] at h1
  rw [Nat.zero_add, show 1038 + (p * 40 + y).toNatClampNeg = (1038 + (40 * p + y)).toNatClampNeg by omega] at h2
  rw [Nat.zero_add, show 1518 + (p * 40 + y).toNatClampNeg = (1518 + (40 * p + y)).toNatClampNeg by omega] at h3
  rw [Nat.zero_add, show 1998 + (p * 40 + y).toNatClampNeg = (1998 + (40 * p + y)).toNatClampNeg by omega] at h4
  have h1 : M.1 25 (p * 40 + y).toNatClampNeg = _ := h1
  have h2 : M.1 26 (p * 40 + y).toNatClampNeg = _ := h2
  have h3 : M.1 27 (p * 40 + y).toNatClampNeg = _ := h3
  have h4 : M.1 28 (p * 40 + y).toNatClampNeg = _ := h4
  have r2 := (h.v (k := (1038 + (40 * p + y)).toNatClampNeg) (by omega)).a12 (by omega)
  have r4 := (h.v (k := (1998 + (40 * p + y)).toNatClampNeg) (by omega)).a12 (by omega)
  unfold am_earn r_known
  rw [if_neg (by omega), h1, h2, h3, h4]
  simp only [nneg r2.1, nneg r4.1, Int32.not_lt]
theorem st_earnings (h : LI i1 i2 M) (p y k : Int32) : st i1 i2 M (c_earnings M p y k) (fun N => r_earnings N p y k) := by
  have e0 := h.e0
  have n0 := h.n0
  by_cases z0 : 0 ≤ p ∧ p < M.1 201 0
  rotate_left
  · exact st.no h (by unfold c_earnings; rw [e0]; exact if_neg z0) (if_neg z0)
  by_cases z1 : 0 ≤ y ∧ y < 40
  rotate_left
  · exact st.no h (by unfold c_earnings; rw [e0, if_pos z0, if_neg z1]) (by (try dsimp only); unfold r_earnings; rw [if_pos z0, if_neg z1])
  by_cases z2 : 0 ≤ k ∧ k < 40
  rotate_left
  · exact st.no h (by unfold c_earnings; rw [e0, if_pos z0, if_pos z1, if_neg z2]) (by (try dsimp only); unfold r_earnings; rw [if_pos z0, if_pos z1, if_neg z2])
  have b0 := b4 z0
  exact st.no h (v := r_known M p y k) (by unfold c_earnings; rw [e0, if_pos z0, if_pos z1, if_pos z2, h.kn ⟨b0.1, by omega⟩ (yr z1)]) (by (try dsimp only); unfold r_earnings; rw [if_pos z0, if_pos z1, if_pos z2])
theorem ct_eq (h : LI i1 i2 M) (w : Int32) : c_count M w = r_count M w := by
  have a0 := h.e0
  have a1 := h.e1
  have a2 := h.e2
  have a3 := h.e3
  have a4 := h.e4
  have a5 := h.e5
  by_cases z : 0 ≤ w ∧ w ≤ 5
  · have hw : w = 0 ∨ w = 1 ∨ w = 2 ∨ w = 3 ∨ w = 4 ∨ w = 5 := by
      simp only [i_le, i_eq, Int32.reduceToInt] at z ⊢
      omega
    rcases hw with rfl | rfl | rfl | rfl | rfl | rfl
    · exact a0
    · exact a1
    · exact a2
    · exact a3
    · exact a4
    · exact a5
  · have hr : r_count M w = -2 := if_neg z
    rw [hr]
    unfold c_count
    have nz : ∀ c : Int32, 0 ≤ c ∧ c ≤ 5 → ¬ w = c := fun c hc e => z (e ▸ hc)
    rw [if_neg (nz 0 (by decide)), if_neg (nz 1 (by decide)), if_neg (nz 2 (by decide)), if_neg (nz 3 (by decide)), if_neg (nz 4 (by decide)), if_neg (nz 5 (by decide))]
theorem st_erase (h : LI i1 i2 M) (pl : Int32) : st i1 i2 M (c_erase M pl) (fun N => r_erase N pl) := by
  by_cases z0 : 0 ≤ pl ∧ pl < 5
  rotate_left
  · exact st.no h (if_neg z0) (if_neg z0)
  have b0 := b4 z0
  simp only [Int32.reduceToInt] at b0
  have c0 := i_clamp b0.1
  have x0 := x_off (c := 3508) (cn := 3508) rfl (x := pl) ⟨b0.1, by omega⟩ (by decide)
  have hu : pl.toNatClampNeg < 5 := by omega
  have hv := h.e (rl_c_tx _ hu).1 (k := 0) (by decide)
  rw [show 20 + (19 + 3 * pl.toNatClampNeg) = 39 + 3 * pl.toNatClampNeg by omega, show 3508 + pl.toNatClampNeg + 0 = (3508 + pl).toNatClampNeg by omega] at hv
  have hv : M.1 (39 + 3 * pl.toNatClampNeg) 5 = M.1 201 (3508 + pl).toNatClampNeg := hv
  have z00 : (0 : Int32).toInt = 0 := rfl
  have eN : ∀ k, (am_wI (am_wI (am_wI M (39 + 3 * pl.toNatClampNeg) 5 0) (39 + 3 * pl.toNatClampNeg) 2 0) (39 + 3 * pl.toNatClampNeg) 6 1).1 201 k = M.1 201 k := fun k => by (repeat (first | rw [am_wI_1, if_pos ⟨rfl, by omega⟩] | rw [am_wI_1, if_neg (fun q => by omega)] | rw [am_lay_1, if_pos ⟨rfl, by omega, by omega⟩] | rw [am_lay_1, if_neg (fun q => by omega)]))
  have q := (h.b.put (u := 19 + 3 * pl.toNatClampNeg) (k0 := 5) (b0 := 3508 + pl.toNatClampNeg) (n := 1) (k := 0) (n1 := 39 + 3 * pl.toNatClampNeg) (k1 := 5) (k2 := (3508 + pl).toNatClampNeg) (rl_c_tx _ hu).1 (by omega) (by omega) (by omega) (by omega) 0 (by exact t_v.m29 (by omega) (by omega)) (by (unfold t_dep; omega))).tx (A' := am_wI (am_wI (am_wI M (39 + 3 * pl.toNatClampNeg) 5 0) (39 + 3 * pl.toNatClampNeg) 2 0) (39 + 3 * pl.toNatClampNeg) 6 1) hu (fun a k z => by
    unfold am_tS at z
    rw [am_wI_1, if_neg (fun q => by omega), am_wI_1, if_neg (fun q => by omega)]) (by
    rw [am_wI_1, if_neg (fun q => by omega), am_wI_self]
    exact ⟨(), by decide, by decide⟩)
  refine st.yes (by unfold c_erase; rw [if_pos z0, hv]) (by (try dsimp only); unfold r_erase; rw [if_pos z0, eN]) rfl ?_ (fun a k z => by (repeat (first | rw [am_wI_1, if_pos ⟨rfl, by omega⟩] | rw [am_wI_1, if_neg (fun q => by omega)] | rw [am_lay_1, if_pos ⟨rfl, by omega, by omega⟩] | rw [am_lay_1, if_neg (fun q => by omega)])))
  exact h.told q (fun a k z1 z2 => by rw [am_wI_1, if_neg (fun q => by omega)]) (fun k => by rw [am_wI_1, eN, am_wI_1]) (fun a k z1 z2 => by (repeat (first | rw [am_wI_1, if_pos ⟨rfl, by omega⟩] | rw [am_wI_1, if_neg (fun q => by omega)] | rw [am_lay_1, if_pos ⟨rfl, by omega, by omega⟩] | rw [am_lay_1, if_neg (fun q => by omega)]))) (fun a z => by (repeat (first | rw [am_wI_1, if_pos ⟨rfl, by omega⟩] | rw [am_wI_1, if_neg (fun q => by omega)] | rw [am_lay_1, if_pos ⟨rfl, by omega, by omega⟩] | rw [am_lay_1, if_neg (fun q => by omega)])))
theorem wr_no (h : LI i1 i2 M) {pl g : Int32} (hn : ¬ ((0 ≤ pl ∧ pl < 5) ∧ (0 ≤ g ∧ g ≤ 127))) : r_write M pl g = (-2, M) := by
  unfold r_write
  by_cases z0 : 0 ≤ pl ∧ pl < 5
  · rw [if_pos z0, if_neg (fun q => hn ⟨z0, q⟩)]
  · rw [if_neg z0]
theorem wr_sz (h : LI i1 i2 M) {pl : Int32} (z0 : 0 ≤ pl ∧ pl < 5) : M.1 (39 + 3 * pl.toNatClampNeg) 5 = M.1 201 (3508 + pl).toNatClampNeg ∧ (3508 + pl).toNatClampNeg = 3508 + pl.toNatClampNeg ∧ pl.toNatClampNeg < 5 ∧ (0 ≤ (M.1 201 (3508 + pl).toNatClampNeg).toInt ∧ (M.1 201 (3508 + pl).toNatClampNeg).toInt ≤ 50) := by
  have b0 := b4 z0
  simp only [Int32.reduceToInt] at b0
  have c0 := i_clamp b0.1
  have x0 := x_off (c := 3508) (cn := 3508) rfl (x := pl) ⟨b0.1, by omega⟩ (by decide)
  have hu : pl.toNatClampNeg < 5 := by omega
  have hv := h.e (rl_c_tx _ hu).1 (k := 0) (by decide)
  rw [show 20 + (19 + 3 * pl.toNatClampNeg) = 39 + 3 * pl.toNatClampNeg by omega, show 3508 + pl.toNatClampNeg + 0 = (3508 + pl).toNatClampNeg by omega] at hv
  exact ⟨hv, x0, hu, (h.v (k := (3508 + pl).toNatClampNeg) (by omega)).a29 (by omega)⟩
theorem wr_fu (h : LI i1 i2 M) {pl g : Int32} (hz : (0 ≤ pl ∧ pl < 5) ∧ (0 ≤ g ∧ g ≤ 127)) (hf : 50 ≤ M.1 (39 + 3 * pl.toNatClampNeg) 5) : r_write M pl g = (-4, M) := by
  obtain ⟨hv, x0, hu, hs⟩ := wr_sz h hz.1
  rw [hv, i_le] at hf
  simp only [Int32.reduceToInt] at hf
  have e : M.1 201 (3508 + pl).toNatClampNeg = 50 := by
    rw [i_eq]
    simp only [Int32.reduceToInt]
    omega
  unfold r_write
  rw [if_pos hz.1, if_pos hz.2, if_pos e]
theorem wr_yes (h : LI i1 i2 M) {pl g : Int32} (hz : (0 ≤ pl ∧ pl < 5) ∧ (0 ≤ g ∧ g ≤ 127)) (hf : M.1 (39 + 3 * pl.toNatClampNeg) 5 < 50) {N : am_M} (c : am_ch (am_tS (39 + 3 * pl.toNatClampNeg) (39 + 3 * pl.toNatClampNeg + 2)) (am_wI (am_wI M (39 + 3 * pl.toNatClampNeg + 1) (M.1 (39 + 3 * pl.toNatClampNeg) 5).toNatClampNeg g) (39 + 3 * pl.toNatClampNeg) 5 (M.1 (39 + 3 * pl.toNatClampNeg) 5 + 1)) N) (h0 : am_t0 N (39 + 3 * pl.toNatClampNeg)) : N.1 (39 + 3 * pl.toNatClampNeg) 5 = (r_write N pl g).1 ∧ LI i1 i2 (r_write N pl g).2 ∧ ∀ a k, 200 ≤ a → N.1 a k = M.1 a k := by
  obtain ⟨hv, x0, hu, hs⟩ := wr_sz h hz.1
  have b0 := b4 hz.1
  have b1 := bt hz.2
  simp only [Int32.reduceToInt] at b0 b1
  have c0 := i_clamp b0.1
  rw [hv] at hf c
  rw [i_lt] at hf
  simp only [Int32.reduceToInt] at hf
  have cs := i_clamp hs.1
  have hi := i_inc (x := M.1 201 (3508 + pl).toNatClampNeg) (by omega) (by omega)
  obtain ⟨c1, -⟩ := c
  have far : ∀ a k, 200 ≤ a → N.1 a k = M.1 a k := fun a k z => by
    rw [c1 a k (by unfold am_tS; omega)]
    (repeat (first | rw [am_wI_1, if_pos ⟨rfl, by omega⟩] | rw [am_wI_1, if_neg (fun q => by omega)] | rw [am_lay_1, if_pos ⟨rfl, by omega, by omega⟩] | rw [am_lay_1, if_neg (fun q => by omega)]))
  have x1 := x_mul (c := 50) (cn := 50) rfl (x := pl) ⟨b0.1, by omega⟩ (by decide)
  have x2 := x_offi (c := 3258) (cn := 3258) rfl (x := 50 * pl) ⟨by omega, by omega⟩ (by decide)
  have x3 := i_add (x := 3258 + 50 * pl) (y := M.1 201 (3508 + pl).toNatClampNeg) (by omega) (by omega)
  have x4 := i_clamp (x := 3258 + 50 * pl + M.1 201 (3508 + pl).toNatClampNeg) (by omega)
  have hz2 : ¬ M.1 201 (3508 + pl).toNatClampNeg = 50 := fun e => by
    rw [e] at hf
    exact absurd hf (by decide)
  have hr : r_write N pl g = (M.1 201 (3508 + pl).toNatClampNeg + 1, am_wI (am_wI N 201 (3258 + 50 * pl + M.1 201 (3508 + pl).toNatClampNeg).toNatClampNeg g) 201 (3508 + pl).toNatClampNeg (M.1 201 (3508 + pl).toNatClampNeg + 1)) := by
    unfold r_write
    rw [if_pos hz.1, if_pos hz.2, far 201 _ (by decide), if_neg hz2]
    (try dsimp only)
    rw [show (am_wI N 201 (3258 + 50 * pl + M.1 201 (3508 + pl).toNatClampNeg).toNatClampNeg g).1 201 (3508 + pl).toNatClampNeg = M.1 201 (3508 + pl).toNatClampNeg by
      rw [am_wI_1, if_neg (fun q => by omega)]; exact far 201 _ (by decide)]
  rw [hr]
  refine ⟨?_, ?_, far⟩
  · rw [c1 _ _ (by unfold am_tS; omega), am_wI_self]
  · have q := ((h.b.put (u := 20 + 3 * pl.toNatClampNeg) (k0 := 0) (b0 := 3258 + 50 * pl.toNatClampNeg) (n := 50) (k := (M.1 201 (3508 + pl).toNatClampNeg).toNatClampNeg) (n1 := 39 + 3 * pl.toNatClampNeg + 1) (k1 := (M.1 201 (3508 + pl).toNatClampNeg).toNatClampNeg) (k2 := (3258 + 50 * pl + M.1 201 (3508 + pl).toNatClampNeg).toNatClampNeg) (rl_c_tx _ hu).2 (by omega) (by omega) (by omega) (by omega) g (by exact t_v.m28 (by omega) (by omega)) (by (unfold t_dep; omega))).put (u := 19 + 3 * pl.toNatClampNeg) (k0 := 5) (b0 := 3508 + pl.toNatClampNeg) (n := 1) (k := 0) (n1 := 39 + 3 * pl.toNatClampNeg) (k1 := 5) (k2 := (3508 + pl).toNatClampNeg) (rl_c_tx _ hu).1 (by omega) (by omega) (by omega) (by omega) (M.1 201 (3508 + pl).toNatClampNeg + 1) (by exact t_v.m29 (by omega) (by omega)) (by (unfold t_dep; omega))).tx (A' := N) hu (fun a k z => c1 a k (by rw [show 39 + 3 * pl.toNatClampNeg + 2 = 41 + 3 * pl.toNatClampNeg by omega]; exact z)) (by obtain ⟨-, z, -⟩ := h0; exact ⟨(), z⟩)
    exact h.told q (fun a k z1 z2 => by rw [am_wI_1, if_neg (fun q => by omega), am_wI_1, if_neg (fun q => by omega)]) (fun k => by rw [am_wI_1, am_wI_1, am_wI_1, am_wI_1, far 201 k (by decide)]) (fun a k z1 z2 => by
      rw [am_wI_1, if_neg (fun q => by omega), am_wI_1, if_neg (fun q => by omega), c1 a k (by unfold am_tS; omega)]
      (repeat (first | rw [am_wI_1, if_pos ⟨rfl, by omega⟩] | rw [am_wI_1, if_neg (fun q => by omega)] | rw [am_lay_1, if_pos ⟨rfl, by omega, by omega⟩] | rw [am_lay_1, if_neg (fun q => by omega)]))) (fun a z => by
      rw [am_wI_1, if_neg (fun q => by omega), am_wI_1, if_neg (fun q => by omega), c1 a 1 (by unfold am_tS; omega)]
      (repeat (first | rw [am_wI_1, if_pos ⟨rfl, by omega⟩] | rw [am_wI_1, if_neg (fun q => by omega)] | rw [am_lay_1, if_pos ⟨rfl, by omega, by omega⟩] | rw [am_lay_1, if_neg (fun q => by omega)])))
/-! images -/
theorem im_N (h : LI i1 i2 M) {b : Nat} (hb : b = 60 ∨ b = 100) {N : am_M} (c : g_im b M N) : (∀ a k, (a < b ∨ b + 39 ≤ a) → N.1 a k = M.1 a k) ∧ ∀ u k, g_hit g_sh0 u k = true → N.1 (b + u) k = M.1 (20 + u) k := by
  obtain ⟨-, c1, c2⟩ := c
  exact ⟨fun a k z => (c1 a k z).1, fun u k z => c2 u k z⟩
theorem li_N {N : am_M} (h : LI i1 i2 M) (e : ∀ k, N.1 200 k = M.1 200 k) : r_N N := ⟨(e 3).trans h.rn.1, (e 7).trans h.rn.2⟩
theorem im_0 (h : LI i1 i2 M) {N : am_M} (c : g_im 60 M N) : LI true i2 (r_image N 0).2 ∧ (r_image N 0).1 = 1 ∧ r_I N := by
  obtain ⟨c1, c2⟩ := im_N h (Or.inl rfl) c
  have z0 : (0 : Int32).toNatClampNeg = 0 := rfl
  have hr : r_image N 0 = (1, (am_wI (am_cI N 202 (fun b => if 3760 * 0 ≤ b ∧ b < 3760 * 0 + 3760 then N.1 201 (b - 3760 * 0) else N.1 202 b)) 203 0 (vp_nar .boolean 1))) := by
    unfold r_image
    rw [if_pos (by decide), z0]
  rw [hr]
  obtain ⟨m1, m2, m3, m4⟩ := h.im
  have far : ∀ a k, 200 ≤ a → N.1 a k = M.1 a k := fun a k z => c1 a k (by omega)
  refine ⟨?_, rfl, h.ri far⟩
  generalize hF : (am_wI (am_cI N 202 (fun b => if 3760 * 0 ≤ b ∧ b < 3760 * 0 + 3760 then N.1 201 (b - 3760 * 0) else N.1 202 b)) 203 0 (vp_nar .boolean 1)) = F
  have f1 : ∀ a k, a ≠ 202 → a ≠ 203 → F.1 a k = N.1 a k := fun a k z1 z2 => by
    rw [← hF, am_wI_1, if_neg (fun q => z2 q.1), am_cI_1, if_neg z1]
  have f2 : ∀ k, F.1 202 k = if k < 3760 then M.1 201 k else M.1 202 k := fun k => by
    rw [← hF, am_wI_1, if_neg (fun q => by omega), am_cI_1, if_pos rfl]
    by_cases z : k < 3760
    · rw [if_pos ⟨by omega, by omega⟩, if_pos z, show k - 3760 * 0 = k by omega, far 201 k (by decide)]
    · rw [if_neg (fun q => by omega), if_neg z, far 202 k (by decide)]
  have f3 : F.1 203 0 = 1 := by
    rw [← hF, am_wI_self]
    rfl
  have f4 : F.1 203 1 = M.1 203 1 := by
    rw [← hF, am_wI_1, if_neg (fun q => by omega), am_cI_1, if_neg (by decide), far 203 1 (by decide)]
  have w := h.w
  refine ⟨(), h.b.cg (fun a k z1 z2 => by rw [f1 a k (by omega) (by omega), c1 a k (by omega)]) (fun k _ => by rw [f1 201 _ (by decide) (by decide), far 201 _ (by decide)]), ?_, ⟨h.s.cg (fun a k z1 z2 => by rw [f1 a k (by omega) (by omega), c1 a k (by omega)]), li_N h (fun k => by rw [f1 200 k (by decide) (by decide), far 200 k (by decide)])⟩, fun _ => ?_, fun z => ?_, ?_, ?_⟩
  · rw [f1 31 1 (by decide) (by decide), f1 33 1 (by decide) (by decide), f1 35 1 (by decide) (by decide), f1 54 1 (by decide) (by decide), c1 31 1 (by omega), c1 33 1 (by omega), c1 35 1 (by omega), c1 54 1 (by omega)]
    exact w
  · refine h.b.cpy (fun u k z => ?_) (fun k hk => ?_)
    · have := g_sh0_lt z
      rw [f1 _ k (by omega) (by omega)]
      exact c2 u k z
    · rw [Nat.zero_add, f2, if_pos hk]
  · exact (m2 z).cg (fun a k z1 z2 => by rw [f1 a k (by omega) (by omega), c1 a k (by omega)]) (fun k _ => by rw [f2, if_neg (by omega)])
  · rw [f3]; rfl
  · rw [f4]; exact m4
theorem im_1 (h : LI i1 i2 M) {N : am_M} (c : g_im 100 M N) : LI i1 true (r_image N 1).2 ∧ (r_image N 1).1 = 1 ∧ r_I N := by
  obtain ⟨c1, c2⟩ := im_N h (Or.inr rfl) c
  have z0 : (1 : Int32).toNatClampNeg = 1 := rfl
  have hr : r_image N 1 = (1, (am_wI (am_cI N 202 (fun b => if 3760 * 1 ≤ b ∧ b < 3760 * 1 + 3760 then N.1 201 (b - 3760 * 1) else N.1 202 b)) 203 1 (vp_nar .boolean 1))) := by
    unfold r_image
    rw [if_pos (by decide), z0]
  rw [hr]
  obtain ⟨m1, m2, m3, m4⟩ := h.im
  have far : ∀ a k, 200 ≤ a → N.1 a k = M.1 a k := fun a k z => c1 a k (by omega)
  refine ⟨?_, rfl, h.ri far⟩
  generalize hF : (am_wI (am_cI N 202 (fun b => if 3760 * 1 ≤ b ∧ b < 3760 * 1 + 3760 then N.1 201 (b - 3760 * 1) else N.1 202 b)) 203 1 (vp_nar .boolean 1)) = F
  have f1 : ∀ a k, a ≠ 202 → a ≠ 203 → F.1 a k = N.1 a k := fun a k z1 z2 => by
    rw [← hF, am_wI_1, if_neg (fun q => z2 q.1), am_cI_1, if_neg z1]
  have f2 : ∀ k, F.1 202 k = if 3760 ≤ k ∧ k < 7520 then M.1 201 (k - 3760) else M.1 202 k := fun k => by
    rw [← hF, am_wI_1, if_neg (fun q => by omega), am_cI_1, if_pos rfl]
    by_cases z : 3760 ≤ k ∧ k < 7520
    · rw [if_pos ⟨by omega, by omega⟩, if_pos z, show k - 3760 * 1 = k - 3760 by omega, far 201 _ (by decide)]
    · rw [if_neg (fun q => by omega), if_neg z, far 202 k (by decide)]
  have f3 : F.1 203 1 = 1 := by
    rw [← hF, am_wI_self]
    rfl
  have f4 : F.1 203 0 = M.1 203 0 := by
    rw [← hF, am_wI_1, if_neg (fun q => by omega), am_cI_1, if_neg (by decide), far 203 0 (by decide)]
  have w := h.w
  refine ⟨(), h.b.cg (fun a k z1 z2 => by rw [f1 a k (by omega) (by omega), c1 a k (by omega)]) (fun k _ => by rw [f1 201 _ (by decide) (by decide), far 201 _ (by decide)]), ?_, ⟨h.s.cg (fun a k z1 z2 => by rw [f1 a k (by omega) (by omega), c1 a k (by omega)]), li_N h (fun k => by rw [f1 200 k (by decide) (by decide), far 200 k (by decide)])⟩, fun z => ?_, fun _ => ?_, ?_, ?_⟩
  · rw [f1 31 1 (by decide) (by decide), f1 33 1 (by decide) (by decide), f1 35 1 (by decide) (by decide), f1 54 1 (by decide) (by decide), c1 31 1 (by omega), c1 33 1 (by omega), c1 35 1 (by omega), c1 54 1 (by omega)]
    exact w
  · exact (m1 z).cg (fun a k z1 z2 => by rw [f1 a k (by omega) (by omega), c1 a k (by omega)]) (fun k hk => by rw [f2, if_neg (by omega)])
  · refine h.b.cpy (fun u k z => ?_) (fun k hk => ?_)
    · have := g_sh0_lt z
      rw [f1 _ k (by omega) (by omega)]
      exact c2 u k z
    · rw [Nat.zero_add, f2, if_pos ⟨by omega, by omega⟩, Nat.add_sub_cancel_left]
  · rw [f4]; exact m3
  · rw [f3]; rfl
theorem im_no {i : Int32} (hn : ¬ (0 ≤ i ∧ i ≤ 1)) : r_image M i = (-2, M) ∧ r_from M i = (-2, M) := ⟨if_neg hn, if_neg hn⟩
theorem fr_no0 (h : LI false i2 M) : r_from M 0 = (-3, M) := by
  obtain ⟨-, -, m3, -⟩ := h.im
  have z0 : (0 : Int32).toNatClampNeg = 0 := rfl
  unfold r_from
  rw [if_pos (by decide), z0, if_pos (by rw [m3]; rfl)]
theorem fr_no1 (h : LI i1 false M) : r_from M 1 = (-3, M) := by
  obtain ⟨-, -, -, m4⟩ := h.im
  have z0 : (1 : Int32).toNatClampNeg = 1 := rfl
  unfold r_from
  rw [if_pos (by decide), z0, if_pos (by rw [m4]; rfl)]
/-- the house goes on from an image -/
theorem fr_up (h : LI i1 i2 M) {b o : Nat} (hl : lb b 202 o M M) {N F : am_M} (c : g_cs 20 b g_sh0 M N) (f1 : ∀ a k, a ≠ 201 → F.1 a k = N.1 a k) (f2 : ∀ k, k < 3760 → F.1 201 k = M.1 202 (o + k)) : LI i1 i2 F ∧ r_I N := by
  obtain ⟨-, -, c2⟩ := c
  have far : ∀ a k, (a < 20 ∨ 59 ≤ a) → N.1 a k = M.1 a k := fun a k z => by
    rw [c2 a k, if_neg (fun q => ?_)]
    have := g_sh0_lt q.2
    omega
  have nh : ∀ u, u = 11 ∨ u = 13 ∨ u = 15 ∨ u = 34 → g_hit g_sh0 u 1 = false := by
    intro u hu
    rcases hu with rfl | rfl | rfl | rfl <;> decide
  refine ⟨h.up (hl.cpy (fun u k z => ?_) (fun k hk => by rw [Nat.zero_add]; exact f2 k hk)) (fun a z => ?_) (h.s.cg (fun a k z1 z2 => by rw [f1 a k (by omega), far a k (by omega)])) (li_N h (fun k => by rw [f1 200 k (by decide), far 200 k (by omega)])) (fun a k z => by rw [f1 a k (by omega), far a k (by omega)]), h.ri (fun a k z => far a k (by omega))⟩
  · have := g_sh0_lt z
    rw [f1 _ k (by omega), c2, Nat.add_sub_cancel_left, if_pos ⟨by omega, z⟩]
  · rw [f1 a 1 (by omega), c2, if_neg (fun q => ?_)]
    have q2 := q.2
    rw [nh (a - 20) (by omega)] at q2
    cases q2
theorem fr_0 (h : LI true i2 M) {N : am_M} (c : g_cs 20 60 g_sh0 M N) : LI true i2 (r_from N 0).2 ∧ (r_from N 0).1 = 1 ∧ r_I N := by
  obtain ⟨m1, -, m3, -⟩ := h.im
  have z0 : (0 : Int32).toNatClampNeg = 0 := rfl
  have far : ∀ a k, 59 ≤ a → N.1 a k = M.1 a k := fun a k z => by
    obtain ⟨-, -, c2⟩ := c
    rw [c2 a k, if_neg (fun q => ?_)]
    have := g_sh0_lt q.2
    omega
  have hr : r_from N 0 = (1, (am_cI N 201 (fun b => if b < 3760 then N.1 202 (3760 * 0 + b) else N.1 201 b))) := by
    unfold r_from
    rw [if_pos (by decide), z0, if_neg (by rw [far 203 0 (by decide), m3]; decide)]
  rw [hr]
  obtain ⟨g1, g2⟩ := fr_up h (m1 rfl) c (F := am_cI N 201 (fun b => if b < 3760 then N.1 202 (3760 * 0 + b) else N.1 201 b)) (fun a k z => by rw [am_cI_1, if_neg z]) (fun k hk => by rw [am_cI_1, if_pos rfl, if_pos hk, far 202 _ (by decide)])
  exact ⟨g1, rfl, g2⟩
theorem fr_1 (h : LI i1 true M) {N : am_M} (c : g_cs 20 100 g_sh0 M N) : LI i1 true (r_from N 1).2 ∧ (r_from N 1).1 = 1 ∧ r_I N := by
  obtain ⟨-, m1, -, m3⟩ := h.im
  have z0 : (1 : Int32).toNatClampNeg = 1 := rfl
  have far : ∀ a k, 59 ≤ a → N.1 a k = M.1 a k := fun a k z => by
    obtain ⟨-, -, c2⟩ := c
    rw [c2 a k, if_neg (fun q => ?_)]
    have := g_sh0_lt q.2
    omega
  have hr : r_from N 1 = (1, (am_cI N 201 (fun b => if b < 3760 then N.1 202 (3760 * 1 + b) else N.1 201 b))) := by
    unfold r_from
    rw [if_pos (by decide), z0, if_neg (by rw [far 203 1 (by decide), m3]; decide)]
  rw [hr]
  obtain ⟨g1, g2⟩ := fr_up h (m1 rfl) c (F := am_cI N 201 (fun b => if b < 3760 then N.1 202 (3760 * 1 + b) else N.1 201 b)) (fun a k z => by rw [am_cI_1, if_neg z]) (fun k hk => by rw [am_cI_1, if_pos rfl, if_pos hk, far 202 _ (by decide)])
  exact ⟨g1, rfl, g2⟩
end STS
