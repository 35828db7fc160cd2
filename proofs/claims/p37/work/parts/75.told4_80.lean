-- part 75.told4.lean.txt
section
/-! told calls, IV: earnings, texts, images, count -/
theorem rl_c_tx : ∀ u, u < 5 → (19 + 3 * u, 5, 3508 + u, 1) ∈ rl_c ∧ (20 + 3 * u, 0, 3258 + 50 * u, 50) ∈ rl_c := by decide
section STS
variable {i1 i2 : Bool} {M : am_M}
theorem nneg {x : Int32} (h : -1 ≤ x.toInt) : x ≠ -1 ↔ ¬ x < 0 := not_congr (neg1 h)
theorem LI.kn (h : LI i1 i2 M) {p y k : Int32} (hp : 0 ≤ p.toInt ∧ p.toInt ≤ 11) (hy : 0 ≤ y.toInt ∧ y.toInt ≤ 39) : am_earn M (p * 40 + y) k = r_known M p y k := by
  have f := x_40 (p := p) (y := y) ⟨hp.1, by omega⟩ hy
  have c1 := i_clamp (x := 40 * p + y) (by omega)
  have c2 := i_clamp (x := p * 40 + y) (by omega)
  have x1 := x_off (c := 558) (cn := 558) rfl (x := 40 * p + y) ⟨by omega, by omega⟩ (by decide)
  have x2 := x_off (c := 1038) (cn := 1038) rfl (x := 40 * p + y) ⟨by omega, by omega⟩ (by decide)
  have x3 := x_off (c := 1518) (cn := 1518) rfl (x := 40 * p + y) ⟨by omega, by omega⟩ (by decide)
  have x4 := x_off (c := 1998) (cn := 1998) rfl (x := 40 * p + y) ⟨by omega, by omega⟩ (by decide)
  have h1 := h.e (o := 5) (k0 := 0) (b0 := 558) (n := 480) (by decide) (k := (p * 40 + y).toNatClampNeg) (by omega)
  have h2 := h.e (o := 6) (k0 := 0) (b0 := 1038) (n := 480) (by decide) (k := (p * 40 + y).toNatClampNeg) (by omega)
  have h3 := h.e (o := 7) (k0 := 0) (b0 := 1518) (n := 480) (by decide) (k := (p * 40 + y).toNatClampNeg) (by omega)
  have h4 := h.e (o := 8) (k0 := 0) (b0 := 1998) (n := 480) (by decide) (k := (p * 40 + y).toNatClampNeg) (by omega)
  rw [Nat.zero_add, show 558 + (p * 40 + y).toNatClampNeg = (558 + (40 * p + y)).toNatClampNeg by omega] at h1
  rw [Nat.zero_add, show 1038 + (p * 40 + y).toNatClampNeg = (1038 + (40 * p + y)).toNatClampNeg by omega] at h2
  rw [Nat.zero_add, show 1518 + (p * 40 + y).toNatClampNeg = (1518 + (40 * p + y)).toNatClampNeg by omega] at h3
  rw [Nat.zero_add, show 1998 + (p * 40 + y).toNatClampNeg = (1998 + (40 * p + y)).toNatClampNeg by omega] at h4
  have h1 : M.1 25 (p * 40 + y).toNatClampNeg = _ := h1
  have h2 : M.1 26 (p * 40 + y).toNatClampNeg = _ := h2
  have h3 : M.1 27 (p * 40 + y).toNatClampNeg = _ := h3
  have h4 : M.1 28 (p * 40 + y).toNatClampNeg = _ := h4
  have r2 := (h.v (k := (1038 + (40 * p + y)).toNatClampNeg) (by omega)).a12 (by omega)
  have r4 := (h.v (k := (1998 + (40 * p + y)).toNatClampNeg) (by omega)).a12 (by omega)
  unfold am_earn r_known
  rw [if_neg (by omega), h1, h2, h3, h4]
  simp only [nneg r2.1, nneg r4.1, Int32.not_lt]
theorem st_earnings (h : LI i1 i2 M) (p y k : Int32) : st i1 i2 M (c_earnings M p y k) (fun N => r_earnings N p y k) := by
  have e0 := h.e0
  have n0 := h.n0
  by_cases z0 : 0 ≤ p ∧ p < M.1 201 0
  rotate_left
  · exact st.no h (by unfold c_earnings; rw [e0]; exact if_neg z0) (if_neg z0)
  by_cases z1 : 0 ≤ y ∧ y < 40
  rotate_left
  · exact st.no h (by unfold c_earnings; rw [e0, if_pos z0, if_neg z1]) (by (try dsimp only); unfold r_earnings; rw [if_pos z0, if_neg z1])
  by_cases z2 : 0 ≤ k ∧ k < 40
  rotate_left
  · exact st.no h (by unfold c_earnings; rw [e0, if_pos z0, if_pos z1, if_neg z2]) (by (try dsimp only); unfold r_earnings; rw [if_pos z0, if_pos z1, if_neg z2])
  have b0 := b4 z0
  exact st.no h (v := r_known M p y k) (by unfold c_earnings; rw [e0, if_pos z0, if_pos z1, if_pos z2, h.kn ⟨b0.1, by omega⟩ (yr z1)]) (by (try dsimp only); unfold r_earnings; rw [if_pos z0, if_pos z1, if_pos z2])
theorem ct_eq (h : LI i1 i2 M) (w : Int32) : c_count M w = r_count M w := by
  have a0 := h.e0
  have a1 := h.e1
  have a2 := h.e2
  have a3 := h.e3
  have a4 := h.e4
  have a5 := h.e5
  by_cases z : 0 ≤ w ∧ w ≤ 5
  · have hw : w = 0 ∨ w = 1 ∨ w = 2 ∨ w = 3 ∨ w = 4 ∨ w = 5 := by
      simp only [i_le, i_eq, Int32.reduceToInt] at z ⊢
      omega
    rcases hw with rfl | rfl | rfl | rfl | rfl | rfl
    · exact a0
    · exact a1
    · exact a2
    · exact a3
    · exact a4
    · exact a5
  · have hr : r_count M w = -2 := if_neg z
    rw [hr]
    unfold c_count
    have nz : ∀ c : Int32, 0 ≤ c ∧ c ≤ 5 → ¬ w = c := fun c hc e => z (e ▸ hc)
    rw [if_neg (nz 0 (by decide)), if_neg (nz 1 (by decide)), if_neg (nz 2 (by decide)), if_neg (nz 3 (by decide)), if_neg (nz 4 (by decide)), if_neg (nz 5 (by decide))]
theorem st_erase (h : LI i1 i2 M) (pl : Int32) : st i1 i2 M (c_erase M pl) (fun N => r_erase N pl) := by
  by_cases z0 : 0 ≤ pl ∧ pl < 5
  rotate_left
  · exact st.no h (if_neg z0) (if_neg z0)
  have b0 := b4 z0
  simp only [Int32.reduceToInt] at b0
  have c0 := i_clamp b0.1
  have x0 := x_off (c := 3508) (cn := 3508) rfl (x := pl) ⟨b0.1, by omega⟩ (by decide)
  have hu : pl.toNatClampNeg < 5 := by omega
  have hv := h.e (rl_c_tx _ hu).1 (k := 0) (by decide)
  rw [show 20 + (19 + 3 * pl.toNatClampNeg) = 39 + 3 * pl.toNatClampNeg by omega, show 3508 + pl.toNatClampNeg + 0 = (3508 + pl).toNatClampNeg by omega] at hv
  have hv : M.1 (39 + 3 * pl.toNatClampNeg) 5 = M.1 201 (3508 + pl).toNatClampNeg := hv
  have z00 : (0 : Int32).toInt = 0 := rfl
  have eN : ∀ k, (am_wI (am_wI (am_wI M (39 + 3 * pl.toNatClampNeg) 5 0) (39 + 3 * pl.toNatClampNeg) 2 0) (39 + 3 * pl.toNatClampNeg) 6 1).1 201 k = M.1 201 k := fun k => by (repeat (first | rw [am_wI_1, if_pos ⟨rfl, by omega⟩] | rw [am_wI_1, if_neg (fun q => by omega)] | rw [am_lay_1, if_pos ⟨rfl, by omega, by omega⟩] | rw [am_lay_1, if_neg (fun q => by omega)]))
  have q := (h.b.put (u := 19 + 3 * pl.toNatClampNeg) (k0 := 5) (b0 := 3508 + pl.toNatClampNeg) (n := 1) (k := 0) (n1 := 39 + 3 * pl.toNatClampNeg) (k1 := 5) (k2 := (3508 + pl).toNatClampNeg) (rl_c_tx _ hu).1 (by omega) (by omega) (by omega) (by omega) 0 (by exact t_v.m29 (by omega) (by omega)) (by (unfold t_dep; omega))).tx (A' := am_wI (am_wI (am_wI M (39 + 3 * pl.toNatClampNeg) 5 0) (39 + 3 * pl.toNatClampNeg) 2 0) (39 + 3 * pl.toNatClampNeg) 6 1) hu (fun a k z => by
    unfold am_tS at z
    rw [am_wI_1, if_neg (fun q => by omega), am_wI_1, if_neg (fun q => by omega)]) (by
    rw [am_wI_1, if_neg (fun q => by omega), am_wI_self]
    exact ⟨(), by decide, by decide⟩)
  refine st.yes (by unfold c_erase; rw [if_pos z0, hv]) (by (try dsimp only); unfold r_erase; rw [if_pos z0, eN]) rfl ?_ (fun a k z => by (repeat (first | rw [am_wI_1, if_pos ⟨rfl, by omega⟩] | rw [am_wI_1, if_neg (fun q => by omega)] | rw [am_lay_1, if_pos ⟨rfl, by omega, by omega⟩] | rw [am_lay_1, if_neg (fun q => by omega)])))
  exact h.told q (fun a k z1 z2 => by rw [am_wI_1, if_neg (fun q => by omega)]) (fun k => by rw [am_wI_1, eN, am_wI_1]) (fun a k z1 z2 => by (repeat (first | rw [am_wI_1, if_pos ⟨rfl, by omega⟩] | rw [am_wI_1, if_neg (fun q => by omega)] | rw [am_lay_1, if_pos ⟨rfl, by omega, by omega⟩] | rw [am_lay_1, if_neg (fun q => by omega)]))) (fun a z => by (repeat (first | rw [am_wI_1, if_pos ⟨rfl, by omega⟩] | rw [am_wI_1, if_neg (fun q => by omega)] | rw [am_lay_1, if_pos ⟨rfl, by omega, by omega⟩] | rw [am_lay_1, if_neg (fun q => by omega)])))
theorem wr_no (h : LI i1 i2 M) {pl g : Int32} (hn : ¬ ((0 ≤ pl ∧ pl < 5) ∧ (0 ≤ g ∧ g ≤ 127))) : r_write M pl g = (-2, M) := by
  unfold r_write
  by_cases z0 : 0 ≤ pl ∧ pl < 5
  · rw [if_pos z0, if_neg (fun q => hn ⟨z0, q⟩)]
  · rw [if_neg z0]
theorem wr_sz (h : LI i1 i2 M) {pl : Int32} (z0 : 0 ≤ pl ∧ pl < 5) : M.1 (39 + 3 * pl.toNatClampNeg) 5 = M.1 201 (3508 + pl).toNatClampNeg ∧ (3508 + pl).toNatClampNeg = 3508 + pl.toNatClampNeg ∧ pl.toNatClampNeg < 5 ∧ (0 ≤ (M.1 201 (3508 + pl).toNatClampNeg).toInt ∧ (M.1 201 (3508 + pl).toNatClampNeg).toInt ≤ 50) := by
  have b0 := b4 z0
  simp only [Int32.reduceToInt] at b0
  have c0 := i_clamp b0.1
  have x0 := x_off (c := 3508) (cn := 3508) rfl (x := pl) ⟨b0.1, by omega⟩ (by decide)
  have hu : pl.toNatClampNeg < 5 := by omega
  have hv := h.e (rl_c_tx _ hu).1 (k := 0) (by decide)
  rw [show 20 + (19 + 3 * pl.toNatClampNeg) = 39 + 3 * pl.toNatClampNeg by omega, show 3508 + pl.toNatClampNeg + 0 = (3508 + pl).toNatClampNeg by omega] at hv
  exact ⟨hv, x0, hu, (h.v (k := (3508 + pl).toNatClampNeg) (by omega)).a29 (by omega)⟩
theorem wr_fu (h : LI i1 i2 M) {pl g : Int32} (hz : (0 ≤ pl ∧ pl < 5) ∧ (0 ≤ g ∧ g ≤ 127)) (hf : 50 ≤ M.1 (39 + 3 * pl.toNatClampNeg) 5) : r_write M pl g = (-4, M) := by
  obtain ⟨hv, x0, hu, hs⟩ := wr_sz h hz.1
  rw [hv, i_le] at hf
  simp only [Int32.reduceToInt] at hf
  have e : M.1 201 (3508 + pl).toNatClampNeg = 50 := by
    rw [i_eq]
    simp only [Int32.reduceToInt]
    omega
  unfold r_write
  rw [if_pos hz.1, if_pos hz.2, if_pos e]
theorem wr_yes (h : LI i1 i2 M) {pl g : Int32} (hz : (0 ≤ pl ∧ pl < 5) ∧ (0 ≤ g ∧ g ≤ 127)) (hf : M.1 (39 + 3 * pl.toNatClampNeg) 5 < 50) {N : am_M} (c : am_ch (am_tS (39 + 3 * pl.toNatClampNeg) (39 + 3 * pl.toNatClampNeg + 2)) (am_wI (am_wI M (39 + 3 * pl.toNatClampNeg + 1) (M.1 (39 + 3 * pl.toNatClampNeg) 5).toNatClampNeg g) (39 + 3 * pl.toNatClampNeg) 5 (M.1 (39 + 3 * pl.toNatClampNeg) 5 + 1)) N) (h0 : am_t0 N (39 + 3 * pl.toNatClampNeg)) : N.1 (39 + 3 * pl.toNatClampNeg) 5 = (r_write N pl g).1 ∧ LI i1 i2 (r_write N pl g).2 ∧ ∀ a k, 200 ≤ a → N.1 a k = M.1 a k := by
  obtain ⟨hv, x0, hu, hs⟩ := wr_sz h hz.1
  have b0 := b4 hz.1
  have b1 := bt hz.2
  simp only [Int32.reduceToInt] at b0 b1
  have c0 := i_clamp b0.1
  rw [hv] at hf c
  rw [i_lt] at hf
  simp only [Int32.reduceToInt] at hf
  have cs := i_clamp hs.1
  have hi := i_inc (x := M.1 201 (3508 + pl).toNatClampNeg) (by omega) (by omega)
  obtain ⟨c1, -⟩ := c
  have far : ∀ a k, 200 ≤ a → N.1 a k = M.1 a k := fun a k z => by
    rw [c1 a k (by unfold am_tS; omega)]
    (repeat (first | rw [am_wI_1, if_pos ⟨rfl, by omega⟩] | rw [am_wI_1, if_neg (fun q => by omega)] | rw [am_lay_1, if_pos ⟨rfl, by omega, by omega⟩] | rw [am_lay_1, if_neg (fun q => by omega)]))
  have x1 := x_mul (c := 50) (cn := 50) rfl (x := pl) ⟨b0.1, by omega⟩ (by decide)
  have x2 := x_offi (c := 3258) (cn := 3258) rfl (x := 50 * pl) ⟨by omega, by omega⟩ (by decide)
  have x3 := i_add (x := 3258 + 50 * pl) (y := M.1 201 (3508 + pl).toNatClampNeg) (by omega) (by omega)
  have x4 := i_clamp (x := 3258 + 50 * pl + M.1 201 (3508 + pl).toNatClampNeg) (by omega)
  have hz2 : ¬ M.1 201 (3508 + pl).toNatClampNeg = 50 := fun e => by
    rw [e] at hf
    exact absurd hf (by decide)
  have hr : r_write N pl g = (M.1 201 (3508 + pl).toNatClampNeg + 1, am_wI (am_wI N 201 (3258 + 50 * pl + M.1 201 (3508 + pl).toNatClampNeg).toNatClampNeg g) 201 (3508 + pl).toNatClampNeg (M.1 201 (3508 + pl).toNatClampNeg + 1)) := by
    unfold r_write
    rw [if_pos hz.1, if_pos hz.2, far 201 _ (by decide), if_neg hz2]
    (try dsimp only)
    rw [show (am_wI N 201 (3258 + 50 * pl + M.1 201 (3508 + pl).toNatClampNeg).toNatClampNeg g).1 201 (3508 + pl).toNatClampNeg = M.1 201 (3508 + pl).toNatClampNeg by
      rw [am_wI_1, if_neg (fun q => by omega)]; exact far 201 _ (by decide)]
  rw [hr]
  refine ⟨?_, ?_, far⟩
  · rw [c1 _ _ (by unfold am_tS; omega), am_wI_self]
  · have q := ((h.b.put (u := 20 + 3 * pl.toNatClampNeg) (k0 := 0) (b0 := 3258 + 50 * pl.toNatClampNeg) (n := 50) (k := (M.1 201 (3508 + pl).toNatClampNeg).toNatClampNeg) (n1 := 39 + 3 * pl.toNatClampNeg + 1) (k1 := (M.1 201 (3508 + pl).toNatClampNeg).toNatClampNeg) (k2 := (3258 + 50 * pl + M.1 201 (3508 + pl).toNatClampNeg).toNatClampNeg) (rl_c_tx _ hu).2 (by omega) (by omega) (by omega) (by omega) g (by exact t_v.m28 (by omega) (by omega)) (by (unfold t_dep; omega))).put (u := 19 + 3 * pl.toNatClampNeg) (k0 := 5) (b0 := 3508 + pl.toNatClampNeg) (n := 1) (k := 0) (n1 := 39 + 3 * pl.toNatClampNeg) (k1 := 5) (k2 := (3508 + pl).toNatClampNeg) (rl_c_tx _ hu).1 (by omega) (by omega) (by omega) (by omega) (M.1 201 (3508 + pl).toNatClampNeg + 1) (by exact t_v.m29 (by omega) (by omega)) (by (unfold t_dep; omega))).tx (A' := N) hu (fun a k z => c1 a k (by rw [show 39 + 3 * pl.toNatClampNeg + 2 = 41 + 3 * pl.toNatClampNeg by omega]; exact z)) (by obtain ⟨-, z, -⟩ := h0; exact ⟨(), z⟩)
    exact h.told q (fun a k z1 z2 => by rw [am_wI_1, if_neg (fun q => by omega), am_wI_1, if_neg (fun q => by omega)]) (fun k => by rw [am_wI_1, am_wI_1, am_wI_1, am_wI_1, far 201 k (by decide)]) (fun a k z1 z2 => by
      rw [am_wI_1, if_neg (fun q => by omega), am_wI_1, if_neg (fun q => by omega), c1 a k (by unfold am_tS; omega)]
      (repeat (first | rw [am_wI_1, if_pos ⟨rfl, by omega⟩] | rw [am_wI_1, if_neg (fun q => by omega)] | rw [am_lay_1, if_pos ⟨rfl, by omega, by omega⟩] | rw [am_lay_1, if_neg (fun q => by omega)]))) (fun a z => by
      rw [am_wI_1, if_neg (fun q => by omega), am_wI_1, if_neg (fun q => by omega), c1 a 1 (by unfold am_tS; omega)]
      (repeat (first | rw [am_wI_1, if_pos ⟨rfl, by omega⟩] | rw [am_wI_1, if_neg (fun q => by omega)] | rw [am_lay_1, if_pos ⟨rfl, by omega, by omega⟩] | rw [am_lay_1, if_neg (fun q => by omega)])))
/-! images -/
theorem im_N (h : LI i1 i2 M) {b : Nat} (hb : b = 60 ∨ b = 100) {N : am_M} (c : g_im b M N) : (∀ a k, (a < b ∨ b + 39 ≤ a) → N.1 a k = M.1 a k) ∧ ∀ u k, g_hit g_sh0 u k = true → N.1 (b + u) k = M.1 (20 + u) k := by
  obtain ⟨-, c1, c2⟩ := c
  exact ⟨fun a k z => (c1 a k z).1, fun u k z => c2 u k z⟩
theorem li_N {N : am_M} (h : LI i1 i2 M) (e : ∀ k, N.1 200 k = M.1 200 k) : r_N N := ⟨(e 3).trans h.rn.1, (e 7).trans h.rn.2⟩
theorem im_0 (h : LI i1 i2 M) {N : am_M} (c : g_im 60 M N) : LI true i2 (r_image N 0).2 ∧ (r_image N 0).1 = 1 ∧ r_I N := by
  obtain ⟨c1, c2⟩ := im_N h (Or.inl rfl) c
  have z0 : (0 : Int32).toNatClampNeg = 0 := rfl
  have hr : r_image N 0 = (1, (am_wI (am_cI N 202 (fun b => if 3760 * 0 ≤ b ∧ b < 3760 * 0 + 3760 then N.1 201 (b - 3760 * 0) else N.1 202 b)) 203 0 (vp_nar .boolean 1))) := by
    unfold r_image
    rw [if_pos (by decide), z0]
  rw [hr]
  obtain ⟨m1, m2, m3, m4⟩ := h.im
  have far : ∀ a k, 200 ≤ a → N.1 a k = M.1 a k := fun a k z => c1 a k (by omega)
  refine ⟨?_, rfl, h.ri far⟩
  generalize hF : (am_wI (am_cI N 202 (fun b => if 3760 * 0 ≤ b ∧ b < 3760 * 0 + 3760 then N.1 201 (b - 3760 * 0) else N.1 202 b)) 203 0 (vp_nar .boolean 1)) = F
  have f1 : ∀ a k, a ≠ 202 → a ≠ 203 → F.1 a k = N.1 a k := fun a k z1 z2 => by
    rw [← hF, am_wI_1, if_neg (fun q => z2 q.1), am_cI_1, if_neg z1]
  have f2 : ∀ k, F.1 202 k = if k < 3760 then M.1 201 k else M.1 202 k := fun k => by
    rw [← hF, am_wI_1, if_neg (fun q => by omega), am_cI_1, if_pos rfl]
    by_cases z : k < 3760
    · rw [if_pos ⟨by omega, by omega⟩, if_pos z, show k - 3760 * 0 = k by omega, far 201 k (by decide)]
    · rw [if_neg (fun q => by omega), if_neg z, far 202 k (by decide)]
  have f3 : F.1 203 0 = 1 := by
    rw [← hF, am_wI_self]
    rfl
  have f4 : F.1 203 1 = M.1 203 1 := by
    rw [← hF, am_wI_1, if_neg (fun q => by omega), am_cI_1, if_neg (by decide), far 203 1 (by decide)]
  have w := h.w
  refine ⟨(), h.b.cg (fun a k z1 z2 => by rw [f1 a k (by omega) (by omega), c1 a k (by omega)]) (fun k _ => by rw [f1 201 _ (by decide) (by decide), far 201 _ (by decide)]), ?_, ⟨h.s.cg (fun a k z1 z2 => by rw [f1 a k (by omega) (by omega), c1 a k (by omega)]), li_N h (fun k => by rw [f1 200 k (by decide) (by decide), far 200 k (by decide)])⟩, fun _ => ?_, fun z => ?_, ?_, ?_⟩
  · rw [f1 31 1 (by decide) (by decide), f1 33 1 (by decide) (by decide), f1 35 1 (by decide) (by decide), f1 54 1 (by decide) (by decide), c1 31 1 (by omega), c1 33 1 (by omega), c1 35 1 (by omega), c1 54 1 (by omega)]
    exact w
  · refine h.b.cpy (fun u k z => ?_) (fun k hk => ?_)
    · have := g_sh0_lt z
      rw [f1 _ k (by omega) (by omega)]
      exact c2 u k z
    · rw [Nat.zero_add, f2, if_pos hk]
  · exact (m2 z).cg (fun a k z1 z2 => by rw [f1 a k (by omega) (by omega), c1 a k (by omega)]) (fun k _ => by rw [f2, if_neg (by omega)])
  · rw [f3]; rfl
  · rw [f4]; exact m4
theorem im_1 (h : LI i1 i2 M) {N : am_M} (c : g_im 100 M N) : LI i1 true (r_image N 1).2 ∧ (r_image N 1).1 = 1 ∧ r_I N := by
  obtain ⟨c1, c2⟩ := im_N h (Or.inr rfl) c
  have z0 : (1 : Int32).toNatClampNeg = 1 := rfl
  have hr : r_image N 1 = (1, (am_wI (am_cI N 202 (fun b => if 3760 * 1 ≤ b ∧ b < 3760 * 1 + 3760 then N.1 201 (b - 3760 * 1) else N.1 202 b)) 203 1 (vp_nar .boolean 1))) := by
    unfold r_image
    rw [if_pos (by decide), z0]
  rw [hr]
  obtain ⟨m1, m2, m3, m4⟩ := h.im
  have far : ∀ a k, 200 ≤ a → N.1 a k = M.1 a k := fun a k z => c1 a k (by omega)
  refine ⟨?_, rfl, h.ri far⟩
  generalize hF : (am_wI (am_cI N 202 (fun b => if 3760 * 1 ≤ b ∧ b < 3760 * 1 + 3760 then N.1 201 (b - 3760 * 1) else N.1 202 b)) 203 1 (vp_nar .boolean 1)) = F
  have f1 : ∀ a k, a ≠ 202 → a ≠ 203 → F.1 a k = N.1 a k := fun a k z1 z2 => by
    rw [← hF, am_wI_1, if_neg (fun q => z2 q.1), am_cI_1, if_neg z1]
  have f2 : ∀ k, F.1 202 k = if 3760 ≤ k ∧ k < 7520 then M.1 201 (k - 3760) else M.1 202 k := fun k => by
    rw [← hF, am_wI_1, if_neg (fun q => by omega), am_cI_1, if_pos rfl]
    by_cases z : 3760 ≤ k ∧ k < 7520
    · rw [if_pos ⟨by omega, by omega⟩, if_pos z, show k - 3760 * 1 = k - 3760 by omega, far 201 _ (by decide)]
    · rw [if_neg (fun q => by omega), if_neg z, far 202 k (by decide)]
  have f3 : F.1 203 1 = 1 := by
    rw [← hF, am_wI_self]
    rfl
  have f4 : F.1 203 0 = M.1 203 0 := by
    rw [← hF, am_wI_1, if_neg (fun q => by omega), am_cI_1, if_neg (by decide), far 203 0 (by decide)]
  have w := h.w
  refine ⟨(), h.b.cg (fun a k z1 z2 => by rw [f1 a k (by omega) (by omega), c1 a k (by omega)]) (fun k _ => by rw [f1 201 _ (by decide) (by decide), far 201 _ (by decide)]), ?_, ⟨h.s.cg (fun a k z1 z2 => by rw [f1 a k (by omega) (by omega), c1 a k (by omega)]), li_N h (fun k => by rw [f1 200 k (by decide) (by decide), far 200 k (by decide)])⟩, fun z => ?_, fun _ => ?_, ?_, ?_⟩
  · rw [f1 31 1 (by decide) (by decide), f1 33 1 (by decide) (by decide), f1 35 1 (by decide) (by decide), f1 54 1 (by decide) (by decide), c1 31 1 (by omega), c1 33 1 (by omega), c1 35 1 (by omega), c1 54 1 (by omega)]
    exact w
  · exact (m1 z).cg (fun a k z1 z2 => by rw [f1 a k (by omega) (by omega), c1 a k (by omega)]) (fun k hk => by rw [f2, if_neg (by omega)])
  · refine h.b.cpy (fun u k z => ?_) (fun k hk => ?_)
    · have := g_sh0_lt z
      rw [f1 _ k (by omega) (by omega)]
      exact c2 u k z
    · rw [Nat.zero_add, f2, if_pos ⟨by omega, by omega⟩, Nat.add_sub_cancel_left]
  · rw [f4]; exact m3
  · rw [f3]; rfl
theorem im_no {i : Int32} (hn : ¬ (0 ≤ i ∧ i ≤ 1)) : r_image M i = (-2, M) ∧ r_from M i = (-2, M) := ⟨if_neg hn, if_neg hn⟩
theorem fr_no0 (h : LI false i2 M) : r_from M 0 = (-3, M) := by
  obtain ⟨-, -, m3, -⟩ := h.im
  have z0 : (0 : Int32).toNatClampNeg = 0 := rfl
  unfold r_from
  rw [if_pos (by decide), z0, if_pos (by rw [m3]; rfl)]
theorem fr_no1 (h : LI i1 false M) : r_from M 1 = (-3, M) := by
  obtain ⟨-, -, -, m4⟩ := h.im
  have z0 : (1 : Int32).toNatClampNeg = 1 := rfl
  unfold r_from
  rw [if_pos (by decide), z0, if_pos (by rw [m4]; rfl)]
/-- the house goes on from an image -/
theorem fr_up (h : LI i1 i2 M) {b o : Nat} (hl : lb b 202 o M M) {N F : am_M} (c : g_cs 20 b g_sh0 M N) (f1 : ∀ a k, a ≠ 201 → F.1 a k = N.1 a k) (f2 : ∀ k, k < 3760 → F.1 201 k = M.1 202 (o + k)) : LI i1 i2 F ∧ r_I N := by
  obtain ⟨-, -, c2⟩ := c
  have far : ∀ a k, (a < 20 ∨ 59 ≤ a) → N.1 a k = M.1 a k := fun a k z => by
    rw [c2 a k, if_neg (fun q => ?_)]
    have := g_sh0_lt q.2
    omega
  have nh : ∀ u, u = 11 ∨ u = 13 ∨ u = 15 ∨ u = 34 → g_hit g_sh0 u 1 = false := by
    intro u hu
    rcases hu with rfl | rfl | rfl | rfl <;> decide
  refine ⟨h.up (hl.cpy (fun u k z => ?_) (fun k hk => by rw [Nat.zero_add]; exact f2 k hk)) (fun a z => ?_) (h.s.cg (fun a k z1 z2 => by rw [f1 a k (by omega), far a k (by omega)])) (li_N h (fun k => by rw [f1 200 k (by decide), far 200 k (by omega)])) (fun a k z => by rw [f1 a k (by omega), far a k (by omega)]), h.ri (fun a k z => far a k (by omega))⟩
  · have := g_sh0_lt z
    rw [f1 _ k (by omega), c2, Nat.add_sub_cancel_left, if_pos ⟨by omega, z⟩]
  · rw [f1 a 1 (by omega), c2, if_neg (fun q => ?_)]
    have q2 := q.2
    rw [nh (a - 20) (by omega)] at q2
    cases q2
theorem fr_0 (h : LI true i2 M) {N : am_M} (c : g_cs 20 60 g_sh0 M N) : LI true i2 (r_from N 0).2 ∧ (r_from N 0).1 = 1 ∧ r_I N := by
  obtain ⟨m1, -, m3, -⟩ := h.im
  have z0 : (0 : Int32).toNatClampNeg = 0 := rfl
  have far : ∀ a k, 59 ≤ a → N.1 a k = M.1 a k := fun a k z => by
    obtain ⟨-, -, c2⟩ := c
    rw [c2 a k, if_neg (fun q => ?_)]
    have := g_sh0_lt q.2
    omega
  have hr : r_from N 0 = (1, (am_cI N 201 (fun b => if b < 3760 then N.1 202 (3760 * 0 + b) else N.1 201 b))) := by
    unfold r_from
    rw [if_pos (by decide), z0, if_neg (by rw [far 203 0 (by decide), m3]; decide)]
  rw [hr]
  obtain ⟨g1, g2⟩ := fr_up h (m1 rfl) c (F := am_cI N 201 (fun b => if b < 3760 then N.1 202 (3760 * 0 + b) else N.1 201 b)) (fun a k z => by rw [am_cI_1, if_neg z]) (fun k hk => by rw [am_cI_1, if_pos rfl, if_pos hk, far 202 _ (by decide)])
  exact ⟨g1, rfl, g2⟩
theorem fr_1 (h : LI i1 true M) {N : am_M} (c : g_cs 20 100 g_sh0 M N) : LI i1 true (r_from N 1).2 ∧ (r_from N 1).1 = 1 ∧ r_I N := by
  obtain ⟨-, m1, -, m3⟩ := h.im
  have z0 : (1 : Int32).toNatClampNeg = 1 := rfl
  have far : ∀ a k, 59 ≤ a → N.1 a k = M.1 a k := fun a k z => by
    obtain ⟨-, -, c2⟩ := c
    rw [c2 a k, if_neg (fun q => ?_)]
    have := g_sh0_lt q.2
    omega
  have hr : r_from N 1 = (1, (am_cI N 201 (fun b => if b < 3760 then N.1 202 (3760 * 1 + b) else N.1 201 b))) := by
    unfold r_from
    rw [if_pos (by decide), z0, if_neg (by rw [far 203 1 (by decide), m3]; decide)]
  rw [hr]
  obtain ⟨g1, g2⟩ := fr_up h (m1 rfl) c (F := am_cI N 201 (fun b => if b < 3760 then N.1 202 (3760 * 1 + b) else N.1 201 b)) (fun a k z => by rw [am_cI_1, if_neg z]) (fun k hk => by rw [am_cI_1, if_pos rfl, if_pos hk, far 202 _ (by decide)])
  exact ⟨g1, rfl, g2⟩
end STS
end
-- part 76.exact.lean.txt
section
/-! exact: which plan a loan is in, what is in force: the reference -/
theorem r_plm_y {f : Nat → Int32} {l y m : Nat} (h : (f (3078 + 3 * m)).toInt = (l : Int) ∧ (f (3080 + 3 * m)).toInt ≤ (y : Int)) : r_plm f l y (m + 1) = f (3079 + 3 * m) := if_pos h
theorem r_plm_n {f : Nat → Int32} {l y m : Nat} (h : ¬ ((f (3078 + 3 * m)).toInt = (l : Int) ∧ (f (3080 + 3 * m)).toInt ≤ (y : Int))) : r_plm f l y (m + 1) = r_plm f l y m := if_neg h
/-- the plan of a loan in a year, as the reference answers -/
def r_pl (M : am_M) (l y : Int32) : Int32 := if 0 ≤ (M.1 200 7).toInt ∧ (M.1 200 8).toInt ≤ y.toInt then M.1 200 7 else r_plm (M.1 201) l.toNatClampNeg y.toNatClampNeg (M.1 201 3).toNatClampNeg
def TE8_planAt : am_T := fun live as M R => match as with
  | [.ref n, .int l, .int y] => am_mn live ∧ n = 200 ∧ am_in l 30 ∧ 0 ≤ y.toInt ∧ r_I M ∧ R (some (.int (r_pl M l y))) M
  | _ => False
def JE8_planAt : am_E → List Value → am_M → am_R → am_inv := fun live as M0 _ pc => match as with
  | [.ref n, .int l, .int y] => (match pc with
    | 41 => some ([0, 1, 2, 3, 4], fun k L st M => ∃ (q m : Int32) (j : Nat), L = [(0, .ref 200), (1, .int l), (2, .int y), (3, .int q), (4, .int m)] ∧ st = [] ∧ k = (100 - j, 0) ∧ m.toInt = 3078 + 3 * (j : Int) ∧ j ≤ (M0.1 201 3).toNatClampNeg ∧ q = r_plm (M0.1 201) l.toNatClampNeg y.toNatClampNeg j ∧ ¬ (0 ≤ (M0.1 200 7).toInt ∧ (M0.1 200 8).toInt ≤ y.toInt) ∧ M = M0)
    | _ => none)
  | _ => none
set_option maxRecDepth 100000 in
set_option maxHeartbeats 4000000 in
theorem metX8_planAtE : am_Met yX8_planAt cX8_planAt 5 (some .int) (0) (0) TE8_planAt := by
  refine am_met (own := RX8) (by decide +kernel) rfl kX8_planAt koX8_planAt 100 JE8_planAt ?_ ?_
  · intro live as M Ret h
    unfold TE8_planAt at h
    split at h
    · next n l y =>
      refine ⟨Nat.le_of_ble_eq_true rfl, ?_⟩
      change am_wp _ _ _ _ [(0, Value.ref n), (1, Value.int l), (2, Value.int y)] _ _
      obtain ⟨hmn, rfl, hl, hy, hR, h⟩ := h
      have hmn2 := hmn
      obtain ⟨i1, i2, rfl⟩ := hmn2
      have l201 : am_len 201 = 3760 := rfl
      have l1 := hl.1
      have l2 := hl.2
      have e1 := r_lcol hl (w := 1) ⟨by decide, by decide⟩
      simp only [Int32.reduceToInt] at e1
      have hpl : M.1 201 (2838 + 8 * l + 1).toNatClampNeg = r_plm (M.1 201) l.toNatClampNeg y.toNatClampNeg 0 := by
        have c1 := i_clamp (x := 2838 + 8 * l + 1) (by omega)
        have c2 := i_clamp (x := l) l1
        show _ = M.1 201 (2839 + 8 * l.toNatClampNeg)
        rw [show (2838 + 8 * l + 1).toNatClampNeg = 2839 + 8 * l.toNatClampNeg by omega]
      by_cases hz : M.1 200 7 < 0
      · have q : ¬ (0 ≤ (M.1 200 7).toInt ∧ (M.1 200 8).toInt ≤ y.toInt) := fun q => by
          have q1 := q.1
          simp only [i_lt, Int32.reduceToInt] at hz
          omega
        repeat' (first | apply And.intro | exact rfl | (intro hx; with_reducible exact absurd hz hx) | intro hx | (refine Exists.intro _ (And.intro rfl ?_)))
        all_goals try first | (with_reducible change am_tI _ _) | (change Ret _ _) | (change Ret _ _ _) | (change Exists _)
        all_goals try dsimp only at *
        all_goals try (with_reducible exact absurd ‹(1000 : Int64) = 0› am_z1000)
        all_goals first
          | omega
          | (rw [l201]; omega)
          | exact ⟨_, _, _, 0, rfl, rfl, rfl, rfl, Nat.zero_le _, hpl, q, rfl⟩
      · by_cases hw : y < M.1 200 8
        · have q : ¬ (0 ≤ (M.1 200 7).toInt ∧ (M.1 200 8).toInt ≤ y.toInt) := fun q => by
            have q1 := q.2
            simp only [i_lt] at hw
            omega
          repeat' (first | apply And.intro | exact rfl | (intro hx; with_reducible exact absurd hx hz) | (intro hx; with_reducible exact absurd hw hx) | intro hx | (refine Exists.intro _ (And.intro rfl ?_)))
          all_goals try first | (with_reducible change am_tI _ _) | (change Ret _ _) | (change Ret _ _ _) | (change Exists _)
          all_goals try dsimp only at *
          all_goals try (with_reducible exact absurd ‹(1000 : Int64) = 0› am_z1000)
          all_goals first
            | omega
            | (rw [l201]; omega)
            | exact ⟨_, _, _, 0, rfl, rfl, rfl, rfl, Nat.zero_le _, hpl, q, rfl⟩
        · have e : r_pl M l y = M.1 200 7 := if_pos ⟨by simp only [i_lt, Int32.reduceToInt] at hz; omega, by simp only [i_lt] at hw; omega⟩
          rw [e] at h
          repeat' (first | apply And.intro | exact rfl | (intro hx; with_reducible exact absurd hx hz) | (intro hx; with_reducible exact absurd hx hw) | intro hx | (refine Exists.intro _ (And.intro rfl ?_)))
          all_goals try first | (with_reducible change am_tI _ _) | (change Ret _ _) | (change Ret _ _ _) | (change Exists _)
          all_goals try dsimp only at *
          all_goals try (with_reducible exact absurd ‹(1000 : Int64) = 0› am_z1000)
          all_goals exact h
    · exact h.elim
  · intro live as M0 Ret h k pc I hI L st M hi
    unfold TE8_planAt at h
    split at h
    · next n l y =>
      obtain ⟨hmn, rfl, hl, hy, hR, h⟩ := h
      have hmn2 := hmn
      obtain ⟨i1, i2, rfl⟩ := hmn2
      have l201 : am_len 201 = 3760 := rfl
      have n3 : 0 ≤ (M0.1 201 (Int32.toNatClampNeg 3)).toInt ∧ (M0.1 201 (Int32.toNatClampNeg 3)).toInt ≤ 60 := hR.n3
      have cn : ((M0.1 201 3).toNatClampNeg : Int) = (M0.1 201 (Int32.toNatClampNeg 3)).toInt := i_clamp n3.1
      have e3 := r_mul (c := 3) (x := M0.1 201 (Int32.toNatClampNeg 3)) ⟨by decide, by decide⟩ ⟨n3.1, by omega⟩
      simp only [Int32.reduceToInt] at e3
      have e30 := r_off (c := 3078) (x := 3 * M0.1 201 (Int32.toNatClampNeg 3)) ⟨by decide, by decide⟩ ⟨by omega, by omega⟩
      simp only [e3, Int32.reduceToInt] at e30
      have cl := i_clamp (x := l) hl.1
      have cy := i_clamp (x := y) hy
      change (match pc with | 41 => _ | _ => none) = _ at hI
      split at hI
      · cases hI
        obtain ⟨q, m, j, rfl, rfl, rfl, e1, e2, hq, hno, rfl⟩ := hi
        by_cases hz : 3078 + 3 * M.1 201 (Int32.toNatClampNeg 3) ≤ m
        · have hj : j = (M.1 201 3).toNatClampNeg := by
            have hz2 := hz
            simp only [i_le] at hz2
            omega
          have e : r_pl M l y = q := by
            unfold r_pl
            rw [if_neg hno, ← hj]
            exact hq.symm
          rw [e] at h
          repeat' (first | apply And.intro | exact rfl | (intro hx; with_reducible exact absurd hz hx) | (intro hx; exact absurd hx (by decide)) | (intro hx; exact absurd (by decide) hx) | decide | intro hx | (refine Exists.intro _ (And.intro rfl ?_)))
          all_goals try first | (with_reducible change am_tI _ _) | (change Ret _ _) | (change Ret _ _ _) | (change Exists _)
          all_goals try dsimp only at *
          all_goals try (with_reducible exact absurd ‹(1000 : Int64) = 0› am_z1000)
          all_goals first
            | (show _ < _; simp only [l201]; decide)
            | (with_reducible exact h)
            | exact h
        · have hz2 := hz
          simp only [i_le] at hz2
          have em1 := r_off (c := m) (x := 1) ⟨by omega, by omega⟩ ⟨by decide, by decide⟩
          have em2 := r_off (c := m) (x := 2) ⟨by omega, by omega⟩ ⟨by decide, by decide⟩
          have em3 := r_off (c := m) (x := 3) ⟨by omega, by omega⟩ ⟨by decide, by decide⟩
          simp only [Int32.reduceToInt] at em1 em2 em3
          have c0 := i_clamp (x := m) (by omega)
          have c1 := i_clamp (x := m + 1) (by omega)
          have c2 := i_clamp (x := m + 2) (by omega)
          have f0 : m.toNatClampNeg = 3078 + 3 * j := by omega
          have f1 : (m + 1).toNatClampNeg = 3079 + 3 * j := by omega
          have f2 : (m + 2).toNatClampNeg = 3080 + 3 * j := by omega
          by_cases z1 : M.1 201 m.toNatClampNeg = l
          · by_cases z2 : y < M.1 201 (m + 2).toNatClampNeg
            · have hs : q = r_plm (M.1 201) l.toNatClampNeg y.toNatClampNeg (j + 1) := by
                rw [r_plm_n (fun w => by have w2 := w.2; simp only [i_lt, f2] at z2; omega)]
                exact hq
              repeat' (first | apply And.intro | exact rfl | (intro hx; with_reducible exact absurd hx hz) | (intro hx; with_reducible exact absurd z1 hx) | (intro hx; with_reducible exact absurd z2 hx) | (intro hx; exact absurd hx (by decide)) | (intro hx; exact absurd (by decide) hx) | decide | intro hx | (refine Exists.intro _ (And.intro rfl ?_)))
              all_goals try first | (with_reducible change am_tI _ _) | (change Ret _ _) | (change Ret _ _ _) | (change Exists _)
              all_goals try dsimp only at *
              all_goals try (with_reducible exact absurd ‹(1000 : Int64) = 0› am_z1000)
              all_goals first
                | (show _ < _; simp only [l201]; decide)
                | omega
                | (rw [l201]; omega)
                | exact ⟨_, am_lt_l (by omega), _, _, j + 1, rfl, rfl, rfl, by omega, by omega, hs, hno, rfl⟩
            · have hs : M.1 201 (m + 1).toNatClampNeg = r_plm (M.1 201) l.toNatClampNeg y.toNatClampNeg (j + 1) := by
                rw [r_plm_y ⟨by rw [← f0, z1]; omega, by simp only [i_lt, f2] at z2; omega⟩, f1]
              repeat' (first | apply And.intro | exact rfl | (intro hx; with_reducible exact absurd hx hz) | (intro hx; with_reducible exact absurd hx z2) | (intro hx; with_reducible exact absurd z1 hx) | (intro hx; exact absurd hx (by decide)) | (intro hx; exact absurd (by decide) hx) | decide | intro hx | (refine Exists.intro _ (And.intro rfl ?_)))
              all_goals try first | (with_reducible change am_tI _ _) | (change Ret _ _) | (change Ret _ _ _) | (change Exists _)
              all_goals try dsimp only at *
              all_goals try (with_reducible exact absurd ‹(1000 : Int64) = 0› am_z1000)
              all_goals first
                | (show _ < _; simp only [l201]; decide)
                | omega
                | (rw [l201]; omega)
                | exact ⟨_, am_lt_l (by omega), _, _, j + 1, rfl, rfl, rfl, by omega, by omega, hs, hno, rfl⟩
          · have hs : q = r_plm (M.1 201) l.toNatClampNeg y.toNatClampNeg (j + 1) := by
              rw [r_plm_n (fun w => z1 (by have w1 := w.1; rw [← f0] at w1; rw [i_eq]; omega))]
              exact hq
            repeat' (first | apply And.intro | exact rfl | (intro hx; with_reducible exact absurd hx hz) | (intro hx; with_reducible exact absurd hx z1) | (intro hx; exact absurd hx (by decide)) | (intro hx; exact absurd (by decide) hx) | decide | intro hx | (refine Exists.intro _ (And.intro rfl ?_)))
            all_goals try first | (with_reducible change am_tI _ _) | (change Ret _ _) | (change Ret _ _ _) | (change Exists _)
            all_goals try dsimp only at *
            all_goals try (with_reducible exact absurd ‹(1000 : Int64) = 0› am_z1000)
            all_goals first
              | (show _ < _; simp only [l201]; decide)
              | omega
              | (rw [l201]; omega)
              | exact ⟨_, am_lt_l (by omega), _, _, j + 1, rfl, rfl, rfl, by omega, by omega, hs, hno, rfl⟩
      · cases hI
    · exact h.elim
/-- does an act tell of a plan's number for those who began then -/
def q_mt (A : Nat → Int32) (bg pl w : Int32) (i : Nat) : Bool := decide (A (6 * i) = pl ∧ A (6 * i + 1) = w ∧ (A (6 * i + 4)).toInt ≤ bg.toInt ∧ bg.toInt ≤ (A (6 * i + 5)).toInt)
/-- the act in force in a year among the first ones -/
def q_R (A : Nat → Int32) (bg pl w : Int32) (y : Int) : Nat → Option Nat
  | 0 => none
  | m + 1 => match q_R A bg pl w y m with
    | none => if q_mt A bg pl w m = true ∧ (A (6 * m + 3)).toInt ≤ y then some m else none
    | some b => if (q_mt A bg pl w m = true ∧ (A (6 * m + 3)).toInt ≤ y) ∧ (A (6 * b + 3)).toInt ≤ (A (6 * m + 3)).toInt then some m else some b
theorem q_R_lt {A : Nat → Int32} {bg pl w : Int32} {y : Int} : ∀ {m b}, q_R A bg pl w y m = some b → b < m ∧ q_mt A bg pl w b = true ∧ (A (6 * b + 3)).toInt ≤ y
  | 0, _, h => by cases h
  | m + 1, b, h => by
    unfold q_R at h
    split at h
    · split at h
      · next z => cases h; exact ⟨by omega, z.1, z.2⟩
      · cases h
    · next b' e =>
      have ih := q_R_lt e
      split at h
      · next z => cases h; exact ⟨by omega, z.1.1, z.1.2⟩
      · cases h; exact ⟨by omega, ih.2⟩
/-- what it says -/
def q_F (A : Nat → Int32) (n : Nat) (bg pl w : Int32) (y : Int) : Int32 := match q_R A bg pl w y n with
  | none => am_sf 0 w.toNatClampNeg
  | some a => A (6 * a + 2)
/-- the same with a number tried -/
def q_le (A : Nat → Int32) (o : Option Nat) (t : Int32) : Bool := match o with
  | none => true
  | some b => decide ((A (6 * b + 3)).toInt ≤ t.toInt)
def r_A (M : am_M) : Nat → Int32 := fun k => M.1 201 (2478 + k)
def r_inF (M : am_M) (pl w p y : Int32) : Int32 := if M.1 200 3 = pl ∧ M.1 200 4 = w ∧ (M.1 200 6).toInt ≤ y.toInt ∧ q_le (r_A M) (q_R (r_A M) (M.1 201 (10 + p.toNatClampNeg)) pl w y.toInt (M.1 201 2).toNatClampNeg) (M.1 200 6) = true then M.1 200 5 else q_F (r_A M) (M.1 201 2).toNatClampNeg (M.1 201 (10 + p.toNatClampNeg)) pl w y.toInt
def TE8_atFirst : am_T := fun _ as M R => match as with
  | [.int w] => am_in w 6 ∧ R (some (.int (am_sf 0 w.toNatClampNeg))) M
  | _ => False
set_option maxRecDepth 100000 in
set_option maxHeartbeats 4000000 in
theorem metX8_atFirstE : am_Met yX8_atFirst cX8_atFirst 1 (some .int) (0) (0) TE8_atFirst := by
  refine am_met (own := RX8) (by decide +kernel) rfl kX8_atFirst koX8_atFirst 60 (fun _ _ _ _ _ => none) (fun live as M Ret h => ?_) (fun _ _ _ _ _ _ _ _ hI => by cases hI)
  unfold TE8_atFirst at h
  split at h
  · next w =>
    refine ⟨Nat.le_of_ble_eq_true rfl, ?_⟩
    change am_wp _ _ _ _ [(0, Value.int w)] _ _
    obtain ⟨hw, h⟩ := h
    have hc : w = 0 ∨ w = 1 ∨ w = 2 ∨ w = 3 ∨ w = 4 ∨ w = 5 := by
      have h1 := hw.1
      have h2 := hw.2
      simp only [i_eq, Int32.reduceToInt]
      omega
    rcases hc with rfl | rfl | rfl | rfl | rfl | rfl
    all_goals skip
    · skip
      repeat' (first | apply And.intro | exact rfl | (intro hx; exact absurd hx (by decide)) | (intro hx; exact absurd (by decide) hx) | decide | intro hx | (refine Exists.intro _ (And.intro rfl ?_)))
      all_goals try first | (with_reducible change am_tI _ _) | (change Ret _ _) | (change Ret _ _ _) | (change Exists _)
      all_goals try dsimp only at *
      all_goals try (with_reducible exact absurd ‹(1000 : Int64) = 0› am_z1000)
      all_goals exact h
    · skip
      repeat' (first | apply And.intro | exact rfl | (intro hx; exact absurd hx (by decide)) | (intro hx; exact absurd (by decide) hx) | decide | intro hx | (refine Exists.intro _ (And.intro rfl ?_)))
      all_goals try first | (with_reducible change am_tI _ _) | (change Ret _ _) | (change Ret _ _ _) | (change Exists _)
      all_goals try dsimp only at *
      all_goals try (with_reducible exact absurd ‹(1000 : Int64) = 0› am_z1000)
      all_goals exact h
    · skip
      repeat' (first | apply And.intro | exact rfl | (intro hx; exact absurd hx (by decide)) | (intro hx; exact absurd (by decide) hx) | decide | intro hx | (refine Exists.intro _ (And.intro rfl ?_)))
      all_goals try first | (with_reducible change am_tI _ _) | (change Ret _ _) | (change Ret _ _ _) | (change Exists _)
      all_goals try dsimp only at *
      all_goals try (with_reducible exact absurd ‹(1000 : Int64) = 0› am_z1000)
      all_goals exact h
    · skip
      repeat' (first | apply And.intro | exact rfl | (intro hx; exact absurd hx (by decide)) | (intro hx; exact absurd (by decide) hx) | decide | intro hx | (refine Exists.intro _ (And.intro rfl ?_)))
      all_goals try first | (with_reducible change am_tI _ _) | (change Ret _ _) | (change Ret _ _ _) | (change Exists _)
      all_goals try dsimp only at *
      all_goals try (with_reducible exact absurd ‹(1000 : Int64) = 0› am_z1000)
      all_goals exact h
    · skip
      repeat' (first | apply And.intro | exact rfl | (intro hx; exact absurd hx (by decide)) | (intro hx; exact absurd (by decide) hx) | decide | intro hx | (refine Exists.intro _ (And.intro rfl ?_)))
      all_goals try first | (with_reducible change am_tI _ _) | (change Ret _ _) | (change Ret _ _ _) | (change Exists _)
      all_goals try dsimp only at *
      all_goals try (with_reducible exact absurd ‹(1000 : Int64) = 0› am_z1000)
      all_goals exact h
    · skip
      repeat' (first | apply And.intro | exact rfl | (intro hx; exact absurd hx (by decide)) | (intro hx; exact absurd (by decide) hx) | decide | intro hx | (refine Exists.intro _ (And.intro rfl ?_)))
      all_goals try first | (with_reducible change am_tI _ _) | (change Ret _ _) | (change Ret _ _ _) | (change Exists _)
      all_goals try dsimp only at *
      all_goals try (with_reducible exact absurd ‹(1000 : Int64) = 0› am_z1000)
      all_goals exact h
  · exact h.elim
def q_bo (b : Int32) (o : Option Nat) : Prop := match o with
  | none => b = -1
  | some i => b.toInt = 2478 + 6 * (i : Int)
theorem q_bo.n {b : Int32} (h : q_bo b none) : b = -1 := h
theorem q_bo.s {b : Int32} {i : Nat} (h : q_bo b (some i)) : b.toInt = 2478 + 6 * (i : Int) := h
theorem q_R_s1 {A : Nat → Int32} {bg pl w : Int32} {y : Int} {m : Nat} (h : ¬ (q_mt A bg pl w m = true ∧ (A (6 * m + 3)).toInt ≤ y)) : q_R A bg pl w y (m + 1) = q_R A bg pl w y m := by
  conv => lhs; unfold q_R
  split
  · next e => rw [if_neg h, e]
  · next b e => rw [if_neg (fun z => h z.1), e]
theorem q_R_s2 {A : Nat → Int32} {bg pl w : Int32} {y : Int} {m : Nat} (h : q_mt A bg pl w m = true ∧ (A (6 * m + 3)).toInt ≤ y) (e : q_R A bg pl w y m = none) : q_R A bg pl w y (m + 1) = some m := by
  conv => lhs; unfold q_R
  rw [e]
  exact if_pos h
theorem q_R_s3 {A : Nat → Int32} {bg pl w : Int32} {y : Int} {m b : Nat} (h : q_mt A bg pl w m = true ∧ (A (6 * m + 3)).toInt ≤ y) (e : q_R A bg pl w y m = some b) (hb : (A (6 * b + 3)).toInt ≤ (A (6 * m + 3)).toInt) : q_R A bg pl w y (m + 1) = some m := by
  conv => lhs; unfold q_R
  rw [e]
  exact if_pos ⟨h, hb⟩
theorem q_R_s4 {A : Nat → Int32} {bg pl w : Int32} {y : Int} {m b : Nat} (e : q_R A bg pl w y m = some b) (hb : ¬ (A (6 * b + 3)).toInt ≤ (A (6 * m + 3)).toInt) : q_R A bg pl w y (m + 1) = some b := by
  conv => lhs; unfold q_R
  rw [e]
  exact if_neg (fun z => hb z.2)
def kX8_inForceE (live : am_E) (Ret : am_R) : am_code := [(0, am_const (.int (-1)) 1), (1, am_istore 5 9 3), (3, am_const (.int 2478) 6), (6, am_istore 6 9 8), (8, am_iload 6 10), (10, am_const (.int 2478) 13), (13, am_const (.int 6) 15), (15, am_aload 0 16), (16, am_getR live 8 0 19), (19, am_const (.int 2) 20), (20, am_ald live 0 21), (21, am_i2 (fun x y => x * y) 22), (22, am_i2 (fun x y => x + y) 23), (23, am_if2 (fun x y => y ≤ x) 165 26), (26, am_aload 0 27), (27, am_getR live 8 0 30), (30, am_iload 6 32), (32, am_ald live 0 33), (33, am_iload 1 34), (34, am_if2 (fun x y => x = y) 37 68), (37, am_aload 0 38), (38, am_getR live 8 0 41), (41, am_iload 6 43), (43, am_const (.int 1) 44), (44, am_i2 (fun x y => x + y) 45), (45, am_ald live 0 46), (46, am_iload 2 47), (47, am_if2 (fun x y => x = y) 50 68), (50, am_aload 0 51), (51, am_getR live 8 0 54), (54, am_iload 6 56), (56, am_const (.int 3) 57), (57, am_i2 (fun x y => x + y) 58), (58, am_ald live 0 59), (59, am_iload 4 61), (61, am_if2 (fun x y => y < x) 68 64), (64, am_const (.int 1) 65), (65, am_goto 69), (68, am_const (.int 0) 69), (69, am_istore 7 9 71), (71, am_iload 7 73), (73, am_if1 (fun x => x = 0) 116 76), (76, am_aload 0 77), (77, am_getR live 8 0 80), (80, am_const (.int 10) 82), (82, am_iload 3 83), (83, am_i2 (fun x y => x + y) 84), (84, am_ald live 0 85), (85, am_i2l 86), (86, am_aload 0 87), (87, am_getR live 8 0 90), (90, am_iload 6 92), (92, am_const (.int 4) 93), (93, am_i2 (fun x y => x + y) 94), (94, am_ald live 0 95), (95, am_i2l 96), (96, am_aload 0 97), (97, am_getR live 8 0 100), (100, am_iload 6 102), (102, am_const (.int 5) 103), (103, am_i2 (fun x y => x + y) 104), (104, am_ald live 0 105), (105, am_i2l 106), (106, am_callS live 3 TX8_in 109), (109, am_if1 (fun x => x = 0) 116 112), (112, am_const (.int 1) 113), (113, am_goto 117), (116, am_const (.int 0) 117), (117, am_istore 8 9 119), (119, am_iload 8 121), (121, am_if1 (fun x => x = 0) 155 124), (124, am_iload 5 126), (126, am_if1 (fun x => x < 0) 150 129), (129, am_aload 0 130), (130, am_getR live 8 0 133), (133, am_iload 6 135), (135, am_const (.int 3) 136), (136, am_i2 (fun x y => x + y) 137), (137, am_ald live 0 138), (138, am_aload 0 139), (139, am_getR live 8 0 142), (142, am_iload 5 144), (144, am_const (.int 3) 145), (145, am_i2 (fun x y => x + y) 146), (146, am_ald live 0 147), (147, am_if2 (fun x y => x < y) 155 150), (150, am_iload 6 152), (152, am_goto 157), (155, am_iload 5 157), (157, am_istore 5 9 159), (159, am_iinc 6 9 6 162), (162, am_goto 8), (165, am_aload 0 166), (166, am_getI live 8 3 169), (169, am_iload 1 170), (170, am_if2 (fun x y => x = y) 173 215), (173, am_aload 0 174), (174, am_getI live 8 4 177), (177, am_iload 2 178), (178, am_if2 (fun x y => x = y) 181 215), (181, am_iload 4 183), (183, am_aload 0 184), (184, am_getI live 8 6 187), (187, am_if2 (fun x y => x < y) 215 190), (190, am_iload 5 192), (192, am_if1 (fun x => x < 0) 211 195), (195, am_aload 0 196), (196, am_getR live 8 0 199), (199, am_iload 5 201), (201, am_const (.int 3) 202), (202, am_i2 (fun x y => x + y) 203), (203, am_ald live 0 204), (204, am_aload 0 205), (205, am_getI live 8 6 208), (208, am_if2 (fun x y => y < x) 215 211), (211, am_const (.int 1) 212), (212, am_goto 216), (215, am_const (.int 0) 216), (216, am_istore 6 9 218), (218, am_iload 6 220), (220, am_if1 (fun x => x = 0) 230 223), (223, am_aload 0 224), (224, am_getI live 8 5 227), (227, am_goto 251), (230, am_iload 5 232), (232, am_if1 (fun x => 0 ≤ x) 242 235), (235, am_iload 2 236), (236, am_callS live 1 TE8_atFirst 239), (239, am_goto 251), (242, am_aload 0 243), (243, am_getR live 8 0 246), (246, am_iload 5 248), (248, am_const (.int 2) 249), (249, am_i2 (fun x y => x + y) 250), (250, am_ald live 0 251), (251, am_retI Ret)]
theorem koX8_inForceE (live : am_E) (Ret : am_R) : ∀ q ∈ kX8_inForceE live Ret, am_ok RX8 cX8_inForce 9 (some .int) 1 25 live Ret q.1 q.2 :=
  am_kz dzX8_inForce <|
  am_kd (fun d => ak_iconst d (by decide +kernel) rfl) <|
  am_kd (fun d => ak_istore d rfl) <|
  am_kd (fun d => ak_sipush d (by decide +kernel) rfl) <|
  am_kd (fun d => ak_istore d rfl) <|
  am_kd (fun d => ak_iload d rfl) <|
  am_kd (fun d => ak_sipush d (by decide +kernel) rfl) <|
  am_kd (fun d => ak_bipush d (by decide +kernel) rfl) <|
  am_kd (fun d => ak_aload_n d rfl rfl) <|
  am_kd (fun d => ak_getR (C := RX8) (T := TX8) (N := 27) rfl inX8w (by decide) rfl rfl rfl wd_895 d rfl) <|
  am_kd (fun d => ak_iconst d (by decide +kernel) rfl) <|
  am_kd (fun d => ak_iald (t := 0) (fun _ => rfl) rfl d rfl) <|
  am_kd (fun d => ak_imul d rfl) <|
  am_kd (fun d => ak_iadd d rfl) <|
  am_kd (fun d => ak_icmp_ge d (by decide +kernel) rfl) <|
  am_kd (fun d => ak_aload_n d rfl rfl) <|
  am_kd (fun d => ak_getR (C := RX8) (T := TX8) (N := 27) rfl inX8w (by decide) rfl rfl rfl wd_895 d rfl) <|
  am_kd (fun d => ak_iload d rfl) <|
  am_kd (fun d => ak_iald (t := 0) (fun _ => rfl) rfl d rfl) <|
  am_kd (fun d => ak_iload_n d rfl rfl) <|
  am_kd (fun d => ak_icmp_ne d (by decide +kernel) rfl) <|
  am_kd (fun d => ak_aload_n d rfl rfl) <|
  am_kd (fun d => ak_getR (C := RX8) (T := TX8) (N := 27) rfl inX8w (by decide) rfl rfl rfl wd_895 d rfl) <|
  am_kd (fun d => ak_iload d rfl) <|
  am_kd (fun d => ak_iconst d (by decide +kernel) rfl) <|
  am_kd (fun d => ak_iadd d rfl) <|
  am_kd (fun d => ak_iald (t := 0) (fun _ => rfl) rfl d rfl) <|
  am_kd (fun d => ak_iload_n d rfl rfl) <|
  am_kd (fun d => ak_icmp_ne d (by decide +kernel) rfl) <|
  am_kd (fun d => ak_aload_n d rfl rfl) <|
  am_kd (fun d => ak_getR (C := RX8) (T := TX8) (N := 27) rfl inX8w (by decide) rfl rfl rfl wd_895 d rfl) <|
  am_kd (fun d => ak_iload d rfl) <|
  am_kd (fun d => ak_iconst d (by decide +kernel) rfl) <|
  am_kd (fun d => ak_iadd d rfl) <|
  am_kd (fun d => ak_iald (t := 0) (fun _ => rfl) rfl d rfl) <|
  am_kd (fun d => ak_iload d rfl) <|
  am_kd (fun d => ak_icmp_gt d (by decide +kernel) rfl) <|
  am_kd (fun d => ak_iconst d (by decide +kernel) rfl) <|
  am_kd (fun d => ak_goto d (by decide +kernel)) <|
  am_kd (fun d => ak_iconst d (by decide +kernel) rfl) <|
  am_kd (fun d => ak_istore d rfl) <|
  am_kd (fun d => ak_iload d rfl) <|
  am_kd (fun d => ak_if_eq d (by decide +kernel) rfl) <|
  am_kd (fun d => ak_aload_n d rfl rfl) <|
  am_kd (fun d => ak_getR (C := RX8) (T := TX8) (N := 27) rfl inX8w (by decide) rfl rfl rfl wd_895 d rfl) <|
  am_kd (fun d => ak_bipush d (by decide +kernel) rfl) <|
  am_kd (fun d => ak_iload_n d rfl rfl) <|
  am_kd (fun d => ak_iadd d rfl) <|
  am_kd (fun d => ak_iald (t := 0) (fun _ => rfl) rfl d rfl) <|
  am_kd (fun d => ak_i2l d rfl) <|
  am_kd (fun d => ak_aload_n d rfl rfl) <|
  am_kd (fun d => ak_getR (C := RX8) (T := TX8) (N := 27) rfl inX8w (by decide) rfl rfl rfl wd_895 d rfl) <|
  am_kd (fun d => ak_iload d rfl) <|
  am_kd (fun d => ak_iconst d (by decide +kernel) rfl) <|
  am_kd (fun d => ak_iadd d rfl) <|
  am_kd (fun d => ak_iald (t := 0) (fun _ => rfl) rfl d rfl) <|
  am_kd (fun d => ak_i2l d rfl) <|
  am_kd (fun d => ak_aload_n d rfl rfl) <|
  am_kd (fun d => ak_getR (C := RX8) (T := TX8) (N := 27) rfl inX8w (by decide) rfl rfl rfl wd_895 d rfl) <|
  am_kd (fun d => ak_iload d rfl) <|
  am_kd (fun d => ak_iconst d (by decide +kernel) rfl) <|
  am_kd (fun d => ak_iadd d rfl) <|
  am_kd (fun d => ak_iald (t := 0) (fun _ => rfl) rfl d rfl) <|
  am_kd (fun d => ak_i2l d rfl) <|
  am_kd (fun d => ak_callS metX8_in ⟨rfl, hy_X8_in⟩ (am_w4 wd_986 wd_987 wd_67 wd_988) (by decide) d rfl) <|
  am_kd (fun d => ak_if_eq d (by decide +kernel) rfl) <|
  am_kd (fun d => ak_iconst d (by decide +kernel) rfl) <|
  am_kd (fun d => ak_goto d (by decide +kernel)) <|
  am_kd (fun d => ak_iconst d (by decide +kernel) rfl) <|
  am_kd (fun d => ak_istore d rfl) <|
  am_kd (fun d => ak_iload d rfl) <|
  am_kd (fun d => ak_if_eq d (by decide +kernel) rfl) <|
  am_kd (fun d => ak_iload d rfl) <|
  am_kd (fun d => ak_if_lt d (by decide +kernel) rfl) <|
  am_kd (fun d => ak_aload_n d rfl rfl) <|
  am_kd (fun d => ak_getR (C := RX8) (T := TX8) (N := 27) rfl inX8w (by decide) rfl rfl rfl wd_895 d rfl) <|
  am_kd (fun d => ak_iload d rfl) <|
  am_kd (fun d => ak_iconst d (by decide +kernel) rfl) <|
  am_kd (fun d => ak_iadd d rfl) <|
  am_kd (fun d => ak_iald (t := 0) (fun _ => rfl) rfl d rfl) <|
  am_kd (fun d => ak_aload_n d rfl rfl) <|
  am_kd (fun d => ak_getR (C := RX8) (T := TX8) (N := 27) rfl inX8w (by decide) rfl rfl rfl wd_895 d rfl) <|
  am_kd (fun d => ak_iload d rfl) <|
  am_kd (fun d => ak_iconst d (by decide +kernel) rfl) <|
  am_kd (fun d => ak_iadd d rfl) <|
  am_kd (fun d => ak_iald (t := 0) (fun _ => rfl) rfl d rfl) <|
  am_kd (fun d => ak_icmp_lt d (by decide +kernel) rfl) <|
  am_kd (fun d => ak_iload d rfl) <|
  am_kd (fun d => ak_goto d (by decide +kernel)) <|
  am_kd (fun d => ak_iload d rfl) <|
  am_kd (fun d => ak_istore d rfl) <|
  am_kd (fun d => ak_iinc d (by decide +kernel) rfl) <|
  am_kd (fun d => ak_goto d (by decide +kernel)) <|
  am_kd (fun d => ak_aload_n d rfl rfl) <|
  am_kd (fun d => ak_getI (C := RX8) (T := TX8) (N := 27) rfl inX8w (by decide) rfl rfl rfl wd_898 d rfl) <|
  am_kd (fun d => ak_iload_n d rfl rfl) <|
  am_kd (fun d => ak_icmp_ne d (by decide +kernel) rfl) <|
  am_kd (fun d => ak_aload_n d rfl rfl) <|
  am_kd (fun d => ak_getI (C := RX8) (T := TX8) (N := 27) rfl inX8w (by decide) rfl rfl rfl wd_899 d rfl) <|
  am_kd (fun d => ak_iload_n d rfl rfl) <|
  am_kd (fun d => ak_icmp_ne d (by decide +kernel) rfl) <|
  am_kd (fun d => ak_iload d rfl) <|
  am_kd (fun d => ak_aload_n d rfl rfl) <|
  am_kd (fun d => ak_getI (C := RX8) (T := TX8) (N := 27) rfl inX8w (by decide) rfl rfl rfl wd_901 d rfl) <|
  am_kd (fun d => ak_icmp_lt d (by decide +kernel) rfl) <|
  am_kd (fun d => ak_iload d rfl) <|
  am_kd (fun d => ak_if_lt d (by decide +kernel) rfl) <|
  am_kd (fun d => ak_aload_n d rfl rfl) <|
  am_kd (fun d => ak_getR (C := RX8) (T := TX8) (N := 27) rfl inX8w (by decide) rfl rfl rfl wd_895 d rfl) <|
  am_kd (fun d => ak_iload d rfl) <|
  am_kd (fun d => ak_iconst d (by decide +kernel) rfl) <|
  am_kd (fun d => ak_iadd d rfl) <|
  am_kd (fun d => ak_iald (t := 0) (fun _ => rfl) rfl d rfl) <|
  am_kd (fun d => ak_aload_n d rfl rfl) <|
  am_kd (fun d => ak_getI (C := RX8) (T := TX8) (N := 27) rfl inX8w (by decide) rfl rfl rfl wd_901 d rfl) <|
  am_kd (fun d => ak_icmp_gt d (by decide +kernel) rfl) <|
  am_kd (fun d => ak_iconst d (by decide +kernel) rfl) <|
  am_kd (fun d => ak_goto d (by decide +kernel)) <|
  am_kd (fun d => ak_iconst d (by decide +kernel) rfl) <|
  am_kd (fun d => ak_istore d rfl) <|
  am_kd (fun d => ak_iload d rfl) <|
  am_kd (fun d => ak_if_eq d (by decide +kernel) rfl) <|
  am_kd (fun d => ak_aload_n d rfl rfl) <|
  am_kd (fun d => ak_getI (C := RX8) (T := TX8) (N := 27) rfl inX8w (by decide) rfl rfl rfl wd_900 d rfl) <|
  am_kd (fun d => ak_goto d (by decide +kernel)) <|
  am_kd (fun d => ak_iload d rfl) <|
  am_kd (fun d => ak_if_ge d (by decide +kernel) rfl) <|
  am_kd (fun d => ak_iload_n d rfl rfl) <|
  am_kd (fun d => ak_callS metX8_atFirstE ⟨rfl, hy_X8_atFirst⟩ (am_w4 wd_1057 wd_1058 wd_67 wd_1059) (by decide) d rfl) <|
  am_kd (fun d => ak_goto d (by decide +kernel)) <|
  am_kd (fun d => ak_aload_n d rfl rfl) <|
  am_kd (fun d => ak_getR (C := RX8) (T := TX8) (N := 27) rfl inX8w (by decide) rfl rfl rfl wd_895 d rfl) <|
  am_kd (fun d => ak_iload d rfl) <|
  am_kd (fun d => ak_iconst d (by decide +kernel) rfl) <|
  am_kd (fun d => ak_iadd d rfl) <|
  am_kd (fun d => ak_iald (t := 0) (fun _ => rfl) rfl d rfl) <|
  am_kd (fun d => ak_retI d) <| am_kdn
def TE8_inForce : am_T := fun live as M R => match as with
  | [.ref n, .int pl, .int w, .int p, .int y] => am_mn live ∧ n = 200 ∧ am_in w 6 ∧ am_in p 12 ∧ r_I M ∧ R (some (.int (r_inF M pl w p y))) M
  | _ => False
abbrev q_Rm (M : am_M) (pl w p y : Int32) (j : Nat) : Option Nat := q_R (r_A M) (M.1 201 (10 + p.toNatClampNeg)) pl w y.toInt j
def q_is (M : am_M) (pl w y : Int32) (j : Nat) : Int32 := if r_A M (6 * j) = pl ∧ r_A M (6 * j + 1) = w ∧ (r_A M (6 * j + 3)).toInt ≤ y.toInt then 1 else 0
def q_may (M : am_M) (pl w p y : Int32) (j : Nat) : Int32 := if q_mt (r_A M) (M.1 201 (10 + p.toNatClampNeg)) pl w j = true ∧ (r_A M (6 * j + 3)).toInt ≤ y.toInt then 1 else 0
def q_trs (M : am_M) (pl w p y : Int32) : Int32 := if M.1 200 3 = pl ∧ M.1 200 4 = w ∧ (M.1 200 6).toInt ≤ y.toInt ∧ q_le (r_A M) (q_Rm M pl w p y (M.1 201 2).toNatClampNeg) (M.1 200 6) = true then 1 else 0
def JE8_inForce : am_E → List Value → am_M → am_R → am_inv := fun live as M0 _ pc => match as with
  | [.ref n, .int pl, .int w, .int p, .int y] => (match pc with
    | 8 => some ([0, 1, 2, 3, 4, 5, 6], fun k L st M => ∃ (b a : Int32) (j : Nat), L = [(0, .ref 200), (1, .int pl), (2, .int w), (3, .int p), (4, .int y), (5, .int b), (6, .int a)] ∧ st = [] ∧ k = (100 - j, 9) ∧ a.toInt = 2478 + 6 * (j : Int) ∧ j ≤ (M0.1 201 2).toNatClampNeg ∧ q_bo b (q_Rm M0 pl w p y j) ∧ M = M0)
    | 71 => some ([0, 1, 2, 3, 4, 5, 6, 7], fun k L st M => ∃ (b a i : Int32) (j : Nat), L = [(0, .ref 200), (1, .int pl), (2, .int w), (3, .int p), (4, .int y), (5, .int b), (6, .int a), (7, .int i)] ∧ st = [] ∧ k = (100 - j, 8) ∧ a.toInt = 2478 + 6 * (j : Int) ∧ j < (M0.1 201 2).toNatClampNeg ∧ q_bo b (q_Rm M0 pl w p y j) ∧ i = q_is M0 pl w y j ∧ M = M0)
    | 119 => some ([0, 1, 2, 3, 4, 5, 6, 8], fun k L st M => ∃ (b a i : Int32) (j : Nat), L = [(0, .ref 200), (1, .int pl), (2, .int w), (3, .int p), (4, .int y), (5, .int b), (6, .int a), (8, .int i)] ∧ st = [] ∧ k = (100 - j, 7) ∧ a.toInt = 2478 + 6 * (j : Int) ∧ j < (M0.1 201 2).toNatClampNeg ∧ q_bo b (q_Rm M0 pl w p y j) ∧ i = q_may M0 pl w p y j ∧ M = M0)
    | 165 => some ([0, 1, 2, 4, 5], fun k L st M => ∃ b : Int32, L = [(0, .ref 200), (1, .int pl), (2, .int w), (4, .int y), (5, .int b)] ∧ st = [] ∧ k = (0, 9) ∧ q_bo b (q_Rm M0 pl w p y (M0.1 201 2).toNatClampNeg) ∧ M = M0)
    | 218 => some ([0, 2, 5, 6], fun k L st M => ∃ b i : Int32, L = [(0, .ref 200), (2, .int w), (5, .int b), (6, .int i)] ∧ st = [] ∧ k = (0, 8) ∧ q_bo b (q_Rm M0 pl w p y (M0.1 201 2).toNatClampNeg) ∧ i = q_trs M0 pl w p y ∧ M = M0)
    | _ => none)
  | _ => none
set_option maxRecDepth 100000 in
set_option maxHeartbeats 4000000 in
theorem metX8_inForceE : am_Met yX8_inForce cX8_inForce 9 (some .int) (1) (25) TE8_inForce := by
  refine am_met (own := RX8) (by decide +kernel) rfl kX8_inForceE koX8_inForceE 100 JE8_inForce ?_ ?_
  · intro live as M Ret h
    unfold TE8_inForce at h
    split at h
    · next n pl w p y =>
      refine ⟨Nat.le_of_ble_eq_true rfl, ?_⟩
      change am_wp _ _ _ _ [(0, Value.ref n), (1, Value.int pl), (2, Value.int w), (3, Value.int p), (4, Value.int y)] _ _
      obtain ⟨hmn, rfl, hw, hp, hR, h⟩ := h
      repeat' (first | apply And.intro | exact rfl | intro hx | (refine Exists.intro _ (And.intro rfl ?_)))
      all_goals try first | (with_reducible change am_tI _ _) | (change Ret _ _) | (change Ret _ _ _) | (change Exists _)
      all_goals try dsimp only at *
      all_goals try (with_reducible exact absurd ‹(1000 : Int64) = 0› am_z1000)
      exact ⟨_, _, _, 0, rfl, rfl, rfl, rfl, Nat.zero_le _, rfl, rfl⟩
    · exact h.elim
  · intro live as M0 Ret h k pc I hI L st M hi
    unfold TE8_inForce at h
    split at h
    · next n pl w p y =>
      obtain ⟨hmn, rfl, hw, hp, hR, h⟩ := h
      have hmn2 := hmn
      obtain ⟨i1, i2, rfl⟩ := hmn2
      have l201 : am_len 201 = 3760 := rfl
      have p1 := hp.1
      have p2 := hp.2
      have n2 : 0 ≤ (M0.1 201 (Int32.toNatClampNeg 2)).toInt ∧ (M0.1 201 (Int32.toNatClampNeg 2)).toInt ≤ 60 := hR.n2
      have cn : ((M0.1 201 2).toNatClampNeg : Int) = (M0.1 201 (Int32.toNatClampNeg 2)).toInt := i_clamp n2.1
      have e6 := r_mul (c := 6) (x := M0.1 201 (Int32.toNatClampNeg 2)) ⟨by decide, by decide⟩ ⟨n2.1, by omega⟩
      simp only [Int32.reduceToInt] at e6
      have e24 := r_off (c := 2478) (x := 6 * M0.1 201 (Int32.toNatClampNeg 2)) ⟨by decide, by decide⟩ ⟨by omega, by omega⟩
      simp only [e6, Int32.reduceToInt] at e24
      have e10 := r_off (c := 10) (x := p) ⟨by decide, by decide⟩ ⟨by omega, by omega⟩
      simp only [Int32.reduceToInt] at e10
      have c10 : (10 + p).toNatClampNeg = 10 + p.toNatClampNeg := by
        have c1 := i_clamp (x := 10 + p) (by omega)
        have c2 := i_clamp p1
        omega
      have aa : ∀ {a c : Int32} {j k : Nat}, a.toInt = 2478 + 6 * (j : Int) → j < 60 → c.toInt = (k : Int) → k < 6 → (a + c).toInt = 2478 + 6 * (j : Int) + k ∧ (a + c).toNatClampNeg = 2478 + (6 * j + k) := fun {a c j k} h1 h2 h3 h4 => by
        have e := i_add (x := a) (y := c) (by omega) (by omega)
        have c1 := i_clamp (x := a + c) (by omega)
        omega
      have a0 : ∀ {a : Int32} {j : Nat}, a.toInt = 2478 + 6 * (j : Int) → a.toNatClampNeg = 2478 + 6 * j := fun {a j} h1 => by
        have c1 := i_clamp (x := a) (by omega)
        omega
      change (match pc with | 8 => _ | 71 => _ | 119 => _ | 165 => _ | 218 => _ | _ => none) = _ at hI
      split at hI
      · cases hI
        obtain ⟨b, a, j, rfl, rfl, rfl, ea, hj, hb, rfl⟩ := hi
        by_cases hz : 2478 + 6 * M.1 201 (Int32.toNatClampNeg 2) ≤ a
        · have hz2 := hz
          simp only [i_le] at hz2
          have ej : j = (M.1 201 2).toNatClampNeg := by omega
          rw [ej] at hb
          repeat' (first | apply And.intro | exact rfl | (intro hx; with_reducible exact absurd hz hx) | (intro hx; exact absurd hx (by decide)) | (intro hx; exact absurd (by decide) hx) | decide | intro hx | (refine Exists.intro _ (And.intro rfl ?_)))
          all_goals try first | (with_reducible change am_tI _ _) | (change Ret _ _) | (change Ret _ _ _) | (change Exists _)
          all_goals try dsimp only at *
          all_goals try (with_reducible exact absurd ‹(1000 : Int64) = 0› am_z1000)
          all_goals first
            | (show _ < _; simp only [l201]; decide)
            | exact ⟨_, am_lt_l (by omega), _, rfl, rfl, rfl, hb, rfl⟩
        · have hz2 := hz
          simp only [i_le] at hz2
          have j60 : j < 60 := by omega
          have hj2 : j < (M.1 201 2).toNatClampNeg := by omega
          obtain ⟨x1, y1⟩ := aa (c := 1) (k := 1) ea j60 rfl (by decide)
          obtain ⟨x3, y3⟩ := aa (c := 3) (k := 3) ea j60 rfl (by decide)
          have y0 := a0 ea
          have f0 : M.1 201 a.toNatClampNeg = r_A M (6 * j) := by rw [y0]; rfl
          have f1 : M.1 201 (a + 1).toNatClampNeg = r_A M (6 * j + 1) := by rw [y1]; rfl
          have f3 : M.1 201 (a + 3).toNatClampNeg = r_A M (6 * j + 3) := by rw [y3]; rfl
          by_cases z1 : M.1 201 a.toNatClampNeg = pl
          · by_cases z2 : M.1 201 (a + 1).toNatClampNeg = w
            · by_cases z3 : y < M.1 201 (a + 3).toNatClampNeg
              · have e : (0 : Int32) = q_is M pl w y j := (if_neg (fun q => by have q3 := q.2.2; simp only [i_lt, f3] at z3; omega)).symm
                repeat' (first | apply And.intro | exact rfl | (intro hx; with_reducible exact absurd hx hz) | (intro hx; with_reducible exact absurd z1 hx) | (intro hx; with_reducible exact absurd z2 hx) | (intro hx; with_reducible exact absurd z3 hx) | (intro hx; exact absurd hx (by decide)) | (intro hx; exact absurd (by decide) hx) | decide | intro hx | (refine Exists.intro _ (And.intro rfl ?_)))
                all_goals try first | (with_reducible change am_tI _ _) | (change Ret _ _) | (change Ret _ _ _) | (change Exists _)
                all_goals try dsimp only at *
                all_goals try (with_reducible exact absurd ‹(1000 : Int64) = 0› am_z1000)
                all_goals first
                  | (show _ < _; simp only [l201]; decide)
                  | omega
                  | (rw [l201]; omega)
                  | exact ⟨_, am_lt_r (by omega), _, _, _, j, rfl, rfl, rfl, ea, hj2, hb, e, rfl⟩
              · have e : (1 : Int32) = q_is M pl w y j := (if_pos ⟨by rw [← f0]; exact z1, by rw [← f1]; exact z2, by simp only [i_lt, f3] at z3; omega⟩).symm
                repeat' (first | apply And.intro | exact rfl | (intro hx; with_reducible exact absurd hx hz) | (intro hx; with_reducible exact absurd hx z3) | (intro hx; with_reducible exact absurd z1 hx) | (intro hx; with_reducible exact absurd z2 hx) | (intro hx; exact absurd hx (by decide)) | (intro hx; exact absurd (by decide) hx) | decide | intro hx | (refine Exists.intro _ (And.intro rfl ?_)))
                all_goals try first | (with_reducible change am_tI _ _) | (change Ret _ _) | (change Ret _ _ _) | (change Exists _)
                all_goals try dsimp only at *
                all_goals try (with_reducible exact absurd ‹(1000 : Int64) = 0› am_z1000)
                all_goals first
                  | (show _ < _; simp only [l201]; decide)
                  | omega
                  | (rw [l201]; omega)
                  | exact ⟨_, am_lt_r (by omega), _, _, _, j, rfl, rfl, rfl, ea, hj2, hb, e, rfl⟩
            · have e : (0 : Int32) = q_is M pl w y j := (if_neg (fun q => z2 (by rw [f1]; exact q.2.1))).symm
              repeat' (first | apply And.intro | exact rfl | (intro hx; with_reducible exact absurd hx hz) | (intro hx; with_reducible exact absurd hx z2) | (intro hx; with_reducible exact absurd z1 hx) | (intro hx; exact absurd hx (by decide)) | (intro hx; exact absurd (by decide) hx) | decide | intro hx | (refine Exists.intro _ (And.intro rfl ?_)))
              all_goals try first | (with_reducible change am_tI _ _) | (change Ret _ _) | (change Ret _ _ _) | (change Exists _)
              all_goals try dsimp only at *
              all_goals try (with_reducible exact absurd ‹(1000 : Int64) = 0› am_z1000)
              all_goals first
                | (show _ < _; simp only [l201]; decide)
                | omega
                | (rw [l201]; omega)
                | exact ⟨_, am_lt_r (by omega), _, _, _, j, rfl, rfl, rfl, ea, hj2, hb, e, rfl⟩
          · have e : (0 : Int32) = q_is M pl w y j := (if_neg (fun q => z1 (by rw [f0]; exact q.1))).symm
            repeat' (first | apply And.intro | exact rfl | (intro hx; with_reducible exact absurd hx hz) | (intro hx; with_reducible exact absurd hx z1) | (intro hx; exact absurd hx (by decide)) | (intro hx; exact absurd (by decide) hx) | decide | intro hx | (refine Exists.intro _ (And.intro rfl ?_)))
            all_goals try first | (with_reducible change am_tI _ _) | (change Ret _ _) | (change Ret _ _ _) | (change Exists _)
            all_goals try dsimp only at *
            all_goals try (with_reducible exact absurd ‹(1000 : Int64) = 0› am_z1000)
            all_goals first
              | (show _ < _; simp only [l201]; decide)
              | omega
              | (rw [l201]; omega)
              | exact ⟨_, am_lt_r (by omega), _, _, _, j, rfl, rfl, rfl, ea, hj2, hb, e, rfl⟩
      · cases hI
        obtain ⟨b, a, i, j, rfl, rfl, rfl, ea, hj, hb, hi, rfl⟩ := hi
        have j60 : j < 60 := by omega
        obtain ⟨x4, y4⟩ := aa (c := 4) (k := 4) ea j60 rfl (by decide)
        obtain ⟨x5, y5⟩ := aa (c := 5) (k := 5) ea j60 rfl (by decide)
        have f4 : M.1 201 (a + 4).toNatClampNeg = r_A M (6 * j + 4) := by rw [y4]; rfl
        have f5 : M.1 201 (a + 5).toNatClampNeg = r_A M (6 * j + 5) := by rw [y5]; rfl
        by_cases hC : r_A M (6 * j) = pl ∧ r_A M (6 * j + 1) = w ∧ (r_A M (6 * j + 3)).toInt ≤ y.toInt
        · rw [show q_is M pl w y j = 1 from if_pos hC] at hi
          subst hi
          by_cases zc : (M.1 201 (a + 4).toNatClampNeg).toInt64 ≤ (M.1 201 (10 + p).toNatClampNeg).toInt64 ∧ (M.1 201 (10 + p).toNatClampNeg).toInt64 ≤ (M.1 201 (a + 5).toNatClampNeg).toInt64
          · have q0 : ¬ ((if (M.1 201 (a + 4).toNatClampNeg).toInt64 ≤ (M.1 201 (10 + p).toNatClampNeg).toInt64 ∧ (M.1 201 (10 + p).toNatClampNeg).toInt64 ≤ (M.1 201 (a + 5).toNatClampNeg).toInt64 then (1 : Int32) else 0) = 0) := by rw [if_pos zc]; decide
            have e : (1 : Int32) = q_may M pl w p y j := by
              simp only [j_le, Int32.toInt_toInt64, f4, f5, c10] at zc
              exact (if_pos ⟨decide_eq_true ⟨hC.1, hC.2.1, zc.1, zc.2⟩, hC.2.2⟩).symm
            repeat' (first | apply And.intro | exact rfl | (intro hx; with_reducible exact absurd hx q0) | (intro hx; exact absurd hx (by decide)) | (intro hx; exact absurd (by decide) hx) | decide | intro hx | (refine Exists.intro _ (And.intro rfl ?_)))
            all_goals try first | (with_reducible change am_tI _ _) | (change Ret _ _) | (change Ret _ _ _) | (change Exists _)
            all_goals try dsimp only at *
            all_goals try (with_reducible exact absurd ‹(1000 : Int64) = 0› am_z1000)
            all_goals first
              | omega
              | (rw [l201]; omega)
              | exact ⟨_, am_lt_r (by omega), _, _, _, j, rfl, rfl, rfl, ea, hj, hb, e, rfl⟩
          · have q0 : (if (M.1 201 (a + 4).toNatClampNeg).toInt64 ≤ (M.1 201 (10 + p).toNatClampNeg).toInt64 ∧ (M.1 201 (10 + p).toNatClampNeg).toInt64 ≤ (M.1 201 (a + 5).toNatClampNeg).toInt64 then (1 : Int32) else 0) = 0 := if_neg zc
            have e : (0 : Int32) = q_may M pl w p y j := by
              simp only [j_le, Int32.toInt_toInt64, f4, f5, c10] at zc
              exact (if_neg (fun z => zc (of_decide_eq_true z.1).2.2)).symm
            repeat' (first | apply And.intro | exact rfl | (intro hx; with_reducible exact absurd q0 hx) | (intro hx; exact absurd hx (by decide)) | (intro hx; exact absurd (by decide) hx) | decide | intro hx | (refine Exists.intro _ (And.intro rfl ?_)))
            all_goals try first | (with_reducible change am_tI _ _) | (change Ret _ _) | (change Ret _ _ _) | (change Exists _)
            all_goals try dsimp only at *
            all_goals try (with_reducible exact absurd ‹(1000 : Int64) = 0› am_z1000)
            all_goals first
              | omega
              | (rw [l201]; omega)
              | exact ⟨_, am_lt_r (by omega), _, _, _, j, rfl, rfl, rfl, ea, hj, hb, e, rfl⟩
        · rw [show q_is M pl w y j = 0 from if_neg hC] at hi
          subst hi
          have e : (0 : Int32) = q_may M pl w p y j := (if_neg (fun z => hC ⟨(of_decide_eq_true z.1).1, (of_decide_eq_true z.1).2.1, z.2⟩)).symm
          repeat' (first | apply And.intro | exact rfl | (intro hx; exact absurd hx (by decide)) | (intro hx; exact absurd (by decide) hx) | decide | intro hx | (refine Exists.intro _ (And.intro rfl ?_)))
          all_goals try first | (with_reducible change am_tI _ _) | (change Ret _ _) | (change Ret _ _ _) | (change Exists _)
          all_goals try dsimp only at *
          all_goals try (with_reducible exact absurd ‹(1000 : Int64) = 0› am_z1000)
          all_goals first
            | omega
            | (rw [l201]; omega)
            | exact ⟨_, am_lt_r (by omega), _, _, _, j, rfl, rfl, rfl, ea, hj, hb, e, rfl⟩
      · cases hI
        obtain ⟨b, a, i, j, rfl, rfl, rfl, ea, hj, hb, hi, rfl⟩ := hi
        have j60 : j < 60 := by omega
        obtain ⟨x3, y3⟩ := aa (c := 3) (k := 3) ea j60 rfl (by decide)
        have f3 : M.1 201 (a + 3).toNatClampNeg = r_A M (6 * j + 3) := by rw [y3]; rfl
        have x6 := r_off (c := a) (x := 6) ⟨by omega, by omega⟩ ⟨by decide, by decide⟩
        simp only [Int32.reduceToInt] at x6
        by_cases hC : q_mt (r_A M) (M.1 201 (10 + p.toNatClampNeg)) pl w j = true ∧ (r_A M (6 * j + 3)).toInt ≤ y.toInt
        · rw [show q_may M pl w p y j = 1 from if_pos hC] at hi
          subst hi
          cases ho : q_Rm M pl w p y j with
          | none =>
            rw [ho] at hb
            have hb2 := hb.n
            subst hb2
            have e : q_bo a (q_Rm M pl w p y (j + 1)) := by
              rw [show q_Rm M pl w p y (j + 1) = some j from q_R_s2 hC ho]
              exact ea
            repeat' (first | apply And.intro | exact rfl | (intro hx; exact absurd hx (by decide)) | (intro hx; exact absurd (by decide) hx) | decide | intro hx | (refine Exists.intro _ (And.intro rfl ?_)))
            all_goals try first | (with_reducible change am_tI _ _) | (change Ret _ _) | (change Ret _ _ _) | (change Exists _)
            all_goals try dsimp only at *
            all_goals try (with_reducible exact absurd ‹(1000 : Int64) = 0› am_z1000)
            all_goals first
              | omega
              | (rw [l201]; omega)
              | exact ⟨_, am_lt_l (by omega), _, _, j + 1, rfl, rfl, rfl, by omega, by omega, e, rfl⟩
          | some b' =>
            rw [ho] at hb
            have hb2 := hb.s
            have hlt := (q_R_lt ho).1
            obtain ⟨u3, v3⟩ := aa (c := 3) (k := 3) hb2 (by omega) rfl (by decide)
            have g3 : M.1 201 (b + 3).toNatClampNeg = r_A M (6 * b' + 3) := by rw [v3]; rfl
            have hn : ¬ b < 0 := fun q => by simp only [i_lt, Int32.reduceToInt] at q; omega
            by_cases z : M.1 201 (a + 3).toNatClampNeg < M.1 201 (b + 3).toNatClampNeg
            · have e : q_bo b (q_Rm M pl w p y (j + 1)) := by
                rw [show q_Rm M pl w p y (j + 1) = some b' from q_R_s4 ho (by simp only [i_lt, f3, g3] at z; omega)]
                exact hb2
              repeat' (first | apply And.intro | exact rfl | (intro hx; with_reducible exact absurd hx hn) | (intro hx; with_reducible exact absurd z hx) | (intro hx; exact absurd hx (by decide)) | (intro hx; exact absurd (by decide) hx) | decide | intro hx | (refine Exists.intro _ (And.intro rfl ?_)))
              all_goals try first | (with_reducible change am_tI _ _) | (change Ret _ _) | (change Ret _ _ _) | (change Exists _)
              all_goals try dsimp only at *
              all_goals try (with_reducible exact absurd ‹(1000 : Int64) = 0› am_z1000)
              all_goals first
                | omega
                | (rw [l201]; omega)
                | exact ⟨_, am_lt_l (by omega), _, _, j + 1, rfl, rfl, rfl, by omega, by omega, e, rfl⟩
            · have e : q_bo a (q_Rm M pl w p y (j + 1)) := by
                rw [show q_Rm M pl w p y (j + 1) = some j from q_R_s3 hC ho (by simp only [i_lt, f3, g3] at z; omega)]
                exact ea
              repeat' (first | apply And.intro | exact rfl | (intro hx; with_reducible exact absurd hx hn) | (intro hx; with_reducible exact absurd hx z) | (intro hx; exact absurd hx (by decide)) | (intro hx; exact absurd (by decide) hx) | decide | intro hx | (refine Exists.intro _ (And.intro rfl ?_)))
              all_goals try first | (with_reducible change am_tI _ _) | (change Ret _ _) | (change Ret _ _ _) | (change Exists _)
              all_goals try dsimp only at *
              all_goals try (with_reducible exact absurd ‹(1000 : Int64) = 0› am_z1000)
              all_goals first
                | omega
                | (rw [l201]; omega)
                | exact ⟨_, am_lt_l (by omega), _, _, j + 1, rfl, rfl, rfl, by omega, by omega, e, rfl⟩
        · rw [show q_may M pl w p y j = 0 from if_neg hC] at hi
          subst hi
          have e : q_bo b (q_Rm M pl w p y (j + 1)) := by
            rw [show q_Rm M pl w p y (j + 1) = q_Rm M pl w p y j from q_R_s1 hC]
            exact hb
          repeat' (first | apply And.intro | exact rfl | (intro hx; exact absurd hx (by decide)) | (intro hx; exact absurd (by decide) hx) | decide | intro hx | (refine Exists.intro _ (And.intro rfl ?_)))
          all_goals try first | (with_reducible change am_tI _ _) | (change Ret _ _) | (change Ret _ _ _) | (change Exists _)
          all_goals try dsimp only at *
          all_goals try (with_reducible exact absurd ‹(1000 : Int64) = 0› am_z1000)
          all_goals first
            | omega
            | (rw [l201]; omega)
            | exact ⟨_, am_lt_l (by omega), _, _, j + 1, rfl, rfl, rfl, by omega, by omega, e, rfl⟩
      · cases hI
        obtain ⟨b, rfl, rfl, rfl, hb, rfl⟩ := hi
        by_cases z1 : M.1 200 3 = pl
        · by_cases z2 : M.1 200 4 = w
          · by_cases z3 : y < M.1 200 6
            · have e : (0 : Int32) = q_trs M pl w p y := (if_neg (fun q => by have q3 := q.2.2.1; simp only [i_lt] at z3; omega)).symm
              repeat' (first | apply And.intro | exact rfl | (intro hx; with_reducible exact absurd z1 hx) | (intro hx; with_reducible exact absurd z2 hx) | (intro hx; with_reducible exact absurd z3 hx) | (intro hx; exact absurd hx (by decide)) | (intro hx; exact absurd (by decide) hx) | decide | intro hx | (refine Exists.intro _ (And.intro rfl ?_)))
              all_goals try first | (with_reducible change am_tI _ _) | (change Ret _ _) | (change Ret _ _ _) | (change Exists _)
              all_goals try dsimp only at *
              all_goals try (with_reducible exact absurd ‹(1000 : Int64) = 0› am_z1000)
              all_goals exact ⟨_, am_lt_r (by omega), _, _, rfl, rfl, rfl, hb, e, rfl⟩
            · cases ho : q_Rm M pl w p y (M.1 201 2).toNatClampNeg with
              | none =>
                have hb0 := hb
                rw [ho] at hb0
                have hb2 := hb0.n
                subst hb2
                have e : (1 : Int32) = q_trs M pl w p y := (if_pos ⟨z1, z2, by simp only [i_lt] at z3; omega, by rw [ho]; rfl⟩).symm
                repeat' (first | apply And.intro | exact rfl | (intro hx; with_reducible exact absurd hx z3) | (intro hx; with_reducible exact absurd z1 hx) | (intro hx; with_reducible exact absurd z2 hx) | (intro hx; exact absurd hx (by decide)) | (intro hx; exact absurd (by decide) hx) | decide | intro hx | (refine Exists.intro _ (And.intro rfl ?_)))
                all_goals try first | (with_reducible change am_tI _ _) | (change Ret _ _) | (change Ret _ _ _) | (change Exists _)
                all_goals try dsimp only at *
                all_goals try (with_reducible exact absurd ‹(1000 : Int64) = 0› am_z1000)
                all_goals exact ⟨_, am_lt_r (by omega), _, _, rfl, rfl, rfl, hb, e, rfl⟩
              | some b' =>
                have hb0 := hb
                rw [ho] at hb0
                have hb2 := hb0.s
                have hlt := (q_R_lt ho).1
                obtain ⟨u3, v3⟩ := aa (c := 3) (k := 3) hb2 (by omega) rfl (by decide)
                have g3 : M.1 201 (b + 3).toNatClampNeg = r_A M (6 * b' + 3) := by rw [v3]; rfl
                have hn : ¬ b < 0 := fun q => by simp only [i_lt, Int32.reduceToInt] at q; omega
                by_cases z : M.1 200 6 < M.1 201 (b + 3).toNatClampNeg
                · have e : (0 : Int32) = q_trs M pl w p y := (if_neg (fun q => by
                    have q4 := q.2.2.2
                    rw [ho] at q4
                    have q5 : (r_A M (6 * b' + 3)).toInt ≤ (M.1 200 6).toInt := of_decide_eq_true q4
                    simp only [i_lt, g3] at z
                    omega)).symm
                  repeat' (first | apply And.intro | exact rfl | (intro hx; with_reducible exact absurd hx z3) | (intro hx; with_reducible exact absurd hx hn) | (intro hx; with_reducible exact absurd z1 hx) | (intro hx; with_reducible exact absurd z2 hx) | (intro hx; with_reducible exact absurd z hx) | (intro hx; exact absurd hx (by decide)) | (intro hx; exact absurd (by decide) hx) | decide | intro hx | (refine Exists.intro _ (And.intro rfl ?_)))
                  all_goals try first | (with_reducible change am_tI _ _) | (change Ret _ _) | (change Ret _ _ _) | (change Exists _)
                  all_goals try dsimp only at *
                  all_goals try (with_reducible exact absurd ‹(1000 : Int64) = 0› am_z1000)
                  all_goals first
                    | omega
                    | (rw [l201]; omega)
                    | exact ⟨_, am_lt_r (by omega), _, _, rfl, rfl, rfl, hb, e, rfl⟩
                · have e : (1 : Int32) = q_trs M pl w p y := (if_pos ⟨z1, z2, by simp only [i_lt] at z3; omega, by rw [ho]; exact decide_eq_true (by simp only [i_lt, g3] at z; omega)⟩).symm
                  repeat' (first | apply And.intro | exact rfl | (intro hx; with_reducible exact absurd hx z3) | (intro hx; with_reducible exact absurd hx hn) | (intro hx; with_reducible exact absurd hx z) | (intro hx; with_reducible exact absurd z1 hx) | (intro hx; with_reducible exact absurd z2 hx) | (intro hx; exact absurd hx (by decide)) | (intro hx; exact absurd (by decide) hx) | decide | intro hx | (refine Exists.intro _ (And.intro rfl ?_)))
                  all_goals try first | (with_reducible change am_tI _ _) | (change Ret _ _) | (change Ret _ _ _) | (change Exists _)
                  all_goals try dsimp only at *
                  all_goals try (with_reducible exact absurd ‹(1000 : Int64) = 0› am_z1000)
                  all_goals first
                    | omega
                    | (rw [l201]; omega)
                    | exact ⟨_, am_lt_r (by omega), _, _, rfl, rfl, rfl, hb, e, rfl⟩
          · have e : (0 : Int32) = q_trs M pl w p y := (if_neg (fun q => z2 q.2.1)).symm
            repeat' (first | apply And.intro | exact rfl | (intro hx; with_reducible exact absurd hx z2) | (intro hx; with_reducible exact absurd z1 hx) | (intro hx; exact absurd hx (by decide)) | (intro hx; exact absurd (by decide) hx) | decide | intro hx | (refine Exists.intro _ (And.intro rfl ?_)))
            all_goals try first | (with_reducible change am_tI _ _) | (change Ret _ _) | (change Ret _ _ _) | (change Exists _)
            all_goals try dsimp only at *
            all_goals try (with_reducible exact absurd ‹(1000 : Int64) = 0› am_z1000)
            all_goals exact ⟨_, am_lt_r (by omega), _, _, rfl, rfl, rfl, hb, e, rfl⟩
        · have e : (0 : Int32) = q_trs M pl w p y := (if_neg (fun q => z1 q.1)).symm
          repeat' (first | apply And.intro | exact rfl | (intro hx; with_reducible exact absurd hx z1) | (intro hx; exact absurd hx (by decide)) | (intro hx; exact absurd (by decide) hx) | decide | intro hx | (refine Exists.intro _ (And.intro rfl ?_)))
          all_goals try first | (with_reducible change am_tI _ _) | (change Ret _ _) | (change Ret _ _ _) | (change Exists _)
          all_goals try dsimp only at *
          all_goals try (with_reducible exact absurd ‹(1000 : Int64) = 0› am_z1000)
          all_goals exact ⟨_, am_lt_r (by omega), _, _, rfl, rfl, rfl, hb, e, rfl⟩
      · cases hI
        obtain ⟨b, i, rfl, rfl, rfl, hb, hi, rfl⟩ := hi
        by_cases hC : M.1 200 3 = pl ∧ M.1 200 4 = w ∧ (M.1 200 6).toInt ≤ y.toInt ∧ q_le (r_A M) (q_Rm M pl w p y (M.1 201 2).toNatClampNeg) (M.1 200 6) = true
        · rw [show q_trs M pl w p y = 1 from if_pos hC] at hi
          subst hi
          rw [show r_inF M pl w p y = M.1 200 5 from if_pos hC] at h
          repeat' (first | apply And.intro | exact rfl | (intro hx; exact absurd hx (by decide)) | (intro hx; exact absurd (by decide) hx) | decide | intro hx | (refine Exists.intro _ (And.intro rfl ?_)))
          all_goals try first | (with_reducible change am_tI _ _) | (change Ret _ _) | (change Ret _ _ _) | (change Exists _)
          all_goals try dsimp only at *
          all_goals try (with_reducible exact absurd ‹(1000 : Int64) = 0› am_z1000)
          all_goals exact h
        · rw [show q_trs M pl w p y = 0 from if_neg hC] at hi
          subst hi
          rw [show r_inF M pl w p y = q_F (r_A M) (M.1 201 2).toNatClampNeg (M.1 201 (10 + p.toNatClampNeg)) pl w y.toInt from if_neg hC] at h
          unfold q_F at h
          cases ho : q_R (r_A M) (M.1 201 (10 + p.toNatClampNeg)) pl w y.toInt (M.1 201 2).toNatClampNeg with
          | none =>
            rw [show q_Rm M pl w p y (M.1 201 2).toNatClampNeg = none from ho] at hb
            have hb2 := hb.n
            subst hb2
            rw [ho] at h
            repeat' (first | (with_reducible exact hw) | apply And.intro | exact rfl | (intro hx; exact absurd hx (by decide)) | (intro hx; exact absurd (by decide) hx) | decide | intro hx | (refine Exists.intro _ (And.intro rfl ?_)))
            all_goals try first | (with_reducible change am_tI _ _) | (change Ret _ _) | (change Ret _ _ _) | (change Exists _)
            all_goals try dsimp only at *
            all_goals try (with_reducible exact absurd ‹(1000 : Int64) = 0› am_z1000)
            all_goals exact h
          | some b' =>
            rw [show q_Rm M pl w p y (M.1 201 2).toNatClampNeg = some b' from ho] at hb
            have hb2 := hb.s
            have hlt := (q_R_lt ho).1
            rw [ho] at h
            obtain ⟨u2, v2⟩ := aa (c := 2) (k := 2) hb2 (by omega) rfl (by decide)
            have g2 : M.1 201 (b + 2).toNatClampNeg = r_A M (6 * b' + 2) := by rw [v2]; rfl
            have hn : 0 ≤ b := by simp only [i_le, Int32.reduceToInt]; omega
            have h : Ret (some (.int (r_A M (6 * b' + 2)))) M := h
            rw [← g2] at h
            repeat' (first | apply And.intro | exact rfl | (intro hx; with_reducible exact absurd hn hx) | (intro hx; exact absurd hx (by decide)) | (intro hx; exact absurd (by decide) hx) | decide | intro hx | (refine Exists.intro _ (And.intro rfl ?_)))
            all_goals try first | (with_reducible change am_tI _ _) | (change Ret _ _) | (change Ret _ _ _) | (change Exists _)
            all_goals try dsimp only at *
            all_goals try (with_reducible exact absurd ‹(1000 : Int64) = 0› am_z1000)
            all_goals first
              | omega
              | (rw [l201]; omega)
              | (with_reducible exact h)
              | exact h
      · cases hI
    · exact h.elim
end
-- part 77.exact2.lean.txt
section
/-! exact: what is in force: the class -/
def q_L (A : Nat → Int32) (bg pl w : Int32) (y : Int) : Nat → Option Nat
  | 0 => none
  | i + 1 => if q_mt A bg pl w i = true ∧ (A (6 * i + 3)).toInt = y then some i else q_L A bg pl w y i
theorem q_L_lt {A : Nat → Int32} {bg pl w : Int32} {y : Int} : ∀ {m b}, q_L A bg pl w y m = some b → b < m ∧ (A (6 * b + 3)).toInt = y
  | 0, _, h => by cases h
  | m + 1, b, h => by
    unfold q_L at h
    split at h
    · next z => cases h; exact ⟨by omega, z.2⟩
    · have ih := q_L_lt h
      exact ⟨by omega, ih.2⟩
theorem q_L_R {A : Nat → Int32} {bg pl w : Int32} {y : Int} : ∀ m, q_R A bg pl w y m = (match q_L A bg pl w y m with | some b => some b | none => q_R A bg pl w (y - 1) m)
  | 0 => rfl
  | m + 1 => by
    have ih := q_L_R (A := A) (bg := bg) (pl := pl) (w := w) (y := y) m
    by_cases hm : q_mt A bg pl w m = true
    · by_cases h1 : (A (6 * m + 3)).toInt = y
      · have e1 : q_L A bg pl w y (m + 1) = some m := if_pos ⟨hm, h1⟩
        rw [e1]
        cases ho : q_R A bg pl w y m with
        | none => exact q_R_s2 ⟨hm, by omega⟩ ho
        | some b => exact q_R_s3 ⟨hm, by omega⟩ ho (by have := (q_R_lt ho).2.2; omega)
      · have e1 : q_L A bg pl w y (m + 1) = q_L A bg pl w y m := if_neg (fun z => h1 z.2)
        rw [e1]
        by_cases h2 : (A (6 * m + 3)).toInt ≤ y
        · cases hl : q_L A bg pl w y m with
          | some b =>
            rw [hl] at ih
            exact q_R_s4 ih (by have := (q_L_lt hl).2; omega)
          | none =>
            rw [hl] at ih
            dsimp only at ih ⊢
            cases ho : q_R A bg pl w (y - 1) m with
            | none =>
              rw [ho] at ih
              rw [q_R_s2 ⟨hm, h2⟩ ih, q_R_s2 ⟨hm, by omega⟩ ho]
            | some b =>
              rw [ho] at ih
              by_cases h3 : (A (6 * b + 3)).toInt ≤ (A (6 * m + 3)).toInt
              · rw [q_R_s3 ⟨hm, h2⟩ ih h3, q_R_s3 ⟨hm, by omega⟩ ho h3]
              · rw [q_R_s4 ih h3, q_R_s4 ho h3]
        · rw [q_R_s1 (fun z => h2 z.2), q_R_s1 (y := y - 1) (fun z => by have := z.2; omega)]
          exact ih
    · have e1 : q_L A bg pl w y (m + 1) = q_L A bg pl w y m := if_neg (fun z => hm z.1)
      rw [e1, q_R_s1 (fun z => hm z.1), q_R_s1 (y := y - 1) (fun z => hm z.1)]
      exact ih
theorem q_R_neg {A : Nat → Int32} {bg pl w : Int32} {y : Int} (h : ∀ i, 0 ≤ (A (6 * i + 3)).toInt) (hy : y < 0) : ∀ m, q_R A bg pl w y m = none
  | 0 => rfl
  | m + 1 => by
    rw [q_R_s1 (fun z => by have := z.2; have := h m; omega)]
    exact q_R_neg h hy m
theorem q_R_neg2 {A : Nat → Int32} {bg pl w : Int32} {y : Int} (hy : y < 0) : ∀ m, (∀ i, i < m → 0 ≤ (A (6 * i + 3)).toInt) → q_R A bg pl w y m = none
  | 0, _ => rfl
  | m + 1, h => by
    rw [q_R_s1 (fun z => by have := z.2; have := h m (by omega); omega)]
    exact q_R_neg2 hy m (fun i hi => h i (by omega))
/-- a year's number, the first acts of the year laid -/
def q_V (A : Nat → Int32) (n : Nat) (bg pl w : Int32) (y : Int) (i : Nat) : Int32 := match q_L A bg pl w y i with
  | some a => A (6 * a + 2)
  | none => q_F A n bg pl w (y - 1)
theorem q_V_n (A : Nat → Int32) (n : Nat) (bg pl w : Int32) (y : Int) : q_V A n bg pl w y n = q_F A n bg pl w y := by
  unfold q_V
  conv => rhs; unfold q_F
  rw [q_L_R n]
  cases q_L A bg pl w y n with
  | some a => rfl
  | none => rfl
theorem q_V_0 (A : Nat → Int32) (n : Nat) (bg pl w : Int32) (y : Int) : q_V A n bg pl w y 0 = q_F A n bg pl w (y - 1) := rfl
theorem q_V_y {A : Nat → Int32} {n : Nat} {bg pl w : Int32} {y : Int} {i : Nat} (h : q_mt A bg pl w i = true ∧ (A (6 * i + 3)).toInt = y) : q_V A n bg pl w y (i + 1) = A (6 * i + 2) := by
  unfold q_V
  rw [show q_L A bg pl w y (i + 1) = some i from if_pos h]
theorem q_V_s {A : Nat → Int32} {n : Nat} {bg pl w : Int32} {y : Int} {i : Nat} (h : ¬ (q_mt A bg pl w i = true ∧ (A (6 * i + 3)).toInt = y)) : q_V A n bg pl w y (i + 1) = q_V A n bg pl w y i := by
  unfold q_V
  rw [show q_L A bg pl w y (i + 1) = q_L A bg pl w y i from if_neg h]
theorem q_F_neg {A : Nat → Int32} {n : Nat} {bg pl w : Int32} {y : Int} (hy : y < 0) (h : ∀ i, i < n → 0 ≤ (A (6 * i + 3)).toInt) : q_F A n bg pl w y = am_sf 0 w.toNatClampNeg := by
  unfold q_F
  rw [q_R_neg2 hy n h]
/-- the class's acts: as wide as they must be, their plans and numbers are such -/
def c_A (M : am_M) : Prop := ∃ _ : Unit, M.1 31 1 = 6 ∧ (0 ≤ (M.1 31 2).toInt ∧ (M.1 31 2).toInt ≤ 61) ∧ ∀ i : Nat, (i : Int) < (M.1 31 2).toInt → am_in (M.1 32 (6 * i)) 5 ∧ am_in (M.1 32 (6 * i + 1)) 6 ∧ 0 ≤ (M.1 32 (6 * i + 3)).toInt
theorem c_A.w {M : am_M} (h : c_A M) : M.1 31 1 = 6 := by obtain ⟨-, h, -⟩ := h; exact h
theorem c_A.n {M : am_M} (h : c_A M) : 0 ≤ (M.1 31 2).toInt ∧ (M.1 31 2).toInt ≤ 61 := by obtain ⟨-, -, h, -⟩ := h; exact h
theorem c_A.a {M : am_M} (h : c_A M) {i : Nat} (hi : (i : Int) < (M.1 31 2).toInt) : am_in (M.1 32 (6 * i)) 5 ∧ am_in (M.1 32 (6 * i + 1)) 6 ∧ 0 ≤ (M.1 32 (6 * i + 3)).toInt := by obtain ⟨-, -, -, h⟩ := h; exact h i hi
theorem c_A.cg {M N : am_M} (h : c_A M) (e1 : N.1 31 = M.1 31) (e2 : N.1 32 = M.1 32) : c_A N := by
  obtain ⟨-, a, b, c⟩ := h
  exact ⟨(), by rw [e1]; exact a, by rw [e1]; exact b, fun i hi => by rw [e2]; rw [e1] at hi; exact c i hi⟩
theorem c_at {M : am_M} {a c : Int32} {k : Nat} (hw : M.1 31 1 = 6) (ha : am_in a 61) (hc : c.toInt = (k : Int)) (hk : k < 6) : am_at (M.1 32) (am_len 32) (a * M.1 31 1 + c) = M.1 32 (6 * a.toNatClampNeg + k) := by
  have a1 := ha.1
  have a2 := ha.2
  rw [hw]
  have e := i_mul (x := a) (y := 6) (by simp only [Int32.reduceToInt]; omega) (by simp only [Int32.reduceToInt]; omega)
  simp only [Int32.reduceToInt] at e
  have e2 := i_add (x := a * 6) (y := c) (by omega) (by omega)
  have l32 : am_len 32 = 366 := rfl
  rw [am_at_in (show am_in (a * 6 + c) (am_len 32) from ⟨by omega, by rw [l32]; omega⟩)]
  have c1 := i_clamp (x := a * 6 + c) (by omega)
  have c2 := i_clamp a1
  rw [show (a * 6 + c).toNatClampNeg = 6 * a.toNatClampNeg + k by omega]
theorem c_cell {y p w : Int32} (hy : am_in y 40) (hp : am_in p 5) (hw : am_in w 6) : ((y * 5 + p) * 6 + w).toInt = 30 * y.toInt + 6 * p.toInt + w.toInt ∧ ((y * 5 + p) * 6 + w).toNatClampNeg = 30 * y.toNatClampNeg + 6 * p.toNatClampNeg + w.toNatClampNeg := by
  have y1 := hy.1
  have y2 := hy.2
  have p1 := hp.1
  have p2 := hp.2
  have w1 := hw.1
  have w2 := hw.2
  have e := i_mul (x := y) (y := 5) (by simp only [Int32.reduceToInt]; omega) (by simp only [Int32.reduceToInt]; omega)
  simp only [Int32.reduceToInt] at e
  have e2 := i_add (x := y * 5) (y := p) (by omega) (by omega)
  have e3 := i_mul (x := y * 5 + p) (y := 6) (by simp only [Int32.reduceToInt]; omega) (by simp only [Int32.reduceToInt]; omega)
  simp only [Int32.reduceToInt] at e3
  have e4 := i_add (x := (y * 5 + p) * 6) (y := w) (by omega) (by omega)
  have c1 := i_clamp (x := (y * 5 + p) * 6 + w) (by omega)
  have c2 := i_clamp y1
  have c3 := i_clamp p1
  have c4 := i_clamp w1
  exact ⟨by omega, by omega⟩
def c_lay (M : am_M) (a y b : Int32) : am_M := if (M.1 32 (6 * a.toNatClampNeg + 4)).toInt ≤ b.toInt ∧ b.toInt ≤ (M.1 32 (6 * a.toNatClampNeg + 5)).toInt then am_wI M 5 (30 * y.toNatClampNeg + 6 * (M.1 32 (6 * a.toNatClampNeg)).toNatClampNeg + (M.1 32 (6 * a.toNatClampNeg + 1)).toNatClampNeg) (M.1 32 (6 * a.toNatClampNeg + 2)) else M
def TE4_layAct : am_T := fun live as M R => match as with
  | [.ref n, .int a, .int y, .int b] => am_mn live ∧ n = 4 ∧ M.1 31 1 = 6 ∧ am_in a 61 ∧ am_in y 40 ∧ am_in (M.1 32 (6 * a.toNatClampNeg)) 5 ∧ am_in (M.1 32 (6 * a.toNatClampNeg + 1)) 6 ∧ R none (c_lay M a y b)
  | _ => False
set_option maxRecDepth 100000 in
set_option maxHeartbeats 4000000 in
theorem metX4_layActE : am_Met yX4_layAct cX4_layAct 6 none (1) (23) TE4_layAct := by
  refine am_met (own := RX4) (by decide +kernel) rfl kX4_layAct koX4_layAct 100 (fun _ _ _ _ _ => none) (fun live as M Ret h => ?_) (fun _ _ _ _ _ _ _ _ hI => by cases hI)
  unfold TE4_layAct at h
  split at h
  · next n a y b =>
    refine ⟨Nat.le_of_ble_eq_true rfl, ?_⟩
    change am_wp _ _ _ _ [(0, Value.ref n), (1, Value.int a), (2, Value.int y), (3, Value.int b)] _ _
    obtain ⟨hmn, rfl, hw, ha, hy, hpl, hwh, h⟩ := h
    have hmn2 := hmn
    obtain ⟨i1, i2, rfl⟩ := hmn2
    have l5 : am_len 5 = 1200 := rfl
    have f0 := c_at hw ha (c := 0) (k := 0) rfl (by decide)
    have f1 := c_at hw ha (c := 1) (k := 1) rfl (by decide)
    have f2 := c_at hw ha (c := 2) (k := 2) rfl (by decide)
    have f4 := c_at hw ha (c := 4) (k := 4) rfl (by decide)
    have f5 := c_at hw ha (c := 5) (k := 5) rfl (by decide)
    rw [Nat.add_zero] at f0
    rw [← f0] at hpl
    rw [← f1] at hwh
    have cc := c_cell hy hpl hwh
    have y1 := hy.1
    have y2 := hy.2
    have p1 := hpl.1
    have p2 := hpl.2
    have w1 := hwh.1
    have w2 := hwh.2
    have hc1 : ¬ (y * 5 + am_at (M.1 32) (am_len 32) (a * M.1 31 1 + 0)) * 6 + am_at (M.1 32) (am_len 32) (a * M.1 31 1 + 1) < 0 := fun q => by
      simp only [i_lt, cc.1, Int32.reduceToInt] at q
      omega
    have hc2 : ¬ Int32.ofNat (am_len 5) ≤ (y * 5 + am_at (M.1 32) (am_len 32) (a * M.1 31 1 + 0)) * 6 + am_at (M.1 32) (am_len 32) (a * M.1 31 1 + 1) := fun q => by
      have hn : (Int32.ofNat (am_len 5)).toInt = 1200 := by decide +kernel
      simp only [i_le, cc.1, hn] at q
      omega
    have hc3 : 0 ≤ ((y * 5 + am_at (M.1 32) (am_len 32) (a * M.1 31 1 + 0)) * 6 + am_at (M.1 32) (am_len 32) (a * M.1 31 1 + 1)).toInt := by omega
    have hc4 : ((y * 5 + am_at (M.1 32) (am_len 32) (a * M.1 31 1 + 0)) * 6 + am_at (M.1 32) (am_len 32) (a * M.1 31 1 + 1)).toInt < (am_len 5 : Int) := by rw [l5]; omega
    by_cases z4 : b < am_at (M.1 32) (am_len 32) (a * M.1 31 1 + 4)
    · have e : c_lay M a y b = M := if_neg (fun q => by have q1 := q.1; simp only [i_lt, f4] at z4; omega)
      rw [e] at h
      repeat' (first | (with_reducible exact hmn) | apply And.intro | exact rfl | (intro hx; with_reducible exact absurd z4 hx) | (intro hx; exact absurd hx (by decide)) | (intro hx; exact absurd (by decide) hx) | decide | intro hx | (refine Exists.intro _ (And.intro rfl ?_)))
      all_goals try first | (with_reducible change am_tI _ _) | (change Ret _ _) | (change Ret _ _ _) | (change Exists _)
      all_goals try dsimp only at *
      all_goals try (with_reducible exact absurd ‹(1000 : Int64) = 0› am_z1000)
      all_goals exact h
    · by_cases z5 : am_at (M.1 32) (am_len 32) (a * M.1 31 1 + 5) < b
      · have e : c_lay M a y b = M := if_neg (fun q => by have q1 := q.2; simp only [i_lt, f5] at z5; omega)
        rw [e] at h
        repeat' (first | (with_reducible exact hmn) | apply And.intro | exact rfl | (intro hx; with_reducible exact absurd hx z4) | (intro hx; with_reducible exact absurd z5 hx) | (intro hx; exact absurd hx (by decide)) | (intro hx; exact absurd (by decide) hx) | decide | intro hx | (refine Exists.intro _ (And.intro rfl ?_)))
        all_goals try first | (with_reducible change am_tI _ _) | (change Ret _ _) | (change Ret _ _ _) | (change Exists _)
        all_goals try dsimp only at *
        all_goals try (with_reducible exact absurd ‹(1000 : Int64) = 0› am_z1000)
        all_goals exact h
      · have e : c_lay M a y b = am_wI M 5 ((y * 5 + am_at (M.1 32) (am_len 32) (a * M.1 31 1 + 0)) * 6 + am_at (M.1 32) (am_len 32) (a * M.1 31 1 + 1)).toNatClampNeg (am_at (M.1 32) (am_len 32) (a * M.1 31 1 + 2)) := by
          rw [cc.2, f0, f1, f2]
          exact if_pos ⟨by simp only [i_lt, f4] at z4; omega, by simp only [i_lt, f5] at z5; omega⟩
        rw [e] at h
        repeat' (first | (with_reducible exact hmn) | (with_reducible exact hc3) | (with_reducible exact hc4) | apply And.intro | exact rfl | (intro hx; with_reducible exact absurd hx z4) | (intro hx; with_reducible exact absurd hx z5) | (intro hx; with_reducible exact absurd hx hc1) | (intro hx; with_reducible exact absurd hx hc2) | (intro hx; exact absurd hx (by decide)) | (intro hx; exact absurd (by decide) hx) | decide | intro hx | (refine Exists.intro _ (And.intro rfl ?_)))
        all_goals try first | (with_reducible change am_tI _ _) | (change Ret _ _) | (change Ret _ _ _) | (change Exists _)
        all_goals try dsimp only at *
        all_goals try (with_reducible exact absurd ‹(1000 : Int64) = 0› am_z1000)
        all_goals exact h
  · exact h.elim
def kX4_layNumbersE (live : am_E) (Ret : am_R) : am_code := [(0, am_const (.int 30) 2), (2, am_istore 2 5 3), (3, am_const (.int 0) 4), (4, am_istore 3 5 5), (5, am_iload 3 6), (6, am_iload 2 7), (7, am_if2 (fun x y => y ≤ x) 30 10), (10, am_aload 0 11), (11, am_getR live 4 1 14), (14, am_iload 3 15), (15, am_const (.ref 1000) 18), (18, am_iload 3 19), (19, am_const (.int 6) 21), (21, am_i2z (fun x y => x - x / y * y) 22), (22, am_sld 0 23), (23, am_ast live 0 24), (24, am_iinc 3 5 1 27), (27, am_goto 5), (30, am_const (.int 0) 31), (31, am_istore 3 5 32), (32, am_iload 3 33), (33, am_const (.int 40) 35), (35, am_if2 (fun x y => y ≤ x) 128 38), (38, am_iload 3 39), (39, am_if1 (fun x => x ≤ 0) 62 42), (42, am_aload 0 43), (43, am_getR live 4 1 46), (46, am_iload 3 47), (47, am_const (.int 1) 48), (48, am_i2 (fun x y => x - y) 49), (49, am_iload 2 50), (50, am_i2 (fun x y => x * y) 51), (51, am_aload 0 52), (52, am_getR live 4 1 55), (55, am_iload 3 56), (56, am_iload 2 57), (57, am_i2 (fun x y => x * y) 58), (58, am_iload 2 59), (59, am_copyI live 48 62), (62, am_const (.int 0) 63), (63, am_istore 4 5 65), (65, am_iload 4 67), (67, am_aload 0 68), (68, am_getR live 4 0 71), (71, am_getR live 0 3 74), (74, am_getI live 3 2 77), (77, am_if2 (fun x y => y ≤ x) 122 80), (80, am_aload 0 81), (81, am_getR live 4 0 84), (84, am_getR live 0 3 87), (87, am_iload 4 89), (89, am_const (.int 3) 90), (90, am_callV live 3 2 TX3_at 93), (93, am_iload 3 94), (94, am_if2 (fun x y => x = y) 97 116), (97, am_aload 0 98), (98, am_iload 4 100), (100, am_iload 3 101), (101, am_aload 0 102), (102, am_getR live 4 0 105), (105, am_getR live 0 0 108), (108, am_getR live 2 0 111), (111, am_iload 1 112), (112, am_ald live 0 113), (113, am_callV live 4 3 TE4_layAct 116), (116, am_iinc 4 5 1 119), (119, am_goto 65), (122, am_iinc 3 5 1 125), (125, am_goto 32), (128, am_retV Ret)]
theorem koX4_layNumbersE (live : am_E) (Ret : am_R) : ∀ q ∈ kX4_layNumbersE live Ret, am_ok RX4 cX4_layNumbers 5 none 2 48 live Ret q.1 q.2 :=
  am_kz dzX4_layNumbers <|
  am_kd (fun d => ak_bipush d (by decide +kernel) rfl) <|
  am_kd (fun d => ak_istore_n d rfl rfl) <|
  am_kd (fun d => ak_iconst d (by decide +kernel) rfl) <|
  am_kd (fun d => ak_istore_n d rfl rfl) <|
  am_kd (fun d => ak_iload_n d rfl rfl) <|
  am_kd (fun d => ak_iload_n d rfl rfl) <|
  am_kd (fun d => ak_icmp_ge d (by decide +kernel) rfl) <|
  am_kd (fun d => ak_aload_n d rfl rfl) <|
  am_kd (fun d => ak_getR (C := RX4) (T := TX4) (N := 19) rfl inX4w (by decide) rfl rfl rfl wd_294 d rfl) <|
  am_kd (fun d => ak_iload_n d rfl rfl) <|
  am_kd (fun d => ak_getsN (k := 0) (C := "LearnLoans") (n := "AT_FIRST") (d := "[I") (host := "LearnLoans") (by decide) rfl (by decide +kernel) d rfl) <|
  am_kd (fun d => ak_iload_n d rfl rfl) <|
  am_kd (fun d => ak_bipush d (by decide +kernel) rfl) <|
  am_kd (fun d => ak_irem d rfl) <|
  am_kd (fun d => ak_sld (by decide) d rfl) <|
  am_kd (fun d => ak_iast (t := 0) (fun _ => rfl) rfl d rfl) <|
  am_kd (fun d => ak_iinc d (by decide +kernel) rfl) <|
  am_kd (fun d => ak_goto d (by decide +kernel)) <|
  am_kd (fun d => ak_iconst d (by decide +kernel) rfl) <|
  am_kd (fun d => ak_istore_n d rfl rfl) <|
  am_kd (fun d => ak_iload_n d rfl rfl) <|
  am_kd (fun d => ak_bipush d (by decide +kernel) rfl) <|
  am_kd (fun d => ak_icmp_ge d (by decide +kernel) rfl) <|
  am_kd (fun d => ak_iload_n d rfl rfl) <|
  am_kd (fun d => ak_if_le d (by decide +kernel) rfl) <|
  am_kd (fun d => ak_aload_n d rfl rfl) <|
  am_kd (fun d => ak_getR (C := RX4) (T := TX4) (N := 19) rfl inX4w (by decide) rfl rfl rfl wd_294 d rfl) <|
  am_kd (fun d => ak_iload_n d rfl rfl) <|
  am_kd (fun d => ak_iconst d (by decide +kernel) rfl) <|
  am_kd (fun d => ak_isub d rfl) <|
  am_kd (fun d => ak_iload_n d rfl rfl) <|
  am_kd (fun d => ak_imul d rfl) <|
  am_kd (fun d => ak_aload_n d rfl rfl) <|
  am_kd (fun d => ak_getR (C := RX4) (T := TX4) (N := 19) rfl inX4w (by decide) rfl rfl rfl wd_294 d rfl) <|
  am_kd (fun d => ak_iload_n d rfl rfl) <|
  am_kd (fun d => ak_iload_n d rfl rfl) <|
  am_kd (fun d => ak_imul d rfl) <|
  am_kd (fun d => ak_iload_n d rfl rfl) <|
  am_kd (fun d => ak_copyI (am_w4 wd_499 wd_501 wd_500 wd_69) (by decide) d rfl) <|
  am_kd (fun d => ak_iconst d (by decide +kernel) rfl) <|
  am_kd (fun d => ak_istore d rfl) <|
  am_kd (fun d => ak_iload d rfl) <|
  am_kd (fun d => ak_aload_n d rfl rfl) <|
  am_kd (fun d => ak_getR (C := RX4) (T := TX4) (N := 19) rfl inX4w (by decide) rfl rfl rfl wd_291 d rfl) <|
  am_kd (fun d => ak_getR (C := RX0) (T := TX0) (N := 13) rfl inX0w (by decide) rfl rfl rfl wd_203 d rfl) <|
  am_kd (fun d => ak_getI (C := RX3) (T := TX3) (N := 3) rfl inX3w (by decide) rfl rfl rfl wd_149 d rfl) <|
  am_kd (fun d => ak_icmp_ge d (by decide +kernel) rfl) <|
  am_kd (fun d => ak_aload_n d rfl rfl) <|
  am_kd (fun d => ak_getR (C := RX4) (T := TX4) (N := 19) rfl inX4w (by decide) rfl rfl rfl wd_291 d rfl) <|
  am_kd (fun d => ak_getR (C := RX0) (T := TX0) (N := 13) rfl inX0w (by decide) rfl rfl rfl wd_203 d rfl) <|
  am_kd (fun d => ak_iload d rfl) <|
  am_kd (fun d => ak_iconst d (by decide +kernel) rfl) <|
  am_kd (fun d => ak_callV (C := RX3) (F := TX3) (N := 3) metX3_at rfl ⟨rfl, hy_X3_at⟩ (am_w5 wd_502 wd_503 wd_504 wd_64 wd_505) (by decide) d rfl) <|
  am_kd (fun d => ak_iload_n d rfl rfl) <|
  am_kd (fun d => ak_icmp_ne d (by decide +kernel) rfl) <|
  am_kd (fun d => ak_aload_n d rfl rfl) <|
  am_kd (fun d => ak_iload d rfl) <|
  am_kd (fun d => ak_iload_n d rfl rfl) <|
  am_kd (fun d => ak_aload_n d rfl rfl) <|
  am_kd (fun d => ak_getR (C := RX4) (T := TX4) (N := 19) rfl inX4w (by decide) rfl rfl rfl wd_291 d rfl) <|
  am_kd (fun d => ak_getR (C := RX0) (T := TX0) (N := 13) rfl inX0w (by decide) rfl rfl rfl wd_195 d rfl) <|
  am_kd (fun d => ak_getR (C := RX2) (T := TX2) (N := 8) rfl inX2w (by decide) rfl rfl rfl wd_107 d rfl) <|
  am_kd (fun d => ak_iload_n d rfl rfl) <|
  am_kd (fun d => ak_iald (t := 0) (fun _ => rfl) rfl d rfl) <|
  am_kd (fun d => ak_callV (C := RX4) (F := TX4) (N := 19) metX4_layActE rfl ⟨rfl, hy_X4_layAct⟩ (am_w5 wd_506 wd_508 wd_1 wd_60 wd_509) (by decide) d rfl) <|
  am_kd (fun d => ak_iinc d (by decide +kernel) rfl) <|
  am_kd (fun d => ak_goto d (by decide +kernel)) <|
  am_kd (fun d => ak_iinc d (by decide +kernel) rfl) <|
  am_kd (fun d => ak_goto d (by decide +kernel)) <|
  am_kd (fun d => ak_retV d) <| am_kdn
/-- nothing but the numbers has changed -/
def c_n5 (M N : am_M) : Prop := ∃ _ : Unit, (∀ a b, a ≠ 5 → N.1 a b = M.1 a b) ∧ ∀ a b, N.2 a b = M.2 a b
theorem c_n5.rf {M : am_M} : c_n5 M M := ⟨(), fun _ _ _ => rfl, fun _ _ => rfl⟩
theorem c_n5.i {M N : am_M} (h : c_n5 M N) {a : Nat} (ha : a ≠ 5) : N.1 a = M.1 a := by obtain ⟨-, h, -⟩ := h; exact funext fun b => h a b ha
theorem c_n5.wI {M N : am_M} {k : Nat} {v : Int32} (h : c_n5 M N) : c_n5 M (am_wI N 5 k v) := by
  obtain ⟨-, h1, h2⟩ := h
  exact ⟨(), fun a b z => by rw [am_wI_1, if_neg (fun q => z q.1)]; exact h1 a b z, h2⟩
theorem c_n5.cI {M N : am_M} {f : Nat → Int32} (h : c_n5 M N) : c_n5 M (am_cI N 5 f) := by
  obtain ⟨-, h1, h2⟩ := h
  exact ⟨(), fun a b z => by rw [am_cI_1, if_neg z]; exact h1 a b z, h2⟩
theorem c_n5.sc {M N : am_M} (h : c_n5 M N) : g_sc M N := by
  obtain ⟨-, h1, h2⟩ := h
  exact ⟨(), fun a b z => ⟨h1 a b (by omega), h2 a b⟩⟩
theorem c_n5.rI {M N : am_M} (h : c_n5 M N) (hr : g_rI M) : g_rI N := by
  obtain ⟨-, ⟨-, t1, t2, t3⟩, hs⟩ := hr
  have o := fun {a : Nat} (z : a ≠ 5) => h.i z
  refine ⟨(), ⟨(), fun k hk => by rw [o (by decide)]; exact t1 k hk, fun k hk => by rw [o (by decide)]; exact t2 k hk, ?_⟩, ?_⟩
  · unfold am_t0 at t3 ⊢
    simp only [o (show (39 : Nat) ≠ 5 by decide), o (show (42 : Nat) ≠ 5 by decide), o (show (45 : Nat) ≠ 5 by decide), o (show (48 : Nat) ≠ 5 by decide), o (show (51 : Nat) ≠ 5 by decide)]
    exact t3
  · obtain ⟨-, s1, s2, s3, s4, s5, s6, s7, s8, s9⟩ := hs
    exact ⟨(), by rw [o (by decide)]; exact s1, fun k hk => by rw [o (by decide)]; exact s2 k hk, fun k hk => by rw [o (by decide)]; exact s3 k hk, by rw [o (by decide)]; exact s4, by rw [o (by decide)]; exact s5, by rw [o (by decide)]; exact s6, by rw [o (by decide)]; exact s7, by rw [o (by decide)]; exact s8, by rw [o (by decide)]; exact s9⟩
abbrev q_Fn (M : am_M) (p : Int32) (pl w : Nat) (y : Int) : Int32 := q_F (M.1 32) (M.1 31 2).toNatClampNeg (M.1 22 p.toNatClampNeg) (Int32.ofNat pl) (Int32.ofNat w) y
abbrev q_Vn (M : am_M) (p : Int32) (pl w : Nat) (y : Int) (i : Nat) : Int32 := q_V (M.1 32) (M.1 31 2).toNatClampNeg (M.1 22 p.toNatClampNeg) (Int32.ofNat pl) (Int32.ofNat w) y i
/-- the numbers laid out for a person, for the first years -/
def c_rw (M0 : am_M) (p : Int32) (y : Nat) (M : am_M) : Prop := ∃ _ : Unit, ∀ y' pl w : Nat, y' < y → pl < 5 → w < 6 → M.1 5 (30 * y' + 6 * pl + w) = q_Fn M0 p pl w (y' : Int)
theorem c_rw.v {M0 M : am_M} {p : Int32} {y : Nat} (h : c_rw M0 p y M) {y' pl w : Nat} (h1 : y' < y) (h2 : pl < 5) (h3 : w < 6) : M.1 5 (30 * y' + 6 * pl + w) = q_Fn M0 p pl w (y' : Int) := by obtain ⟨-, h⟩ := h; exact h y' pl w h1 h2 h3
def c_rv (M0 : am_M) (p : Int32) (y i : Nat) (M : am_M) : Prop := ∃ _ : Unit, ∀ pl w : Nat, pl < 5 → w < 6 → M.1 5 (30 * y + 6 * pl + w) = q_Vn M0 p pl w (y : Int) i
theorem c_rv.v {M0 M : am_M} {p : Int32} {y i : Nat} (h : c_rv M0 p y i M) {pl w : Nat} (h2 : pl < 5) (h3 : w < 6) : M.1 5 (30 * y + 6 * pl + w) = q_Vn M0 p pl w (y : Int) i := by obtain ⟨-, h⟩ := h; exact h pl w h2 h3
theorem o_nat {n : Nat} (h : n < 100) : (Int32.ofNat n).toInt = (n : Int) ∧ (Int32.ofNat n).toNatClampNeg = n := by
  have e := i_nat (n := n) (by omega)
  have c := i_clamp (x := Int32.ofNat n) (by omega)
  exact ⟨e, by omega⟩
theorem o_eq {x : Int32} {n : Nat} (h : n < 100) (hx : 0 ≤ x.toInt) : x = Int32.ofNat n ↔ x.toNatClampNeg = n := by
  have e := o_nat h
  have c := i_clamp hx
  rw [i_eq]
  omega
theorem c_rw.n {M0 M : am_M} {p : Int32} {y : Nat} (h : c_rw M0 p y M) (hv : c_rv M0 p y (M0.1 31 2).toNatClampNeg M) : c_rw M0 p (y + 1) M := ⟨(), fun y' pl w h1 h2 h3 => by
  by_cases z : y' = y
  · subst z
    rw [hv.v h2 h3]
    exact q_V_n _ _ _ _ _ _
  · exact h.v (by omega) h2 h3⟩
theorem c_rv.s {M0 M N : am_M} {p : Int32} {y : Int32} {a : Int32} (hy : am_in y 40) (hA : c_A M0) (ha : am_in a 61) (ha2 : a.toInt < (M0.1 31 2).toInt) (e : c_n5 M0 M) (h : c_rv M0 p y.toNatClampNeg a.toNatClampNeg M) (hf : (M0.1 32 (6 * a.toNatClampNeg + 3)).toInt = y.toInt) (hN : N = c_lay M a y (M0.1 22 p.toNatClampNeg)) : c_rv M0 p y.toNatClampNeg (a.toNatClampNeg + 1) N := by
  have cy := i_clamp hy.1
  have ca := i_clamp ha.1
  obtain ⟨a1, a2, -⟩ := hA.a (i := a.toNatClampNeg) (by omega)
  refine ⟨(), fun pl w h2 h3 => ?_⟩
  have op := o_eq (x := M0.1 32 (6 * a.toNatClampNeg)) (n := pl) (by omega) a1.1
  have ow := o_eq (x := M0.1 32 (6 * a.toNatClampNeg + 1)) (n := w) (by omega) a2.1
  have c1 := i_clamp a1.1
  have c2 := i_clamp a2.1
  have b1 := a1.2
  have b2 := a2.2
  rw [hN]
  unfold c_lay
  rw [e.i (show (32 : Nat) ≠ 5 by decide)]
  by_cases z : (M0.1 32 (6 * a.toNatClampNeg + 4)).toInt ≤ (M0.1 22 p.toNatClampNeg).toInt ∧ (M0.1 22 p.toNatClampNeg).toInt ≤ (M0.1 32 (6 * a.toNatClampNeg + 5)).toInt
  · rw [if_pos z, am_wI_1]
    by_cases z2 : (M0.1 32 (6 * a.toNatClampNeg)).toNatClampNeg = pl ∧ (M0.1 32 (6 * a.toNatClampNeg + 1)).toNatClampNeg = w
    · rw [if_pos ⟨rfl, by omega⟩]
      exact (q_V_y ⟨decide_eq_true ⟨op.mpr z2.1, ow.mpr z2.2, z.1, z.2⟩, by omega⟩).symm
    · rw [if_neg (fun q => z2 (by omega)), h.v h2 h3]
      exact (q_V_s (fun q => z2 (by have q1 := of_decide_eq_true q.1; exact ⟨op.mp q1.1, ow.mp q1.2.1⟩))).symm
  · rw [if_neg z, h.v h2 h3]
    exact (q_V_s (fun q => z (by have q1 := of_decide_eq_true q.1; exact q1.2.2))).symm
theorem c_rv.k {M0 M : am_M} {p : Int32} {y i : Nat} (h : c_rv M0 p y i M) (hf : ¬ (M0.1 32 (6 * i + 3)).toInt = (y : Int)) : c_rv M0 p y (i + 1) M := ⟨(), fun pl w h2 h3 => by
  rw [h.v h2 h3]
  exact (q_V_s (fun q => hf q.2)).symm⟩
theorem c_rw.l {M0 M : am_M} {p : Int32} {a y : Int32} (h : c_rw M0 p y.toNatClampNeg M) (h1 : am_in (M.1 32 (6 * a.toNatClampNeg)) 5) (h2 : am_in (M.1 32 (6 * a.toNatClampNeg + 1)) 6) (b : Int32) : c_rw M0 p y.toNatClampNeg (c_lay M a y b) := ⟨(), fun y' pl w z1 z2 z3 => by
  unfold c_lay
  split
  · rw [am_wI_1, if_neg (fun q => by omega)]
    exact h.v z1 z2 z3
  · exact h.v z1 z2 z3⟩
theorem c_n5.l {M0 M : am_M} {a y b : Int32} (h : c_n5 M0 M) : c_n5 M0 (c_lay M a y b) := by
  unfold c_lay
  split
  · exact h.wI
  · exact h
def TE4_layNumbers : am_T := fun live as M R => match as with
  | [.ref n, .int p] => am_mn live ∧ n = 4 ∧ am_in p 12 ∧ c_A M ∧ ∀ M', c_n5 M M' → c_rw M p 40 M' → R none M'
  | _ => False
def JE4_layNumbers : am_E → List Value → am_M → am_R → am_inv := fun live as M0 _ pc => match as with
  | [.ref n, .int p] => (match pc with
    | 5 => some ([0, 1, 2, 3], fun k L st M => ∃ i : Int32, L = [(0, .ref 4), (1, .int p), (2, .int 30), (3, .int i)] ∧ st = [] ∧ k = (1000 + (31 - i.toInt).toNat, 0) ∧ (0 ≤ i.toInt ∧ i.toInt ≤ 30) ∧ c_n5 M0 M ∧ ∀ j : Nat, (j : Int) < i.toInt → M.1 5 j = am_sf 0 (j % 6))
    | 32 => some ([0, 1, 2, 3], fun k L st M => ∃ y : Int32, L = [(0, .ref 4), (1, .int p), (2, .int 30), (3, .int y)] ∧ st = [] ∧ k = ((42 - y.toInt).toNat * 2, 0) ∧ (0 ≤ y.toInt ∧ y.toInt ≤ 40) ∧ c_n5 M0 M ∧ c_rw M0 p y.toNatClampNeg M ∧ (y = 0 → ∀ j : Nat, j < 30 → M.1 5 j = am_sf 0 (j % 6)))
    | 65 => some ([0, 1, 2, 3, 4], fun k L st M => ∃ y i : Int32, L = [(0, .ref 4), (1, .int p), (2, .int 30), (3, .int y), (4, .int i)] ∧ st = [] ∧ k = ((42 - y.toInt).toNat * 2 - 1, (100 - i.toInt).toNat) ∧ (0 ≤ y.toInt ∧ y.toInt < 40) ∧ (0 ≤ i.toInt ∧ i.toInt ≤ (M0.1 31 2).toInt) ∧ c_n5 M0 M ∧ c_rw M0 p y.toNatClampNeg M ∧ c_rv M0 p y.toNatClampNeg i.toNatClampNeg M)
    | _ => none)
  | _ => none
theorem i_rem6e {x : Int32} (h1 : 0 ≤ x.toInt) (h2 : x.toInt < 1000000) : (x - x / 6 * 6).toNatClampNeg = x.toNatClampNeg % 6 := by
  have e := i_div (x := x) (y := 6) h1 (by decide)
  simp only [Int32.reduceToInt] at e
  have e2 := i_mul (x := x / 6) (y := 6) (by simp only [Int32.reduceToInt]; omega) (by simp only [Int32.reduceToInt]; omega)
  simp only [Int32.reduceToInt] at e2
  have e3 := i_sub (x := x) (y := x / 6 * 6) (by omega) (by omega)
  have c1 := i_clamp (x := x - x / 6 * 6) (by omega)
  have c2 := i_clamp h1
  omega
set_option maxRecDepth 100000 in
set_option maxHeartbeats 4000000 in
theorem metX4_layNumbersE : am_Met yX4_layNumbers cX4_layNumbers 5 none (2) (48) TE4_layNumbers := by
  refine am_met (own := RX4) (by decide +kernel) rfl kX4_layNumbersE koX4_layNumbersE 150 JE4_layNumbers ?_ ?_
  · intro live as M Ret h
    unfold TE4_layNumbers at h
    split at h
    · next n p =>
      refine ⟨Nat.le_of_ble_eq_true rfl, ?_⟩
      change am_wp _ _ _ _ [(0, Value.ref n), (1, Value.int p)] _ _
      obtain ⟨hmn, rfl, hp, hA, h⟩ := h
      repeat' (first | apply And.intro | exact rfl | intro hx | (refine Exists.intro _ (And.intro rfl ?_)))
      all_goals try first | (with_reducible change am_tI _ _) | (change Ret _ _) | (change Ret _ _ _) | (change Exists _)
      all_goals try dsimp only at *
      all_goals try (with_reducible exact absurd ‹(1000 : Int64) = 0› am_z1000)
      exact ⟨_, _, rfl, rfl, rfl, ⟨by decide, by decide⟩, c_n5.rf, fun j hj => absurd hj (by simp only [Int32.reduceToInt]; omega)⟩
    · exact h.elim
  · intro live as M0 Ret h k pc I hI L st M hi
    unfold TE4_layNumbers at h
    split at h
    · next n p =>
      obtain ⟨hmn, rfl, hp, hA, h⟩ := h
      have hmn2 := hmn
      obtain ⟨i1, i2, rfl⟩ := hmn2
      have l5 : am_len 5 = 1200 := rfl
      have hn := hA.n
      change (match pc with | 5 => _ | 32 => _ | 65 => _ | _ => none) = _ at hI
      split at hI
      · cases hI
        obtain ⟨i, rfl, rfl, rfl, ⟨e1, e4⟩, e2, e3⟩ := hi
        by_cases hz : (30 : Int32) ≤ i
        · have hz2 := hz
          simp only [i_le, Int32.reduceToInt] at hz2
          repeat' (first | apply And.intro | exact rfl | (intro hx; with_reducible exact absurd hz hx) | intro hx | (refine Exists.intro _ (And.intro rfl ?_)))
          all_goals try first | (with_reducible change am_tI _ _) | (change Ret _ _) | (change Ret _ _ _) | (change Exists _)
          all_goals try dsimp only at *
          all_goals try (with_reducible exact absurd ‹(1000 : Int64) = 0› am_z1000)
          exact ⟨_, am_lt_l (by simp only [Int32.reduceToInt]; omega), _, rfl, rfl, rfl, ⟨by decide, by decide⟩, e2, ⟨(), fun y' pl w z1 _ _ => absurd z1 (by rw [show (0 : Int32).toNatClampNeg = 0 from rfl]; omega)⟩, fun _ j hj => e3 j (by omega)⟩
        · have hz2 := hz
          simp only [i_le, Int32.reduceToInt] at hz2
          have hi := i_inc (x := i) (by omega) (by omega)
          have ci := i_clamp e1
          have hr6 := i_rem6 (x := i) e1 (by omega)
          have hr7 := i_rem6e (x := i) e1 (by omega)
          repeat' (first | apply And.intro | exact rfl | (intro hx; with_reducible exact absurd hx hz) | intro hx | (refine Exists.intro _ (And.intro rfl ?_)))
          all_goals try first | (with_reducible change am_tI _ _) | (change Ret _ _) | (change Ret _ _ _) | (change Exists _)
          all_goals try dsimp only at *
          all_goals try (with_reducible exact absurd ‹(1000 : Int64) = 0› am_z1000)
          all_goals first
            | decide
            | exact absurd hx (by decide)
            | (with_reducible exact hr6.1)
            | (with_reducible exact hr6.2)
            | omega
            | (rw [l5]; omega)
            | exact hr6.1
            | exact hr6.2
            | skip
          refine ⟨_, am_lt_l (by omega), _, rfl, rfl, rfl, ⟨by omega, by omega⟩, e2.wI, fun j hj => ?_⟩
          rw [am_wI_1]
          by_cases z : j = i.toNatClampNeg
          · rw [if_pos ⟨rfl, z⟩, hr7, z]
          · rw [if_neg (fun q => z q.2)]
            exact e3 j (by omega)
      · cases hI
        obtain ⟨y, rfl, rfl, rfl, ⟨e1, e4⟩, e2, e3, e5⟩ := hi
        by_cases hz : (40 : Int32) ≤ y
        · have hz2 := hz
          simp only [i_le, Int32.reduceToInt] at hz2
          have cy := i_clamp e1
          rw [show y.toNatClampNeg = 40 by omega] at e3
          repeat' (first | apply And.intro | exact rfl | (intro hx; with_reducible exact absurd hz hx) | intro hx | (refine Exists.intro _ (And.intro rfl ?_)))
          all_goals try first | (with_reducible change am_tI _ _) | (change Ret _ _) | (change Ret _ _ _) | (change Exists _)
          all_goals try dsimp only at *
          all_goals try (with_reducible exact absurd ‹(1000 : Int64) = 0› am_z1000)
          exact h _ e2 e3
        · have hz2 := hz
          simp only [i_le, Int32.reduceToInt] at hz2
          have cy := i_clamp e1
          have hs := i_sub (x := y) (y := 1) (by simp only [Int32.reduceToInt]; omega) (by simp only [Int32.reduceToInt]; omega)
          simp only [Int32.reduceToInt] at hs
          have ht := i_mul (x := y - 1) (y := 30) (by simp only [Int32.reduceToInt]; omega) (by simp only [Int32.reduceToInt]; omega)
          simp only [Int32.reduceToInt] at ht
          have hu := i_mul (x := y) (y := 30) (by simp only [Int32.reduceToInt]; omega) (by simp only [Int32.reduceToInt]; omega)
          simp only [Int32.reduceToInt] at hu
          have hq : ∀ j : Nat, j < (M0.1 31 2).toNatClampNeg → 0 ≤ (M0.1 32 (6 * j + 3)).toInt := fun j hj => (hA.a (i := j) (by have := i_clamp hn.1; omega)).2.2
          by_cases hw : y ≤ 0
          · have y0 : y = 0 := by
              have hw2 := hw
              simp only [i_le, Int32.reduceToInt] at hw2
              rw [i_eq]
              simp only [Int32.reduceToInt]
              omega
            have e6 : c_rv M0 p y.toNatClampNeg (0 : Int32).toNatClampNeg M := ⟨(), fun pl w h2 h3 => by
              subst y0
              show M.1 5 (30 * 0 + 6 * pl + w) = q_V _ _ _ _ _ _ 0
              rw [q_V_0, q_F_neg (by decide) hq, e5 rfl _ (by omega), (o_nat (n := w) (by omega)).2, show (30 * 0 + 6 * pl + w) % 6 = w by omega]⟩
            repeat' (first | apply And.intro | exact rfl | (intro hx; with_reducible exact absurd hx hz) | (intro hx; with_reducible exact absurd hw hx) | intro hx | (refine Exists.intro _ (And.intro rfl ?_)))
            all_goals try first | (with_reducible change am_tI _ _) | (change Ret _ _) | (change Ret _ _ _) | (change Exists _)
            all_goals try dsimp only at *
            all_goals try (with_reducible exact absurd ‹(1000 : Int64) = 0› am_z1000)
            exact ⟨_, am_lt_l (by omega), _, _, rfl, rfl, rfl, ⟨e1, by omega⟩, ⟨by decide, hn.1⟩, e2, e3, e6⟩
          · have hw2 := hw
            simp only [i_le, Int32.reduceToInt] at hw2
            have c1 := i_clamp (x := (y - 1) * 30) (by omega)
            have c2 := i_clamp (x := y * 30) (by omega)
            repeat' (first | apply And.intro | exact rfl | (intro hx; with_reducible exact absurd hx hz) | (intro hx; with_reducible exact absurd hx hw) | intro hx | (refine Exists.intro _ (And.intro rfl ?_)))
            all_goals try first | (with_reducible change am_tI _ _) | (change Ret _ _) | (change Ret _ _ _) | (change Exists _)
            all_goals try dsimp only at *
            all_goals try (with_reducible exact absurd ‹(1000 : Int64) = 0› am_z1000)
            all_goals first
              | (refine ⟨_, am_lt_l (by omega), _, _, rfl, rfl, rfl, ⟨e1, by omega⟩, ⟨by decide, hn.1⟩, e2.cI, ⟨(), fun y' pl w z1 z2 z3 => ?_⟩, ⟨(), fun pl w h2 h3 => ?_⟩⟩)
              | (simp only [l5, Int32.reduceToInt]; omega)
              | omega
              | skip
            · rw [am_cI_1, if_pos rfl]
              unfold va_cpy
              rw [if_neg (fun q => by omega)]
              exact e3.v z1 z2 z3
            · rw [am_cI_1, if_pos rfl]
              unfold va_cpy
              rw [if_pos ⟨by omega, by rw [show (30 : Int32).toNatClampNeg = 30 from rfl]; omega⟩]
              have e6 := e3.v (y' := y.toNatClampNeg - 1) (by omega) h2 h3
              rw [show ((y - 1) * 30).toNatClampNeg + (30 * y.toNatClampNeg + 6 * pl + w - (y * 30).toNatClampNeg) = 30 * (y.toNatClampNeg - 1) + 6 * pl + w by omega, e6]
              show _ = q_V _ _ _ _ _ _ 0
              rw [q_V_0, show ((y.toNatClampNeg : Nat) : Int) - 1 = ((y.toNatClampNeg - 1 : Nat) : Int) by omega]
      · cases hI
        obtain ⟨y, i, rfl, rfl, rfl, ⟨e0, e4⟩, ⟨e1, e5⟩, e2, e3, e6⟩ := hi
        have hy := i_inc (x := y) (by omega) (by omega)
        have cy := i_clamp e0
        have ci := i_clamp e1
        have cn := i_clamp hn.1
        have cy1 := i_clamp (x := y + 1) (by omega)
        have x31 := e2.i (show (31 : Nat) ≠ 5 by decide)
        have x32 := e2.i (show (32 : Nat) ≠ 5 by decide)
        have x22 := e2.i (show (22 : Nat) ≠ 5 by decide)
        by_cases hz : M.1 31 2 ≤ i
        · have hz2 := hz
          simp only [i_le, x31] at hz2
          have e7 := e3.n (by rw [show (M0.1 31 2).toNatClampNeg = i.toNatClampNeg by omega]; exact e6)
          rw [show y.toNatClampNeg + 1 = (y + 1).toNatClampNeg by omega] at e7
          have y0 : y + 1 = 0 → ∀ j : Nat, j < 30 → M.1 5 j = am_sf 0 (j % 6) := fun q => by
            rw [q] at hy
            simp only [Int32.reduceToInt] at hy
            omega
          repeat' (first | apply And.intro | exact rfl | (intro hx; with_reducible exact absurd hz hx) | intro hx | (refine Exists.intro _ (And.intro rfl ?_)))
          all_goals try first | (with_reducible change am_tI _ _) | (change Ret _ _) | (change Ret _ _ _) | (change Exists _)
          all_goals try dsimp only at *
          all_goals try (with_reducible exact absurd ‹(1000 : Int64) = 0› am_z1000)
          exact ⟨_, am_lt_l (by omega), _, rfl, rfl, rfl, ⟨by omega, by omega⟩, e2, e7, y0⟩
        · have hz2 := hz
          simp only [i_le, x31] at hz2
          have hi := i_add (x := i) (y := 1) (by simp only [Int32.reduceToInt]; omega) (by simp only [Int32.reduceToInt]; omega)
          simp only [Int32.reduceToInt] at hi
          have ci1 := i_clamp (x := i + 1) (by omega)
          have l22 : am_len 22 = 12 := rfl
          have hp1 := hp.1
          have hp2 := hp.2
          have ha : am_in i 61 := ⟨e1, by omega⟩
          have hyi : am_in y 40 := ⟨e0, by omega⟩
          have hw : M.1 31 1 = 6 := by rw [x31]; exact hA.w
          obtain ⟨a1, a2, a3⟩ := hA.a (i := i.toNatClampNeg) (by omega)
          have f3 := c_at hw ha (c := 3) (k := 3) rfl (by decide)
          have b1 : am_in (M.1 32 (6 * i.toNatClampNeg)) 5 := by rw [x32]; exact a1
          have b2 : am_in (M.1 32 (6 * i.toNatClampNeg + 1)) 6 := by rw [x32]; exact a2
          have z22 : p.toInt < (am_len 22 : Int) := by rw [l22]; omega
          by_cases hf : am_at (M.1 32) (am_len 32) (i * M.1 31 1 + 3) = y
          · have g : (M0.1 32 (6 * i.toNatClampNeg + 3)).toInt = y.toInt := by rw [← x32, ← f3, hf]
            have e7 := e6.s hyi hA ha (by omega) e2 g rfl
            rw [show i.toNatClampNeg + 1 = (i + 1).toNatClampNeg by omega, ← x22] at e7
            repeat' (first | (with_reducible exact hmn) | (with_reducible exact hw) | (with_reducible exact ha) | (with_reducible exact hyi) | (with_reducible exact b1) | (with_reducible exact b2) | (with_reducible exact hp1) | (with_reducible exact z22) | apply And.intro | exact rfl | (intro hx; with_reducible exact absurd hx hz) | (intro hx; with_reducible exact absurd hf hx) | (intro hx; exact absurd hx (by decide)) | (intro hx; exact absurd (by decide) hx) | decide | intro hx | (refine Exists.intro _ (And.intro rfl ?_)))
            all_goals try first | (with_reducible change am_tI _ _) | (change Ret _ _) | (change Ret _ _ _) | (change Exists _)
            all_goals try dsimp only at *
            all_goals try (with_reducible exact absurd ‹(1000 : Int64) = 0› am_z1000)
            all_goals exact ⟨_, am_lt_r (by omega), _, _, rfl, rfl, rfl, ⟨e0, e4⟩, ⟨by omega, by omega⟩, e2.l, e3.l b1 b2 _, e7⟩
          · have g : ¬ (M0.1 32 (6 * i.toNatClampNeg + 3)).toInt = ((y.toNatClampNeg : Nat) : Int) := fun q => hf (by rw [f3, x32, i_eq]; omega)
            have e7 := e6.k g
            rw [show i.toNatClampNeg + 1 = (i + 1).toNatClampNeg by omega] at e7
            repeat' (first | (with_reducible exact hmn) | apply And.intro | exact rfl | (intro hx; with_reducible exact absurd hx hz) | (intro hx; with_reducible exact absurd hx hf) | (intro hx; exact absurd hx (by decide)) | (intro hx; exact absurd (by decide) hx) | decide | intro hx | (refine Exists.intro _ (And.intro rfl ?_)))
            all_goals try first | (with_reducible change am_tI _ _) | (change Ret _ _) | (change Ret _ _ _) | (change Exists _)
            all_goals try dsimp only at *
            all_goals try (with_reducible exact absurd ‹(1000 : Int64) = 0› am_z1000)
            all_goals exact ⟨_, am_lt_r (by omega), _, _, rfl, rfl, rfl, ⟨e0, e4⟩, ⟨by omega, by omega⟩, e2, e3, e7⟩
      · cases hI
    · exact h.elim
end
-- part 78.exact3.lean.txt
section
/-! exact: planOf, force -/
def kX8_planOfE (live : am_E) (Ret : am_R) : am_code := [(0, am_aload 0 1), (1, am_iload 1 2), (2, am_callV live 8 1 TX8_isLoan 5), (5, am_if1 (fun x => x = 0) 24 8), (8, am_iload 2 9), (9, am_callS live 1 TX8_isYear 12), (12, am_if1 (fun x => x = 0) 24 15), (15, am_aload 0 16), (16, am_iload 1 17), (17, am_iload 2 18), (18, am_callV live 8 2 TE8_planAt 21), (21, am_goto 26), (24, am_const (.int (-2)) 26), (26, am_retI Ret)]
theorem koX8_planOfE (live : am_E) (Ret : am_R) : ∀ q ∈ kX8_planOfE live Ret, am_ok RX8 cX8_planOf 3 (some .int) 2 46 live Ret q.1 q.2 :=
  am_kz dzX8_planOf <|
  am_kd (fun d => ak_aload_n d rfl rfl) <|
  am_kd (fun d => ak_iload_n d rfl rfl) <|
  am_kd (fun d => ak_callV (C := RX8) (F := TX8) (N := 27) metX8_isLoan rfl ⟨rfl, hy_X8_isLoan⟩ (am_w5 wd_1069 wd_1071 wd_30 wd_67 wd_1072) (by decide) d rfl) <|
  am_kd (fun d => ak_if_eq d (by decide +kernel) rfl) <|
  am_kd (fun d => ak_iload_n d rfl rfl) <|
  am_kd (fun d => ak_callS metX8_isYear ⟨rfl, hy_X8_isYear⟩ (am_w4 wd_982 wd_983 wd_67 wd_984) (by decide) d rfl) <|
  am_kd (fun d => ak_if_eq d (by decide +kernel) rfl) <|
  am_kd (fun d => ak_aload_n d rfl rfl) <|
  am_kd (fun d => ak_iload_n d rfl rfl) <|
  am_kd (fun d => ak_iload_n d rfl rfl) <|
  am_kd (fun d => ak_callV (C := RX8) (F := TX8) (N := 27) metX8_planAtE rfl ⟨rfl, hy_X8_planAt⟩ (am_w5 wd_1085 wd_1087 wd_32 wd_67 wd_1088) (by decide) d rfl) <|
  am_kd (fun d => ak_goto d (by decide +kernel)) <|
  am_kd (fun d => ak_bipush d (by decide +kernel) rfl) <|
  am_kd (fun d => ak_retI d) <| am_kdn
def r_planOf (M : am_M) (l y : Int32) : Int32 × am_M := if 0 ≤ l ∧ l < M.1 201 1 then (if 0 ≤ y ∧ y < 40 then (r_pl M l y, M) else ((-2 : Int32), M)) else ((-2 : Int32), M)
def TE8_planOf : am_T := fun live as M R => match as with
  | [.ref n, .int l, .int y] => am_mn live ∧ n = 200 ∧ r_I M ∧ R (some (.int (r_planOf M l y).1)) (r_planOf M l y).2
  | _ => False
set_option maxRecDepth 100000 in
set_option maxHeartbeats 4000000 in
theorem metX8_planOfE : am_Met yX8_planOf cX8_planOf 3 (some .int) (2) (46) TE8_planOf := by
  refine am_met (own := RX8) (by decide +kernel) rfl kX8_planOfE koX8_planOfE 200 (fun _ _ _ _ _ => none) (fun live as M Ret h => ?_) (fun _ _ _ _ _ _ _ _ hI => by cases hI)
  unfold TE8_planOf at h
  split at h
  · next n l y =>
    refine ⟨Nat.le_of_ble_eq_true rfl, ?_⟩
    change am_wp _ _ _ _ [(0, Value.ref n), (1, Value.int l), (2, Value.int y)] _ _
    obtain ⟨hmn, rfl, hR, h⟩ := h
    have hmn2 := hmn
    obtain ⟨i1, i2, rfl⟩ := hmn2
    have l201 : am_len 201 = 3760 := rfl
    have n0 := hR.n0
    have n1 := hR.n1
    have n030 : 0 ≤ (M.1 201 0).toInt ∧ (M.1 201 0).toInt ≤ 30 := ⟨n0.1, by omega⟩
    by_cases z0 : 0 ≤ l ∧ l < M.1 201 1
    rotate_left
    · skip
      have q0 : (if 0 ≤ l ∧ l < M.1 201 1 then (1 : Int32) else 0) = 0 := if_neg z0
      have e : r_planOf M l y = ((-2 : Int32), M) := by unfold r_planOf; rw [if_neg z0]
      rw [e] at h
      repeat' (first | (with_reducible exact hmn) | (with_reducible exact h) | (with_reducible exact n030) | (with_reducible exact n1) | apply And.intro | exact rfl | (intro hx; with_reducible exact absurd q0 hx) | (intro hx; exact absurd hx (by decide)) | (intro hx; exact absurd (by decide) hx) | decide | intro hx | (refine Exists.intro _ (And.intro rfl ?_)))
      all_goals try first | (with_reducible change am_tI _ _) | (change Ret _ _) | (change Ret _ _ _) | (change Exists _)
      all_goals try dsimp only at *
      all_goals try (with_reducible exact absurd ‹(1000 : Int64) = 0› am_z1000)
      all_goals first | (with_reducible exact h) | (with_reducible exact n0.1) | omega | (show _ < _; simp only [l201]; decide) | exact h | exact n0.1 | skip
    · skip
      have q0 : ¬ ((if 0 ≤ l ∧ l < M.1 201 1 then (1 : Int32) else 0) = 0) := by rw [if_pos z0]; decide
      by_cases z1 : 0 ≤ y ∧ y < 40
      rotate_left
      · skip
        have q1 : (if 0 ≤ y ∧ y < 40 then (1 : Int32) else 0) = 0 := if_neg z1
        have e : r_planOf M l y = ((-2 : Int32), M) := by unfold r_planOf; rw [if_pos z0, if_neg z1]
        rw [e] at h
        repeat' (first | (with_reducible exact hmn) | (with_reducible exact h) | (with_reducible exact n030) | (with_reducible exact n1) | apply And.intro | exact rfl | (intro hx; with_reducible exact absurd hx q0) | (intro hx; with_reducible exact absurd q1 hx) | (intro hx; exact absurd hx (by decide)) | (intro hx; exact absurd (by decide) hx) | decide | intro hx | (refine Exists.intro _ (And.intro rfl ?_)))
        all_goals try first | (with_reducible change am_tI _ _) | (change Ret _ _) | (change Ret _ _ _) | (change Exists _)
        all_goals try dsimp only at *
        all_goals try (with_reducible exact absurd ‹(1000 : Int64) = 0› am_z1000)
        all_goals first | (with_reducible exact h) | (with_reducible exact n0.1) | omega | (show _ < _; simp only [l201]; decide) | exact h | exact n0.1 | skip
      · skip
        have q1 : ¬ ((if 0 ≤ y ∧ y < 40 then (1 : Int32) else 0) = 0) := by rw [if_pos z1]; decide
        have hl : am_in l 30 := ⟨by have q := z0.1; simp only [i_le, Int32.reduceToInt] at q; omega, by have q := z0.2; simp only [i_lt] at q; omega⟩
        have hy : am_in y 40 := ⟨by have q := z1.1; simp only [i_le, Int32.reduceToInt] at q; omega, by have q := z1.2; simp only [i_lt, Int32.reduceToInt] at q; omega⟩
        have hy1 := hy.1
        have e : r_planOf M l y = (r_pl M l y, M) := by unfold r_planOf; rw [if_pos z0, if_pos z1]
        rw [e] at h
        repeat' (first | (with_reducible exact hmn) | (with_reducible exact n030) | (with_reducible exact n1) | (with_reducible exact hl) | (with_reducible exact hy1) | (with_reducible exact hR) | apply And.intro | exact rfl | (intro hx; with_reducible exact absurd hx q0) | (intro hx; with_reducible exact absurd hx q1) | ((with_reducible change r_I _); (with_reducible assumption)) | (intro hx; exact absurd hx (by decide)) | (intro hx; exact absurd (by decide) hx) | decide | intro hx | (refine Exists.intro _ (And.intro rfl ?_)))
        all_goals try first | (with_reducible change am_tI _ _) | (change Ret _ _) | (change Ret _ _ _) | (change Exists _)
        all_goals try dsimp only at *
        all_goals try (with_reducible exact absurd ‹(1000 : Int64) = 0› am_z1000)
        all_goals first | (with_reducible exact h) | (with_reducible exact n0.1) | omega | (show _ < _; simp only [l201]; decide) | exact h | exact n0.1 | skip
  · exact h.elim
def kX8_forceE (live : am_E) (Ret : am_R) : am_code := [(0, am_iload 1 1), (1, am_callS live 1 TX8_isPlan 4), (4, am_if1 (fun x => x = 0) 42 7), (7, am_iload 2 8), (8, am_callS live 1 TX8_isWhat 11), (11, am_if1 (fun x => x = 0) 42 14), (14, am_aload 0 15), (15, am_iload 3 16), (16, am_callV live 8 1 TX8_isPerson 19), (19, am_if1 (fun x => x = 0) 42 22), (22, am_iload 4 24), (24, am_callS live 1 TX8_isYear 27), (27, am_if1 (fun x => x = 0) 42 30), (30, am_aload 0 31), (31, am_iload 1 32), (32, am_iload 2 33), (33, am_iload 3 34), (34, am_iload 4 36), (36, am_callV live 8 4 TE8_inForce 39), (39, am_goto 44), (42, am_const (.int (-2)) 44), (44, am_retI Ret)]
theorem koX8_forceE (live : am_E) (Ret : am_R) : ∀ q ∈ kX8_forceE live Ret, am_ok RX8 cX8_force 5 (some .int) 2 53 live Ret q.1 q.2 :=
  am_kz dzX8_force <|
  am_kd (fun d => ak_iload_n d rfl rfl) <|
  am_kd (fun d => ak_callS metX8_isPlan ⟨rfl, hy_X8_isPlan⟩ (am_w4 wd_1034 wd_1035 wd_67 wd_1036) (by decide) d rfl) <|
  am_kd (fun d => ak_if_eq d (by decide +kernel) rfl) <|
  am_kd (fun d => ak_iload_n d rfl rfl) <|
  am_kd (fun d => ak_callS metX8_isWhat ⟨rfl, hy_X8_isWhat⟩ (am_w4 wd_1038 wd_1039 wd_67 wd_1040) (by decide) d rfl) <|
  am_kd (fun d => ak_if_eq d (by decide +kernel) rfl) <|
  am_kd (fun d => ak_aload_n d rfl rfl) <|
  am_kd (fun d => ak_iload_n d rfl rfl) <|
  am_kd (fun d => ak_callV (C := RX8) (F := TX8) (N := 27) metX8_isPerson rfl ⟨rfl, hy_X8_isPerson⟩ (am_w5 wd_993 wd_995 wd_27 wd_67 wd_996) (by decide) d rfl) <|
  am_kd (fun d => ak_if_eq d (by decide +kernel) rfl) <|
  am_kd (fun d => ak_iload d rfl) <|
  am_kd (fun d => ak_callS metX8_isYear ⟨rfl, hy_X8_isYear⟩ (am_w4 wd_982 wd_983 wd_67 wd_984) (by decide) d rfl) <|
  am_kd (fun d => ak_if_eq d (by decide +kernel) rfl) <|
  am_kd (fun d => ak_aload_n d rfl rfl) <|
  am_kd (fun d => ak_iload_n d rfl rfl) <|
  am_kd (fun d => ak_iload_n d rfl rfl) <|
  am_kd (fun d => ak_iload_n d rfl rfl) <|
  am_kd (fun d => ak_iload d rfl) <|
  am_kd (fun d => ak_callV (C := RX8) (F := TX8) (N := 27) metX8_inForceE rfl ⟨rfl, hy_X8_inForce⟩ (am_w5 wd_1053 wd_1055 wd_29 wd_67 wd_1056) (by decide) d rfl) <|
  am_kd (fun d => ak_goto d (by decide +kernel)) <|
  am_kd (fun d => ak_bipush d (by decide +kernel) rfl) <|
  am_kd (fun d => ak_retI d) <| am_kdn
def r_force (M : am_M) (pl w p y : Int32) : Int32 × am_M := if 0 ≤ pl ∧ pl < 5 then (if 0 ≤ w ∧ w < 6 then (if 0 ≤ p ∧ p < M.1 201 0 then (if 0 ≤ y ∧ y < 40 then (r_inF M pl w p y, M) else ((-2 : Int32), M)) else ((-2 : Int32), M)) else ((-2 : Int32), M)) else ((-2 : Int32), M)
def TE8_force : am_T := fun live as M R => match as with
  | [.ref n, .int pl, .int w, .int p, .int y] => am_mn live ∧ n = 200 ∧ r_I M ∧ R (some (.int (r_force M pl w p y).1)) (r_force M pl w p y).2
  | _ => False
set_option maxRecDepth 100000 in
set_option maxHeartbeats 4000000 in
theorem metX8_forceE : am_Met yX8_force cX8_force 5 (some .int) (2) (53) TE8_force := by
  refine am_met (own := RX8) (by decide +kernel) rfl kX8_forceE koX8_forceE 200 (fun _ _ _ _ _ => none) (fun live as M Ret h => ?_) (fun _ _ _ _ _ _ _ _ hI => by cases hI)
  unfold TE8_force at h
  split at h
  · next n pl w p y =>
    refine ⟨Nat.le_of_ble_eq_true rfl, ?_⟩
    change am_wp _ _ _ _ [(0, Value.ref n), (1, Value.int pl), (2, Value.int w), (3, Value.int p), (4, Value.int y)] _ _
    obtain ⟨hmn, rfl, hR, h⟩ := h
    have hmn2 := hmn
    obtain ⟨i1, i2, rfl⟩ := hmn2
    have l201 : am_len 201 = 3760 := rfl
    have n0 := hR.n0
    have n1 := hR.n1
    have n030 : 0 ≤ (M.1 201 0).toInt ∧ (M.1 201 0).toInt ≤ 30 := ⟨n0.1, by omega⟩
    by_cases z0 : 0 ≤ pl ∧ pl < 5
    rotate_left
    · skip
      have q0 : (if 0 ≤ pl ∧ pl < 5 then (1 : Int32) else 0) = 0 := if_neg z0
      have e : r_force M pl w p y = ((-2 : Int32), M) := by unfold r_force; rw [if_neg z0]
      rw [e] at h
      repeat' (first | (with_reducible exact hmn) | (with_reducible exact h) | (with_reducible exact n030) | (with_reducible exact n1) | apply And.intro | exact rfl | (intro hx; with_reducible exact absurd q0 hx) | (intro hx; exact absurd hx (by decide)) | (intro hx; exact absurd (by decide) hx) | decide | intro hx | (refine Exists.intro _ (And.intro rfl ?_)))
      all_goals try first | (with_reducible change am_tI _ _) | (change Ret _ _) | (change Ret _ _ _) | (change Exists _)
      all_goals try dsimp only at *
      all_goals try (with_reducible exact absurd ‹(1000 : Int64) = 0› am_z1000)
      all_goals first | (with_reducible exact h) | (with_reducible exact n0.1) | omega | (show _ < _; simp only [l201]; decide) | exact h | exact n0.1 | skip
    · skip
      have q0 : ¬ ((if 0 ≤ pl ∧ pl < 5 then (1 : Int32) else 0) = 0) := by rw [if_pos z0]; decide
      by_cases z1 : 0 ≤ w ∧ w < 6
      rotate_left
      · skip
        have q1 : (if 0 ≤ w ∧ w < 6 then (1 : Int32) else 0) = 0 := if_neg z1
        have e : r_force M pl w p y = ((-2 : Int32), M) := by unfold r_force; rw [if_pos z0, if_neg z1]
        rw [e] at h
        repeat' (first | (with_reducible exact hmn) | (with_reducible exact h) | (with_reducible exact n030) | (with_reducible exact n1) | apply And.intro | exact rfl | (intro hx; with_reducible exact absurd hx q0) | (intro hx; with_reducible exact absurd q1 hx) | (intro hx; exact absurd hx (by decide)) | (intro hx; exact absurd (by decide) hx) | decide | intro hx | (refine Exists.intro _ (And.intro rfl ?_)))
        all_goals try first | (with_reducible change am_tI _ _) | (change Ret _ _) | (change Ret _ _ _) | (change Exists _)
        all_goals try dsimp only at *
        all_goals try (with_reducible exact absurd ‹(1000 : Int64) = 0› am_z1000)
        all_goals first | (with_reducible exact h) | (with_reducible exact n0.1) | omega | (show _ < _; simp only [l201]; decide) | exact h | exact n0.1 | skip
      · skip
        have q1 : ¬ ((if 0 ≤ w ∧ w < 6 then (1 : Int32) else 0) = 0) := by rw [if_pos z1]; decide
        by_cases z2 : 0 ≤ p ∧ p < M.1 201 0
        rotate_left
        · skip
          have q2 : (if 0 ≤ p ∧ p < M.1 201 0 then (1 : Int32) else 0) = 0 := if_neg z2
          have e : r_force M pl w p y = ((-2 : Int32), M) := by unfold r_force; rw [if_pos z0, if_pos z1, if_neg z2]
          rw [e] at h
          repeat' (first | (with_reducible exact hmn) | (with_reducible exact h) | (with_reducible exact n030) | (with_reducible exact n1) | apply And.intro | exact rfl | (intro hx; with_reducible exact absurd hx q0) | (intro hx; with_reducible exact absurd hx q1) | (intro hx; with_reducible exact absurd q2 hx) | (intro hx; exact absurd hx (by decide)) | (intro hx; exact absurd (by decide) hx) | decide | intro hx | (refine Exists.intro _ (And.intro rfl ?_)))
          all_goals try first | (with_reducible change am_tI _ _) | (change Ret _ _) | (change Ret _ _ _) | (change Exists _)
          all_goals try dsimp only at *
          all_goals try (with_reducible exact absurd ‹(1000 : Int64) = 0› am_z1000)
          all_goals first | (with_reducible exact h) | (with_reducible exact n0.1) | omega | (show _ < _; simp only [l201]; decide) | exact h | exact n0.1 | skip
        · skip
          have q2 : ¬ ((if 0 ≤ p ∧ p < M.1 201 0 then (1 : Int32) else 0) = 0) := by rw [if_pos z2]; decide
          by_cases z3 : 0 ≤ y ∧ y < 40
          rotate_left
          · skip
            have q3 : (if 0 ≤ y ∧ y < 40 then (1 : Int32) else 0) = 0 := if_neg z3
            have e : r_force M pl w p y = ((-2 : Int32), M) := by unfold r_force; rw [if_pos z0, if_pos z1, if_pos z2, if_neg z3]
            rw [e] at h
            repeat' (first | (with_reducible exact hmn) | (with_reducible exact h) | (with_reducible exact n030) | (with_reducible exact n1) | apply And.intro | exact rfl | (intro hx; with_reducible exact absurd hx q0) | (intro hx; with_reducible exact absurd hx q1) | (intro hx; with_reducible exact absurd hx q2) | (intro hx; with_reducible exact absurd q3 hx) | (intro hx; exact absurd hx (by decide)) | (intro hx; exact absurd (by decide) hx) | decide | intro hx | (refine Exists.intro _ (And.intro rfl ?_)))
            all_goals try first | (with_reducible change am_tI _ _) | (change Ret _ _) | (change Ret _ _ _) | (change Exists _)
            all_goals try dsimp only at *
            all_goals try (with_reducible exact absurd ‹(1000 : Int64) = 0› am_z1000)
            all_goals first | (with_reducible exact h) | (with_reducible exact n0.1) | omega | (show _ < _; simp only [l201]; decide) | exact h | exact n0.1 | skip
          · skip
            have q3 : ¬ ((if 0 ≤ y ∧ y < 40 then (1 : Int32) else 0) = 0) := by rw [if_pos z3]; decide
            have hp : am_in p 12 := ⟨by have q := z2.1; simp only [i_le, Int32.reduceToInt] at q; omega, by have q := z2.2; simp only [i_lt] at q; omega⟩
            have hw : am_in w 6 := ⟨by have q := z1.1; simp only [i_le, Int32.reduceToInt] at q; omega, by have q := z1.2; simp only [i_lt, Int32.reduceToInt] at q; omega⟩
            have e : r_force M pl w p y = (r_inF M pl w p y, M) := by unfold r_force; rw [if_pos z0, if_pos z1, if_pos z2, if_pos z3]
            rw [e] at h
            repeat' (first | (with_reducible exact hmn) | (with_reducible exact n030) | (with_reducible exact n1) | (with_reducible exact hw) | (with_reducible exact hp) | (with_reducible exact hR) | apply And.intro | exact rfl | (intro hx; with_reducible exact absurd hx q0) | (intro hx; with_reducible exact absurd hx q1) | (intro hx; with_reducible exact absurd hx q2) | (intro hx; with_reducible exact absurd hx q3) | ((with_reducible change r_I _); (with_reducible assumption)) | (intro hx; exact absurd hx (by decide)) | (intro hx; exact absurd (by decide) hx) | decide | intro hx | (refine Exists.intro _ (And.intro rfl ?_)))
            all_goals try first | (with_reducible change am_tI _ _) | (change Ret _ _) | (change Ret _ _ _) | (change Exists _)
            all_goals try dsimp only at *
            all_goals try (with_reducible exact absurd ‹(1000 : Int64) = 0› am_z1000)
            all_goals first | (with_reducible exact h) | (with_reducible exact n0.1) | omega | (show _ < _; simp only [l201]; decide) | exact h | exact n0.1 | skip
  · exact h.elim
def kX7_forceE (live : am_E) (Ret : am_R) : am_code := [(0, am_iload 1 1), (1, am_callS live 1 TX7_isPlan 4), (4, am_if1 (fun x => x = 0) 32 7), (7, am_iload 2 8), (8, am_const (.int 0) 9), (9, am_const (.int 5) 10), (10, am_callS live 3 TX7_within 13), (13, am_if1 (fun x => x = 0) 32 16), (16, am_aload 0 17), (17, am_iload 3 18), (18, am_callV live 7 1 TX7_isPerson 21), (21, am_if1 (fun x => x = 0) 32 24), (24, am_iload 4 26), (26, am_callS live 1 TX7_isYear 29), (29, am_if1 (fun x => x = 0) 32 35), (32, am_const (.int (-2)) 34), (34, am_retI Ret), (35, am_aload 0 36), (36, am_getR live 7 2 39), (39, am_iload 3 40), (40, am_callV live 4 1 TE4_layNumbers 43), (43, am_aload 0 44), (44, am_getR live 7 2 47), (47, am_getR live 4 1 50), (50, am_iload 4 52), (52, am_const (.int 5) 53), (53, am_i2 (fun x y => x * y) 54), (54, am_iload 1 55), (55, am_i2 (fun x y => x + y) 56), (56, am_const (.int 6) 58), (58, am_i2 (fun x y => x * y) 59), (59, am_iload 2 60), (60, am_i2 (fun x y => x + y) 61), (61, am_ald live 0 62), (62, am_retI Ret)]
theorem koX7_forceE (live : am_E) (Ret : am_R) : ∀ q ∈ kX7_forceE live Ret, am_ok RX7 cX7_force 5 (some .int) 3 72 live Ret q.1 q.2 :=
  am_kz dzX7_force <|
  am_kd (fun d => ak_iload_n d rfl rfl) <|
  am_kd (fun d => ak_callS metX7_isPlan ⟨rfl, hy_X7_isPlan⟩ (am_w4 wd_466 wd_467 wd_58 wd_468) (by decide) d rfl) <|
  am_kd (fun d => ak_if_eq d (by decide +kernel) rfl) <|
  am_kd (fun d => ak_iload_n d rfl rfl) <|
  am_kd (fun d => ak_iconst d (by decide +kernel) rfl) <|
  am_kd (fun d => ak_iconst d (by decide +kernel) rfl) <|
  am_kd (fun d => ak_callS metX7_within ⟨rfl, hy_X7_within⟩ (am_w4 wd_418 wd_419 wd_58 wd_420) (by decide) d rfl) <|
  am_kd (fun d => ak_if_eq d (by decide +kernel) rfl) <|
  am_kd (fun d => ak_aload_n d rfl rfl) <|
  am_kd (fun d => ak_iload_n d rfl rfl) <|
  am_kd (fun d => ak_callV (C := RX7) (F := TX7) (N := 4) metX7_isPerson rfl ⟨rfl, hy_X7_isPerson⟩ (am_w5 wd_414 wd_416 wd_0 wd_58 wd_417) (by decide) d rfl) <|
  am_kd (fun d => ak_if_eq d (by decide +kernel) rfl) <|
  am_kd (fun d => ak_iload d rfl) <|
  am_kd (fun d => ak_callS metX7_isYear ⟨rfl, hy_X7_isYear⟩ (am_w4 wd_407 wd_408 wd_58 wd_409) (by decide) d rfl) <|
  am_kd (fun d => ak_if_ne d (by decide +kernel) rfl) <|
  am_kd (fun d => ak_bipush d (by decide +kernel) rfl) <|
  am_kd (fun d => ak_retI d) <|
  am_kd (fun d => ak_aload_n d rfl rfl) <|
  am_kd (fun d => ak_getR (C := RX7) (T := TX7) (N := 4) rfl inX7w (by decide) rfl rfl rfl wd_392 d rfl) <|
  am_kd (fun d => ak_iload_n d rfl rfl) <|
  am_kd (fun d => ak_callV (C := RX4) (F := TX4) (N := 19) metX4_layNumbersE rfl ⟨rfl, hy_X4_layNumbers⟩ (am_w5 wd_493 wd_494 wd_495 wd_60 wd_496) (by decide) d rfl) <|
  am_kd (fun d => ak_aload_n d rfl rfl) <|
  am_kd (fun d => ak_getR (C := RX7) (T := TX7) (N := 4) rfl inX7w (by decide) rfl rfl rfl wd_392 d rfl) <|
  am_kd (fun d => ak_getR (C := RX4) (T := TX4) (N := 19) rfl inX4w (by decide) rfl rfl rfl wd_295 d rfl) <|
  am_kd (fun d => ak_iload d rfl) <|
  am_kd (fun d => ak_iconst d (by decide +kernel) rfl) <|
  am_kd (fun d => ak_imul d rfl) <|
  am_kd (fun d => ak_iload_n d rfl rfl) <|
  am_kd (fun d => ak_iadd d rfl) <|
  am_kd (fun d => ak_bipush d (by decide +kernel) rfl) <|
  am_kd (fun d => ak_imul d rfl) <|
  am_kd (fun d => ak_iload_n d rfl rfl) <|
  am_kd (fun d => ak_iadd d rfl) <|
  am_kd (fun d => ak_iald (t := 0) (fun _ => rfl) rfl d rfl) <|
  am_kd (fun d => ak_retI d) <| am_kdn
theorem o_cl {x : Int32} {n : Nat} (h : am_in x n) (hn : n ≤ 100) : Int32.ofNat x.toNatClampNeg = x := by
  have h1 := h.1
  have h2 := h.2
  have c := i_clamp h1
  exact ((o_eq (x := x) (n := x.toNatClampNeg) (by omega) h1).mpr rfl).symm
def c_forceV (M : am_M) (pl w p y : Int32) : Int32 := if 0 ≤ pl ∧ pl < 5 then (if 0 ≤ w ∧ w ≤ 5 then (if 0 ≤ p ∧ p < M.1 21 7 then (if 0 ≤ y ∧ y < 40 then q_F (M.1 32) (M.1 31 2).toNatClampNeg (M.1 22 p.toNatClampNeg) pl w y.toInt else -2) else -2) else -2) else -2
def TE7_force : am_T := fun live as M R => match as with
  | [.ref n, .int pl, .int w, .int p, .int y] => am_mn live ∧ n = 0 ∧ (g_hI M ∧ g_rI M) ∧ c_A M ∧ ∀ M', c_n5 M M' → g_rI M' → R (some (.int (c_forceV M pl w p y))) M'
  | _ => False
set_option maxRecDepth 100000 in
set_option maxHeartbeats 4000000 in
theorem metX7_forceE : am_Met yX7_force cX7_force 5 (some .int) (3) (72) TE7_force := by
  refine am_met (own := RX7) (by decide +kernel) rfl kX7_forceE koX7_forceE 150 (fun _ _ _ _ _ => none) (fun live as M Ret h => ?_) (fun _ _ _ _ _ _ _ _ hI => by cases hI)
  unfold TE7_force at h
  split at h
  · next n pl w p y =>
    refine ⟨Nat.le_of_ble_eq_true rfl, ?_⟩
    change am_wp _ _ _ _ [(0, Value.ref n), (1, Value.int pl), (2, Value.int w), (3, Value.int p), (4, Value.int y)] _ _
    obtain ⟨hmn, rfl, ⟨hH, hR⟩, hA, h⟩ := h
    have hmn2 := hmn
    obtain ⟨i1, i2, rfl⟩ := hmn2
    by_cases z0 : 0 ≤ pl ∧ pl < 5
    rotate_left
    · skip
      have q0 : (if 0 ≤ pl ∧ pl < 5 then (1 : Int32) else 0) = 0 := if_neg z0
      have e : c_forceV M pl w p y = -2 := by unfold c_forceV; rw [if_neg z0]
      rw [e] at h
      repeat' (first | (with_reducible exact hmn) | apply And.intro | exact rfl | (intro hx; with_reducible exact absurd q0 hx) | (intro hx; exact absurd hx (by decide)) | (intro hx; exact absurd (by decide) hx) | decide | intro hx | (refine Exists.intro _ (And.intro rfl ?_)))
      all_goals try first | (with_reducible change am_tI _ _) | (change Ret _ _) | (change Ret _ _ _) | (change Exists _)
      all_goals try dsimp only at *
      all_goals try (with_reducible exact absurd ‹(1000 : Int64) = 0› am_z1000)
      all_goals exact h _ c_n5.rf hR
    · skip
      have q0 : ¬ ((if 0 ≤ pl ∧ pl < 5 then (1 : Int32) else 0) = 0) := by rw [if_pos z0]; decide
      by_cases z1 : 0 ≤ w ∧ w ≤ 5
      rotate_left
      · skip
        have q1 : (if 0 ≤ w ∧ w ≤ 5 then (1 : Int32) else 0) = 0 := if_neg z1
        have e : c_forceV M pl w p y = -2 := by unfold c_forceV; rw [if_pos z0, if_neg z1]
        rw [e] at h
        repeat' (first | (with_reducible exact hmn) | apply And.intro | exact rfl | (intro hx; with_reducible exact absurd hx q0) | (intro hx; with_reducible exact absurd q1 hx) | (intro hx; exact absurd hx (by decide)) | (intro hx; exact absurd (by decide) hx) | decide | intro hx | (refine Exists.intro _ (And.intro rfl ?_)))
        all_goals try first | (with_reducible change am_tI _ _) | (change Ret _ _) | (change Ret _ _ _) | (change Exists _)
        all_goals try dsimp only at *
        all_goals try (with_reducible exact absurd ‹(1000 : Int64) = 0› am_z1000)
        all_goals exact h _ c_n5.rf hR
      · skip
        have q1 : ¬ ((if 0 ≤ w ∧ w ≤ 5 then (1 : Int32) else 0) = 0) := by rw [if_pos z1]; decide
        by_cases z2 : 0 ≤ p ∧ p < M.1 21 7
        rotate_left
        · skip
          have q2 : (if 0 ≤ p ∧ p < M.1 21 7 then (1 : Int32) else 0) = 0 := if_neg z2
          have e : c_forceV M pl w p y = -2 := by unfold c_forceV; rw [if_pos z0, if_pos z1, if_neg z2]
          rw [e] at h
          repeat' (first | (with_reducible exact hmn) | apply And.intro | exact rfl | (intro hx; with_reducible exact absurd hx q0) | (intro hx; with_reducible exact absurd hx q1) | (intro hx; with_reducible exact absurd q2 hx) | (intro hx; exact absurd hx (by decide)) | (intro hx; exact absurd (by decide) hx) | decide | intro hx | (refine Exists.intro _ (And.intro rfl ?_)))
          all_goals try first | (with_reducible change am_tI _ _) | (change Ret _ _) | (change Ret _ _ _) | (change Exists _)
          all_goals try dsimp only at *
          all_goals try (with_reducible exact absurd ‹(1000 : Int64) = 0› am_z1000)
          all_goals exact h _ c_n5.rf hR
        · skip
          have q2 : ¬ ((if 0 ≤ p ∧ p < M.1 21 7 then (1 : Int32) else 0) = 0) := by rw [if_pos z2]; decide
          by_cases z3 : 0 ≤ y ∧ y < 40
          rotate_left
          · skip
            have q3 : (if 0 ≤ y ∧ y < 40 then (1 : Int32) else 0) = 0 := if_neg z3
            have e : c_forceV M pl w p y = -2 := by unfold c_forceV; rw [if_pos z0, if_pos z1, if_pos z2, if_neg z3]
            rw [e] at h
            repeat' (first | (with_reducible exact hmn) | apply And.intro | exact rfl | (intro hx; with_reducible exact absurd hx q0) | (intro hx; with_reducible exact absurd hx q1) | (intro hx; with_reducible exact absurd hx q2) | (intro hx; with_reducible exact absurd q3 hx) | (intro hx; exact absurd hx (by decide)) | (intro hx; exact absurd (by decide) hx) | decide | intro hx | (refine Exists.intro _ (And.intro rfl ?_)))
            all_goals try first | (with_reducible change am_tI _ _) | (change Ret _ _) | (change Ret _ _ _) | (change Exists _)
            all_goals try dsimp only at *
            all_goals try (with_reducible exact absurd ‹(1000 : Int64) = 0› am_z1000)
            all_goals exact h _ c_n5.rf hR
          · skip
            have q3 : ¬ ((if 0 ≤ y ∧ y < 40 then (1 : Int32) else 0) = 0) := by rw [if_pos z3]; decide
            have e : c_forceV M pl w p y = q_F (M.1 32) (M.1 31 2).toNatClampNeg (M.1 22 p.toNatClampNeg) pl w y.toInt := by unfold c_forceV; rw [if_pos z0, if_pos z1, if_pos z2, if_pos z3]
            rw [e] at h
            have l5 : am_len 5 = 1200 := rfl
            have hp : am_in p 12 := ⟨by have q := z2.1; simp only [i_le, Int32.reduceToInt] at q; omega, by have q := z2.2; have q2 := hH.pe; simp only [i_lt] at q; omega⟩
            have hy : am_in y 40 := ⟨by have q := z3.1; simp only [i_le, Int32.reduceToInt] at q; omega, by have q := z3.2; simp only [i_lt, Int32.reduceToInt] at q; omega⟩
            have hpl : am_in pl 5 := ⟨by have q := z0.1; simp only [i_le, Int32.reduceToInt] at q; omega, by have q := z0.2; simp only [i_lt, Int32.reduceToInt] at q; omega⟩
            have hw : am_in w 6 := ⟨by have q := z1.1; simp only [i_le, Int32.reduceToInt] at q; omega, by have q := z1.2; simp only [i_le, Int32.reduceToInt] at q; omega⟩
            have cc := c_cell hy hpl hw
            have a1 := hpl.1
            have a2 := hpl.2
            have b1 := hy.1
            have b2 := hy.2
            have c1 := hw.1
            have c2 := hw.2
            have x1 : 0 ≤ ((y * 5 + pl) * 6 + w).toInt := by omega
            have x2 : ((y * 5 + pl) * 6 + w).toInt < (am_len 5 : Int) := by rw [l5]; omega
            repeat' (first | (with_reducible exact hmn) | (with_reducible exact x1) | (with_reducible exact x2) | (with_reducible exact hp) | (with_reducible exact hA) | apply And.intro | exact rfl | (intro hx; with_reducible exact absurd hx q0) | (intro hx; with_reducible exact absurd hx q1) | (intro hx; with_reducible exact absurd hx q2) | (intro hx; with_reducible exact absurd hx q3) | (intro hx; exact absurd hx (by decide)) | (intro hx; exact absurd (by decide) hx) | decide | intro hx | (refine Exists.intro _ (And.intro rfl ?_)))
            all_goals try first | (with_reducible change am_tI _ _) | (change Ret _ _) | (change Ret _ _ _) | (change Exists _)
            all_goals try dsimp only at *
            all_goals try (with_reducible exact absurd ‹(1000 : Int64) = 0› am_z1000)
            all_goals
              rename_i M1 d1
              have v := hx.v (y' := y.toNatClampNeg) (pl := pl.toNatClampNeg) (w := w.toNatClampNeg) (g_cl hy) (g_cl hpl) (g_cl hw)
              rw [← cc.2, q_Fn, o_cl hpl (by decide), o_cl hw (by decide), i_clamp hy.1] at v
              exact am_rI (h M1 d1 (d1.rI hR)) v.symm
  · exact h.elim
end
-- part 79.exact4.lean.txt
section
/-! exact: planOf, force: class and reference answer alike -/
theorem q_mt_cg {A A' : Nat → Int32} {bg pl w : Int32} {i : Nat} (h : ∀ k, k < 6 → A' (6 * i + k) = A (6 * i + k)) : q_mt A' bg pl w i = q_mt A bg pl w i := by
  unfold q_mt
  rw [h 1 (by decide), h 4 (by decide), h 5 (by decide), show A' (6 * i) = A (6 * i) from h 0 (by decide)]
theorem q_R_cg {A A' : Nat → Int32} {bg pl w : Int32} {y : Int} : ∀ {n : Nat}, (∀ k, k < 6 * n → A' k = A k) → q_R A' bg pl w y n = q_R A bg pl w y n
  | 0, _ => rfl
  | n + 1, h => by
    have ih := q_R_cg (A := A) (A' := A') (bg := bg) (pl := pl) (w := w) (y := y) (n := n) (fun k hk => h k (by omega))
    have e := q_mt_cg (A := A) (A' := A') (bg := bg) (pl := pl) (w := w) (i := n) (fun k hk => h _ (by omega))
    have e3 := h (6 * n + 3) (by omega)
    by_cases hm : q_mt A bg pl w n = true ∧ (A (6 * n + 3)).toInt ≤ y
    · have hm' : q_mt A' bg pl w n = true ∧ (A' (6 * n + 3)).toInt ≤ y := by rw [e, e3]; exact hm
      cases ho : q_R A bg pl w y n with
      | none =>
        rw [ho] at ih
        rw [q_R_s2 hm ho, q_R_s2 hm' ih]
      | some b =>
        rw [ho] at ih
        have hlt := (q_R_lt ho).1
        have e4 := h (6 * b + 3) (by omega)
        by_cases h3 : (A (6 * b + 3)).toInt ≤ (A (6 * n + 3)).toInt
        · rw [q_R_s3 hm ho h3, q_R_s3 hm' ih (by rw [e3, e4]; exact h3)]
        · rw [q_R_s4 ho h3, q_R_s4 ih (by rw [e3, e4]; exact h3)]
    · rw [q_R_s1 hm, q_R_s1 (A := A') (by rw [e, e3]; exact hm)]
      exact ih
theorem q_F_cg {A A' : Nat → Int32} {bg pl w : Int32} {y : Int} {n : Nat} (h : ∀ k, k < 6 * n → A' k = A k) : q_F A' n bg pl w y = q_F A n bg pl w y := by
  unfold q_F
  rw [q_R_cg h]
  cases ho : q_R A bg pl w y n with
  | none => rfl
  | some b =>
    have hlt := (q_R_lt ho).1
    exact h _ (by omega)
section LIX
variable {i1 i2 : Bool} {M : am_M}
theorem LI.acts (h : LI i1 i2 M) {k : Nat} (hk : k < 6 * (M.1 201 2).toNatClampNeg) : M.1 32 k = M.1 201 (2478 + k) := by
  obtain ⟨-, -, e, q⟩ := h.b.r
  have q1 := q k (by rw [show M.1 (20 + 11) 2 = M.1 201 2 from e]; exact hk)
  rw [Nat.zero_add] at q1
  exact q1
theorem LI.cA (h : LI i1 i2 M) : c_A M := by
  have n2 := h.n2
  have e2 := h.e2
  have c := i_clamp n2.1
  refine ⟨(), h.w.1, ⟨by rw [e2]; exact n2.1, by rw [e2]; omega⟩, fun i hi => ?_⟩
  rw [e2] at hi
  rw [h.acts (k := 6 * i) (by omega), h.acts (k := 6 * i + 1) (by omega), h.acts (k := 6 * i + 3) (by omega)]
  have v0 := (h.v (k := 2478 + 6 * i) (by omega)).a13 ⟨by omega, by omega, by omega⟩
  have v1 := (h.v (k := 2478 + (6 * i + 1)) (by omega)).a14 ⟨by omega, by omega, by omega⟩
  have v3 := (h.v (k := 2478 + (6 * i + 3)) (by omega)).a16 ⟨by omega, by omega, by omega⟩
  exact ⟨⟨v0.1, by omega⟩, ⟨v1.1, by omega⟩, v3.1⟩
theorem LI.bg (h : LI i1 i2 M) {p : Int32} (hp : am_in p 12) : M.1 22 p.toNatClampNeg = M.1 201 (10 + p.toNatClampNeg) := by
  have e := h.e (o := 2) (k0 := 0) (b0 := 10) (n := 12) (by decide) (k := p.toNatClampNeg) (g_cl hp)
  rw [Nat.zero_add] at e
  exact e
theorem LI.F (h : LI i1 i2 M) {pl w p : Int32} (hp : am_in p 12) (y : Int) : q_F (M.1 32) (M.1 31 2).toNatClampNeg (M.1 22 p.toNatClampNeg) pl w y = q_F (r_A M) (M.1 201 2).toNatClampNeg (M.1 201 (10 + p.toNatClampNeg)) pl w y := by
  rw [h.e2, h.bg hp]
  exact q_F_cg (fun k hk => h.acts hk)
theorem LI.inF (h : LI i1 i2 M) {pl w p y : Int32} (hpl : 0 ≤ pl.toInt) : r_inF M pl w p y = q_F (r_A M) (M.1 201 2).toNatClampNeg (M.1 201 (10 + p.toNatClampNeg)) pl w y.toInt := by
  unfold r_inF
  rw [if_neg (fun q => by have q1 := q.1; rw [h.n3t] at q1; subst q1; exact absurd hpl (by decide))]
theorem LI.pl (h : LI i1 i2 M) {l y : Int32} (hl : am_in l 30) (hl2 : l.toInt < (M.1 201 1).toInt) (hy : am_in y 40) : M.1 37 (l * 40 + y).toNatClampNeg = r_pl M l y := by
  have f := x_40 (p := l) (y := y) ⟨hl.1, by have := hl.2; omega⟩ ⟨hy.1, by have := hy.2; omega⟩
  have l1 := hl.1
  have y1 := hy.1
  have y2 := hy.2
  have c1 := i_clamp (x := l * 40 + y) (by omega)
  have c2 := i_clamp l1
  have c3 := i_clamp y1
  obtain ⟨-, -, -, -, h4⟩ := h.b.l
  have q := h4 l.toNatClampNeg (g_cl hl) (by show _ < (M.1 201 (0 + 1)).toInt; rw [Nat.zero_add]; omega) y.toNatClampNeg (g_cl hy)
  rw [show (l * 40 + y).toNatClampNeg = 40 * l.toNatClampNeg + y.toNatClampNeg by omega]
  have hf : (fun k => M.1 201 (0 + k)) = M.1 201 := funext fun k => by rw [Nat.zero_add]
  rw [hf] at q
  unfold r_pl
  rw [if_neg (fun w => by have w1 := w.1; rw [h.n7] at w1; exact absurd w1 (by decide))]
  exact q
theorem LI.planOf (h : LI i1 i2 M) (l y : Int32) : (c_planOf M l y).1 = (r_planOf M l y).1 ∧ (c_planOf M l y).2 = M ∧ (r_planOf M l y).2 = M := by
  unfold c_planOf r_planOf
  rw [h.e1]
  by_cases z0 : 0 ≤ l ∧ l < M.1 201 1
  · rw [if_pos z0, if_pos z0]
    by_cases z1 : 0 ≤ y ∧ y < 40
    · rw [if_pos z1, if_pos z1]
      have a := b4 z0
      have b := yr z1
      have n1 := h.n1
      exact ⟨h.pl ⟨a.1, by omega⟩ a.2 ⟨b.1, by omega⟩, rfl, rfl⟩
    · rw [if_neg z1, if_neg z1]
      exact ⟨rfl, rfl, rfl⟩
  · rw [if_neg z0, if_neg z0]
    exact ⟨rfl, rfl, rfl⟩
theorem LI.force (h : LI i1 i2 M) (pl w p y : Int32) : c_forceV M pl w p y = (r_force M pl w p y).1 ∧ (r_force M pl w p y).2 = M := by
  unfold c_forceV r_force
  rw [h.e0]
  by_cases z0 : 0 ≤ pl ∧ pl < 5
  · rw [if_pos z0, if_pos z0]
    by_cases z1 : 0 ≤ w ∧ w ≤ 5
    · have z1' : 0 ≤ w ∧ w < 6 := ⟨z1.1, by have q := z1.2; simp only [i_le, i_lt, Int32.reduceToInt] at q ⊢; omega⟩
      rw [if_pos z1, if_pos z1']
      by_cases z2 : 0 ≤ p ∧ p < M.1 201 0
      · rw [if_pos z2, if_pos z2]
        by_cases z3 : 0 ≤ y ∧ y < 40
        · rw [if_pos z3, if_pos z3]
          have a := b4 z2
          have n0 := h.n0
          have hp : am_in p 12 := ⟨a.1, by omega⟩
          refine ⟨?_, rfl⟩
          show _ = r_inF M pl w p y
          rw [h.inF (b4 z0).1]
          exact h.F hp _
        · rw [if_neg z3, if_neg z3]
          exact ⟨rfl, rfl⟩
      · rw [if_neg z2, if_neg z2]
        exact ⟨rfl, rfl⟩
    · have z1' : ¬ (0 ≤ w ∧ w < 6) := fun q => z1 ⟨q.1, by have q := q.2; simp only [i_le, i_lt, Int32.reduceToInt] at q ⊢; omega⟩
      rw [if_neg z1, if_neg z1']
      exact ⟨rfl, rfl⟩
  · rw [if_neg z0, if_neg z0]
    exact ⟨rfl, rfl⟩
end LIX
theorem c_forceV_cg {M N : am_M} (c : c_n5 M N) (pl w p y : Int32) : c_forceV N pl w p y = c_forceV M pl w p y := by
  unfold c_forceV
  rw [c.i (show (32 : Nat) ≠ 5 by decide), c.i (show (31 : Nat) ≠ 5 by decide), c.i (show (22 : Nat) ≠ 5 by decide), c.i (show (21 : Nat) ≠ 5 by decide)]
end
-- part 80.law.lean.txt
section
/-! the law: the calls as the law sees them -/
theorem am_Met.imp {y : MethodName} {cc : ByteArray} {nL : Nat} {rt : Option FieldType} {rf rl : Nat} {T T' : am_T} (h : am_Met y cc nL rt rf rl T) (e : ∀ live as M R, T' live as M R → T live as M R) : am_Met y cc nL rt rf rl T' := fun l D cA al B live as M R q => h l D cA al B live as M R (e _ _ _ _ q)
theorem an_Met.imp {y : MethodName} {cc : ByteArray} {nL : Nat} {rt : Option FieldType} {rf rl mc ms : Nat} {T T' : an_T} (h : an_Met y cc nL rt rf rl mc ms T) (e : ∀ live as M R, T' live as M R → T live as M R) : an_Met y cc nL rt rf rl mc ms T' := fun l D cA al B live as M R hc q => h l D cA al B live as M R hc (e _ _ _ _ q)
def TW_person : am_T := fun live as M R => match as with
  | [.ref n, .int a] => ∃ i1 i2, live = (am_lv i1 i2, am_q i1 i2) ∧ n = 0 ∧ LI i1 i2 M ∧ ∀ v N, v = (r_person N a).1 → LI i1 i2 (r_person N a).2 → r_I N → R (some (.int v)) N
  | _ => False
theorem metW_person : am_Met yX7_person cX7_person 3 (some .int) (1) (20) TW_person := metX7_person.imp (fun live as M R q => by
  unfold TW_person at q
  split at q
  · next n a =>
    obtain ⟨i1, i2, rfl, rfl, h, q⟩ := q
    have hs := st_person h a
    exact ⟨⟨_, _, rfl⟩, rfl, ⟨h.h, h.g⟩, q _ _ hs.e hs.l (h.ri hs.c)⟩
  · exact q.elim)
def TW_land : am_T := fun live as M R => match as with
  | [.ref n, .int a, .int b, .int c, .int d] => ∃ i1 i2, live = (am_lv i1 i2, am_q i1 i2) ∧ n = 0 ∧ LI i1 i2 M ∧ ∀ v N, v = (r_land N a b c d).1 → LI i1 i2 (r_land N a b c d).2 → r_I N → R (some (.int v)) N
  | _ => False
theorem metW_land : am_Met yX7_land cX7_land 5 (some .int) (2) (47) TW_land := metX7_land.imp (fun live as M R q => by
  unfold TW_land at q
  split at q
  · next n a b c d =>
    obtain ⟨i1, i2, rfl, rfl, h, q⟩ := q
    have hs := st_land h a b c d
    exact ⟨⟨_, _, rfl⟩, rfl, ⟨h.h, h.g⟩, q _ _ hs.e hs.l (h.ri hs.c)⟩
  · exact q.elim)
def TW_scale : am_T := fun live as M R => match as with
  | [.ref n, .int a, .int b] => ∃ i1 i2, live = (am_lv i1 i2, am_q i1 i2) ∧ n = 0 ∧ LI i1 i2 M ∧ ∀ v N, v = (r_scale N a b).1 → LI i1 i2 (r_scale N a b).2 → r_I N → R (some (.int v)) N
  | _ => False
theorem metW_scale : am_Met yX7_scale cX7_scale 4 (some .int) (1) (22) TW_scale := metX7_scale.imp (fun live as M R q => by
  unfold TW_scale at q
  split at q
  · next n a b =>
    obtain ⟨i1, i2, rfl, rfl, h, q⟩ := q
    have hs := st_scale h a b
    exact ⟨⟨_, _, rfl⟩, rfl, ⟨h.h, h.g⟩, q _ _ hs.e hs.l (h.ri hs.c)⟩
  · exact q.elim)
def TW_prices : am_T := fun live as M R => match as with
  | [.ref n, .int a, .int b] => ∃ i1 i2, live = (am_lv i1 i2, am_q i1 i2) ∧ n = 0 ∧ LI i1 i2 M ∧ ∀ v N, v = (r_prices N a b).1 → LI i1 i2 (r_prices N a b).2 → r_I N → R (some (.int v)) N
  | _ => False
theorem metW_prices : am_Met yX7_prices cX7_prices 4 (some .int) (1) (22) TW_prices := metX7_prices.imp (fun live as M R q => by
  unfold TW_prices at q
  split at q
  · next n a b =>
    obtain ⟨i1, i2, rfl, rfl, h, q⟩ := q
    have hs := st_prices h a b
    exact ⟨⟨_, _, rfl⟩, rfl, ⟨h.h, h.g⟩, q _ _ hs.e hs.l (h.ri hs.c)⟩
  · exact q.elim)
def TW_dies : am_T := fun live as M R => match as with
  | [.ref n, .int a, .int b] => ∃ i1 i2, live = (am_lv i1 i2, am_q i1 i2) ∧ n = 0 ∧ LI i1 i2 M ∧ ∀ v N, v = (r_dies N a b).1 → LI i1 i2 (r_dies N a b).2 → r_I N → R (some (.int v)) N
  | _ => False
theorem metW_dies : am_Met yX7_dies cX7_dies 3 (some .int) (1) (21) TW_dies := metX7_dies.imp (fun live as M R q => by
  unfold TW_dies at q
  split at q
  · next n a b =>
    obtain ⟨i1, i2, rfl, rfl, h, q⟩ := q
    have hs := st_dies h a b
    exact ⟨⟨_, _, rfl⟩, rfl, ⟨h.h, h.g⟩, q _ _ hs.e hs.l (h.ri hs.c)⟩
  · exact q.elim)
def TW_earn : am_T := fun live as M R => match as with
  | [.ref n, .int a, .int b, .int c, .int d] => ∃ i1 i2, live = (am_lv i1 i2, am_q i1 i2) ∧ n = 0 ∧ LI i1 i2 M ∧ ∀ v N, v = (r_earn N a b c d).1 → LI i1 i2 (r_earn N a b c d).2 → r_I N → R (some (.int v)) N
  | _ => False
theorem metW_earn : am_Met yX7_earn cX7_earn 7 (some .int) (1) (21) TW_earn := metX7_earn.imp (fun live as M R q => by
  unfold TW_earn at q
  split at q
  · next n a b c d =>
    obtain ⟨i1, i2, rfl, rfl, h, q⟩ := q
    have hs := st_earn h a b c d
    exact ⟨⟨_, _, rfl⟩, rfl, ⟨h.h, h.g⟩, q _ _ hs.e hs.l (h.ri hs.c)⟩
  · exact q.elim)
def TW_right : am_T := fun live as M R => match as with
  | [.ref n, .int a, .int b, .int c, .int d] => ∃ i1 i2, live = (am_lv i1 i2, am_q i1 i2) ∧ n = 0 ∧ LI i1 i2 M ∧ ∀ v N, v = (r_right N a b c d).1 → LI i1 i2 (r_right N a b c d).2 → r_I N → R (some (.int v)) N
  | _ => False
theorem metW_right : am_Met yX7_right cX7_right 7 (some .int) (1) (21) TW_right := metX7_right.imp (fun live as M R q => by
  unfold TW_right at q
  split at q
  · next n a b c d =>
    obtain ⟨i1, i2, rfl, rfl, h, q⟩ := q
    have hs := st_right h a b c d
    exact ⟨⟨_, _, rfl⟩, rfl, ⟨h.h, h.g⟩, q _ _ hs.e hs.l (h.ri hs.c)⟩
  · exact q.elim)
def TW_earnings : am_T := fun live as M R => match as with
  | [.ref n, .int a, .int b, .int c] => ∃ i1 i2, live = (am_lv i1 i2, am_q i1 i2) ∧ n = 0 ∧ LI i1 i2 M ∧ ∀ v N, v = (r_earnings N a b c).1 → LI i1 i2 (r_earnings N a b c).2 → r_I N → R (some (.int v)) N
  | _ => False
theorem metW_earnings : am_Met yX7_earnings cX7_earnings 4 (some .int) (1) (24) TW_earnings := metX7_earnings.imp (fun live as M R q => by
  unfold TW_earnings at q
  split at q
  · next n a b c =>
    obtain ⟨i1, i2, rfl, rfl, h, q⟩ := q
    have hs := st_earnings h a b c
    exact ⟨⟨_, _, rfl⟩, rfl, ⟨h.h, h.g⟩, q _ _ hs.e hs.l (h.ri hs.c)⟩
  · exact q.elim)
def TW_act : am_T := fun live as M R => match as with
  | [.ref n, .int a, .int b, .int c, .int d, .int e, .int f] => ∃ i1 i2, live = (am_lv i1 i2, am_q i1 i2) ∧ n = 0 ∧ LI i1 i2 M ∧ ∀ v N, v = (r_act N a b c d e f).1 → LI i1 i2 (r_act N a b c d e f).2 → r_I N → R (some (.int v)) N
  | _ => False
theorem metW_act : am_Met yX7_act cX7_act 7 (some .int) (3) (74) TW_act := metX7_act.imp (fun live as M R q => by
  unfold TW_act at q
  split at q
  · next n a b c d e f =>
    obtain ⟨i1, i2, rfl, rfl, h, q⟩ := q
    have hs := st_act h a b c d e f
    exact ⟨⟨_, _, rfl⟩, rfl, ⟨h.h, h.g⟩, q _ _ hs.e hs.l (h.ri hs.c)⟩
  · exact q.elim)
def TW_force : am_T := fun live as M R => match as with
  | [.ref n, .int a, .int b, .int c, .int d] => ∃ i1 i2, live = (am_lv i1 i2, am_q i1 i2) ∧ n = 0 ∧ LI i1 i2 M ∧ ∀ v N, v = (r_force N a b c d).1 → LI i1 i2 N → r_I N → R (some (.int v)) N
  | _ => False
theorem metW_force : am_Met yX7_force cX7_force 5 (some .int) (3) (72) TW_force := metX7_forceE.imp (fun live as M R q => by
  unfold TW_force at q
  split at q
  · next n a b c d =>
    obtain ⟨i1, i2, rfl, rfl, h, q⟩ := q
    refine ⟨⟨_, _, rfl⟩, rfl, ⟨h.h, h.g⟩, h.cA, fun N e hg => ?_⟩
    have l := h.sc e.sc hg
    exact q _ _ (by rw [← c_forceV_cg e]; exact (l.force a b c d).1) l l.i
  · exact q.elim)
def TV_force : am_T := fun live as M R => match as with
  | [.ref n, .int a, .int b, .int c, .int d] => ∃ i1 i2, live = (am_lv i1 i2, am_q i1 i2) ∧ n = 200 ∧ LI i1 i2 M ∧ R (some (.int (r_force M a b c d).1)) M
  | _ => False
theorem metV_force : am_Met yX8_force cX8_force 5 (some .int) (2) (53) TV_force := metX8_forceE.imp (fun live as M R q => by
  unfold TV_force at q
  split at q
  · next n a b c d =>
    obtain ⟨i1, i2, rfl, rfl, h, q⟩ := q
    refine ⟨⟨_, _, rfl⟩, rfl, h.i, ?_⟩
    rw [(h.force a b c d).2]
    exact q
  · exact q.elim)
def TW_loan : am_T := fun live as M R => match as with
  | [.ref n, .int a, .int b, .int c, .int d, .int e] => ∃ i1 i2, live = (am_lv i1 i2, am_q i1 i2) ∧ n = 0 ∧ LI i1 i2 M ∧ (e = 0 ∨ e = 1) ∧ ∀ v N, v = (r_loan N a b c d e).1 → LI i1 i2 (r_loan N a b c d e).2 → r_I N → R (some (.int v)) N
  | _ => False
theorem metW_loan : am_Met yX7_loan cX7_loan 8 (some .int) (2) (47) TW_loan := metX7_loan.imp (fun live as M R q => by
  unfold TW_loan at q
  split at q
  · next n a b c d e =>
    obtain ⟨i1, i2, rfl, rfl, h, hfe, q⟩ := q
    have hs := st_loan h a b c d e hfe
    exact ⟨⟨_, _, rfl⟩, rfl, ⟨h.h, h.g⟩, hfe, q _ _ hs.e hs.l (h.ri hs.c)⟩
  · exact q.elim)
def TW_leave : am_T := fun live as M R => match as with
  | [.ref n, .int a, .int b] => ∃ i1 i2, live = (am_lv i1 i2, am_q i1 i2) ∧ n = 0 ∧ LI i1 i2 M ∧ ∀ v N, v = (r_leave N a b).1 → LI i1 i2 (r_leave N a b).2 → r_I N → R (some (.int v)) N
  | _ => False
theorem metW_leave : am_Met yX7_leave cX7_leave 4 (some .int) (2) (47) TW_leave := metX7_leave.imp (fun live as M R q => by
  unfold TW_leave at q
  split at q
  · next n a b =>
    obtain ⟨i1, i2, rfl, rfl, h, q⟩ := q
    have hs := st_leave h a b
    exact ⟨⟨_, _, rfl⟩, rfl, ⟨h.h, h.g⟩, q _ _ hs.e hs.l (h.ri hs.c)⟩
  · exact q.elim)
def TW_move : am_T := fun live as M R => match as with
  | [.ref n, .int a, .int b, .int c] => ∃ i1 i2, live = (am_lv i1 i2, am_q i1 i2) ∧ n = 0 ∧ LI i1 i2 M ∧ ∀ v N, v = (r_move N a b c).1 → LI i1 i2 (r_move N a b c).2 → r_I N → R (some (.int v)) N
  | _ => False
theorem metW_move : am_Met yX7_move cX7_move 4 (some .int) (2) (47) TW_move := metX7_move.imp (fun live as M R q => by
  unfold TW_move at q
  split at q
  · next n a b c =>
    obtain ⟨i1, i2, rfl, rfl, h, q⟩ := q
    have hs := st_move h a b c
    exact ⟨⟨_, _, rfl⟩, rfl, ⟨h.h, h.g⟩, q _ _ hs.e hs.l (h.ri hs.c)⟩
  · exact q.elim)
def TW_planOf : am_T := fun live as M R => match as with
  | [.ref n, .int a, .int b] => ∃ i1 i2, live = (am_lv i1 i2, am_q i1 i2) ∧ n = 0 ∧ LI i1 i2 M ∧ ∀ v N, v = (r_planOf N a b).1 → LI i1 i2 N → r_I N → R (some (.int v)) N
  | _ => False
theorem metW_planOf : am_Met yX7_planOf cX7_planOf 3 (some .int) (1) (21) TW_planOf := metX7_planOf.imp (fun live as M R q => by
  unfold TW_planOf at q
  split at q
  · next n a b =>
    obtain ⟨i1, i2, rfl, rfl, h, q⟩ := q
    refine ⟨⟨_, _, rfl⟩, rfl, ⟨h.h, h.g⟩, ?_⟩
    rw [(h.planOf a b).2.1]
    exact q _ _ (h.planOf a b).1 h h.i
  · exact q.elim)
def TV_planOf : am_T := fun live as M R => match as with
  | [.ref n, .int a, .int b] => ∃ i1 i2, live = (am_lv i1 i2, am_q i1 i2) ∧ n = 200 ∧ LI i1 i2 M ∧ R (some (.int (r_planOf M a b).1)) M
  | _ => False
theorem metV_planOf : am_Met yX8_planOf cX8_planOf 3 (some .int) (2) (46) TV_planOf := metX8_planOfE.imp (fun live as M R q => by
  unfold TV_planOf at q
  split at q
  · next n a b =>
    obtain ⟨i1, i2, rfl, rfl, h, q⟩ := q
    refine ⟨⟨_, _, rfl⟩, rfl, h.i, ?_⟩
    rw [(h.planOf a b).2.2]
    exact q
  · exact q.elim)
def TW_owes : am_T := fun live as M R => match as with
  | [.ref n, .int a, .int b, .int c, .int d] => ∃ i1 i2, live = (am_lv i1 i2, am_q i1 i2) ∧ n = 0 ∧ LI i1 i2 M ∧ ∀ v N, LI i1 i2 N → R (some (.long v)) N
  | _ => False
theorem metW_owes : am_Met yX7_owes cX7_owes 5 (some .long) (5) (124) TW_owes := metX7_owes.imp (fun live as M R q => by
  unfold TW_owes at q
  split at q
  · next n a b c d =>
    obtain ⟨i1, i2, rfl, rfl, h, q⟩ := q
    exact ⟨⟨_, _, rfl⟩, rfl, ⟨h.h, h.g⟩, fun v N c hg => q v N (h.sc c hg)⟩
  · exact q.elim)
def TV_owes : am_T := fun live as M R => match as with
  | [.ref n, .int a, .int b, .int c, .int d] => ∃ i1 i2, live = (am_lv i1 i2, am_q i1 i2) ∧ n = 200 ∧ LI i1 i2 M ∧ ∀ v N, LI i1 i2 N → R (some (.long v)) N
  | _ => False
theorem metV_owes : am_Met yX8_owes cX8_owes 5 (some .long) (10) (253) TV_owes := metX8_owes.imp (fun live as M R q => by
  unfold TV_owes at q
  split at q
  · next n a b c d =>
    obtain ⟨i1, i2, rfl, rfl, h, q⟩ := q
    exact ⟨⟨_, _, rfl⟩, rfl, h.i, fun v N c _ => q v N (h.rc c)⟩
  · exact q.elim)
def TW_all : am_T := fun live as M R => match as with
  | [.ref n, .int a, .int b, .int c, .int d] => ∃ i1 i2, live = (am_lv i1 i2, am_q i1 i2) ∧ n = 0 ∧ LI i1 i2 M ∧ ∀ v N, LI i1 i2 N → R (some (.long v)) N
  | _ => False
theorem metW_all : am_Met yX7_all cX7_all 5 (some .long) (6) (148) TW_all := metX7_all.imp (fun live as M R q => by
  unfold TW_all at q
  split at q
  · next n a b c d =>
    obtain ⟨i1, i2, rfl, rfl, h, q⟩ := q
    exact ⟨⟨_, _, rfl⟩, rfl, ⟨h.h, h.g⟩, fun v N c hg => q v N (h.sc c hg)⟩
  · exact q.elim)
def TV_all : am_T := fun live as M R => match as with
  | [.ref n, .int a, .int b, .int c, .int d] => ∃ i1 i2, live = (am_lv i1 i2, am_q i1 i2) ∧ n = 200 ∧ LI i1 i2 M ∧ ∀ v N, LI i1 i2 N → R (some (.long v)) N
  | _ => False
theorem metV_all : am_Met yX8_all cX8_all 5 (some .long) (10) (253) TV_all := metX8_all.imp (fun live as M R q => by
  unfold TV_all at q
  split at q
  · next n a b c d =>
    obtain ⟨i1, i2, rfl, rfl, h, q⟩ := q
    exact ⟨⟨_, _, rfl⟩, rfl, h.i, fun v N c _ => q v N (h.rc c)⟩
  · exact q.elim)
def TW_rate : am_T := fun live as M R => match as with
  | [.ref n, .int a, .int b, .int c] => ∃ i1 i2, live = (am_lv i1 i2, am_q i1 i2) ∧ n = 0 ∧ LI i1 i2 M ∧ ∀ v N, LI i1 i2 N → R (some (.int v)) N
  | _ => False
theorem metW_rate : am_Met yX7_rate cX7_rate 4 (some .int) (5) (124) TW_rate := metX7_rate.imp (fun live as M R q => by
  unfold TW_rate at q
  split at q
  · next n a b c =>
    obtain ⟨i1, i2, rfl, rfl, h, q⟩ := q
    exact ⟨⟨_, _, rfl⟩, rfl, ⟨h.h, h.g⟩, fun v N c hg => q v N (h.sc c hg)⟩
  · exact q.elim)
def TV_rate : am_T := fun live as M R => match as with
  | [.ref n, .int a, .int b, .int c] => ∃ i1 i2, live = (am_lv i1 i2, am_q i1 i2) ∧ n = 200 ∧ LI i1 i2 M ∧ ∀ v N, LI i1 i2 N → R (some (.int v)) N
  | _ => False
theorem metV_rate : am_Met yX8_rate cX8_rate 5 (some .int) (10) (253) TV_rate := metX8_rate.imp (fun live as M R q => by
  unfold TV_rate at q
  split at q
  · next n a b c =>
    obtain ⟨i1, i2, rfl, rfl, h, q⟩ := q
    exact ⟨⟨_, _, rfl⟩, rfl, h.i, fun v N c _ => q v N (h.rc c)⟩
  · exact q.elim)
def TW_over : am_T := fun live as M R => match as with
  | [.ref n, .int a, .int b, .int c] => ∃ i1 i2, live = (am_lv i1 i2, am_q i1 i2) ∧ n = 0 ∧ LI i1 i2 M ∧ ∀ v N, LI i1 i2 N → R (some (.long v)) N
  | _ => False
theorem metW_over : am_Met yX7_over cX7_over 4 (some .long) (6) (148) TW_over := metX7_over.imp (fun live as M R q => by
  unfold TW_over at q
  split at q
  · next n a b c =>
    obtain ⟨i1, i2, rfl, rfl, h, q⟩ := q
    exact ⟨⟨_, _, rfl⟩, rfl, ⟨h.h, h.g⟩, fun v N c hg => q v N (h.sc c hg)⟩
  · exact q.elim)
def TV_over : am_T := fun live as M R => match as with
  | [.ref n, .int a, .int b, .int c] => ∃ i1 i2, live = (am_lv i1 i2, am_q i1 i2) ∧ n = 200 ∧ LI i1 i2 M ∧ ∀ v N, LI i1 i2 N → R (some (.long v)) N
  | _ => False
theorem metV_over : am_Met yX8_over cX8_over 6 (some .long) (10) (253) TV_over := metX8_over.imp (fun live as M R q => by
  unfold TV_over at q
  split at q
  · next n a b c =>
    obtain ⟨i1, i2, rfl, rfl, h, q⟩ := q
    exact ⟨⟨_, _, rfl⟩, rfl, h.i, fun v N c _ => q v N (h.rc c)⟩
  · exact q.elim)
def TW_write : am_T := fun live as M R => match as with
  | [.ref n, .int a, .int b] => ∃ i1 i2, live = (am_lv i1 i2, am_q i1 i2) ∧ n = 0 ∧ LI i1 i2 M ∧ ∀ v N, v = (r_write N a b).1 → LI i1 i2 (r_write N a b).2 → r_I N → R (some (.int v)) N
  | _ => False
theorem metW_write : am_Met yX7_write cX7_write 4 (some .int) (334) (8442) TW_write := metX7_write.imp (fun live as M R q => by
  unfold TW_write at q
  split at q
  · next n a b =>
    obtain ⟨i1, i2, rfl, rfl, h, q⟩ := q
    refine ⟨⟨_, _, rfl⟩, rfl, ⟨h.h, h.g⟩, fun hz => ?_, fun hz t ht => ?_⟩
    · have e := wr_no h hz
      exact q _ _ (by rw [e]) (by rw [e]; exact h) h.i
    · subst ht
      refine ⟨fun hf => ?_, fun hf N c h0 => ?_⟩
      · have e := wr_fu h hz hf
        exact q _ _ (by rw [e]) (by rw [e]; exact h) h.i
      · obtain ⟨e, l, far⟩ := wr_yes h hz hf c h0
        exact q _ _ e l (h.ri far)
  · exact q.elim)
def TW_erase : am_T := fun live as M R => match as with
  | [.ref n, .int a] => ∃ i1 i2, live = (am_lv i1 i2, am_q i1 i2) ∧ n = 0 ∧ LI i1 i2 M ∧ ∀ v N, v = (r_erase N a).1 → LI i1 i2 (r_erase N a).2 → r_I N → R (some (.int v)) N
  | _ => False
theorem metW_erase : am_Met yX7_erase cX7_erase 4 (some .int) (1) (20) TW_erase := metX7_erase.imp (fun live as M R q => by
  unfold TW_erase at q
  split at q
  · next n a =>
    obtain ⟨i1, i2, rfl, rfl, h, q⟩ := q
    have hs := st_erase h a
    exact ⟨⟨_, _, rfl⟩, rfl, ⟨h.h, h.g⟩, q _ _ hs.e hs.l (h.ri hs.c)⟩
  · exact q.elim)
def TW_fault : am_T := fun live as M R => match as with
  | [.ref n, .int a] => ∃ i1 i2, live = (am_lv i1 i2, am_q i1 i2) ∧ n = 0 ∧ LI i1 i2 M ∧ ∀ v N, LI i1 i2 N → R (some (.int v)) N
  | _ => False
theorem c_fault_2 (M : am_M) (a : Int32) : (c_fault M a).2 = M := by
  unfold c_fault
  repeat (first | rfl | split)
theorem metW_fault : am_Met yX7_fault cX7_fault 2 (some .int) (1) (20) TW_fault := metX7_fault.imp (fun live as M R q => by
  unfold TW_fault at q
  split at q
  · next n a =>
    obtain ⟨i1, i2, rfl, rfl, h, q⟩ := q
    refine ⟨⟨_, _, rfl⟩, rfl, ⟨h.h, h.g⟩, ?_⟩
    rw [c_fault_2]
    exact q _ _ h
  · exact q.elim)
def TV_fault : am_T := fun live as M R => match as with
  | [.ref n, .int a] => ∃ i1 i2, live = (am_lv i1 i2, am_q i1 i2) ∧ n = 200 ∧ LI i1 i2 M ∧ ∀ v N, LI i1 i2 N → R (some (.int v)) N
  | _ => False
theorem metV_fault : am_Met yX8_fault cX8_fault 2 (some .int) (6) (135) TV_fault := metX8_fault.imp (fun live as M R q => by
  unfold TV_fault at q
  split at q
  · next n a =>
    obtain ⟨i1, i2, rfl, rfl, h, q⟩ := q
    exact ⟨⟨_, _, rfl⟩, rfl, h.i, fun v N c _ => q v N (h.rc c)⟩
  · exact q.elim)
def TW_sell : am_T := fun live as M R => match as with
  | [.ref n, .int a, .int b, .int c] => ∃ i1 i2, live = (am_lv i1 i2, am_q i1 i2) ∧ n = 0 ∧ LI i1 i2 M ∧ ∀ v N, v = (r_sell N a b c).1 → LI i1 i2 (r_sell N a b c).2 → r_I N → R (some (.int v)) N
  | _ => False
theorem metW_sell : am_Met yX7_sell cX7_sell 4 (some .int) (1) (24) TW_sell := metX7_sell.imp (fun live as M R q => by
  unfold TW_sell at q
  split at q
  · next n a b c =>
    obtain ⟨i1, i2, rfl, rfl, h, q⟩ := q
    have hs := st_sell h a b c
    exact ⟨⟨_, _, rfl⟩, rfl, ⟨h.h, h.g⟩, q _ _ hs.e hs.l (h.ri hs.c)⟩
  · exact q.elim)
def TW_promise : am_T := fun live as M R => match as with
  | [.ref n, .int a, .int b, .int c] => ∃ i1 i2, live = (am_lv i1 i2, am_q i1 i2) ∧ n = 0 ∧ LI i1 i2 M ∧ ∀ v N, v = (r_promise N a b c).1 → LI i1 i2 (r_promise N a b c).2 → r_I N → R (some (.int v)) N
  | _ => False
theorem metW_promise : am_Met yX7_promise cX7_promise 4 (some .int) (2) (47) TW_promise := metX7_promise.imp (fun live as M R q => by
  unfold TW_promise at q
  split at q
  · next n a b c =>
    obtain ⟨i1, i2, rfl, rfl, h, q⟩ := q
    have hs := st_promise h a b c
    exact ⟨⟨_, _, rfl⟩, rfl, ⟨h.h, h.g⟩, q _ _ hs.e hs.l (h.ri hs.c)⟩
  · exact q.elim)
def TW_book : am_T := fun live as M R => match as with
  | [.ref n, .int a, .int b, .int c, .int d] => ∃ i1 i2, live = (am_lv i1 i2, am_q i1 i2) ∧ n = 0 ∧ LI i1 i2 M ∧ ∀ v N, LI i1 i2 N → R (some (.long v)) N
  | _ => False
theorem metW_book : am_Met yX7_book cX7_book 8 (some .long) (6) (147) TW_book := metX7_book.imp (fun live as M R q => by
  unfold TW_book at q
  split at q
  · next n a b c d =>
    obtain ⟨i1, i2, rfl, rfl, h, q⟩ := q
    exact ⟨⟨_, _, rfl⟩, rfl, ⟨h.h, h.g⟩, fun v N c hg => q v N (h.sc c hg)⟩
  · exact q.elim)
def TV_book : am_T := fun live as M R => match as with
  | [.ref n, .int a, .int b, .int c, .int d] => ∃ i1 i2, live = (am_lv i1 i2, am_q i1 i2) ∧ n = 200 ∧ LI i1 i2 M ∧ ∀ v N, LI i1 i2 N → R (some (.long v)) N
  | _ => False
theorem metV_book : am_Met yX8_book cX8_book 10 (some .long) (10) (253) TV_book := metX8_book.imp (fun live as M R q => by
  unfold TV_book at q
  split at q
  · next n a b c d =>
    obtain ⟨i1, i2, rfl, rfl, h, q⟩ := q
    exact ⟨⟨_, _, rfl⟩, rfl, h.i, fun v N c _ => q v N (h.rc c)⟩
  · exact q.elim)
def TW_live : am_T := fun live as M R => match as with
  | [.ref n, .int a, .int b, .int c, .int d] => ∃ i1 i2, live = (am_lv i1 i2, am_q i1 i2) ∧ n = 0 ∧ LI i1 i2 M ∧ ∀ v N, v = (r_live N a b c d).1 → LI i1 i2 (r_live N a b c d).2 → r_I N → R (some (.int v)) N
  | _ => False
theorem metW_live : am_Met yX7_live cX7_live 5 (some .int) (2) (47) TW_live := metX7_live.imp (fun live as M R q => by
  unfold TW_live at q
  split at q
  · next n a b c d =>
    obtain ⟨i1, i2, rfl, rfl, h, q⟩ := q
    have hs := st_live h a b c d
    exact ⟨⟨_, _, rfl⟩, rfl, ⟨h.h, h.g⟩, q _ _ hs.e hs.l (h.ri hs.c)⟩
  · exact q.elim)
def TW_early : am_T := fun live as M R => match as with
  | [.ref n, .int a, .int b, .int c, .int d] => ∃ i1 i2, live = (am_lv i1 i2, am_q i1 i2) ∧ n = 0 ∧ LI i1 i2 M ∧ ∀ v N, LI i1 i2 N → R (some (.int v)) N
  | _ => False
theorem metW_early : am_Met yX7_early cX7_early 11 (some .int) (6) (152) TW_early := metX7_early.imp (fun live as M R q => by
  unfold TW_early at q
  split at q
  · next n a b c d =>
    obtain ⟨i1, i2, rfl, rfl, h, q⟩ := q
    exact ⟨⟨_, _, rfl⟩, rfl, ⟨h.h, h.g⟩, fun v N c hg => q v N (h.sc c hg)⟩
  · exact q.elim)
def TV_early : am_T := fun live as M R => match as with
  | [.ref n, .int a, .int b, .int c, .int d] => ∃ i1 i2, live = (am_lv i1 i2, am_q i1 i2) ∧ n = 200 ∧ LI i1 i2 M ∧ ∀ v N, LI i1 i2 N → R (some (.int v)) N
  | _ => False
theorem metV_early : am_Met yX8_early cX8_early 7 (some .int) (11) (282) TV_early := metX8_early.imp (fun live as M R q => by
  unfold TV_early at q
  split at q
  · next n a b c d =>
    obtain ⟨i1, i2, rfl, rfl, h, q⟩ := q
    exact ⟨⟨_, _, rfl⟩, rfl, h.i, fun v N c _ => q v N (h.rc c)⟩
  · exact q.elim)
def TW_choice : am_T := fun live as M R => match as with
  | [.ref n, .int a, .int b, .int c, .int d, .int e] => ∃ i1 i2, live = (am_lv i1 i2, am_q i1 i2) ∧ n = 0 ∧ LI i1 i2 M ∧ ∀ v N, LI i1 i2 N → R (some (.long v)) N
  | _ => False
theorem metW_choice : am_Met yX7_choice cX7_choice 6 (some .long) (6) (152) TW_choice := metX7_choice.imp (fun live as M R q => by
  unfold TW_choice at q
  split at q
  · next n a b c d e =>
    obtain ⟨i1, i2, rfl, rfl, h, q⟩ := q
    exact ⟨⟨_, _, rfl⟩, rfl, ⟨h.h, h.g⟩, fun v N c hg => q v N (h.sc c hg)⟩
  · exact q.elim)
def TV_choice : am_T := fun live as M R => match as with
  | [.ref n, .int a, .int b, .int c, .int d, .int e] => ∃ i1 i2, live = (am_lv i1 i2, am_q i1 i2) ∧ n = 200 ∧ LI i1 i2 M ∧ ∀ v N, LI i1 i2 N → R (some (.long v)) N
  | _ => False
theorem metV_choice : am_Met yX8_choice cX8_choice 8 (some .long) (11) (282) TV_choice := metX8_choice.imp (fun live as M R q => by
  unfold TV_choice at q
  split at q
  · next n a b c d e =>
    obtain ⟨i1, i2, rfl, rfl, h, q⟩ := q
    exact ⟨⟨_, _, rfl⟩, rfl, h.i, h.n7, fun v N c _ => q v N (h.rc c)⟩
  · exact q.elim)
def TW_chances : am_T := fun live as M R => match as with
  | [.ref n, .int a, .int b, .int c, .int d, .int e] => ∃ i1 i2, live = (am_lv i1 i2, am_q i1 i2) ∧ n = 0 ∧ LI i1 i2 M ∧ ∀ v N, v = (r_chances N a b c d e).1 → LI i1 i2 (r_chances N a b c d e).2 → r_I N → R (some (.int v)) N
  | _ => False
theorem metW_chances : am_Met yX7_chances cX7_chances 7 (some .int) (1) (22) TW_chances := metX7_chances.imp (fun live as M R q => by
  unfold TW_chances at q
  split at q
  · next n a b c d e =>
    obtain ⟨i1, i2, rfl, rfl, h, q⟩ := q
    have hs := st_chances h a b c d e
    exact ⟨⟨_, _, rfl⟩, rfl, ⟨h.h, h.g⟩, q _ _ hs.e hs.l (h.ri hs.c)⟩
  · exact q.elim)
def TW_foretold : am_T := fun live as M R => match as with
  | [.ref n, .int a, .int b, .int c, .int d, .int e, .int f] => ∃ i1 i2, live = (am_lv i1 i2, am_q i1 i2) ∧ n = 0 ∧ LI i1 i2 M ∧ ∀ v N, LI i1 i2 N → R (some (.long v)) N
  | _ => False
theorem metW_foretold : am_Met yX7_foretold cX7_foretold 7 (some .long) (11) (368) TW_foretold := metX7_foretold.imp (fun live as M R q => by
  unfold TW_foretold at q
  split at q
  · next n a b c d e f =>
    obtain ⟨i1, i2, rfl, rfl, h, q⟩ := q
    exact ⟨⟨_, _, rfl⟩, rfl, ⟨h.h, h.g⟩, fun v N c hg => q v N (h.gv c hg)⟩
  · exact q.elim)
def TV_foretold : am_T := fun live as M R => match as with
  | [.ref n, .int a, .int b, .int c, .int d, .int e, .int f] => ∃ i1 i2, live = (am_lv i1 i2, am_q i1 i2) ∧ n = 200 ∧ LI i1 i2 M ∧ ∀ v N, LI i1 i2 N → R (some (.long v)) N
  | _ => False
theorem metV_foretold : am_Met yX8_foretold cX8_foretold 18 (some .long) (10) (259) TV_foretold := metX8_foretold.imp (fun live as M R q => by
  unfold TV_foretold at q
  split at q
  · next n a b c d e f =>
    obtain ⟨i1, i2, rfl, rfl, h, q⟩ := q
    exact ⟨⟨_, _, rfl⟩, rfl, h.i, fun v N c _ => q v N (h.rc c)⟩
  · exact q.elim)
def TW_tried : am_T := fun live as M R => match as with
  | [.ref n, .int a, .int b, .int c, .int d, .int e] => ∃ i1 i2, live = (am_lv i1 i2, am_q i1 i2) ∧ n = 0 ∧ LI i1 i2 M ∧ ∀ v N, LI i1 i2 N → R (some (.long v)) N
  | _ => False
theorem metW_tried : am_Met yX7_tried cX7_tried 6 (some .long) (6) (152) TW_tried := metX7_tried.imp (fun live as M R q => by
  unfold TW_tried at q
  split at q
  · next n a b c d e =>
    obtain ⟨i1, i2, rfl, rfl, h, q⟩ := q
    exact ⟨⟨_, _, rfl⟩, rfl, ⟨h.h, h.g⟩, fun v N c hg => q v N (h.sa c hg)⟩
  · exact q.elim)
def TV_tried : am_T := fun live as M R => match as with
  | [.ref n, .int a, .int b, .int c, .int d, .int e] => ∃ i1 i2, live = (am_lv i1 i2, am_q i1 i2) ∧ n = 200 ∧ LI i1 i2 M ∧ ∀ v N, LI i1 i2 N → R (some (.long v)) N
  | _ => False
theorem metV_tried : am_Met yX8_tried cX8_tried 6 (some .long) (11) (281) TV_tried := metX8_tried.imp (fun live as M R q => by
  unfold TV_tried at q
  split at q
  · next n a b c d e =>
    obtain ⟨i1, i2, rfl, rfl, h, q⟩ := q
    exact ⟨⟨_, _, rfl⟩, rfl, h.i, h.n3t, fun v N c _ => q v N (h.rc c)⟩
  · exact q.elim)
def TW_tell : am_T := fun live as M R => match as with
  | [.ref n, .int a] => ∃ i1 i2, live = (am_lv i1 i2, am_q i1 i2) ∧ n = 0 ∧ LI i1 i2 M ∧ ∀ v N, v = (r_tell N a).1 → LI i1 i2 (r_tell N a).2 → r_I N → R (some (.int v)) N
  | _ => False
theorem metW_tell : am_Met yX7_tell cX7_tell 2 (some .int) (1) (20) TW_tell := metX7_tell.imp (fun live as M R q => by
  unfold TW_tell at q
  split at q
  · next n a =>
    obtain ⟨i1, i2, rfl, rfl, h, q⟩ := q
    have hs := st_tell h a
    exact ⟨⟨_, _, rfl⟩, rfl, ⟨h.h, h.g⟩, q _ _ hs.e hs.l (h.ri hs.c)⟩
  · exact q.elim)
def TW_untell : am_T := fun live as M R => match as with
  | [.ref n] => ∃ i1 i2, live = (am_lv i1 i2, am_q i1 i2) ∧ n = 0 ∧ LI i1 i2 M ∧ ∀ v N, v = (r_untell N).1 → LI i1 i2 (r_untell N).2 → r_I N → R (some (.int v)) N
  | _ => False
theorem metW_untell : am_Met yX7_untell cX7_untell 2 (some .int) (0) (0) TW_untell := metX7_untell.imp (fun live as M R q => by
  unfold TW_untell at q
  split at q
  · next n =>
    obtain ⟨i1, i2, rfl, rfl, h, q⟩ := q
    have hs := st_untell h
    exact ⟨⟨_, _, rfl⟩, rfl, ⟨h.h, h.g⟩, q _ _ hs.e hs.l (h.ri hs.c)⟩
  · exact q.elim)
def TW_best : am_T := fun live as M R => match as with
  | [.ref n, .int a, .int b, .int c, .int d, .int e, .long f] => ∃ i1 i2, live = (am_lv i1 i2, am_q i1 i2) ∧ n = 0 ∧ LI i1 i2 M ∧ ∀ v N, LI i1 i2 N → R (some (.int v)) N
  | _ => False
theorem metW_best : am_Met yX7_best cX7_best 12 (some .int) (6) (152) TW_best := metX7_best.imp (fun live as M R q => by
  unfold TW_best at q
  split at q
  · next n a b c d e f =>
    obtain ⟨i1, i2, rfl, rfl, h, q⟩ := q
    exact ⟨⟨_, _, rfl⟩, rfl, ⟨h.h, h.g⟩, fun v N c hg => q v N (h.sa c hg)⟩
  · exact q.elim)
def TV_best : am_T := fun live as M R => match as with
  | [.ref n, .int a, .int b, .int c, .int d, .int e, .long f] => ∃ i1 i2, live = (am_lv i1 i2, am_q i1 i2) ∧ n = 200 ∧ LI i1 i2 M ∧ ∀ v N, LI i1 i2 N → R (some (.int v)) N
  | _ => False
theorem metV_best : am_Met yX8_best cX8_best 13 (some .int) (11) (281) TV_best := metX8_best.imp (fun live as M R q => by
  unfold TV_best at q
  split at q
  · next n a b c d e f =>
    obtain ⟨i1, i2, rfl, rfl, h, q⟩ := q
    exact ⟨⟨_, _, rfl⟩, rfl, h.i, h.n3t, fun v N c _ => q v N (h.rc c)⟩
  · exact q.elim)
def TW_image : an_T := fun E as M R => match as with
  | [.ref n, .int a] => ∃ i1 i2, E = (am_lv i1 i2, am_q i1 i2) ∧ n = 0 ∧ LI i1 i2 M ∧ ∀ v j1 j2 N, v = (r_image N a).1 → LI j1 j2 (r_image N a).2 → r_I N → R (some (.int v)) (am_lv j1 j2, am_q j1 j2) N
  | _ => False
theorem metW_image : an_Met yX7_image cX7_image 2 (some .int) (3) (74) 39 5272 TW_image := metX7_image.imp (fun E as M R q => by
  unfold TW_image at q
  split at q
  · next n a =>
    obtain ⟨i1, i2, rfl, rfl, h, q⟩ := q
    refine ⟨i1, i2, rfl, rfl, fun e N c => ?_, fun e N c => ?_, fun hn => ?_⟩
    · subst e
      obtain ⟨l, e, r⟩ := im_0 h c
      exact q _ _ _ N e.symm l r
    · subst e
      obtain ⟨l, e, r⟩ := im_1 h c
      exact q _ _ _ N e.symm l r
    · have e := (im_no (M := M) hn).1
      exact q _ _ _ M (by rw [e]) (by rw [e]; exact h) h.i
  · exact q.elim)
def TW_from : an_T := fun E as M R => match as with
  | [.ref n, .int a] => ∃ i1 i2, E = (am_lv i1 i2, am_q i1 i2) ∧ n = 0 ∧ LI i1 i2 M ∧ ∀ v j1 j2 N, v = (r_from N a).1 → LI j1 j2 (r_from N a).2 → r_I N → R (some (.int v)) (am_lv j1 j2, am_q j1 j2) N
  | _ => False
theorem metW_from : an_Met yX7_from cX7_from 2 (some .int) (3) (74) 0 0 TW_from := metX7_from.imp (fun E as M R q => by
  unfold TW_from at q
  split at q
  · next n a =>
    obtain ⟨i1, i2, rfl, rfl, h, q⟩ := q
    refine ⟨i1, i2, rfl, rfl, fun hn => ?_, fun e z => ?_, fun e z => ?_, fun e z N c => ?_, fun e z N c => ?_⟩
    · have e := (im_no (M := M) hn).2
      exact q _ _ _ M (by rw [e]) (by rw [e]; exact h) h.i
    · subst e
      subst z
      have e := fr_no0 h
      exact q _ _ _ M (by rw [e]) (by rw [e]; exact h) h.i
    · subst e
      subst z
      have e := fr_no1 h
      exact q _ _ _ M (by rw [e]) (by rw [e]; exact h) h.i
    · subst e
      subst z
      obtain ⟨l, e, r⟩ := fr_0 h c
      exact q _ _ _ N e.symm l r
    · subst e
      subst z
      obtain ⟨l, e, r⟩ := fr_1 h c
      exact q _ _ _ N e.symm l r
  · exact q.elim)
def TW_count : am_T := fun live as M R => match as with
  | [.ref n, .int a] => ∃ i1 i2, live = (am_lv i1 i2, am_q i1 i2) ∧ n = 0 ∧ LI i1 i2 M ∧ R (some (.int (r_count M a))) M
  | _ => False
theorem metW_count : am_Met yX7_count cX7_count 2 (some .int) (0) (0) TW_count := metX7_count.imp (fun live as M R q => by
  unfold TW_count at q
  split at q
  · next n a =>
    obtain ⟨i1, i2, rfl, rfl, h, q⟩ := q
    refine ⟨⟨_, _, rfl⟩, rfl, ?_⟩
    rw [ct_eq h a]
    exact q
  · exact q.elim)
def TW_digest : am_T := fun live as M R => match as with
  | [.ref n] => ∃ i1 i2, live = (am_lv i1 i2, am_q i1 i2) ∧ n = 0 ∧ LI i1 i2 M ∧ ∀ v N, LI i1 i2 N → R (some (.long v)) N
  | _ => False
theorem metW_digest : am_Met yX7_digest cX7_digest 4 (some .long) (6) (147) TW_digest := metX7_digest.imp (fun live as M R q => by
  unfold TW_digest at q
  split at q
  · next n =>
    obtain ⟨i1, i2, rfl, rfl, h, q⟩ := q
    exact ⟨⟨_, _, rfl⟩, rfl, ⟨h.h, h.g⟩, fun v N c hg => q v N (h.sc c hg)⟩
  · exact q.elim)
def TV_digest : am_T := fun live as M R => match as with
  | [.ref n] => ∃ i1 i2, live = (am_lv i1 i2, am_q i1 i2) ∧ n = 200 ∧ LI i1 i2 M ∧ ∀ v N, LI i1 i2 N → R (some (.long v)) N
  | _ => False
theorem metV_digest : am_Met yX8_digest cX8_digest 5 (some .long) (10) (253) TV_digest := metX8_digest.imp (fun live as M R q => by
  unfold TV_digest at q
  split at q
  · next n =>
    obtain ⟨i1, i2, rfl, rfl, h, q⟩ := q
    exact ⟨⟨_, _, rfl⟩, rfl, h.i, fun v N c _ => q v N (h.rc c)⟩
  · exact q.elim)
end
