/-! texts between calls: what stands in a text is what its signs mean -/
theorem LI.sg {i1 i2 : Bool} {M : am_M} (h : LI i1 i2 M) {t : Nat} (ht : t < 5) : x_sg (39 + 3 * t) (39 + 3 * t + 1) M := ⟨(), fun j hj => by
  have hv := h.e (rl_c_tx t ht).1 (k := 0) (by decide)
  rw [show 20 + (19 + 3 * t) = 39 + 3 * t by omega, show 3508 + t + 0 = 3508 + t by omega] at hv
  have hv : M.1 (39 + 3 * t) 5 = M.1 201 (3508 + t) := hv
  have q := (h.v (k := 3508 + t) (by omega)).a29 (by omega)
  rw [← hv] at q
  have e := h.e (rl_c_tx t ht).2 (k := j) (by omega)
  rw [show 20 + (20 + 3 * t) = 39 + 3 * t + 1 by omega, Nat.zero_add] at e
  rw [e]
  exact ((h.v (k := 3258 + 50 * t + j) (by omega)).a28 (by omega)).1⟩
def t_b (M : am_M) (b : Nat) : Prop := ∃ _ : Unit, ∀ t, t < 5 → tx_ok (b + (19 + 3 * t)) (b + (20 + 3 * t)) (b + (21 + 3 * t)) M
theorem t_b.v {M : am_M} {b : Nat} (h : t_b M b) {t : Nat} (ht : t < 5) : tx_ok (b + (19 + 3 * t)) (b + (20 + 3 * t)) (b + (21 + 3 * t)) M := by obtain ⟨-, h⟩ := h; exact h t ht
def LX (i1 i2 : Bool) (M : am_M) : Prop := ∃ _ : Unit, LI i1 i2 M ∧ t_b M 20 ∧ (i1 = true → t_b M 60) ∧ (i2 = true → t_b M 100)
def x_tb (a : Nat) : Bool := (Nat.ble 39 a && Nat.ble a 53) || (Nat.ble 79 a && Nat.ble a 93) || (Nat.ble 119 a && Nat.ble a 133)
theorem x_tb_of {a : Nat} (h : (39 ≤ a ∧ a ≤ 53) ∨ (79 ≤ a ∧ a ≤ 93) ∨ (119 ≤ a ∧ a ≤ 133)) : x_tb a = true := by
  unfold x_tb
  rw [Bool.or_eq_true, Bool.or_eq_true, Bool.and_eq_true, Bool.and_eq_true, Bool.and_eq_true, Nat.ble_eq, Nat.ble_eq, Nat.ble_eq, Nat.ble_eq, Nat.ble_eq, Nat.ble_eq]
  omega
theorem x_tb_lt {a : Nat} (h : x_tb a = true) : 39 ≤ a ∧ a ≤ 133 := by
  unfold x_tb at h
  rw [Bool.or_eq_true, Bool.or_eq_true, Bool.and_eq_true, Bool.and_eq_true, Bool.and_eq_true, Nat.ble_eq, Nat.ble_eq, Nat.ble_eq, Nat.ble_eq, Nat.ble_eq, Nat.ble_eq] at h
  omega
/-- the texts stay -/
def x_kt (M N : am_M) : Prop := ∃ _ : Unit, ∀ a k, x_tb a = true → N.1 a k = M.1 a k
theorem x_kt.v {M N : am_M} (h : x_kt M N) {a k : Nat} (ha : x_tb a = true) : N.1 a k = M.1 a k := by obtain ⟨-, h⟩ := h; exact h a k ha
theorem x_kt.rf {M : am_M} : x_kt M M := ⟨(), fun _ _ _ => rfl⟩
theorem x_kt.tr {M N K : am_M} (h : x_kt M N) (h2 : x_kt N K) : x_kt M K := ⟨(), fun a k z => (h2.v z).trans (h.v z)⟩
theorem x_kt.wI {M N : am_M} {n k : Nat} {v : Int32} (h : x_kt M N) (hn : x_tb n = false) : x_kt M (am_wI N n k v) := ⟨(), fun a j z => by
  rw [am_wI_1, if_neg (fun q => by rw [q.1, hn] at z; cases z)]
  exact h.v z⟩
theorem x_kt.cI {M N : am_M} {n : Nat} {f : Nat → Int32} (h : x_kt M N) (hn : x_tb n = false) : x_kt M (am_cI N n f) := ⟨(), fun a j z => by
  rw [am_cI_1, if_neg (fun q => by rw [q, hn] at z; cases z)]
  exact h.v z⟩
theorem x_kt.lay {M N : am_M} {n : Nat} {lo hi : Int} {v : Int32} (h : x_kt M N) (hn : x_tb n = false) : x_kt M (am_lay N n lo hi v) := ⟨(), fun a j z => by
  rw [am_lay_1, if_neg (fun q => by rw [q.1, hn] at z; cases z)]
  exact h.v z⟩
theorem x_kt.rput {M N : am_M} {r c : Nat} {x y v : Int32} (h : x_kt M N) (hn : x_tb c = false) : x_kt M (am_rput N r c x y v) := ⟨(), fun a j z => by
  unfold am_rput
  rw [am_wIc_1, if_neg (fun q => by rw [q.2.1, hn] at z; cases z)]
  exact h.v z⟩
theorem x_kt.radd {M N : am_M} {r c : Nat} {x y v : Int32} (h : x_kt M N) (hn : x_tb c = false) (hr : x_tb r = false) : x_kt M (am_radd N r c x y v) := by
  unfold am_radd
  exact (((h.rput hn).rput hn).rput hn).wI hr
section LXS
variable {i1 i2 : Bool} {M : am_M}
theorem LX.li (h : LX i1 i2 M) : LI i1 i2 M := by obtain ⟨-, h, -⟩ := h; exact h
theorem LX.t0 (h : LX i1 i2 M) : t_b M 20 := by obtain ⟨-, -, h, -⟩ := h; exact h
theorem LX.t1 (h : LX true i2 M) : t_b M 60 := by obtain ⟨-, -, -, h, -⟩ := h; exact h rfl
theorem LX.t2 (h : LX i1 true M) : t_b M 100 := by obtain ⟨-, -, -, -, h⟩ := h; exact h rfl
theorem t_b.cg {N : am_M} {b b' : Nat} (h : t_b M b) (e : ∀ u k, 19 ≤ u → u ≤ 33 → ((∃ t, t < 5 ∧ u = 19 + 3 * t ∧ (k = 5 ∨ k = 6 ∨ k = 2)) ∨ (∃ t, t < 5 ∧ (u = 20 + 3 * t ∨ u = 21 + 3 * t) ∧ k < 50)) → N.1 (b' + u) k = M.1 (b + u) k) (h5 : ∀ t, t < 5 → (M.1 (b + (19 + 3 * t)) 5).toInt ≤ 50 ∧ (M.1 (b + (19 + 3 * t)) 2).toInt ≤ 50) : t_b N b' := ⟨(), fun t ht => (h.v ht).cg (e _ _ (by omega) (by omega) (Or.inl ⟨t, ht, rfl, Or.inl rfl⟩)) (e _ _ (by omega) (by omega) (Or.inl ⟨t, ht, rfl, Or.inr (Or.inl rfl)⟩)) (e _ _ (by omega) (by omega) (Or.inl ⟨t, ht, rfl, Or.inr (Or.inr rfl)⟩)) (fun j hj => e _ _ (by omega) (by omega) (Or.inr ⟨t, ht, Or.inl rfl, by
    have q := (h5 t ht).1
    have hj : j < (M.1 (b + (19 + 3 * t)) 5).toInt.toNat := hj
    omega⟩)) (fun j hj => e _ _ (by omega) (by omega) (Or.inr ⟨t, ht, Or.inr rfl, by
    have q := (h5 t ht).2
    have hj : j < (M.1 (b + (19 + 3 * t)) 2).toInt.toNat := hj
    omega⟩))⟩
theorem t_b.kt {N : am_M} {b : Nat} (h : t_b M b) (hb : b = 20 ∨ b = 60 ∨ b = 100) (k : x_kt M N) : t_b N b := ⟨(), fun t ht => (h.v ht).cg (k.v (x_tb_of (by omega))) (k.v (x_tb_of (by omega))) (k.v (x_tb_of (by omega))) (fun j _ => k.v (x_tb_of (by omega))) (fun j _ => k.v (x_tb_of (by omega)))⟩
theorem LX.mv (h : LX i1 i2 M) {F : am_M} (hl : LI i1 i2 F) (k : x_kt M F) : LX i1 i2 F := by
  obtain ⟨-, -, h0, h1, h2⟩ := h
  exact ⟨(), hl, h0.kt (Or.inl rfl) k, fun z => (h1 z).kt (Or.inr (Or.inl rfl)) k, fun z => (h2 z).kt (Or.inr (Or.inr rfl)) k⟩
theorem LX.sc (h : LX i1 i2 M) {N : am_M} (c : g_sc M N) (hg : g_rI N) : LX i1 i2 N := h.mv (h.li.sc c hg) ⟨(), fun a k z => c.i k (by have := x_tb_lt z; omega)⟩
theorem LX.gv (h : LX i1 i2 M) {N : am_M} (c : g_sv M N) (hg : g_rI N) : LX i1 i2 N := h.mv (h.li.gv c hg) (by
  obtain ⟨-, c⟩ := c
  exact ⟨(), fun a k z => (c a k (by have := x_tb_lt z; omega)).1⟩)
theorem LX.sa (h : LX i1 i2 M) {N : am_M} (c : g_sa M N) (hg : g_rI N) : LX i1 i2 N := h.mv (h.li.sa c hg) (by
  obtain ⟨-, c⟩ := c
  exact ⟨(), fun a k z => (c a k (by have := x_tb_lt z; omega) (fun q => by have := x_tb_lt z; omega)).1⟩)
theorem LX.rc (h : LX i1 i2 M) {N : am_M} (c : r_sc M N) : LX i1 i2 N := h.mv (h.li.rc c) ⟨(), fun a k z => (c.g a k (by have := x_tb_lt z; omega)).1⟩
/-- images -/
theorem LX.lens (h : LI i1 i2 M) {t : Nat} (ht : t < 5) : (M.1 (20 + (19 + 3 * t)) 5).toInt ≤ 50 ∧ (M.1 (20 + (19 + 3 * t)) 2).toInt ≤ 50 := by
  have hv := h.e (rl_c_tx t ht).1 (k := 0) (by decide)
  have hv : M.1 (20 + (19 + 3 * t)) 5 = M.1 201 (3508 + t) := hv
  have q := (h.v (k := 3508 + t) (by omega)).a29 (by omega)
  exact ⟨by rw [hv]; exact q.2, (h.b.c ht).i.2⟩
theorem lb.lens {b r o : Nat} (h : lb b r o M M) {t : Nat} (ht : t < 5) : (M.1 (b + (19 + 3 * t)) 5).toInt ≤ 50 ∧ (M.1 (b + (19 + 3 * t)) 2).toInt ≤ 50 := by
  have hv := h.r.c (rl_c_tx t ht).1 (k := 0) (show 0 < 1 by decide)
  have hv : M.1 (b + (19 + 3 * t)) 5 = M.1 r (o + (3508 + t)) := hv
  have q := (h.t.v (k := 3508 + t) (by omega)).a29 (by omega)
  exact ⟨by rw [hv]; exact q.2, (h.c ht).i.2⟩
theorem g_hit_tx {u k : Nat} (h : (∃ t, t < 5 ∧ u = 19 + 3 * t ∧ (k = 5 ∨ k = 6 ∨ k = 2)) ∨ (∃ t, t < 5 ∧ (u = 20 + 3 * t ∨ u = 21 + 3 * t) ∧ k < 50)) : g_hit g_sh0 u k = true := by
  unfold g_hit
  have m1 : ∀ t, t < 5 → (19 + 3 * t, 5, 1) ∈ g_sh0 := by decide
  have m2 : ∀ t, t < 5 → (19 + 3 * t, 2, 1) ∈ g_sh0 := by decide
  have m3 : ∀ t, t < 5 → (19 + 3 * t, 6, 1) ∈ g_sh0 := by decide
  have m4 : ∀ t, t < 5 → (20 + 3 * t, 0, 50) ∈ g_sh0 := by decide
  have m5 : ∀ t, t < 5 → (21 + 3 * t, 0, 50) ∈ g_sh0 := by decide
  have go : ∀ s ∈ g_sh0, s.1 = u → s.2.1 ≤ k → k < s.2.1 + s.2.2 → (g_sh0.any fun q => Nat.beq u q.1 && Nat.ble q.2.1 k && Nat.blt k (q.2.1 + q.2.2)) = true := fun s hs e k1 k2 => List.any_eq_true.mpr ⟨s, hs, by rw [Bool.and_eq_true, Bool.and_eq_true, e]; exact ⟨⟨Nat.beq_refl _, Nat.ble_eq.mpr k1⟩, Nat.ble_eq.mpr k2⟩⟩
  rcases h with ⟨t, ht, rfl, rfl | rfl | rfl⟩ | ⟨t, ht, rfl | rfl, hk⟩
  · exact go _ (m1 t ht) rfl (Nat.le_refl _) (by show 5 < 5 + 1; decide)
  · exact go _ (m3 t ht) rfl (Nat.le_refl _) (by show 6 < 6 + 1; decide)
  · exact go _ (m2 t ht) rfl (Nat.le_refl _) (by show 2 < 2 + 1; decide)
  · exact go _ (m4 t ht) rfl (Nat.zero_le _) (by show k < 0 + 50; omega)
  · exact go _ (m5 t ht) rfl (Nat.zero_le _) (by show k < 0 + 50; omega)
theorem r_image_kt {N : am_M} {i : Int32} : x_kt N (r_image N i).2 := by
  unfold r_image
  split
  · exact (x_kt.rf.cI rfl).wI rfl
  · exact x_kt.rf
theorem r_from_kt {N : am_M} {i : Int32} : x_kt N (r_from N i).2 := by
  unfold r_from
  split
  · split
    · exact x_kt.rf
    · exact x_kt.rf.cI rfl
  · exact x_kt.rf
theorem LX.im (h : LX i1 i2 M) {b : Nat} (hb : b = 60 ∨ b = 100) {N : am_M} (c : g_im b M N) : t_b N b ∧ t_b N 20 ∧ ∀ b', b' ≠ b → (b' = 60 ∨ b' = 100) → t_b M b' → t_b N b' := by
  obtain ⟨c1, c2⟩ := im_N h.li hb c
  refine ⟨h.t0.cg (fun u k _ _ z => c2 u k (g_hit_tx z)) (fun t ht => LX.lens h.li ht), ?_, fun b' hn hb' hm => ?_⟩
  · exact ⟨(), fun t ht => (h.t0.v ht).cg (c1 _ _ (by omega)) (c1 _ _ (by omega)) (c1 _ _ (by omega)) (fun j _ => c1 _ _ (by omega)) (fun j _ => c1 _ _ (by omega))⟩
  · exact ⟨(), fun t ht => (hm.v ht).cg (c1 _ _ (by omega)) (c1 _ _ (by omega)) (c1 _ _ (by omega)) (fun j _ => c1 _ _ (by omega)) (fun j _ => c1 _ _ (by omega))⟩
theorem LX.im0 (h : LX i1 i2 M) {N : am_M} (c : g_im 60 M N) : LX true i2 (r_image N 0).2 := by
  obtain ⟨a, b, d⟩ := h.im (Or.inl rfl) c
  have hl := (im_0 h.li c).1
  obtain ⟨-, -, -, -, h2⟩ := h
  exact ⟨(), hl, b.kt (Or.inl rfl) r_image_kt, fun _ => a.kt (Or.inr (Or.inl rfl)) r_image_kt, fun z => (d 100 (by decide) (Or.inr rfl) (h2 z)).kt (Or.inr (Or.inr rfl)) r_image_kt⟩
theorem LX.im1 (h : LX i1 i2 M) {N : am_M} (c : g_im 100 M N) : LX i1 true (r_image N 1).2 := by
  obtain ⟨a, b, d⟩ := h.im (Or.inr rfl) c
  have hl := (im_1 h.li c).1
  obtain ⟨-, -, -, h1, -⟩ := h
  exact ⟨(), hl, b.kt (Or.inl rfl) r_image_kt, fun z => (d 60 (by decide) (Or.inl rfl) (h1 z)).kt (Or.inr (Or.inl rfl)) r_image_kt, fun _ => a.kt (Or.inr (Or.inr rfl)) r_image_kt⟩
theorem LX.fr {b r o : Nat} (hb : b = 60 ∨ b = 100) (hl : lb b r o M M) (ht : t_b M b) {N : am_M} (c : g_cs 20 b g_sh0 M N) : t_b N 20 ∧ ∀ b', (b' = 60 ∨ b' = 100) → t_b M b' → t_b N b' := by
  obtain ⟨-, -, c2⟩ := c
  refine ⟨ht.cg (fun u k _ _ z => ?_) (fun t ht => hl.lens ht), fun b' hb' hm => ?_⟩
  · rw [c2, if_pos ⟨by omega, by rw [Nat.add_sub_cancel_left]; exact g_hit_tx z⟩, Nat.add_sub_cancel_left]
  · have far : ∀ a k, 59 ≤ a → N.1 a k = M.1 a k := fun a k z => by
      rw [c2, if_neg (fun q => ?_)]
      have := g_sh0_lt q.2
      omega
    exact ⟨(), fun t ht => (hm.v ht).cg (far _ _ (by omega)) (far _ _ (by omega)) (far _ _ (by omega)) (fun j _ => far _ _ (by omega)) (fun j _ => far _ _ (by omega))⟩
theorem LX.fr0 (h : LX true i2 M) {N : am_M} (c : g_cs 20 60 g_sh0 M N) : LX true i2 (r_from N 0).2 := by
  have hl := (fr_0 h.li c).1
  obtain ⟨m1, -⟩ := h.li.im
  obtain ⟨a, d⟩ := LX.fr (Or.inl rfl) (m1 rfl) h.t1 c
  obtain ⟨-, -, -, h1, h2⟩ := h
  exact ⟨(), hl, a.kt (Or.inl rfl) r_from_kt, fun z => (d 60 (Or.inl rfl) (h1 z)).kt (Or.inr (Or.inl rfl)) r_from_kt, fun z => (d 100 (Or.inr rfl) (h2 z)).kt (Or.inr (Or.inr rfl)) r_from_kt⟩
theorem LX.fr1 (h : LX i1 true M) {N : am_M} (c : g_cs 20 100 g_sh0 M N) : LX i1 true (r_from N 1).2 := by
  have hl := (fr_1 h.li c).1
  obtain ⟨-, m1, -⟩ := h.li.im
  obtain ⟨a, d⟩ := LX.fr (Or.inr rfl) (m1 rfl) h.t2 c
  obtain ⟨-, -, -, h1, h2⟩ := h
  exact ⟨(), hl, a.kt (Or.inl rfl) r_from_kt, fun z => (d 60 (Or.inl rfl) (h1 z)).kt (Or.inr (Or.inl rfl)) r_from_kt, fun z => (d 100 (Or.inr rfl) (h2 z)).kt (Or.inr (Or.inr rfl)) r_from_kt⟩

theorem kc_person (M : am_M) (a : Int32) : x_kt M (c_person M a).2 := by
  unfold c_person
  repeat' split
  all_goals (try dsimp only)
  all_goals (try unfold am_addAct)
  all_goals repeat' (first | (with_reducible exact x_kt.rf) | (with_reducible apply x_kt.wI) | (with_reducible apply x_kt.lay) | (with_reducible apply x_kt.rput) | (with_reducible apply x_kt.radd) | (with_reducible apply x_kt.cI) | ((with_reducible change _ = false); rfl))
theorem kr_person (M : am_M) (a : Int32) : x_kt M (r_person M a).2 := by
  unfold r_person
  repeat' split
  all_goals (try dsimp only)
  all_goals repeat' (first | (with_reducible exact x_kt.rf) | (with_reducible apply x_kt.wI) | (with_reducible apply x_kt.lay) | (with_reducible apply x_kt.cI) | ((with_reducible change _ = false); rfl))
theorem kc_land (M : am_M) (a b c d : Int32) : x_kt M (c_land M a b c d).2 := by
  unfold c_land
  repeat' split
  all_goals (try dsimp only)
  all_goals (try unfold am_addAct)
  all_goals repeat' (first | (with_reducible exact x_kt.rf) | (with_reducible apply x_kt.wI) | (with_reducible apply x_kt.lay) | (with_reducible apply x_kt.rput) | (with_reducible apply x_kt.radd) | (with_reducible apply x_kt.cI) | ((with_reducible change _ = false); rfl))
theorem kr_land (M : am_M) (a b c d : Int32) : x_kt M (r_land M a b c d).2 := by
  unfold r_land
  repeat' split
  all_goals (try dsimp only)
  all_goals repeat' (first | (with_reducible exact x_kt.rf) | (with_reducible apply x_kt.wI) | (with_reducible apply x_kt.lay) | (with_reducible apply x_kt.cI) | ((with_reducible change _ = false); rfl))
theorem kc_scale (M : am_M) (a b : Int32) : x_kt M (c_scale M a b).2 := by
  unfold c_scale
  repeat' split
  all_goals (try dsimp only)
  all_goals (try unfold am_addAct)
  all_goals repeat' (first | (with_reducible exact x_kt.rf) | (with_reducible apply x_kt.wI) | (with_reducible apply x_kt.lay) | (with_reducible apply x_kt.rput) | (with_reducible apply x_kt.radd) | (with_reducible apply x_kt.cI) | ((with_reducible change _ = false); rfl))
theorem kr_scale (M : am_M) (a b : Int32) : x_kt M (r_scale M a b).2 := by
  unfold r_scale
  repeat' split
  all_goals (try dsimp only)
  all_goals repeat' (first | (with_reducible exact x_kt.rf) | (with_reducible apply x_kt.wI) | (with_reducible apply x_kt.lay) | (with_reducible apply x_kt.cI) | ((with_reducible change _ = false); rfl))
theorem kc_prices (M : am_M) (a b : Int32) : x_kt M (c_prices M a b).2 := by
  unfold c_prices
  repeat' split
  all_goals (try dsimp only)
  all_goals (try unfold am_addAct)
  all_goals repeat' (first | (with_reducible exact x_kt.rf) | (with_reducible apply x_kt.wI) | (with_reducible apply x_kt.lay) | (with_reducible apply x_kt.rput) | (with_reducible apply x_kt.radd) | (with_reducible apply x_kt.cI) | ((with_reducible change _ = false); rfl))
theorem kr_prices (M : am_M) (a b : Int32) : x_kt M (r_prices M a b).2 := by
  unfold r_prices
  repeat' split
  all_goals (try dsimp only)
  all_goals repeat' (first | (with_reducible exact x_kt.rf) | (with_reducible apply x_kt.wI) | (with_reducible apply x_kt.lay) | (with_reducible apply x_kt.cI) | ((with_reducible change _ = false); rfl))
theorem kc_dies (M : am_M) (a b : Int32) : x_kt M (c_dies M a b).2 := by
  unfold c_dies
  repeat' split
  all_goals (try dsimp only)
  all_goals (try unfold am_addAct)
  all_goals repeat' (first | (with_reducible exact x_kt.rf) | (with_reducible apply x_kt.wI) | (with_reducible apply x_kt.lay) | (with_reducible apply x_kt.rput) | (with_reducible apply x_kt.radd) | (with_reducible apply x_kt.cI) | ((with_reducible change _ = false); rfl))
theorem kr_dies (M : am_M) (a b : Int32) : x_kt M (r_dies M a b).2 := by
  unfold r_dies
  repeat' split
  all_goals (try dsimp only)
  all_goals repeat' (first | (with_reducible exact x_kt.rf) | (with_reducible apply x_kt.wI) | (with_reducible apply x_kt.lay) | (with_reducible apply x_kt.cI) | ((with_reducible change _ = false); rfl))
theorem kc_earn (M : am_M) (a b c d : Int32) : x_kt M (c_earn M a b c d).2 := by
  unfold c_earn
  repeat' split
  all_goals (try dsimp only)
  all_goals (try unfold am_addAct)
  all_goals repeat' (first | (with_reducible exact x_kt.rf) | (with_reducible apply x_kt.wI) | (with_reducible apply x_kt.lay) | (with_reducible apply x_kt.rput) | (with_reducible apply x_kt.radd) | (with_reducible apply x_kt.cI) | ((with_reducible change _ = false); rfl))
theorem kr_earn (M : am_M) (a b c d : Int32) : x_kt M (r_earn M a b c d).2 := by
  unfold r_earn
  repeat' split
  all_goals (try dsimp only)
  all_goals repeat' (first | (with_reducible exact x_kt.rf) | (with_reducible apply x_kt.wI) | (with_reducible apply x_kt.lay) | (with_reducible apply x_kt.cI) | ((with_reducible change _ = false); rfl))
theorem kc_right (M : am_M) (a b c d : Int32) : x_kt M (c_right M a b c d).2 := by
  unfold c_right
  repeat' split
  all_goals (try dsimp only)
  all_goals (try unfold am_addAct)
  all_goals repeat' (first | (with_reducible exact x_kt.rf) | (with_reducible apply x_kt.wI) | (with_reducible apply x_kt.lay) | (with_reducible apply x_kt.rput) | (with_reducible apply x_kt.radd) | (with_reducible apply x_kt.cI) | ((with_reducible change _ = false); rfl))
theorem kr_right (M : am_M) (a b c d : Int32) : x_kt M (r_right M a b c d).2 := by
  unfold r_right
  repeat' split
  all_goals (try dsimp only)
  all_goals repeat' (first | (with_reducible exact x_kt.rf) | (with_reducible apply x_kt.wI) | (with_reducible apply x_kt.lay) | (with_reducible apply x_kt.cI) | ((with_reducible change _ = false); rfl))
theorem kc_earnings (M : am_M) (a b c : Int32) : x_kt M (c_earnings M a b c).2 := by
  unfold c_earnings
  repeat' split
  all_goals (try dsimp only)
  all_goals (try unfold am_addAct)
  all_goals repeat' (first | (with_reducible exact x_kt.rf) | (with_reducible apply x_kt.wI) | (with_reducible apply x_kt.lay) | (with_reducible apply x_kt.rput) | (with_reducible apply x_kt.radd) | (with_reducible apply x_kt.cI) | ((with_reducible change _ = false); rfl))
theorem kr_earnings (M : am_M) (a b c : Int32) : x_kt M (r_earnings M a b c).2 := by
  unfold r_earnings
  repeat' split
  all_goals (try dsimp only)
  all_goals repeat' (first | (with_reducible exact x_kt.rf) | (with_reducible apply x_kt.wI) | (with_reducible apply x_kt.lay) | (with_reducible apply x_kt.cI) | ((with_reducible change _ = false); rfl))
theorem kc_act (M : am_M) (a b c d e f : Int32) : x_kt M (c_act M a b c d e f).2 := by
  unfold c_act
  repeat' split
  all_goals (try dsimp only)
  all_goals (try unfold am_addAct)
  all_goals repeat' (first | (with_reducible exact x_kt.rf) | (with_reducible apply x_kt.wI) | (with_reducible apply x_kt.lay) | (with_reducible apply x_kt.rput) | (with_reducible apply x_kt.radd) | (with_reducible apply x_kt.cI) | ((with_reducible change _ = false); rfl))
theorem kr_act (M : am_M) (a b c d e f : Int32) : x_kt M (r_act M a b c d e f).2 := by
  unfold r_act
  repeat' split
  all_goals (try dsimp only)
  all_goals repeat' (first | (with_reducible exact x_kt.rf) | (with_reducible apply x_kt.wI) | (with_reducible apply x_kt.lay) | (with_reducible apply x_kt.cI) | ((with_reducible change _ = false); rfl))
theorem kc_loan (M : am_M) (a b c d e : Int32) : x_kt M (c_loan M a b c d e).2 := by
  unfold c_loan
  repeat' split
  all_goals (try dsimp only)
  all_goals (try unfold am_addAct)
  all_goals repeat' (first | (with_reducible exact x_kt.rf) | (with_reducible apply x_kt.wI) | (with_reducible apply x_kt.lay) | (with_reducible apply x_kt.rput) | (with_reducible apply x_kt.radd) | (with_reducible apply x_kt.cI) | ((with_reducible change _ = false); rfl))
theorem kr_loan (M : am_M) (a b c d e : Int32) : x_kt M (r_loan M a b c d e).2 := by
  unfold r_loan
  repeat' split
  all_goals (try dsimp only)
  all_goals repeat' (first | (with_reducible exact x_kt.rf) | (with_reducible apply x_kt.wI) | (with_reducible apply x_kt.lay) | (with_reducible apply x_kt.cI) | ((with_reducible change _ = false); rfl))
theorem kc_leave (M : am_M) (a b : Int32) : x_kt M (c_leave M a b).2 := by
  unfold c_leave
  repeat' split
  all_goals (try dsimp only)
  all_goals (try unfold am_addAct)
  all_goals repeat' (first | (with_reducible exact x_kt.rf) | (with_reducible apply x_kt.wI) | (with_reducible apply x_kt.lay) | (with_reducible apply x_kt.rput) | (with_reducible apply x_kt.radd) | (with_reducible apply x_kt.cI) | ((with_reducible change _ = false); rfl))
theorem kr_leave (M : am_M) (a b : Int32) : x_kt M (r_leave M a b).2 := by
  unfold r_leave
  repeat' split
  all_goals (try dsimp only)
  all_goals repeat' (first | (with_reducible exact x_kt.rf) | (with_reducible apply x_kt.wI) | (with_reducible apply x_kt.lay) | (with_reducible apply x_kt.cI) | ((with_reducible change _ = false); rfl))
theorem kc_move (M : am_M) (a b c : Int32) : x_kt M (c_move M a b c).2 := by
  unfold c_move
  repeat' split
  all_goals (try dsimp only)
  all_goals (try unfold am_addAct)
  all_goals repeat' (first | (with_reducible exact x_kt.rf) | (with_reducible apply x_kt.wI) | (with_reducible apply x_kt.lay) | (with_reducible apply x_kt.rput) | (with_reducible apply x_kt.radd) | (with_reducible apply x_kt.cI) | ((with_reducible change _ = false); rfl))
theorem kr_move (M : am_M) (a b c : Int32) : x_kt M (r_move M a b c).2 := by
  unfold r_move
  repeat' split
  all_goals (try dsimp only)
  all_goals repeat' (first | (with_reducible exact x_kt.rf) | (with_reducible apply x_kt.wI) | (with_reducible apply x_kt.lay) | (with_reducible apply x_kt.cI) | ((with_reducible change _ = false); rfl))
theorem kc_sell (M : am_M) (a b c : Int32) : x_kt M (c_sell M a b c).2 := by
  unfold c_sell
  repeat' split
  all_goals (try dsimp only)
  all_goals (try unfold am_addAct)
  all_goals repeat' (first | (with_reducible exact x_kt.rf) | (with_reducible apply x_kt.wI) | (with_reducible apply x_kt.lay) | (with_reducible apply x_kt.rput) | (with_reducible apply x_kt.radd) | (with_reducible apply x_kt.cI) | ((with_reducible change _ = false); rfl))
theorem kr_sell (M : am_M) (a b c : Int32) : x_kt M (r_sell M a b c).2 := by
  unfold r_sell
  repeat' split
  all_goals (try dsimp only)
  all_goals repeat' (first | (with_reducible exact x_kt.rf) | (with_reducible apply x_kt.wI) | (with_reducible apply x_kt.lay) | (with_reducible apply x_kt.cI) | ((with_reducible change _ = false); rfl))
theorem kc_promise (M : am_M) (a b c : Int32) : x_kt M (c_promise M a b c).2 := by
  unfold c_promise
  repeat' split
  all_goals (try dsimp only)
  all_goals (try unfold am_addAct)
  all_goals repeat' (first | (with_reducible exact x_kt.rf) | (with_reducible apply x_kt.wI) | (with_reducible apply x_kt.lay) | (with_reducible apply x_kt.rput) | (with_reducible apply x_kt.radd) | (with_reducible apply x_kt.cI) | ((with_reducible change _ = false); rfl))
theorem kr_promise (M : am_M) (a b c : Int32) : x_kt M (r_promise M a b c).2 := by
  unfold r_promise
  repeat' split
  all_goals (try dsimp only)
  all_goals repeat' (first | (with_reducible exact x_kt.rf) | (with_reducible apply x_kt.wI) | (with_reducible apply x_kt.lay) | (with_reducible apply x_kt.cI) | ((with_reducible change _ = false); rfl))
theorem kc_live (M : am_M) (a b c d : Int32) : x_kt M (c_live M a b c d).2 := by
  unfold c_live
  repeat' split
  all_goals (try dsimp only)
  all_goals (try unfold am_addAct)
  all_goals repeat' (first | (with_reducible exact x_kt.rf) | (with_reducible apply x_kt.wI) | (with_reducible apply x_kt.lay) | (with_reducible apply x_kt.rput) | (with_reducible apply x_kt.radd) | (with_reducible apply x_kt.cI) | ((with_reducible change _ = false); rfl))
theorem kr_live (M : am_M) (a b c d : Int32) : x_kt M (r_live M a b c d).2 := by
  unfold r_live
  repeat' split
  all_goals (try dsimp only)
  all_goals repeat' (first | (with_reducible exact x_kt.rf) | (with_reducible apply x_kt.wI) | (with_reducible apply x_kt.lay) | (with_reducible apply x_kt.cI) | ((with_reducible change _ = false); rfl))
theorem kc_chances (M : am_M) (a b c d e : Int32) : x_kt M (c_chances M a b c d e).2 := by
  unfold c_chances
  repeat' split
  all_goals (try dsimp only)
  all_goals (try unfold am_addAct)
  all_goals repeat' (first | (with_reducible exact x_kt.rf) | (with_reducible apply x_kt.wI) | (with_reducible apply x_kt.lay) | (with_reducible apply x_kt.rput) | (with_reducible apply x_kt.radd) | (with_reducible apply x_kt.cI) | ((with_reducible change _ = false); rfl))
theorem kr_chances (M : am_M) (a b c d e : Int32) : x_kt M (r_chances M a b c d e).2 := by
  unfold r_chances
  repeat' split
  all_goals (try dsimp only)
  all_goals repeat' (first | (with_reducible exact x_kt.rf) | (with_reducible apply x_kt.wI) | (with_reducible apply x_kt.lay) | (with_reducible apply x_kt.cI) | ((with_reducible change _ = false); rfl))
theorem kc_tell (M : am_M) (a : Int32) : x_kt M (c_tell M a).2 := by
  unfold c_tell
  repeat' split
  all_goals (try dsimp only)
  all_goals (try unfold am_addAct)
  all_goals repeat' (first | (with_reducible exact x_kt.rf) | (with_reducible apply x_kt.wI) | (with_reducible apply x_kt.lay) | (with_reducible apply x_kt.rput) | (with_reducible apply x_kt.radd) | (with_reducible apply x_kt.cI) | ((with_reducible change _ = false); rfl))
theorem kr_tell (M : am_M) (a : Int32) : x_kt M (r_tell M a).2 := by
  unfold r_tell
  repeat' split
  all_goals (try dsimp only)
  all_goals repeat' (first | (with_reducible exact x_kt.rf) | (with_reducible apply x_kt.wI) | (with_reducible apply x_kt.lay) | (with_reducible apply x_kt.cI) | ((with_reducible change _ = false); rfl))
theorem kc_untell (M : am_M) : x_kt M (c_untell M).2 := by
  unfold c_untell
  repeat' split
  all_goals (try dsimp only)
  all_goals (try unfold am_addAct)
  all_goals repeat' (first | (with_reducible exact x_kt.rf) | (with_reducible apply x_kt.wI) | (with_reducible apply x_kt.lay) | (with_reducible apply x_kt.rput) | (with_reducible apply x_kt.radd) | (with_reducible apply x_kt.cI) | ((with_reducible change _ = false); rfl))
theorem kr_untell (M : am_M) : x_kt M (r_untell M).2 := by
  unfold r_untell
  repeat' split
  all_goals (try dsimp only)
  all_goals repeat' (first | (with_reducible exact x_kt.rf) | (with_reducible apply x_kt.wI) | (with_reducible apply x_kt.lay) | (with_reducible apply x_kt.cI) | ((with_reducible change _ = false); rfl))
theorem kr_erase (M : am_M) (a : Int32) : x_kt M (r_erase M a).2 := by
  unfold r_erase
  split
  · exact x_kt.rf.wI rfl
  · exact x_kt.rf
theorem kr_write (M : am_M) (a b : Int32) : x_kt M (r_write M a b).2 := by
  unfold r_write
  repeat' split
  all_goals (try dsimp only)
  all_goals repeat' (first | (with_reducible exact x_kt.rf) | (with_reducible apply x_kt.wI) | ((with_reducible change _ = false); rfl))
theorem LX.erase (h : LX i1 i2 M) (a : Int32) : LX i1 i2 (r_erase (c_erase M a).2 a).2 := by
  have hl := (st_erase h.li a).l
  obtain ⟨-, -, h0, h1, h2⟩ := h
  by_cases z : 0 ≤ a ∧ a < 5
  rotate_left
  · have e : (c_erase M a).2 = M := by unfold c_erase; rw [if_neg z]
    rw [e] at hl ⊢
    exact ⟨(), hl, h0.kt (Or.inl rfl) (kr_erase _ _), fun y => (h1 y).kt (Or.inr (Or.inl rfl)) (kr_erase _ _), fun y => (h2 y).kt (Or.inr (Or.inr rfl)) (kr_erase _ _)⟩
  · have b0 := b4 z
    simp only [Int32.reduceToInt] at b0
    have c0 := i_clamp b0.1
    have e : (c_erase M a).2 = am_wI (am_wI (am_wI M (39 + 3 * a.toNatClampNeg) 5 0) (39 + 3 * a.toNatClampNeg) 2 0) (39 + 3 * a.toNatClampNeg) 6 1 := by unfold c_erase; rw [if_pos z]
    have o : ∀ n k, n ≠ 39 + 3 * a.toNatClampNeg → (c_erase M a).2.1 n k = M.1 n k := fun n k q => by
      rw [e, am_wI_1, if_neg (fun y => q y.1), am_wI_1, if_neg (fun y => q y.1), am_wI_1, if_neg (fun y => q y.1)]
    have t0 : t_b (c_erase M a).2 20 := ⟨(), fun t ht => by
      by_cases y : t = a.toNatClampNeg
      · rw [y, show 20 + (19 + 3 * a.toNatClampNeg) = 39 + 3 * a.toNatClampNeg by omega]
        refine tx_ok.no ?_ ?_
        · rw [e, am_wI_1, if_neg (fun q => absurd q.2 (by decide)), am_wI_1, if_neg (fun q => absurd q.2 (by decide)), am_wI_self]
        · rw [e, am_wI_self]
      · exact (h0.v ht).cg (o _ _ (by omega)) (o _ _ (by omega)) (o _ _ (by omega)) (fun j _ => o _ _ (by omega)) (fun j _ => o _ _ (by omega))⟩
    have tk : ∀ b, (b = 60 ∨ b = 100) → t_b M b → t_b (c_erase M a).2 b := fun b hb hm => ⟨(), fun t ht => (hm.v ht).cg (o _ _ (by omega)) (o _ _ (by omega)) (o _ _ (by omega)) (fun j _ => o _ _ (by omega)) (fun j _ => o _ _ (by omega))⟩
    exact ⟨(), hl, t0.kt (Or.inl rfl) (kr_erase _ _), fun y => (tk 60 (Or.inl rfl) (h1 y)).kt (Or.inr (Or.inl rfl)) (kr_erase _ _), fun y => (tk 100 (Or.inr rfl) (h2 y)).kt (Or.inr (Or.inr rfl)) (kr_erase _ _)⟩
theorem LX.write (h : LX i1 i2 M) {a b : Int32} (hz : (0 ≤ a ∧ a < 5) ∧ (0 ≤ b ∧ b ≤ 127)) (hf : M.1 (39 + 3 * a.toNatClampNeg) 5 < 50) {N : am_M} (c : am_ch (am_tS (39 + 3 * a.toNatClampNeg) (39 + 3 * a.toNatClampNeg + 2)) (am_wI (am_wI M (39 + 3 * a.toNatClampNeg + 1) (M.1 (39 + 3 * a.toNatClampNeg) 5).toNatClampNeg b) (39 + 3 * a.toNatClampNeg) 5 (M.1 (39 + 3 * a.toNatClampNeg) 5 + 1)) N) (h0 : am_t0 N (39 + 3 * a.toNatClampNeg)) (hx : tx_ok (39 + 3 * a.toNatClampNeg) (39 + 3 * a.toNatClampNeg + 1) (39 + 3 * a.toNatClampNeg + 2) N) : LX i1 i2 (r_write N a b).2 := by
  have hl := (wr_yes h.li hz hf c h0).2.1
  obtain ⟨-, -, g0, g1, g2⟩ := h
  have b0 := b4 hz.1
  simp only [Int32.reduceToInt] at b0
  have c0 := i_clamp b0.1
  obtain ⟨c1, -⟩ := c
  have o : ∀ n k, (n ≠ 39 + 3 * a.toNatClampNeg ∧ n ≠ 39 + 3 * a.toNatClampNeg + 1 ∧ n ≠ 39 + 3 * a.toNatClampNeg + 2) → N.1 n k = M.1 n k := fun n k q => by
    rw [c1 n k (by unfold am_tS; omega), am_wI_1, if_neg (fun y => q.1 y.1), am_wI_1, if_neg (fun y => q.2.1 y.1)]
  have t0 : t_b N 20 := ⟨(), fun t ht => by
    by_cases y : t = a.toNatClampNeg
    · rw [y, show 20 + (19 + 3 * a.toNatClampNeg) = 39 + 3 * a.toNatClampNeg by omega, show 20 + (20 + 3 * a.toNatClampNeg) = 39 + 3 * a.toNatClampNeg + 1 by omega, show 20 + (21 + 3 * a.toNatClampNeg) = 39 + 3 * a.toNatClampNeg + 2 by omega]
      exact hx
    · exact (g0.v ht).cg (o _ _ (by omega)) (o _ _ (by omega)) (o _ _ (by omega)) (fun j _ => o _ _ (by omega)) (fun j _ => o _ _ (by omega))⟩
  have tk : ∀ b, (b = 60 ∨ b = 100) → t_b M b → t_b N b := fun b hb hm => ⟨(), fun t ht => (hm.v ht).cg (o _ _ (by omega)) (o _ _ (by omega)) (o _ _ (by omega)) (fun j _ => o _ _ (by omega)) (fun j _ => o _ _ (by omega))⟩
  exact ⟨(), hl, t0.kt (Or.inl rfl) (kr_write _ _ _), fun y => (tk 60 (Or.inl rfl) (g1 y)).kt (Or.inr (Or.inl rfl)) (kr_write _ _ _), fun y => (tk 100 (Or.inr rfl) (g2 y)).kt (Or.inr (Or.inr rfl)) (kr_write _ _ _)⟩
/-- the fault of a text: class and reference alike -/
theorem LX.fault (h : LX i1 i2 M) {pl : Int32} (z : 0 ≤ pl ∧ pl < 5) : (M.1 (39 + 3 * pl.toNatClampNeg) 6 = -1 → ∃ x, r_wr M pl = .inl x) ∧ (¬ M.1 (39 + 3 * pl.toNatClampNeg) 6 = -1 → r_wr M pl = .inr (M.1 (39 + 3 * pl.toNatClampNeg) 6).toInt) ∧ ∀ fa, w_res fa (M.1 (39 + 3 * pl.toNatClampNeg + 1)) (t_n M (39 + 3 * pl.toNatClampNeg)) 0 true [] [] = w_res fa (r_sg M pl) (r_sn M pl) 0 true [] [] := by
  have b0 := b4 z
  simp only [Int32.reduceToInt] at b0
  have c0 := i_clamp b0.1
  have hu : pl.toNatClampNeg < 5 := by omega
  have hv := h.li.e (rl_c_tx _ hu).1 (k := 0) (by decide)
  rw [show 20 + (19 + 3 * pl.toNatClampNeg) = 39 + 3 * pl.toNatClampNeg by omega, show 3508 + pl.toNatClampNeg + 0 = 3508 + pl.toNatClampNeg by omega] at hv
  have hv : M.1 (39 + 3 * pl.toNatClampNeg) 5 = M.1 201 (3508 + pl.toNatClampNeg) := hv
  have q := (h.li.v (k := 3508 + pl.toNatClampNeg) (by omega)).a29 (by omega)
  have cq := i_clamp q.1
  have en : t_n M (39 + 3 * pl.toNatClampNeg) = r_sn M pl := by unfold t_n r_sn; rw [hv]
  have es : ∀ j, j < r_sn M pl → M.1 (39 + 3 * pl.toNatClampNeg + 1) j = r_sg M pl j := fun j hj => by
    have hj : j < (M.1 201 (3508 + pl.toNatClampNeg)).toNatClampNeg := hj
    have e := h.li.e (rl_c_tx _ hu).2 (k := j) (by omega)
    rw [show 20 + (20 + 3 * pl.toNatClampNeg) = 39 + 3 * pl.toNatClampNeg + 1 by omega, Nat.zero_add] at e
    exact e
  have key : ∀ fa, w_res fa (M.1 (39 + 3 * pl.toNatClampNeg + 1)) (t_n M (39 + 3 * pl.toNatClampNeg)) 0 true [] [] = w_res fa (r_sg M pl) (r_sn M pl) 0 true [] [] := fun fa => by
    rw [en]
    exact w_res_cg es
  have t := h.t0.v hu
  rw [show 20 + (19 + 3 * pl.toNatClampNeg) = 39 + 3 * pl.toNatClampNeg by omega, show 20 + (20 + 3 * pl.toNatClampNeg) = 39 + 3 * pl.toNatClampNeg + 1 by omega] at t
  obtain ⟨-, t1, t2⟩ := t
  refine ⟨fun w => ?_, fun w => ?_, key⟩
  · obtain ⟨v, a, -⟩ := t1 w (r_fa M)
    rw [key] at a
    exact ⟨v, a⟩
  · have a := t2 w (r_fa M)
    rw [key] at a
    exact a
end LXS
def kX7_writeE (live : am_E) (Ret : am_R) : am_code := [(0, am_iload 1 1), (1, am_callS live 1 TX7_isPlan 4), (4, am_if1 (fun x => x = 0) 17 7), (7, am_iload 2 8), (8, am_const (.int 0) 9), (9, am_const (.int 127) 11), (11, am_callS live 3 TX7_within 14), (14, am_if1 (fun x => x = 0) 17 20), (17, am_const (.int (-2)) 19), (19, am_retI Ret), (20, am_aload 0 21), (21, am_getR live 7 0 24), (24, am_getR live 0 7 27), (27, am_iload 1 28), (28, am_aald live 3 29), (29, am_astore 3 4 30), (30, am_aload 3 31), (31, am_getI live 5 5 34), (34, am_const (.int 50) 36), (36, am_if2 (fun x y => x < y) 42 39), (39, am_const (.int (-4)) 41), (41, am_retI Ret), (42, am_aload 3 43), (43, am_iload 2 44), (44, am_callV live 5 1 TE5_add 47), (47, am_aload 3 48), (48, am_getI live 5 5 51), (51, am_retI Ret)]
theorem koX7_writeE (live : am_E) (Ret : am_R) : ∀ q ∈ kX7_writeE live Ret, am_ok RX7 cX7_write 4 (some .int) 334 8442 live Ret q.1 q.2 :=
  am_kc (ak_iload_n dX7_write_0 rfl rfl) <|
  am_kc (ak_callS metX7_isPlan ⟨rfl, by decide +kernel, by decide +kernel, by decide +kernel⟩ (am_w4 wd_466 wd_467 wd_58 wd_468) (by decide) dX7_write_1 rfl) <|
  am_kc (ak_if_eq dX7_write_4 (by decide +kernel) rfl) <|
  am_kc (ak_iload_n dX7_write_7 rfl rfl) <|
  am_kc (ak_iconst dX7_write_8 (by decide +kernel) rfl) <|
  am_kc (ak_bipush dX7_write_9 (by decide +kernel) rfl) <|
  am_kc (ak_callS metX7_within ⟨rfl, by decide +kernel, by decide +kernel, by decide +kernel⟩ (am_w4 wd_418 wd_419 wd_58 wd_420) (by decide) dX7_write_11 rfl) <|
  am_kc (ak_if_ne dX7_write_14 (by decide +kernel) rfl) <|
  am_kc (ak_bipush dX7_write_17 (by decide +kernel) rfl) <|
  am_kc (ak_retI dX7_write_19) <|
  am_kc (ak_aload_n dX7_write_20 rfl rfl) <|
  am_kc (ak_getR (C := RX7) (T := TX7) (N := 4) rfl inX7w (by decide) rfl rfl rfl wd_390 dX7_write_21 rfl) <|
  am_kc (ak_getR (C := RX0) (T := TX0) (N := 13) rfl inX0w (by decide) rfl rfl rfl wd_215 dX7_write_24 rfl) <|
  am_kc (ak_iload_n dX7_write_27 rfl rfl) <|
  am_kc (ak_aald (t := 3) (fun _ => rfl) rfl dX7_write_28 rfl) <|
  am_kc (ak_astore_n dX7_write_29 rfl rfl) <|
  am_kc (ak_aload_n dX7_write_30 rfl rfl) <|
  am_kc (ak_getI (C := RX5) (T := TX5) (N := 7) rfl inX5w (by decide) rfl rfl rfl wd_174 dX7_write_31 rfl) <|
  am_kc (ak_bipush dX7_write_34 (by decide +kernel) rfl) <|
  am_kc (ak_icmp_lt dX7_write_36 (by decide +kernel) rfl) <|
  am_kc (ak_bipush dX7_write_39 (by decide +kernel) rfl) <|
  am_kc (ak_retI dX7_write_41) <|
  am_kc (ak_aload_n dX7_write_42 rfl rfl) <|
  am_kc (ak_iload_n dX7_write_43 rfl rfl) <|
  am_kc (ak_callV (C := RX5) (F := TX5) (N := 7) metX5_addE rfl ⟨rfl, by decide +kernel, by decide +kernel, by decide +kernel⟩ (am_w5 wd_668 wd_669 wd_670 wd_65 wd_671) (by decide) dX7_write_44 rfl) <|
  am_kc (ak_aload_n dX7_write_47 rfl rfl) <|
  am_kc (ak_getI (C := RX5) (T := TX5) (N := 7) rfl inX5w (by decide) rfl rfl rfl wd_174 dX7_write_48 rfl) <|
  am_kc (ak_retI dX7_write_51) <| am_kn
def TE7_write : am_T := fun live as M R => match as with
  | [.ref n, .int pl, .int g] => am_mn live ∧ n = 0 ∧ (g_hI M ∧ g_rI M) ∧ (∀ t, t < 5 → x_sg (39 + 3 * t) (39 + 3 * t + 1) M) ∧ (¬ ((0 ≤ pl ∧ pl < 5) ∧ (0 ≤ g ∧ g ≤ 127)) → R (some (.int (-2))) M) ∧ ((0 ≤ pl ∧ pl < 5) ∧ (0 ≤ g ∧ g ≤ 127) → ∀ t, t = 39 + 3 * pl.toNatClampNeg → (50 ≤ M.1 t 5 → R (some (.int (-4))) M) ∧ (M.1 t 5 < 50 → ∀ M', am_ch (am_tS t (t + 2)) (am_wI (am_wI M (t + 1) (M.1 t 5).toNatClampNeg g) t 5 (M.1 t 5 + 1)) M' → am_t0 M' t → tx_ok t (t + 1) (t + 2) M' → R (some (.int (M'.1 t 5))) M'))
  | _ => False
set_option maxRecDepth 100000 in
set_option maxHeartbeats 4000000 in
theorem metX7_writeE : am_Met yX7_write cX7_write 4 (some .int) (334) (8442) TE7_write := by
  refine am_met (own := RX7) (by decide +kernel) rfl kX7_writeE koX7_writeE 100 (fun _ _ _ _ _ => none) (fun live as M Ret h => ?_) (fun _ _ _ _ _ _ _ _ hI => by cases hI)
  unfold TE7_write at h
  split at h
  · next n pl g =>
    refine ⟨Nat.le_of_ble_eq_true rfl, ?_⟩
    change am_wp _ _ _ _ [(0, Value.ref n), (1, Value.int pl), (2, Value.int g)] _ _
    obtain ⟨hmn, rfl, ⟨hH, hR⟩, hsg, hb, hg⟩ := h
    by_cases z0 : 0 ≤ pl ∧ pl < 5
    · have q0 : ¬ ((if 0 ≤ pl ∧ pl < 5 then (1 : Int32) else 0) = 0) := by rw [if_pos z0]; decide
      by_cases z1 : 0 ≤ g ∧ g ≤ 127
      · have q1 : ¬ ((if 0 ≤ g ∧ g ≤ 127 then (1 : Int32) else 0) = 0) := by rw [if_pos z1]; decide
        have hp : am_in pl 5 := ⟨by have q := z0.1; simp only [i_le, Int32.reduceToInt] at q; omega, by have q := z0.2; simp only [i_lt, Int32.reduceToInt] at q; omega⟩
        obtain ⟨t, s, c, h2, k1, k2, k3, h1, ht, et, es, ec, k4⟩ := g_txt hmn hp
        obtain ⟨i1, i2, rfl⟩ := hmn
        have h := hg ⟨z0, z1⟩ t et
        have g0 : 0 ≤ g.toInt := by have q := z1.1; simp only [i_le, Int32.reduceToInt] at q; exact q
        have sg0 : x_sg t s M := by
          have q := hsg pl.toNatClampNeg (g_cl hp)
          rw [← et, show t + 1 = s by omega] at q
          exact q
        have es2 : t + 1 = s := by omega
        have ec2 : t + 2 = c := by omega
        rw [es2, ec2] at h
        have l38 : am_len 38 = 5 := rfl
        by_cases z2 : M.1 t 5 < 50
        · have h := h.2 z2
          have hz : (M.1 t 5).toInt < 50 := by have q := z2; simp only [i_lt, Int32.reduceToInt] at q; exact q
          repeat' (first | (with_reducible exact g0) | (with_reducible exact sg0) | (with_reducible exact h1) | (with_reducible exact h2) | (refine Exists.intro _ (And.intro h2 ?_)) | apply And.intro | exact rfl | (intro hx; with_reducible exact absurd hx q0) | (intro hx; with_reducible exact absurd hx q1) | (intro hx; with_reducible exact absurd z2 hx) | intro hx | (refine Exists.intro _ (And.intro rfl ?_)) | (refine am_tP_in k1 k2 k3 ?_) | ((with_reducible change _ = true); simp only [h1, h2, Bool.true_and]; rfl))
          all_goals try first | (with_reducible change am_tI _ _) | (change Ret _ _) | (change Ret _ _ _) | (change Exists _)
          all_goals try dsimp only at *
          all_goals try exact absurd ‹(1000 : Int64) = 0› (by decide)
          all_goals first
            | exact hp.1
            | (rw [l38]; exact hp.2)
            | exact k4 _ hR.t
            | exact h _ (by with_reducible assumption) (by with_reducible assumption) (by with_reducible assumption)
            | (exfalso; omega)
        · have h := h.1 (Int32.not_lt.mp z2)
          repeat' (first | (with_reducible exact g0) | (with_reducible exact sg0) | (with_reducible exact h1) | (with_reducible exact h2) | (refine Exists.intro _ (And.intro h2 ?_)) | apply And.intro | exact rfl | (intro hx; with_reducible exact absurd hx q0) | (intro hx; with_reducible exact absurd hx q1) | (intro hx; with_reducible exact absurd hx z2) | intro hx | (refine Exists.intro _ (And.intro rfl ?_)) | (refine am_tP_in k1 k2 k3 ?_) | ((with_reducible change _ = true); simp only [h1, h2, Bool.true_and]; rfl))
          all_goals try first | (with_reducible change am_tI _ _) | (change Ret _ _) | (change Ret _ _ _) | (change Exists _)
          all_goals try dsimp only at *
          all_goals try exact absurd ‹(1000 : Int64) = 0› (by decide)
          all_goals first
            | exact hp.1
            | (rw [l38]; exact hp.2)
            | exact h
      · have q1 : (if 0 ≤ g ∧ g ≤ 127 then (1 : Int32) else 0) = 0 := if_neg z1
        obtain ⟨i1, i2, rfl⟩ := hmn
        have h := hb (fun q => z1 q.2)
        repeat' (first | (with_reducible exact h) | apply And.intro | exact rfl | (intro hx; with_reducible exact absurd hx q0) | (intro hx; with_reducible exact absurd q1 hx) | intro hx | (refine Exists.intro _ (And.intro rfl ?_)))
        all_goals try first | (with_reducible change am_tI _ _) | (change Ret _ _) | (change Ret _ _ _) | (change Exists _)
        all_goals try dsimp only at *
        all_goals try exact absurd ‹(1000 : Int64) = 0› (by decide)
        all_goals exact h
    · have q0 : (if 0 ≤ pl ∧ pl < 5 then (1 : Int32) else 0) = 0 := if_neg z0
      obtain ⟨i1, i2, rfl⟩ := hmn
      have h := hb (fun q => z0 q.1)
      repeat' (first | (with_reducible exact h) | apply And.intro | exact rfl | (intro hx; with_reducible exact absurd q0 hx) | intro hx | (refine Exists.intro _ (And.intro rfl ?_)))
      all_goals try first | (with_reducible change am_tI _ _) | (change Ret _ _) | (change Ret _ _ _) | (change Exists _)
      all_goals try dsimp only at *
      all_goals try exact absurd ‹(1000 : Int64) = 0› (by decide)
      all_goals exact h
  · exact h.elim
