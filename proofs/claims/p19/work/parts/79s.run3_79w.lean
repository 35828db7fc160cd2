-- part 79s.run3.lean.txt
section
/-! runs, exact: the class: a year looked at, years gone -/
def c_look (M : am_M) (y : Int32) : am_M := if M.1 4 11 = -1 then am_wI (am_wI (am_wI M 4 16 (am_earn M (M.1 4 8 * 40 + y) (M.1 4 9))) 4 17 (M.1 24 (M.1 4 8 * 40 + y).toNatClampNeg)) 4 18 (if M.1 23 (M.1 4 8).toNatClampNeg ≠ -1 ∧ M.1 23 (M.1 4 8).toNatClampNeg ≤ y then 1 else 0) else am_wI (am_wI (am_wI M 4 16 (M.1 56 (M.1 4 11 * 40 + y).toNatClampNeg)) 4 17 0) 4 18 (M.1 4 13)
theorem c_look_2 {M : am_M} {y : Int32} : (c_look M y).2 = M.2 := by
  unfold c_look
  split <;> rfl
theorem c_look_1 {M : am_M} {y : Int32} {a k : Nat} (h : ¬ (a = 4 ∧ (k = 16 ∨ k = 17 ∨ k = 18))) : (c_look M y).1 a k = M.1 a k := by
  unfold c_look
  split
  all_goals rw [am_wI_1, if_neg (fun q => h ⟨q.1, Or.inr (Or.inr q.2)⟩), am_wI_1, if_neg (fun q => h ⟨q.1, Or.inr (Or.inl q.2)⟩), am_wI_1, if_neg (fun q => h ⟨q.1, Or.inl q.2⟩)]
def TE4_look : am_T := fun live as M R => match as with
  | [.ref n, .int y] => am_mn live ∧ n = 4 ∧ am_in y 40 ∧ g_rI M ∧ (g_rI (c_look M y) → R none (c_look M y))
  | _ => False
set_option maxRecDepth 100000 in
set_option maxHeartbeats 4000000 in
theorem metX4_lookE : am_Met yX4_look cX4_look 2 none (1) (24) TE4_look := by
  refine am_met (own := RX4) (by decide +kernel) rfl kX4_look koX4_look 100 (fun _ _ _ _ _ => none) (fun live as M Ret h => ?_) (fun _ _ _ _ _ _ _ _ hI => by cases hI)
  unfold TE4_look at h
  split at h
  · next n y =>
    refine ⟨Nat.le_of_ble_eq_true rfl, ?_⟩
    change am_wp _ _ _ _ [(0, Value.ref n), (1, Value.int y)] _ _
    obtain ⟨hmn, rfl, hy, hr, h⟩ := h
    have hmn2 := hmn
    obtain ⟨i1, i2, rfl⟩ := hmn2
    have l56 : am_len 56 = 160 := rfl
    have l24 : am_len 24 = 480 := rfl
    have hp := hr.s.pe
    have ep := g_40 (by decide) hp hy
    have hy1 := hy.1
    have hy2 := hy.2
    have hp1 := hp.1
    have hp2 := hp.2
    have hld := hr.t.ld (k := (M.1 4 8 * 40 + y).toNatClampNeg) (by have := i_clamp (x := M.1 4 8 * 40 + y) (by omega); omega)
    by_cases hz : M.1 4 11 = -1
    · have e : c_look M y = am_wI (am_wI (am_wI M 4 16 (am_earn M (M.1 4 8 * 40 + y) (M.1 4 9))) 4 17 (M.1 24 (M.1 4 8 * 40 + y).toNatClampNeg)) 4 18 (if M.1 23 (M.1 4 8).toNatClampNeg ≠ -1 ∧ M.1 23 (M.1 4 8).toNatClampNeg ≤ y then 1 else 0) := if_pos hz
      rw [e] at h
      have hh := h (((hr.wF rfl).w417 hld).wF rfl)
      repeat' (first | (with_reducible exact hmn) | (with_reducible exact hp) | apply And.intro | exact rfl | (intro hx; with_reducible exact absurd hz hx) | intro hx | (refine Exists.intro _ (And.intro rfl ?_)))
      all_goals try first | (with_reducible change am_tI _ _) | (change Ret _ _) | (change Ret _ _ _) | (change Exists _)
      all_goals try dsimp only at *
      all_goals try (with_reducible exact absurd ‹(1000 : Int64) = 0› am_z1000)
      all_goals first
        | (with_reducible exact hp.1)
        | (with_reducible exact hp.2)
        | (with_reducible exact g_01 _)
        | (rw [ep]; omega)
        | (rw [ep, l24]; omega)
        | (with_reducible exact hh)
        | exact hp.1
        | exact hp.2
        | exact g_01 _
        | exact hh
    · have e : c_look M y = am_wI (am_wI (am_wI M 4 16 (M.1 56 (M.1 4 11 * 40 + y).toNatClampNeg)) 4 17 0) 4 18 (M.1 4 13) := if_neg hz
      rw [e] at h
      have hh := h (((hr.wF rfl).w417 ⟨by decide, by decide⟩).wF rfl)
      have hl := hr.s.li.resolve_left hz
      have el := g_40 (by decide) hl hy
      have hl1 := hl.1
      have hl2 := hl.2
      repeat' (first | (with_reducible exact hmn) | apply And.intro | exact rfl | (intro hx; with_reducible exact absurd hx hz) | intro hx | (refine Exists.intro _ (And.intro rfl ?_)))
      all_goals try first | (with_reducible change am_tI _ _) | (change Ret _ _) | (change Ret _ _ _) | (change Exists _)
      all_goals try dsimp only at *
      all_goals try (with_reducible exact absurd ‹(1000 : Int64) = 0› am_z1000)
      all_goals first
        | (left; rfl)
        | (rw [el]; omega)
        | (rw [el, l56]; omega)
        | (with_reducible exact g_d2 hr.s.da)
        | (with_reducible exact hh)
        | exact g_d2 hr.s.da
        | exact hh
  · exact h.elim
/-- alike but for the queue and the next year -/
def c_q8 (M N : am_M) : Prop := ∃ _ : Unit, ∀ a k, a ≠ 8 → ¬ (a = 4 ∧ k = 10) → N.1 a k = M.1 a k
theorem c_q8.v {M N : am_M} (h : c_q8 M N) {a k : Nat} (h8 : a ≠ 8) (h4 : ¬ (a = 4 ∧ k = 10)) : N.1 a k = M.1 a k := by obtain ⟨-, h⟩ := h; exact h a k h8 h4
theorem c_q8.f {M N : am_M} (h : c_q8 M N) {α : Type} (f : am_M → α) (hf : ∀ a b b', f (a, b) = f (a, b')) (h8 : ∀ (K : am_M) (v : Int32) (g : Nat → Int32), f (am_cI (am_wI K 4 10 v) 8 g) = f K) : f N = f M := by
  have e : N.1 = (am_cI (am_wI M 4 10 (N.1 4 10)) 8 (N.1 8)).1 := by
    funext a b
    rw [am_cI_1]
    by_cases z : a = 8
    · subst z; rw [if_pos rfl]
    · rw [if_neg z, am_wI_1]
      by_cases w : a = 4 ∧ b = 10
      · rw [if_pos w, w.1, w.2]
      · rw [if_neg w, h.v z w]
  rw [z_cg1 f hf e, h8]
theorem c_q8.rt {M N : am_M} (h : c_q8 M N) (y l : Int32) (o : Int64) : c_rt N l y o = c_rt M l y o := by
  have e1 : am_pln N l y = am_pln M l y := h.f (fun K => am_pln K l y) (fun _ _ _ => rfl) (fun _ _ _ => rfl)
  have e2 : am_cell N l y 2 = am_cell M l y 2 := h.f (fun K => am_cell K l y 2) (fun _ _ _ => rfl) (fun _ _ _ => rfl)
  have e3 : c_fa N l y o = c_fa M l y o := h.f (fun K => c_fa K l y o) (fun _ _ _ => rfl) (fun _ _ _ => rfl)
  unfold c_rt
  rw [e1, e2, e3]
  have e4 : N.1 (40 + 3 * (am_pln M l y).toNatClampNeg) = M.1 (40 + 3 * (am_pln M l y).toNatClampNeg) := funext fun j => h.v (by omega) (by omega)
  have e5 : t_n N (39 + 3 * (am_pln M l y).toNatClampNeg) = t_n M (39 + 3 * (am_pln M l y).toNatClampNeg) := by unfold t_n; rw [h.v (by omega) (by omega)]
  rw [e4, e5]
theorem c_q8.T {M N : am_M} (h : c_q8 M N) (y : Int32) : c_T N y = c_T M y := by
  have e1 : c_stk N y = c_stk M y := h.f (fun K => c_stk K y) (fun _ _ _ => rfl) (fun _ _ _ => rfl)
  have e2 : c_gr N y = c_gr M y := by
    funext l o
    unfold c_gr
    rw [h.rt]
  have e3 : (fun l o => c_dr N l y o) = (fun l o => c_dr M l y o) := h.f (fun K => (fun l o => c_dr K l y o)) (fun _ _ _ => rfl) (fun _ _ _ => rfl)
  have e4 : c_of N y = c_of M y := h.f (fun K => c_of K y) (fun _ _ _ => rfl) (fun _ _ _ => rfl)
  have e5 : c_ask N y = c_ask M y := h.f (fun K => c_ask K y) (fun _ _ _ => rfl) (fun _ _ _ => rfl)
  have e6 : c_sd N y = c_sd M y := h.f (fun K => c_sd K y) (fun _ _ _ => rfl) (fun _ _ _ => rfl)
  have e7 : c_ms N (c_sz N) = c_ms M (c_sz M) := h.f (fun K => c_ms K (c_sz K)) (fun _ _ _ => rfl) (fun _ _ _ => rfl)
  unfold c_T c_b
  rw [e1, e2, e3, e4, e5, e6, e7]
theorem c_q8.look {M N : am_M} (h : c_q8 M N) (y : Int32) : c_q8 (c_look M y) (c_look N y) := by
  refine ⟨(), fun a k h8 h4 => ?_⟩
  have e11 := h.v (a := 4) (k := 11) (by decide) (by decide)
  by_cases z : a = 4 ∧ (k = 16 ∨ k = 17 ∨ k = 18)
  · have g := h.f (fun K => ((c_look K y).1 4 16, (c_look K y).1 4 17, (c_look K y).1 4 18)) (fun a b b' => by
      unfold c_look
      by_cases w : a 4 11 = -1
      · rw [if_pos w, if_pos w]; rfl
      · rw [if_neg w, if_neg w]; rfl) (fun K v g => by
      unfold c_look
      by_cases w : K.1 4 11 = -1
      · rw [if_pos w, if_pos (show (am_cI (am_wI K 4 10 v) 8 g).1 4 11 = -1 from w)]; rfl
      · rw [if_neg w, if_neg (show ¬ (am_cI (am_wI K 4 10 v) 8 g).1 4 11 = -1 from w)]; rfl)
    have g1 := congrArg (fun q : Int32 × Int32 × Int32 => q.1) g
    have g2 := congrArg (fun q : Int32 × Int32 × Int32 => q.2.1) g
    have g3 := congrArg (fun q : Int32 × Int32 × Int32 => q.2.2) g
    obtain ⟨rfl, rfl | rfl | rfl⟩ := z
    · exact g1
    · exact g2
    · exact g3
  · rw [c_look_1 z, c_look_1 z]
    exact h.v h8 h4
/-- a year of the run: sums, due, paid -/
def c_yr (M : am_M) (y : Int32) : z_S → z_S := c_T (c_look M y) y
/-- years, one after the other -/
def z_it {σ : Type} (F : Nat → σ → σ) (a : Nat) : Nat → σ → σ
  | 0, s => s
  | n + 1, s => F (a + n) (z_it F a n s)
theorem z_it_cg {σ : Type} {F G : Nat → σ → σ} {a : Nat} : ∀ {n : Nat} {s : σ}, (∀ y, a ≤ y → y < a + n → F y = G y) → z_it F a n s = z_it G a n s
  | 0, _, _ => rfl
  | n + 1, s, h => by
    show F (a + n) (z_it F a n s) = G (a + n) (z_it G a n s)
    rw [h (a + n) (by omega) (by omega), z_it_cg (fun y z1 z2 => h y z1 (by omega))]
/-- the run's years gone -/
def c_gn (M N : am_M) : Prop := ∃ _ : Unit, (∀ a k, a ≠ 8 → ¬ (a = 4 ∧ (k = 10 ∨ k = 16 ∨ k = 17 ∨ k = 18)) → N.1 a k = M.1 a k) ∧ ∀ a, a ≠ 4 → a ≠ 6 → a ≠ 9 → a ≠ 10 → N.2 a = M.2 a
theorem c_gn.i {M N : am_M} (h : c_gn M N) {a k : Nat} (h8 : a ≠ 8) (h4 : ¬ (a = 4 ∧ (k = 10 ∨ k = 16 ∨ k = 17 ∨ k = 18))) : N.1 a k = M.1 a k := by obtain ⟨-, h, -⟩ := h; exact h a k h8 h4
theorem c_gn.j {M N : am_M} (h : c_gn M N) {a : Nat} (h4 : a ≠ 4) (h6 : a ≠ 6) (h9 : a ≠ 9) (h10 : a ≠ 10) : N.2 a = M.2 a := by obtain ⟨-, -, h⟩ := h; exact h a h4 h6 h9 h10
theorem c_gn.rf {M : am_M} : c_gn M M := ⟨(), fun _ _ _ _ => rfl, fun _ _ _ _ _ => rfl⟩
theorem c_gn.tr {M N K : am_M} (h : c_gn M N) (h2 : c_gn N K) : c_gn M K := ⟨(), fun a k z8 z4 => (h2.i z8 z4).trans (h.i z8 z4), fun a z4 z6 z9 z10 => (h2.j z4 z6 z9 z10).trans (h.j z4 z6 z9 z10)⟩
theorem c_gn.lk {M : am_M} {y : Int32} : c_gn M (c_look M y) := ⟨(), fun a k _ z4 => c_look_1 (fun q => z4 ⟨q.1, Or.inr q.2⟩), fun a _ _ _ _ => by rw [c_look_2]⟩
theorem c_gn.tn {M N : am_M} (h : c_tn M N) : c_gn M N := ⟨(), fun a k z8 _ => by rw [h.i z8], fun a z4 z6 z9 z10 => h.j z4 z6 z9 z10⟩
theorem c_gn.w10 {M : am_M} {v : Int32} : c_gn M (am_wI M 4 10 v) := ⟨(), fun a k _ z4 => by rw [am_wI_1, if_neg (fun q => z4 ⟨q.1, Or.inl q.2⟩)], fun a _ _ _ _ => rfl⟩
theorem c_gn.sc {M N : am_M} (h : c_gn M N) : g_sc M N := ⟨(), fun a b z => ⟨h.i (by omega) (by omega), by rw [h.j (by omega) (by omega) (by omega) (by omega)]⟩⟩
/-- what a year reads stays -/
theorem c_gn.look {M N : am_M} (h : c_gn M N) (y : Int32) : c_q8 (c_look M y) (c_look N y) := by
  have h0 : c_q8 (am_wI (am_wI (am_wI M 4 16 (N.1 4 16)) 4 17 (N.1 4 17)) 4 18 (N.1 4 18)) N := ⟨(), fun a k h8 h4 => by
    by_cases z : a = 4 ∧ (k = 16 ∨ k = 17 ∨ k = 18)
    · obtain ⟨rfl, rfl | rfl | rfl⟩ := z <;> rfl
    · rw [am_wI_1, if_neg (fun q => z ⟨q.1, Or.inr (Or.inr q.2)⟩), am_wI_1, if_neg (fun q => z ⟨q.1, Or.inr (Or.inl q.2)⟩), am_wI_1, if_neg (fun q => z ⟨q.1, Or.inl q.2⟩)]
      exact h.i h8 (fun q => q.2.elim (fun q2 => h4 ⟨q.1, q2⟩) (fun q2 => z ⟨q.1, q2⟩))⟩
  have h1 := h0.look y
  refine ⟨(), fun a k h8 h4 => ?_⟩
  rw [h1.v h8 h4]
  by_cases z : a = 4 ∧ (k = 16 ∨ k = 17 ∨ k = 18)
  · unfold c_look
    by_cases w : M.1 4 11 = -1
    · rw [if_pos w, if_pos (show (am_wI (am_wI (am_wI M 4 16 (N.1 4 16)) 4 17 (N.1 4 17)) 4 18 (N.1 4 18)).1 4 11 = -1 from w)]
      obtain ⟨rfl, rfl | rfl | rfl⟩ := z <;> rfl
    · rw [if_neg w, if_neg (show ¬ (am_wI (am_wI (am_wI M 4 16 (N.1 4 16)) 4 17 (N.1 4 17)) 4 18 (N.1 4 18)).1 4 11 = -1 from w)]
      obtain ⟨rfl, rfl | rfl | rfl⟩ := z <;> rfl
  · rw [c_look_1 z, c_look_1 z, am_wI_1, if_neg (fun q => z ⟨q.1, Or.inr (Or.inr q.2)⟩), am_wI_1, if_neg (fun q => z ⟨q.1, Or.inr (Or.inl q.2)⟩), am_wI_1, if_neg (fun q => z ⟨q.1, Or.inl q.2⟩)]
theorem c_gn.yr {M N : am_M} (h : c_gn M N) (y : Int32) : c_yr N y = c_yr M y := (h.look y).T y
theorem c_q8.oo {M N : am_M} (h : c_q8 M N) {y : Int32} (o : c_oo M y) : c_oo N y := ⟨(), fun i hi => by
  rw [h.v (a := 4) (k := 7) (by decide) (by decide)] at hi
  have q := o.v hi
  rw [← h.f (fun K => am_cell K (K.1 7 i) y 4) (fun _ _ _ => rfl) (fun _ _ _ => rfl)] at q
  exact q⟩
/-- orders are such in all years of it -/
def c_oa (M : am_M) : Prop := ∃ _ : Unit, ∀ y : Int32, am_in y 40 → c_oo (c_look M y) y
theorem c_oa.v {M : am_M} (h : c_oa M) {y : Int32} (hy : am_in y 40) : c_oo (c_look M y) y := by obtain ⟨-, h⟩ := h; exact h y hy
theorem c_gn.oa {M N : am_M} (h : c_gn M N) (o : c_oa M) : c_oa N := ⟨(), fun y hy => (h.look y).oo (o.v hy)⟩
/-- how many years -/
def c_nn (a u : Int32) : Nat := ((if u.toInt ≤ 39 then u.toInt else 39) + 1 - a.toInt).toNat
theorem t_b.g {M N : am_M} (h : t_b M 20) (c : g_sc M N) : t_b N 20 := h.kt (Or.inl rfl) ⟨(), fun a k z => c.i k (by have := x_tb_lt z; omega)⟩
def kX4_goE (live : am_E) (Ret : am_R) : am_code := [(0, am_aload 0 1), (1, am_getI live 4 10 4), (4, am_istore 2 3 5), (5, am_iload 2 6), (6, am_iload 1 7), (7, am_if2 (fun x y => y < x) 39 10), (10, am_iload 2 11), (11, am_const (.int 40) 13), (13, am_if2 (fun x y => y ≤ x) 39 16), (16, am_aload 0 17), (17, am_iload 2 18), (18, am_callV live 4 1 TE4_look 21), (21, am_aload 0 22), (22, am_iload 2 23), (23, am_callV live 4 1 TE4_turn 26), (26, am_aload 0 27), (27, am_iload 2 28), (28, am_const (.int 1) 29), (29, am_i2 (fun x y => x + y) 30), (30, am_putI live 4 10 33), (33, am_iinc 2 3 1 36), (36, am_goto 5), (39, am_retV Ret)]
theorem koX4_goE (live : am_E) (Ret : am_R) : ∀ q ∈ kX4_goE live Ret, am_ok RX4 cX4_go 3 none 4 102 live Ret q.1 q.2 :=
  am_kz dzX4_go <|
  am_kd (fun d => ak_aload_n d rfl rfl) <|
  am_kd (fun d => ak_getI (C := RX4) (T := TX4) (N := 19) rfl inX4w (by decide) rfl rfl rfl wd_306 d rfl) <|
  am_kd (fun d => ak_istore_n d rfl rfl) <|
  am_kd (fun d => ak_iload_n d rfl rfl) <|
  am_kd (fun d => ak_iload_n d rfl rfl) <|
  am_kd (fun d => ak_icmp_gt d (by decide +kernel) rfl) <|
  am_kd (fun d => ak_iload_n d rfl rfl) <|
  am_kd (fun d => ak_bipush d (by decide +kernel) rfl) <|
  am_kd (fun d => ak_icmp_ge d (by decide +kernel) rfl) <|
  am_kd (fun d => ak_aload_n d rfl rfl) <|
  am_kd (fun d => ak_iload_n d rfl rfl) <|
  am_kd (fun d => ak_callV (C := RX4) (F := TX4) (N := 19) metX4_lookE rfl ⟨rfl, hy_X4_look⟩ (am_w5 wd_563 wd_564 wd_565 wd_60 wd_566) (by decide) d rfl) <|
  am_kd (fun d => ak_aload_n d rfl rfl) <|
  am_kd (fun d => ak_iload_n d rfl rfl) <|
  am_kd (fun d => ak_callV (C := RX4) (F := TX4) (N := 19) metX4_turnE rfl ⟨rfl, hy_X4_turn⟩ (am_w5 wd_572 wd_573 wd_574 wd_60 wd_575) (by decide) d rfl) <|
  am_kd (fun d => ak_aload_n d rfl rfl) <|
  am_kd (fun d => ak_iload_n d rfl rfl) <|
  am_kd (fun d => ak_iconst d (by decide +kernel) rfl) <|
  am_kd (fun d => ak_iadd d rfl) <|
  am_kd (fun d => ak_putI (C := RX4) (T := TX4) (N := 19) rfl inX4w tyX4_ok nmX4 (by decide) rfl rfl rfl rfl (by decide +kernel) wd_306 d rfl) <|
  am_kd (fun d => ak_iinc d (by decide +kernel) rfl) <|
  am_kd (fun d => ak_goto d (by decide +kernel)) <|
  am_kd (fun d => ak_retV d) <| am_kdn
def TE4_go : am_T := fun live as M R => match as with
  | [.ref n, .int u] => am_mn live ∧ n = 4 ∧ g_rI M ∧ t_b M 20 ∧ c_oa M ∧ (M.1 4 10).toInt ≤ 40 ∧ ∀ M', c_gn M M' → g_rI M' → c_st M' = z_it (fun y => c_yr M (Int32.ofNat y)) (M.1 4 10).toNatClampNeg (c_nn (M.1 4 10) u) (c_st M) → (M'.1 4 10).toInt = (M.1 4 10).toInt + c_nn (M.1 4 10) u → R none M'
  | _ => False
def JE4_go : am_E → List Value → am_M → am_R → am_inv := fun live as M0 _ pc => match as with
  | [.ref n, .int u] => (match pc with
    | 5 => some ([0, 1, 2], fun k L st M => ∃ (y : Int32) (j : Nat), L = [(0, .ref 4), (1, .int u), (2, .int y)] ∧ st = [] ∧ k = ((41 - y.toInt).toNat, 0) ∧ (y.toInt = (M0.1 4 10).toInt + j ∧ j ≤ c_nn (M0.1 4 10) u) ∧ M.1 4 10 = y ∧ c_gn M0 M ∧ g_rI M ∧ c_st M = z_it (fun y => c_yr M0 (Int32.ofNat y)) (M0.1 4 10).toNatClampNeg j (c_st M0))
    | _ => none)
  | _ => none
set_option maxRecDepth 100000 in
set_option maxHeartbeats 4000000 in
theorem metX4_goE : am_Met yX4_go cX4_go 3 none (4) (102) TE4_go := by
  refine am_met (own := RX4) (by decide +kernel) rfl kX4_goE koX4_goE 100 JE4_go ?_ ?_
  · intro live as M Ret h
    unfold TE4_go at h
    split at h
    · next n u =>
      refine ⟨Nat.le_of_ble_eq_true rfl, ?_⟩
      change am_wp _ _ _ _ [(0, Value.ref n), (1, Value.int u)] _ _
      obtain ⟨hmn, rfl, hr, htb, hoa, ha, h⟩ := h
      have hmn2 := hmn
      obtain ⟨i1, i2, rfl⟩ := hmn2
      repeat' (first | (with_reducible exact hmn) | apply And.intro | exact rfl | intro hx | (refine Exists.intro _ (And.intro rfl ?_)))
      all_goals try first | (with_reducible change am_tI _ _) | (change Ret _ _) | (change Ret _ _ _) | (change Exists _)
      all_goals try dsimp only at *
      all_goals try (with_reducible exact absurd ‹(1000 : Int64) = 0› am_z1000)
      exact ⟨_, _, 0, rfl, rfl, rfl, ⟨by omega, Nat.zero_le _⟩, rfl, c_gn.rf, hr, rfl⟩
    · exact h.elim
  · intro live as M0 Ret h k pc I hI L st M hi
    unfold TE4_go at h
    split at h
    · next n u =>
      obtain ⟨hmn, rfl, hr, htb, hoa, ha, h⟩ := h
      have hmn2 := hmn
      obtain ⟨i1, i2, rfl⟩ := hmn2
      have n0 := hr.s.ny
      have cn := i_clamp n0
      change (match pc with | 5 => _ | _ => none) = _ at hI
      split at hI
      · cases hI
        obtain ⟨y, j, rfl, rfl, rfl, ⟨e1, e4⟩, ey, e2, e3, e5⟩ := hi
        have en : (c_nn (M0.1 4 10) u : Int) = if (if u.toInt ≤ 39 then u.toInt else 39) + 1 - (M0.1 4 10).toInt < 0 then 0 else (if u.toInt ≤ 39 then u.toInt else 39) + 1 - (M0.1 4 10).toInt := by
          unfold c_nn
          split <;> omega
        by_cases hu : u < y
        · have hu2 := hu
          simp only [i_lt] at hu2
          have ej : j = c_nn (M0.1 4 10) u := by
            split at en
            · omega
            · split at en <;> omega
          subst ej
          have hh := h M e2 e3 e5 (by rw [ey]; exact e1)
          repeat' (first | apply And.intro | exact rfl | (intro hx; with_reducible exact absurd hu hx) | intro hx | (refine Exists.intro _ (And.intro rfl ?_)))
          all_goals try first | (with_reducible change am_tI _ _) | (change Ret _ _) | (change Ret _ _ _) | (change Exists _)
          all_goals try dsimp only at *
          all_goals try (with_reducible exact absurd ‹(1000 : Int64) = 0› am_z1000)
          all_goals exact hh
        · have hu2 := hu
          simp only [i_lt] at hu2
          by_cases hz : (40 : Int32) ≤ y
          · have hz2 := hz
            simp only [i_le, Int32.reduceToInt] at hz2
            have ej : j = c_nn (M0.1 4 10) u := by
              split at en
              · omega
              · split at en <;> omega
            subst ej
            have hh := h M e2 e3 e5 (by rw [ey]; exact e1)
            repeat' (first | apply And.intro | exact rfl | (intro hx; with_reducible exact absurd hx hu) | (intro hx; with_reducible exact absurd hz hx) | intro hx | (refine Exists.intro _ (And.intro rfl ?_)))
            all_goals try first | (with_reducible change am_tI _ _) | (change Ret _ _) | (change Ret _ _ _) | (change Exists _)
            all_goals try dsimp only at *
            all_goals try (with_reducible exact absurd ‹(1000 : Int64) = 0› am_z1000)
            all_goals exact hh
          · have hz2 := hz
            simp only [i_le, Int32.reduceToInt] at hz2
            have hy : am_in y 40 := ⟨by omega, by omega⟩
            have hi := i_inc (x := y) (by omega) (by omega)
            have cy := i_clamp hy.1
            have htl : t_b (c_look M y) 20 := (htb.g e2.sc).g c_gn.lk.sc
            have hol : c_oo (c_look M y) y := (e2.oa hoa).v hy
            have ej : j + 1 ≤ c_nn (M0.1 4 10) u := by
              split at en
              · split at en <;> omega
              · split at en <;> omega
            repeat' (first | (with_reducible exact hmn) | (with_reducible exact hy) | (with_reducible exact e3) | (with_reducible exact htl) | (with_reducible exact hol) | apply And.intro | exact rfl | (intro hx; with_reducible exact absurd hx hu) | (intro hx; with_reducible exact absurd hx hz) | ((with_reducible change g_rI _); (with_reducible assumption)) | intro hx | (refine Exists.intro _ (And.intro rfl ?_)))
            all_goals try first | (with_reducible change am_tI _ _) | (change Ret _ _) | (change Ret _ _ _) | (change Exists _)
            all_goals try dsimp only at *
            all_goals try (with_reducible exact absurd ‹(1000 : Int64) = 0› am_z1000)
            all_goals
              rename_i N tn hrN
              have est := hx
              refine ⟨_, am_lt_l (by omega), _, j + 1, rfl, rfl, rfl, ⟨by omega, ej⟩, by rw [am_wI_1, if_pos ⟨rfl, rfl⟩], ((e2.tr c_gn.lk).tr (c_gn.tn tn)).tr c_gn.w10, g_rI.w410 hrN (by omega), ?_⟩
              show c_st N = c_yr M0 (Int32.ofNat ((M0.1 4 10).toNatClampNeg + j)) (z_it _ _ j _)
              rw [← e5, est, show c_st (c_look M y) = c_st M by unfold c_st; rw [c_look_2], show (M0.1 4 10).toNatClampNeg + j = y.toNatClampNeg by omega, o_cl hy (by decide), ← e2.yr y]
              rfl
      · cases hI
    · exact h.elim
end
-- part 79t.run4.lean.txt
section
/-! runs, exact: the class: a run begins -/
def kX4_beginE (live : am_E) (Ret : am_R) : am_code := [(0, am_aload 0 1), (1, am_iload 1 2), (2, am_putI live 4 8 5), (5, am_aload 0 6), (6, am_iload 2 7), (7, am_putI live 4 9 10), (10, am_aload 0 11), (11, am_const (.int 0) 12), (12, am_putI live 4 10 15), (15, am_aload 0 16), (16, am_const (.int (-1)) 17), (17, am_const (.int (-1)) 18), (18, am_const (.long 0) 19), (19, am_callV live 4 3 TX4_turnTo 22), (22, am_aload 0 23), (23, am_const (.int 0) 24), (24, am_putI live 4 7 27), (27, am_const (.int 0) 28), (28, am_istore 3 5 29), (29, am_iload 3 30), (30, am_aload 0 31), (31, am_getR live 4 0 34), (34, am_getR live 0 4 37), (37, am_getI live 3 2 40), (40, am_if2 (fun x y => y ≤ x) 120 43), (43, am_iload 3 44), (44, am_const (.int 30) 46), (46, am_if2 (fun x y => y ≤ x) 120 49), (49, am_aload 0 50), (50, am_getR live 4 0 53), (53, am_getR live 0 4 56), (56, am_iload 3 57), (57, am_const (.int 0) 58), (58, am_callV live 3 2 TX3_at 61), (61, am_iload 1 62), (62, am_if2 (fun x y => x = y) 65 114), (65, am_aload 0 66), (66, am_getR live 4 3 69), (69, am_aload 0 70), (70, am_getI live 4 7 73), (73, am_iload 3 74), (74, am_ast live 0 75), (75, am_aload 0 76), (76, am_dup 77), (77, am_getI live 4 7 80), (80, am_const (.int 1) 81), (81, am_i2 (fun x y => x + y) 82), (82, am_putI live 4 7 85), (85, am_const (.int 0) 86), (86, am_istore 4 5 88), (88, am_iload 4 90), (90, am_const (.int 6) 92), (92, am_if2 (fun x y => y ≤ x) 114 95), (95, am_aload 0 96), (96, am_getR live 4 2 99), (99, am_iload 4 101), (101, am_const (.int 30) 103), (103, am_i2 (fun x y => x * y) 104), (104, am_iload 3 105), (105, am_i2 (fun x y => x + y) 106), (106, am_const (.long 0) 107), (107, am_last live 1 108), (108, am_iinc 4 5 1 111), (111, am_goto 88), (114, am_iinc 3 5 1 117), (117, am_goto 29), (120, am_aload 0 121), (121, am_getI live 4 7 124), (124, am_if1 (fun x => x ≤ 0) 132 127), (127, am_aload 0 128), (128, am_iload 1 129), (129, am_callV live 4 1 TE4_layNumbers 132), (132, am_retV Ret)]
theorem koX4_beginE (live : am_E) (Ret : am_R) : ∀ q ∈ kX4_beginE live Ret, am_ok RX4 cX4_begin 5 none 3 72 live Ret q.1 q.2 :=
  am_kz dzX4_begin <|
  am_kd (fun d => ak_aload_n d rfl rfl) <|
  am_kd (fun d => ak_iload_n d rfl rfl) <|
  am_kd (fun d => ak_putI (C := RX4) (T := TX4) (N := 19) rfl inX4w tyX4_ok nmX4 (by decide) rfl rfl rfl rfl (by decide +kernel) wd_304 d rfl) <|
  am_kd (fun d => ak_aload_n d rfl rfl) <|
  am_kd (fun d => ak_iload_n d rfl rfl) <|
  am_kd (fun d => ak_putI (C := RX4) (T := TX4) (N := 19) rfl inX4w tyX4_ok nmX4 (by decide) rfl rfl rfl rfl (by decide +kernel) wd_305 d rfl) <|
  am_kd (fun d => ak_aload_n d rfl rfl) <|
  am_kd (fun d => ak_iconst d (by decide +kernel) rfl) <|
  am_kd (fun d => ak_putI (C := RX4) (T := TX4) (N := 19) rfl inX4w tyX4_ok nmX4 (by decide) rfl rfl rfl rfl (by decide +kernel) wd_306 d rfl) <|
  am_kd (fun d => ak_aload_n d rfl rfl) <|
  am_kd (fun d => ak_iconst d (by decide +kernel) rfl) <|
  am_kd (fun d => ak_iconst d (by decide +kernel) rfl) <|
  am_kd (fun d => ak_lconst d (by decide +kernel) rfl) <|
  am_kd (fun d => ak_callV (C := RX4) (F := TX4) (N := 19) metX4_turnTo rfl ⟨rfl, hy_X4_turnTo⟩ (am_w5 wd_550 wd_551 wd_552 wd_60 wd_553) (by decide) d rfl) <|
  am_kd (fun d => ak_aload_n d rfl rfl) <|
  am_kd (fun d => ak_iconst d (by decide +kernel) rfl) <|
  am_kd (fun d => ak_putI (C := RX4) (T := TX4) (N := 19) rfl inX4w tyX4_ok nmX4 (by decide) rfl rfl rfl rfl (by decide +kernel) wd_303 d rfl) <|
  am_kd (fun d => ak_iconst d (by decide +kernel) rfl) <|
  am_kd (fun d => ak_istore_n d rfl rfl) <|
  am_kd (fun d => ak_iload_n d rfl rfl) <|
  am_kd (fun d => ak_aload_n d rfl rfl) <|
  am_kd (fun d => ak_getR (C := RX4) (T := TX4) (N := 19) rfl inX4w (by decide) rfl rfl rfl wd_291 d rfl) <|
  am_kd (fun d => ak_getR (C := RX0) (T := TX0) (N := 13) rfl inX0w (by decide) rfl rfl rfl wd_206 d rfl) <|
  am_kd (fun d => ak_getI (C := RX3) (T := TX3) (N := 3) rfl inX3w (by decide) rfl rfl rfl wd_149 d rfl) <|
  am_kd (fun d => ak_icmp_ge d (by decide +kernel) rfl) <|
  am_kd (fun d => ak_iload_n d rfl rfl) <|
  am_kd (fun d => ak_bipush d (by decide +kernel) rfl) <|
  am_kd (fun d => ak_icmp_ge d (by decide +kernel) rfl) <|
  am_kd (fun d => ak_aload_n d rfl rfl) <|
  am_kd (fun d => ak_getR (C := RX4) (T := TX4) (N := 19) rfl inX4w (by decide) rfl rfl rfl wd_291 d rfl) <|
  am_kd (fun d => ak_getR (C := RX0) (T := TX0) (N := 13) rfl inX0w (by decide) rfl rfl rfl wd_206 d rfl) <|
  am_kd (fun d => ak_iload_n d rfl rfl) <|
  am_kd (fun d => ak_iconst d (by decide +kernel) rfl) <|
  am_kd (fun d => ak_callV (C := RX3) (F := TX3) (N := 3) metX3_at rfl ⟨rfl, hy_X3_at⟩ (am_w5 wd_502 wd_503 wd_504 wd_64 wd_505) (by decide) d rfl) <|
  am_kd (fun d => ak_iload_n d rfl rfl) <|
  am_kd (fun d => ak_icmp_ne d (by decide +kernel) rfl) <|
  am_kd (fun d => ak_aload_n d rfl rfl) <|
  am_kd (fun d => ak_getR (C := RX4) (T := TX4) (N := 19) rfl inX4w (by decide) rfl rfl rfl wd_299 d rfl) <|
  am_kd (fun d => ak_aload_n d rfl rfl) <|
  am_kd (fun d => ak_getI (C := RX4) (T := TX4) (N := 19) rfl inX4w (by decide) rfl rfl rfl wd_303 d rfl) <|
  am_kd (fun d => ak_iload_n d rfl rfl) <|
  am_kd (fun d => ak_iast (t := 0) (fun _ => rfl) rfl d rfl) <|
  am_kd (fun d => ak_aload_n d rfl rfl) <|
  am_kd (fun d => ak_dup d rfl) <|
  am_kd (fun d => ak_getI (C := RX4) (T := TX4) (N := 19) rfl inX4w (by decide) rfl rfl rfl wd_303 d rfl) <|
  am_kd (fun d => ak_iconst d (by decide +kernel) rfl) <|
  am_kd (fun d => ak_iadd d rfl) <|
  am_kd (fun d => ak_putI (C := RX4) (T := TX4) (N := 19) rfl inX4w tyX4_ok nmX4 (by decide) rfl rfl rfl rfl (by decide +kernel) wd_303 d rfl) <|
  am_kd (fun d => ak_iconst d (by decide +kernel) rfl) <|
  am_kd (fun d => ak_istore d rfl) <|
  am_kd (fun d => ak_iload d rfl) <|
  am_kd (fun d => ak_bipush d (by decide +kernel) rfl) <|
  am_kd (fun d => ak_icmp_ge d (by decide +kernel) rfl) <|
  am_kd (fun d => ak_aload_n d rfl rfl) <|
  am_kd (fun d => ak_getR (C := RX4) (T := TX4) (N := 19) rfl inX4w (by decide) rfl rfl rfl wd_296 d rfl) <|
  am_kd (fun d => ak_iload d rfl) <|
  am_kd (fun d => ak_bipush d (by decide +kernel) rfl) <|
  am_kd (fun d => ak_imul d rfl) <|
  am_kd (fun d => ak_iload_n d rfl rfl) <|
  am_kd (fun d => ak_iadd d rfl) <|
  am_kd (fun d => ak_lconst d (by decide +kernel) rfl) <|
  am_kd (fun d => ak_last (t := 1) (fun _ => rfl) rfl d rfl) <|
  am_kd (fun d => ak_iinc d (by decide +kernel) rfl) <|
  am_kd (fun d => ak_goto d (by decide +kernel)) <|
  am_kd (fun d => ak_iinc d (by decide +kernel) rfl) <|
  am_kd (fun d => ak_goto d (by decide +kernel)) <|
  am_kd (fun d => ak_aload_n d rfl rfl) <|
  am_kd (fun d => ak_getI (C := RX4) (T := TX4) (N := 19) rfl inX4w (by decide) rfl rfl rfl wd_303 d rfl) <|
  am_kd (fun d => ak_if_le d (by decide +kernel) rfl) <|
  am_kd (fun d => ak_aload_n d rfl rfl) <|
  am_kd (fun d => ak_iload_n d rfl rfl) <|
  am_kd (fun d => ak_callV (C := RX4) (F := TX4) (N := 19) metX4_layNumbersE rfl ⟨rfl, hy_X4_layNumbers⟩ (am_w5 wd_558 wd_494 wd_495 wd_60 wd_496) (by decide) d rfl) <|
  am_kd (fun d => ak_retV d) <| am_kdn
theorem z_wIo {M : am_M} {n a k : Nat} {v : Int32} (h : a ≠ n) : (am_wI M n k v).1 a = M.1 a := funext fun b => by rw [am_wI_1, if_neg (fun q => h q.1)]
theorem z_wJ1 {M : am_M} {n k : Nat} {v : Int64} : (am_wJ M n k v).1 = M.1 := rfl
theorem z_wI2 {M : am_M} {n k : Nat} {v : Int32} : (am_wI M n k v).2 = M.2 := rfl
/-- the loans of a person -/
def z_mine (own : Int32 → Bool) (n : Nat) : List Int32 := ((List.range n).map Int32.ofNat).filter own
theorem z_mine_s (own : Int32 → Bool) (n : Nat) : z_mine own (n + 1) = z_mine own n ++ (if own (Int32.ofNat n) = true then [Int32.ofNat n] else []) := by
  unfold z_mine
  rw [List.range_succ, List.map_append, List.filter_append]
  congr 1
  show List.filter own [Int32.ofNat n] = _
  rw [List.filter_cons]
  rfl
theorem z_mine_in {own : Int32 → Bool} {n : Nat} {l : Int32} (hn : n ≤ 100) (h : l ∈ z_mine own n) : am_in l n ∧ own l = true := by
  unfold z_mine at h
  obtain ⟨h1, h2⟩ := List.mem_filter.mp h
  obtain ⟨i, hi, rfl⟩ := List.mem_map.mp h1
  have hi := List.mem_range.mp hi
  have e := (o_nat (n := i) (by omega)).1
  exact ⟨⟨by omega, by omega⟩, h2⟩
theorem z_mine_mem {own : Int32 → Bool} {n : Nat} {l : Int32} (hn : n ≤ 100) (h : am_in l n) (h2 : own l = true) : l ∈ z_mine own n := by
  unfold z_mine
  refine List.mem_filter.mpr ⟨List.mem_map.mpr ⟨l.toNatClampNeg, List.mem_range.mpr (g_cl h), o_cl h hn⟩, h2⟩
def c_own (M : am_M) (p l : Int32) : Bool := decide (am_loanAt M l 0 = p)
theorem c_own_iff {M : am_M} {p l : Int32} : c_own M p l = true ↔ am_loanAt M l 0 = p := by
  unfold c_own
  exact decide_eq_true_iff
abbrev c_mine (M : am_M) (p : Int32) (n : Nat) : List Int32 := z_mine (c_own M p) n
/-- sums of loans are 0 -/
def z_00 (s : Nat → Int64) (ms : List Int32) : Prop := ∃ _ : Unit, ∀ l ∈ ms, ∀ w, w < 6 → s (30 * w + l.toNatClampNeg) = 0
theorem z_00.v {s : Nat → Int64} {ms : List Int32} (h : z_00 s ms) {l : Int32} (hl : l ∈ ms) {w : Nat} (hw : w < 6) : s (30 * w + l.toNatClampNeg) = 0 := by obtain ⟨-, h⟩ := h; exact h l hl w hw
/-- what is another's stays -/
def c_ot (M : am_M) (p : Int32) (N : am_M) : Prop := ∃ _ : Unit, ∀ x w, am_in x 30 → ¬ c_own M p x = true → w < 6 → N.2 6 (30 * w + x.toNatClampNeg) = M.2 6 (30 * w + x.toNatClampNeg)
theorem c_ot.v {M N : am_M} {p x : Int32} {w : Nat} (h : c_ot M p N) (hx : am_in x 30) (ho : ¬ c_own M p x = true) (hw : w < 6) : N.2 6 (30 * w + x.toNatClampNeg) = M.2 6 (30 * w + x.toNatClampNeg) := by obtain ⟨-, h⟩ := h; exact h x w hx ho hw
theorem c_ot.eq {M N N2 : am_M} {p : Int32} (h : c_ot M p N) (e : ∀ j, N2.2 6 j = N.2 6 j) : c_ot M p N2 := ⟨(), fun x w hx ho hw => (e _).trans (h.v hx ho hw)⟩
/-- a run has begun -/
def c_bg (M : am_M) (p k : Int32) (N : am_M) : Prop := ∃ _ : Unit, (∀ a, a ≠ 4 → a ≠ 5 → a ≠ 7 → N.1 a = M.1 a) ∧ (∀ a, a ≠ 4 → a ≠ 6 → N.2 a = M.2 a) ∧ ((N.1 4 8 = p ∧ N.1 4 9 = k) ∧ N.1 4 10 = 0 ∧ N.1 4 11 = -1 ∧ N.1 4 12 = -1 ∧ N.2 4 14 = 0 ∧ N.2 4 15 = 0) ∧ c_ms N (c_sz N) = c_mine M p (M.1 33 2).toNatClampNeg ∧ z_00 (N.2 6) (c_mine M p (M.1 33 2).toNatClampNeg) ∧ (c_mine M p (M.1 33 2).toNatClampNeg ≠ [] → c_rw M p 40 N) ∧ c_ot M p N
/-- as far as a loan -/
def c_bx (M0 : am_M) (p w : Int32) (l : Nat) (M : am_M) : Prop := ∃ _ : Unit, (∀ a, a ≠ 4 → a ≠ 7 → M.1 a = M0.1 a) ∧ (∀ a, a ≠ 4 → a ≠ 6 → M.2 a = M0.2 a) ∧ ((M.1 4 8 = p ∧ M.1 4 9 = w) ∧ M.1 4 10 = 0 ∧ M.1 4 11 = -1 ∧ M.1 4 12 = -1 ∧ M.2 4 14 = 0 ∧ M.2 4 15 = 0) ∧ c_ms M (c_sz M) = c_mine M0 p l ∧ g_rI M ∧ c_ot M0 p M
def TE4_begin : am_T := fun live as M R => match as with
  | [.ref n, .int p, .int k] => am_mn live ∧ n = 4 ∧ am_in p 12 ∧ g_rI M ∧ c_A M ∧ (0 ≤ (M.1 33 2).toInt ∧ (M.1 33 2).toInt ≤ 30) ∧ ∀ M', c_bg M p k M' → g_rI M' → R none M'
  | _ => False
def JE4_begin : am_E → List Value → am_M → am_R → am_inv := fun live as M0 _ pc => match as with
  | [.ref n, .int p, .int w] => (match pc with
    | 29 => some ([0, 1, 3], fun k L st M => ∃ l : Int32, L = [(0, .ref 4), (1, .int p), (3, .int l)] ∧ st = [] ∧ k = ((31 - l.toInt).toNat * 2, 0) ∧ (0 ≤ l.toInt ∧ l.toInt ≤ (M0.1 33 2).toInt) ∧ (M.1 4 7).toInt ≤ l.toInt ∧ c_bx M0 p w l.toNatClampNeg M ∧ z_00 (M.2 6) (c_mine M0 p l.toNatClampNeg))
    | 88 => some ([0, 1, 3, 4], fun k L st M => ∃ l o : Int32, L = [(0, .ref 4), (1, .int p), (3, .int l), (4, .int o)] ∧ st = [] ∧ k = ((31 - l.toInt).toNat * 2 - 1, (6 - o.toInt).toNat) ∧ (0 ≤ l.toInt ∧ l.toInt < (M0.1 33 2).toInt) ∧ (M.1 4 7).toInt ≤ l.toInt + 1 ∧ (0 ≤ o.toInt ∧ o.toInt ≤ 6) ∧ c_own M0 p l = true ∧ c_bx M0 p w (l.toNatClampNeg + 1) M ∧ z_00 (M.2 6) (c_mine M0 p l.toNatClampNeg) ∧ ∀ v : Nat, (v : Int) < o.toInt → M.2 6 (30 * v + l.toNatClampNeg) = 0)
    | _ => none)
  | _ => none
theorem c_ms_w {M : am_M} {d : Nat} {v : Int32} : c_ms (am_wI M 7 d v) (d + 1) = c_ms M d ++ [v] := by
  rw [c_ms_s]
  congr 1
  · unfold c_ms
    refine List.map_congr_left (fun j hj => ?_)
    have := List.mem_range.mp hj
    rw [am_wI_1, if_neg (fun q => by omega)]
  · rw [am_wI_1, if_pos ⟨rfl, rfl⟩]
set_option maxRecDepth 100000 in
set_option maxHeartbeats 4000000 in
theorem metX4_beginE : am_Met yX4_begin cX4_begin 5 none (3) (72) TE4_begin := by
  refine am_met (own := RX4) (by decide +kernel) rfl kX4_beginE koX4_beginE 150 JE4_begin ?_ ?_
  · intro live as M Ret h
    unfold TE4_begin at h
    split at h
    · next n p w =>
      refine ⟨Nat.le_of_ble_eq_true rfl, ?_⟩
      change am_wp _ _ _ _ [(0, Value.ref n), (1, Value.int p), (2, Value.int w)] _ _
      obtain ⟨hmn, rfl, hp, hr, hA, hn, h⟩ := h
      have hmn2 := hmn
      obtain ⟨i1, i2, rfl⟩ := hmn2
      repeat' (first | (with_reducible exact hmn) | (with_reducible exact hp) | apply And.intro | exact rfl | intro hx | (refine Exists.intro _ (And.intro rfl ?_)))
      all_goals try first | (with_reducible change am_tI _ _) | (change Ret _ _) | (change Ret _ _ _) | (change Exists _)
      all_goals try dsimp only at *
      all_goals try (with_reducible exact absurd ‹(1000 : Int64) = 0› am_z1000)
      all_goals first | (with_reducible exact hp.1) | (with_reducible exact hp.2) | exact hp.1 | exact hp.2 | skip
      refine ⟨_, _, rfl, rfl, rfl, ⟨by decide, hn.1⟩, by rw [am_wI_self]; decide, ⟨(), fun a z4 z7 => ?_, fun a z4 z6 => ?_, ⟨⟨rfl, rfl⟩, rfl, rfl, rfl, rfl, rfl⟩, rfl, ?_, ⟨(), fun x w hx ho hw => by simp only [z_wI2, z_wJo (show (6 : Nat) ≠ 4 by decide)]⟩⟩, ⟨(), fun l hl => absurd hl (List.not_mem_nil)⟩⟩
      · simp only [z_wJ1, z_wIo z4]
      · simp only [z_wI2, z_wJo z4]
      · exact g_rI.w47 (g_rI.wJ (g_rI.wJ (g_rI.w413 (g_rI.w412 (g_rI.w411 (g_rI.w410 (g_rI.wF (g_rI.w48 hr hp) rfl) (by decide)) (Or.inl rfl)) (Or.inl rfl)) (g_i2 _)))) ⟨(), by decide, by decide⟩
    · exact h.elim
  · intro live as M0 Ret h k pc I hI L st M hi
    unfold TE4_begin at h
    split at h
    · next n p w =>
      obtain ⟨hmn, rfl, hp, hr, hA, hn, h⟩ := h
      have hmn2 := hmn
      obtain ⟨i1, i2, rfl⟩ := hmn2
      have cn := i_clamp hn.1
      change (match pc with | 29 => _ | 88 => _ | _ => none) = _ at hI
      split at hI
      · cases hI
        obtain ⟨l, rfl, rfl, rfl, ⟨e1, e5⟩, e4, bx, z0⟩ := hi
        have bx0 := bx
        obtain ⟨-, b1, b2, b3, b4, e3, ot⟩ := bx
        have cl := i_clamp e1
        have hs := e3.s.sz
        have cs : (c_sz M : Int) = (M.1 4 7).toInt := i_clamp hs.1
        have cs2 := i_clamp hs.1
        have em : M.1 33 2 = M0.1 33 2 := by rw [b1 33 (by decide) (by decide)]
        by_cases hq : M.1 33 2 ≤ l
        · have hq2 := hq
          rw [em] at hq2
          simp only [i_le] at hq2
          have el : l.toNatClampNeg = (M0.1 33 2).toNatClampNeg := by omega
          rw [el] at b4 z0
          have hAM : c_A M := hA.cg (b1 31 (by decide) (by decide)) (b1 32 (by decide) (by decide))
          by_cases hz : M.1 4 7 ≤ 0
          · have hz2 := hz
            simp only [i_le, Int32.toInt_zero] at hz2
            have nil : c_mine M0 p (M0.1 33 2).toNatClampNeg = [] := by
              rw [← b4, show c_sz M = 0 by omega]
              rfl
            have hh := h M ⟨(), fun a z4 _ z7 => b1 a z4 z7, b2, b3, b4, z0, fun q => absurd nil q, ot⟩ e3
            repeat' (first | (with_reducible exact hmn) | (with_reducible exact hp) | apply And.intro | exact rfl | (intro hx; with_reducible exact absurd hq hx) | (intro hx; with_reducible exact absurd hz hx) | (intro hx; exact absurd hx (by decide)) | (intro hx; exact absurd (by decide) hx) | decide | intro hx | (refine Exists.intro _ (And.intro rfl ?_)))
            all_goals try first | (with_reducible change am_tI _ _) | (change Ret _ _) | (change Ret _ _ _) | (change Exists _)
            all_goals try dsimp only at *
            all_goals try (with_reducible exact absurd ‹(1000 : Int64) = 0› am_z1000)
            all_goals exact hh
          · skip
            repeat' (first | (with_reducible exact hmn) | (with_reducible exact hp) | (with_reducible exact hAM) | apply And.intro | exact rfl | (intro hx; with_reducible exact absurd hx hz) | (intro hx; with_reducible exact absurd hq hx) | (intro hx; exact absurd hx (by decide)) | (intro hx; exact absurd (by decide) hx) | decide | intro hx | (refine Exists.intro _ (And.intro rfl ?_)))
            all_goals try first | (with_reducible change am_tI _ _) | (change Ret _ _) | (change Ret _ _ _) | (change Exists _)
            all_goals try dsimp only at *
            all_goals try (with_reducible exact absurd ‹(1000 : Int64) = 0› am_z1000)
            all_goals
              rename_i N n5
              have rw40 := hx
              refine h N ⟨(), fun a z4 z5 z7 => (n5.i z5).trans (b1 a z4 z7), fun a z4 z6 => ?_, ?_, ?_, ?_, fun _ => ?_, ?_⟩ (n5.rI e3)
              · obtain ⟨-, -, n52⟩ := n5
                exact (funext fun b => n52 a b).trans (b2 a z4 z6)
              · have n5a := n5
                obtain ⟨-, -, n52⟩ := n5a
                obtain ⟨⟨c1, c2⟩, c3, c4, c5, c6, c7⟩ := b3
                rw [n5.i (show (4 : Nat) ≠ 5 by decide), n52, n52]
                exact ⟨⟨c1, c2⟩, c3, c4, c5, c6, c7⟩
              · rw [← b4]
                unfold c_ms c_sz
                rw [n5.i (show (4 : Nat) ≠ 5 by decide), n5.i (show (7 : Nat) ≠ 5 by decide)]
              · obtain ⟨-, -, n52⟩ := n5
                exact ⟨(), fun l hl w hw => by rw [n52]; exact z0.v hl hw⟩
              · refine ⟨(), fun y' pl w z1 z2 z3 => ?_⟩
                rw [rw40.v z1 z2 z3]
                unfold q_Fn
                rw [b1 32 (by decide) (by decide), b1 31 (by decide) (by decide), b1 22 (by decide) (by decide)]
              · obtain ⟨-, -, n52⟩ := n5
                exact ot.eq (fun j => n52 6 j)
        · have hq2 := hq
          rw [em] at hq2
          simp only [i_le] at hq2
          have hz : ¬ (30 : Int32) ≤ l := fun q => by simp only [i_le, Int32.reduceToInt] at q; omega
          have hi := i_inc (x := l) (by omega) (by omega)
          have cl1 := i_clamp (x := l + 1) (by omega)
          have hl : am_in l 30 := ⟨e1, by omega⟩
          have hsi := i_inc (x := M.1 4 7) (by omega) (by omega)
          have csi := i_clamp (x := M.1 4 7 + 1) (by omega)
          have e47 : ∀ k v, (am_wI M 7 k v).1 4 7 = M.1 4 7 := fun k v => by rw [am_wI_1, if_neg (fun q => absurd q.1 (by decide))]
          have l7 : am_len 7 = 30 := rfl
          have eo : am_loanAt M l 0 = am_loanAt M0 l 0 := by
            unfold am_loanAt
            rw [b1 34 (by decide) (by decide), b1 33 (by decide) (by decide)]
          have ol := o_cl hl (by decide)
          by_cases hm : am_at (M.1 34) (am_len 34) (l * M.1 33 1 + 0) = p
          · have ho : c_own M0 p l = true := c_own_iff.mpr (by rw [← eo]; exact hm)
            repeat' (first | (with_reducible exact hmn) | (with_reducible exact hp) | (with_reducible exact e3) | apply And.intro | exact rfl | (intro hx; with_reducible exact absurd hx hq) | (intro hx; with_reducible exact absurd hx hz) | (intro hx; with_reducible exact absurd hm hx) | ((with_reducible change g_rI _); (with_reducible assumption)) | intro hx | (refine Exists.intro _ (And.intro rfl ?_)))
            all_goals try first | (with_reducible change am_tI _ _) | (change Ret _ _) | (change Ret _ _ _) | (change Exists _)
            all_goals try dsimp only at *
            all_goals try (with_reducible exact absurd ‹(1000 : Int64) = 0› am_z1000)
            all_goals first
              | omega
              | (rw [l7]; omega)
              | skip
            refine ⟨_, am_lt_l (by omega), _, _, rfl, rfl, rfl, ⟨e1, by omega⟩, ?_, ⟨by decide, by decide⟩, ho, ⟨(), fun a z4 z7 => ?_, b2, b3, ?_, g_rI.w47 (g_rI.w7 e3 hl) ?_, ot.eq (fun _ => rfl)⟩, z0, fun v hv => absurd hv (by simp only [Int32.toInt_zero]; omega)⟩
            · rw [am_wI_self, e47]; omega
            · funext b
              rw [am_wI_1, if_neg (fun q => z4 q.1), am_wI_1, if_neg (fun q => z7 q.1), b1 a z4 z7]
            · have b4 : c_ms M (c_sz M) = z_mine (c_own M0 p) l.toNatClampNeg := b4
              show c_ms _ (c_sz _) = z_mine _ (_ + 1)
              rw [z_mine_s, ol, if_pos ho, ← b4, show c_sz (am_wI (am_wI M 7 (M.1 4 7).toNatClampNeg l) 4 7 ((am_wI M 7 (M.1 4 7).toNatClampNeg l).1 4 7 + 1)) = c_sz M + 1 by unfold c_sz; rw [am_wI_self, e47]; omega]
              exact c_ms_w
            · rw [e47]; exact ⟨(), by omega, by omega⟩
          · have ho : ¬ c_own M0 p l = true := fun q => hm (by have q2 := c_own_iff.mp q; rw [← eo] at q2; exact q2)
            have mm : c_mine M0 p (l + 1).toNatClampNeg = c_mine M0 p l.toNatClampNeg := by
              rw [show (l + 1).toNatClampNeg = l.toNatClampNeg + 1 by omega]
              show z_mine _ (_ + 1) = _
              rw [z_mine_s, ol, if_neg ho, List.append_nil]
            repeat' (first | (with_reducible exact hmn) | (with_reducible exact hp) | (with_reducible exact e3) | apply And.intro | exact rfl | (intro hx; with_reducible exact absurd hx hq) | (intro hx; with_reducible exact absurd hx hz) | (intro hx; with_reducible exact absurd hx hm) | ((with_reducible change g_rI _); (with_reducible assumption)) | intro hx | (refine Exists.intro _ (And.intro rfl ?_)))
            all_goals try first | (with_reducible change am_tI _ _) | (change Ret _ _) | (change Ret _ _ _) | (change Exists _)
            all_goals try dsimp only at *
            all_goals try (with_reducible exact absurd ‹(1000 : Int64) = 0› am_z1000)
            all_goals first
              | omega
              | (rw [l7]; omega)
              | exact ⟨_, am_lt_l (by omega), _, rfl, rfl, rfl, ⟨by omega, by omega⟩, by omega, by rw [show (l + 1).toNatClampNeg = l.toNatClampNeg + 1 by omega] at mm ⊢; exact ⟨(), b1, b2, b3, b4.trans mm.symm, e3, ot⟩, by rw [mm]; exact z0⟩
              | skip
      · cases hI
        obtain ⟨l, o, rfl, rfl, rfl, ⟨e1, e5⟩, e4, ⟨e6, e7⟩, ho, bx, z0, z1⟩ := hi
        have hi := i_inc (x := l) (by omega) (by omega)
        have cl := i_clamp e1
        have cl1 := i_clamp (x := l + 1) (by omega)
        have hl : am_in l 30 := ⟨e1, by omega⟩
        have ol := o_cl hl (by decide)
        by_cases hz : (6 : Int32) ≤ o
        · have hz2 := hz
          simp only [i_le, Int32.reduceToInt] at hz2
          repeat' (first | apply And.intro | exact rfl | (intro hx; with_reducible exact absurd hz hx) | intro hx | (refine Exists.intro _ (And.intro rfl ?_)))
          all_goals try first | (with_reducible change am_tI _ _) | (change Ret _ _) | (change Ret _ _ _) | (change Exists _)
          all_goals try dsimp only at *
          all_goals try (with_reducible exact absurd ‹(1000 : Int64) = 0› am_z1000)
          refine ⟨_, am_lt_l (by omega), _, rfl, rfl, rfl, ⟨by omega, by omega⟩, by omega, by rw [show (l + 1).toNatClampNeg = l.toNatClampNeg + 1 by omega]; exact bx, ⟨(), fun x hx v hv => ?_⟩⟩
          rw [show (l + 1).toNatClampNeg = l.toNatClampNeg + 1 by omega] at hx
          have hx : x ∈ z_mine (c_own M0 p) (l.toNatClampNeg + 1) := hx
          rw [z_mine_s, ol, if_pos ho] at hx
          rcases List.mem_append.mp hx with q | q
          · exact z0.v q hv
          · rw [List.mem_singleton.mp q]
            exact z1 v (by omega)
        · have hz2 := hz
          simp only [i_le, Int32.reduceToInt] at hz2
          have ho2 := i_inc (x := o) (by omega) (by omega)
          have co := i_clamp e6
          have e30 := i_mul (x := o) (y := 30) (by simp only [Int32.reduceToInt]; omega) (by simp only [Int32.reduceToInt]; omega)
          simp only [Int32.reduceToInt] at e30
          have e := i_add (x := o * 30) (y := l) (by rw [e30]; omega) (by rw [e30]; omega)
          have ce := i_clamp (x := o * 30 + l) (by omega)
          have l6 : am_len 6 = 180 := rfl
          obtain ⟨-, b1, b2, b3, b4, e3, ot⟩ := bx
          have zz : ∀ j : Nat, M.2 6 j = 0 → (am_wJ M 6 (o * 30 + l).toNatClampNeg 0).2 6 j = 0 := fun j hj => by
            rw [am_wJ_1]
            split
            · rfl
            · exact hj
          repeat' (first | apply And.intro | exact rfl | (intro hx; with_reducible exact absurd hx hz) | intro hx | (refine Exists.intro _ (And.intro rfl ?_)))
          all_goals try first | (with_reducible change am_tI _ _) | (change Ret _ _) | (change Ret _ _ _) | (change Exists _)
          all_goals try dsimp only at *
          all_goals try (with_reducible exact absurd ‹(1000 : Int64) = 0› am_z1000)
          all_goals first
            | omega
            | (rw [l6]; omega)
            | skip
          refine ⟨_, am_lt_r (by omega), _, _, rfl, rfl, rfl, ⟨e1, e5⟩, e4, ⟨by omega, by omega⟩, ho, ⟨(), b1, fun a z4 z6 => by rw [z_wJo z6]; exact b2 a z4 z6, b3, b4, e3.wJ, ⟨(), fun x v hx hno hv => ?_⟩⟩, ⟨(), fun x hx v hv => zz _ (z0.v hx hv)⟩, fun v hv => ?_⟩
          · have gx := g_cl hx
            have gl := g_cl hl
            rw [am_wJ_1, if_neg (fun q => hno ?_)]
            · exact ot.v hx hno hv
            · have q2 := q.2
              rw [← o_cl hx (by decide), show x.toNatClampNeg = l.toNatClampNeg by omega, ol]
              exact ho
          by_cases hvo : (v : Int) < o.toInt
          · exact zz _ (z1 v hvo)
          · rw [am_wJ_1, if_pos ⟨rfl, by omega⟩]
      · cases hI
    · exact h.elim
end
-- part 79u.rrun0.lean.txt
section
/-! runs, exact: the reference: the rate of a loan -/
theorem r_plm_in {M : am_M} (hR : r_I M) {l : Nat} (hl : l < 30) (y : Nat) : ∀ m, m ≤ 60 → am_in (r_plm (M.1 201) l y m) 5
  | 0, _ => (hR.lo hl).2
  | m + 1, h => by
    unfold r_plm
    split
    · exact hR.mv (by omega)
    · exact r_plm_in hR hl y m (by omega)
theorem r_pl_in {M : am_M} (hR : r_I M) {l y : Int32} (hl : am_in l 30) : am_in (r_pl M l y) 5 := by
  unfold r_pl
  split
  · next z =>
    rcases hR.s with q | q
    · rw [q] at z
      exact absurd z.1 (by decide)
    · exact q
  · have n3 := hR.n3
    have c := i_clamp n3.1
    exact r_plm_in hR (g_cl hl) _ _ (by omega)
abbrev r_lo (M : am_M) (l w : Int32) : Int32 := M.1 201 (2838 + 8 * l + w).toNatClampNeg
/-- the facts of a text -/
def r_fx (M : am_M) (l y e a : Int32) (o : Int64) : Int32 → Int64 := fun c => (fun k : Nat => if k = 0 then (r_inF M (r_pl M l y) 2 (r_lo M l 0) y).toInt64 else if k = 1 then (M.1 201 (518 + y).toNatClampNeg).toInt64 else if k = 2 then e.toInt64 else if k = 3 then (r_inF M (r_pl M l y) 0 (r_lo M l 0) y).toInt64 else if k = 4 then (y - r_lo M l 2).toInt64 else if k = 5 then o else a.toInt64) (r_fact c).toNatClampNeg
def r_rt (M : am_M) (l y e a : Int32) (o : Int64) : Int32 := z_rt (r_fx M l y e a o) (r_sg M (r_pl M l y)) (r_sn M (r_pl M l y)) (r_inF M (r_pl M l y) 2 (r_lo M l 0) y)
theorem r_fx_fa {M N : am_M} {l y e a : Int32} {o : Int64} (h0 : N.2 206 0 = (r_inF M (r_pl M l y) 2 (r_lo M l 0) y).toInt64) (h1 : N.2 206 1 = (M.1 201 (518 + y).toNatClampNeg).toInt64) (h2 : N.2 206 2 = e.toInt64) (h3 : N.2 206 3 = (r_inF M (r_pl M l y) 0 (r_lo M l 0) y).toInt64) (h4 : N.2 206 4 = (y - r_lo M l 2).toInt64) (h5 : N.2 206 5 = o) (h6 : N.2 206 6 = a.toInt64) : r_fa N = r_fx M l y e a o := by
  funext c
  have q := r_fact_in c
  have hk : (r_fact c).toNatClampNeg < 7 := by
    show (r_fact c).toInt.toNat < 7
    omega
  unfold r_fa r_fx
  generalize (r_fact c).toNatClampNeg = k at hk ⊢
  match k, hk with
  | 0, _ => exact h0
  | 1, _ => exact h1
  | 2, _ => exact h2
  | 3, _ => exact h3
  | 4, _ => exact h4
  | 5, _ => exact h5
  | 6, _ => exact h6
  | k + 7, hk => exact absurd hk (by omega)
/-- what the rate changes -/
def r_kr (M N : am_M) : Prop := ∃ _ : Unit, (∀ a b, a ≠ 204 → (a ≠ 200 ∨ (b ≠ 11 ∧ b ≠ 12 ∧ b ≠ 14)) → N.1 a b = M.1 a b) ∧ ∀ a, a ≠ 205 → a ≠ 206 → N.2 a = M.2 a
theorem r_kr.rf {M : am_M} : r_kr M M := ⟨(), fun _ _ _ _ => rfl, fun _ _ _ => rfl⟩
theorem r_kr.i {M N : am_M} (h : r_kr M N) {a b : Nat} (h4 : a ≠ 204) (h2 : a ≠ 200 ∨ (b ≠ 11 ∧ b ≠ 12 ∧ b ≠ 14)) : N.1 a b = M.1 a b := by obtain ⟨-, h, -⟩ := h; exact h a b h4 h2
theorem r_kr.j {M N : am_M} (h : r_kr M N) {a : Nat} (h5 : a ≠ 205) (h6 : a ≠ 206) : N.2 a = M.2 a := by obtain ⟨-, -, h⟩ := h; exact h a h5 h6
theorem r_kr.w {M N : am_M} {k : Nat} {v : Int64} (h : r_kr M N) : r_kr M (am_wJ N 206 k v) := ⟨(), fun a b z4 z2 => h.i z4 z2, fun a z5 z6 => by rw [z_wJo z6]; exact h.j z5 z6⟩
theorem r_kr.wh {M N K : am_M} (h : r_kr M N) (h2 : r_wh N K) : r_kr M K := by
  obtain ⟨-, a1, a2⟩ := h2
  exact ⟨(), fun a b z4 z2 => (a1 a b z4 z2).trans (h.i z4 z2), fun a z5 z6 => (funext fun b => a2 a b z5).trans (h.j z5 z6)⟩
theorem z_cl_n {v : Int64} (h : v < 0) : z_cl v = 0 := by
  have h5 : v < 500 := by
    rw [Int64.lt_iff_toInt_lt] at h ⊢
    have : (500 : Int64).toInt = 500 := rfl
    have : (0 : Int64).toInt = 0 := rfl
    omega
  unfold z_cl
  rw [if_pos h5, if_pos h]
  rfl
theorem z_cl_m {v : Int64} (h0 : ¬ v < 0) (h : 500 < v) : z_cl v = 500 := by
  have h5 : ¬ v < 500 := by
    rw [Int64.lt_iff_toInt_lt] at h ⊢
    omega
  unfold z_cl
  rw [if_neg h5, if_neg (by decide)]
  rfl
theorem z_cl_v {v : Int64} (h0 : ¬ v < 0) (h : ¬ 500 < v) : z_cl v = v.toInt32 := by
  unfold z_cl
  by_cases h5 : v < 500
  · rw [if_pos h5, if_neg h0]
  · have e : v = 500 := by
      apply Int64.toInt_inj.mp
      rw [Int64.lt_iff_toInt_lt] at h h5
      omega
    rw [if_neg h5, e, if_neg (by decide)]
def kX8_rateOfE (live : am_E) (Ret : am_R) : am_code := [(0, am_aload 0 1), (1, am_iload 1 2), (2, am_const (.int 0) 3), (3, am_callV live 8 2 TX8_ofLoan 6), (6, am_istore 5 8 8), (8, am_aload 0 9), (9, am_iload 1 10), (10, am_iload 2 11), (11, am_callV live 8 2 TE8_planAt 14), (14, am_istore 6 8 16), (16, am_aload 0 17), (17, am_iload 6 19), (19, am_const (.int 2) 20), (20, am_iload 5 22), (22, am_iload 2 23), (23, am_callV live 8 4 TE8_inForce 26), (26, am_istore 7 8 28), (28, am_aload 0 29), (29, am_getR live 8 0 32), (32, am_const (.int 3508) 35), (35, am_iload 6 37), (37, am_i2 (fun x y => x + y) 38), (38, am_ald live 0 39), (39, am_if1 (fun x => x = 0) 42 45), (42, am_iload 7 44), (44, am_retI Ret), (45, am_aload 0 46), (46, am_getR live 8 13 49), (49, am_const (.int 0) 50), (50, am_iload 7 52), (52, am_i2l 53), (53, am_last live 1 54), (54, am_aload 0 55), (55, am_getR live 8 13 58), (58, am_const (.int 1) 59), (59, am_aload 0 60), (60, am_getR live 8 0 63), (63, am_const (.int 518) 66), (66, am_iload 2 67), (67, am_i2 (fun x y => x + y) 68), (68, am_ald live 0 69), (69, am_i2l 70), (70, am_last live 1 71), (71, am_aload 0 72), (72, am_getR live 8 13 75), (75, am_const (.int 2) 76), (76, am_iload 3 77), (77, am_i2l 78), (78, am_last live 1 79), (79, am_aload 0 80), (80, am_getR live 8 13 83), (83, am_const (.int 3) 84), (84, am_aload 0 85), (85, am_iload 6 87), (87, am_const (.int 0) 88), (88, am_iload 5 90), (90, am_iload 2 91), (91, am_callV live 8 4 TE8_inForce 94), (94, am_i2l 95), (95, am_last live 1 96), (96, am_aload 0 97), (97, am_getR live 8 13 100), (100, am_const (.int 4) 101), (101, am_iload 2 102), (102, am_aload 0 103), (103, am_iload 1 104), (104, am_const (.int 2) 105), (105, am_callV live 8 2 TX8_ofLoan 108), (108, am_i2 (fun x y => x - y) 109), (109, am_i2l 110), (110, am_last live 1 111), (111, am_aload 0 112), (112, am_getR live 8 13 115), (115, am_const (.int 5) 116), (116, am_aload 0 117), (117, am_getR live 8 15 120), (120, am_iload 1 121), (121, am_lald live 1 122), (122, am_last live 1 123), (123, am_aload 0 124), (124, am_getR live 8 13 127), (127, am_const (.int 6) 129), (129, am_iload 4 131), (131, am_i2l 132), (132, am_last live 1 133), (133, am_aload 0 134), (134, am_iload 6 136), (136, am_callV live 8 1 TE8_work 139), (139, am_if1 (fun x => x = 0) 142 145), (142, am_iload 7 144), (144, am_retI Ret), (145, am_aload 0 146), (146, am_getR live 8 10 149), (149, am_const (.int 0) 150), (150, am_lald live 1 151), (151, am_const (.long 0) 152), (152, am_lcmp 153), (153, am_if1 (fun x => 0 ≤ x) 160 156), (156, am_const (.int 0) 157), (157, am_goto 186), (160, am_aload 0 161), (161, am_getR live 8 10 164), (164, am_const (.int 0) 165), (165, am_lald live 1 166), (166, am_const (.long 500) 169), (169, am_lcmp 170), (170, am_if1 (fun x => x ≤ 0) 179 173), (173, am_const (.int 500) 176), (176, am_goto 186), (179, am_aload 0 180), (180, am_getR live 8 10 183), (183, am_const (.int 0) 184), (184, am_lald live 1 185), (185, am_l2i 186), (186, am_retI Ret)]
theorem koX8_rateOfE (live : am_E) (Ret : am_R) : ∀ q ∈ kX8_rateOfE live Ret, am_ok RX8 cX8_rateOf 8 (some .int) 6 135 live Ret q.1 q.2 :=
  am_kz dzX8_rateOf <|
  am_kd (fun d => ak_aload_n d rfl rfl) <|
  am_kd (fun d => ak_iload_n d rfl rfl) <|
  am_kd (fun d => ak_iconst d (by decide +kernel) rfl) <|
  am_kd (fun d => ak_callV (C := RX8) (F := TX8) (N := 27) metX8_ofLoan rfl ⟨rfl, hy_X8_ofLoan⟩ (am_w5 wd_1154 wd_1156 wd_41 wd_67 wd_1157) (by decide) d rfl) <|
  am_kd (fun d => ak_istore d rfl) <|
  am_kd (fun d => ak_aload_n d rfl rfl) <|
  am_kd (fun d => ak_iload_n d rfl rfl) <|
  am_kd (fun d => ak_iload_n d rfl rfl) <|
  am_kd (fun d => ak_callV (C := RX8) (F := TX8) (N := 27) metX8_planAtE rfl ⟨rfl, hy_X8_planAt⟩ (am_w5 wd_1085 wd_1087 wd_32 wd_67 wd_1088) (by decide) d rfl) <|
  am_kd (fun d => ak_istore d rfl) <|
  am_kd (fun d => ak_aload_n d rfl rfl) <|
  am_kd (fun d => ak_iload d rfl) <|
  am_kd (fun d => ak_iconst d (by decide +kernel) rfl) <|
  am_kd (fun d => ak_iload d rfl) <|
  am_kd (fun d => ak_iload_n d rfl rfl) <|
  am_kd (fun d => ak_callV (C := RX8) (F := TX8) (N := 27) metX8_inForceE rfl ⟨rfl, hy_X8_inForce⟩ (am_w5 wd_1053 wd_1055 wd_29 wd_67 wd_1056) (by decide) d rfl) <|
  am_kd (fun d => ak_istore d rfl) <|
  am_kd (fun d => ak_aload_n d rfl rfl) <|
  am_kd (fun d => ak_getR (C := RX8) (T := TX8) (N := 27) rfl inX8w (by decide) rfl rfl rfl wd_895 d rfl) <|
  am_kd (fun d => ak_sipush d (by decide +kernel) rfl) <|
  am_kd (fun d => ak_iload d rfl) <|
  am_kd (fun d => ak_iadd d rfl) <|
  am_kd (fun d => ak_iald (t := 0) (fun _ => rfl) rfl d rfl) <|
  am_kd (fun d => ak_if_ne d (by decide +kernel) rfl) <|
  am_kd (fun d => ak_iload d rfl) <|
  am_kd (fun d => ak_retI d) <|
  am_kd (fun d => ak_aload_n d rfl rfl) <|
  am_kd (fun d => ak_getR (C := RX8) (T := TX8) (N := 27) rfl inX8w (by decide) rfl rfl rfl wd_908 d rfl) <|
  am_kd (fun d => ak_iconst d (by decide +kernel) rfl) <|
  am_kd (fun d => ak_iload d rfl) <|
  am_kd (fun d => ak_i2l d rfl) <|
  am_kd (fun d => ak_last (t := 1) (fun _ => rfl) rfl d rfl) <|
  am_kd (fun d => ak_aload_n d rfl rfl) <|
  am_kd (fun d => ak_getR (C := RX8) (T := TX8) (N := 27) rfl inX8w (by decide) rfl rfl rfl wd_908 d rfl) <|
  am_kd (fun d => ak_iconst d (by decide +kernel) rfl) <|
  am_kd (fun d => ak_aload_n d rfl rfl) <|
  am_kd (fun d => ak_getR (C := RX8) (T := TX8) (N := 27) rfl inX8w (by decide) rfl rfl rfl wd_895 d rfl) <|
  am_kd (fun d => ak_sipush d (by decide +kernel) rfl) <|
  am_kd (fun d => ak_iload_n d rfl rfl) <|
  am_kd (fun d => ak_iadd d rfl) <|
  am_kd (fun d => ak_iald (t := 0) (fun _ => rfl) rfl d rfl) <|
  am_kd (fun d => ak_i2l d rfl) <|
  am_kd (fun d => ak_last (t := 1) (fun _ => rfl) rfl d rfl) <|
  am_kd (fun d => ak_aload_n d rfl rfl) <|
  am_kd (fun d => ak_getR (C := RX8) (T := TX8) (N := 27) rfl inX8w (by decide) rfl rfl rfl wd_908 d rfl) <|
  am_kd (fun d => ak_iconst d (by decide +kernel) rfl) <|
  am_kd (fun d => ak_iload_n d rfl rfl) <|
  am_kd (fun d => ak_i2l d rfl) <|
  am_kd (fun d => ak_last (t := 1) (fun _ => rfl) rfl d rfl) <|
  am_kd (fun d => ak_aload_n d rfl rfl) <|
  am_kd (fun d => ak_getR (C := RX8) (T := TX8) (N := 27) rfl inX8w (by decide) rfl rfl rfl wd_908 d rfl) <|
  am_kd (fun d => ak_iconst d (by decide +kernel) rfl) <|
  am_kd (fun d => ak_aload_n d rfl rfl) <|
  am_kd (fun d => ak_iload d rfl) <|
  am_kd (fun d => ak_iconst d (by decide +kernel) rfl) <|
  am_kd (fun d => ak_iload d rfl) <|
  am_kd (fun d => ak_iload_n d rfl rfl) <|
  am_kd (fun d => ak_callV (C := RX8) (F := TX8) (N := 27) metX8_inForceE rfl ⟨rfl, hy_X8_inForce⟩ (am_w5 wd_1053 wd_1055 wd_29 wd_67 wd_1056) (by decide) d rfl) <|
  am_kd (fun d => ak_i2l d rfl) <|
  am_kd (fun d => ak_last (t := 1) (fun _ => rfl) rfl d rfl) <|
  am_kd (fun d => ak_aload_n d rfl rfl) <|
  am_kd (fun d => ak_getR (C := RX8) (T := TX8) (N := 27) rfl inX8w (by decide) rfl rfl rfl wd_908 d rfl) <|
  am_kd (fun d => ak_iconst d (by decide +kernel) rfl) <|
  am_kd (fun d => ak_iload_n d rfl rfl) <|
  am_kd (fun d => ak_aload_n d rfl rfl) <|
  am_kd (fun d => ak_iload_n d rfl rfl) <|
  am_kd (fun d => ak_iconst d (by decide +kernel) rfl) <|
  am_kd (fun d => ak_callV (C := RX8) (F := TX8) (N := 27) metX8_ofLoan rfl ⟨rfl, hy_X8_ofLoan⟩ (am_w5 wd_1154 wd_1156 wd_41 wd_67 wd_1157) (by decide) d rfl) <|
  am_kd (fun d => ak_isub d rfl) <|
  am_kd (fun d => ak_i2l d rfl) <|
  am_kd (fun d => ak_last (t := 1) (fun _ => rfl) rfl d rfl) <|
  am_kd (fun d => ak_aload_n d rfl rfl) <|
  am_kd (fun d => ak_getR (C := RX8) (T := TX8) (N := 27) rfl inX8w (by decide) rfl rfl rfl wd_908 d rfl) <|
  am_kd (fun d => ak_iconst d (by decide +kernel) rfl) <|
  am_kd (fun d => ak_aload_n d rfl rfl) <|
  am_kd (fun d => ak_getR (C := RX8) (T := TX8) (N := 27) rfl inX8w (by decide) rfl rfl rfl wd_910 d rfl) <|
  am_kd (fun d => ak_iload_n d rfl rfl) <|
  am_kd (fun d => ak_lald (t := 1) (fun _ => rfl) rfl d rfl) <|
  am_kd (fun d => ak_last (t := 1) (fun _ => rfl) rfl d rfl) <|
  am_kd (fun d => ak_aload_n d rfl rfl) <|
  am_kd (fun d => ak_getR (C := RX8) (T := TX8) (N := 27) rfl inX8w (by decide) rfl rfl rfl wd_908 d rfl) <|
  am_kd (fun d => ak_bipush d (by decide +kernel) rfl) <|
  am_kd (fun d => ak_iload d rfl) <|
  am_kd (fun d => ak_i2l d rfl) <|
  am_kd (fun d => ak_last (t := 1) (fun _ => rfl) rfl d rfl) <|
  am_kd (fun d => ak_aload_n d rfl rfl) <|
  am_kd (fun d => ak_iload d rfl) <|
  am_kd (fun d => ak_callV (C := RX8) (F := TX8) (N := 27) metX8_workE rfl ⟨rfl, hy_X8_work⟩ (am_w5 wd_1102 wd_1104 wd_33 wd_67 wd_1105) (by decide) d rfl) <|
  am_kd (fun d => ak_if_ne d (by decide +kernel) rfl) <|
  am_kd (fun d => ak_iload d rfl) <|
  am_kd (fun d => ak_retI d) <|
  am_kd (fun d => ak_aload_n d rfl rfl) <|
  am_kd (fun d => ak_getR (C := RX8) (T := TX8) (N := 27) rfl inX8w (by decide) rfl rfl rfl wd_905 d rfl) <|
  am_kd (fun d => ak_iconst d (by decide +kernel) rfl) <|
  am_kd (fun d => ak_lald (t := 1) (fun _ => rfl) rfl d rfl) <|
  am_kd (fun d => ak_lconst d (by decide +kernel) rfl) <|
  am_kd (fun d => ak_lcmp d rfl) <|
  am_kd (fun d => ak_if_ge d (by decide +kernel) rfl) <|
  am_kd (fun d => ak_iconst d (by decide +kernel) rfl) <|
  am_kd (fun d => ak_goto d (by decide +kernel)) <|
  am_kd (fun d => ak_aload_n d rfl rfl) <|
  am_kd (fun d => ak_getR (C := RX8) (T := TX8) (N := 27) rfl inX8w (by decide) rfl rfl rfl wd_905 d rfl) <|
  am_kd (fun d => ak_iconst d (by decide +kernel) rfl) <|
  am_kd (fun d => ak_lald (t := 1) (fun _ => rfl) rfl d rfl) <|
  am_kd (fun d => ak_ldc2 wd_1008 d rfl) <|
  am_kd (fun d => ak_lcmp d rfl) <|
  am_kd (fun d => ak_if_le d (by decide +kernel) rfl) <|
  am_kd (fun d => ak_sipush d (by decide +kernel) rfl) <|
  am_kd (fun d => ak_goto d (by decide +kernel)) <|
  am_kd (fun d => ak_aload_n d rfl rfl) <|
  am_kd (fun d => ak_getR (C := RX8) (T := TX8) (N := 27) rfl inX8w (by decide) rfl rfl rfl wd_905 d rfl) <|
  am_kd (fun d => ak_iconst d (by decide +kernel) rfl) <|
  am_kd (fun d => ak_lald (t := 1) (fun _ => rfl) rfl d rfl) <|
  am_kd (fun d => ak_l2i d rfl) <|
  am_kd (fun d => ak_retI d) <| am_kdn
def TE8_rateOf : am_T := fun live as M R => match as with
  | [.ref n, .int l, .int y, .int e, .int a] => am_mn live ∧ n = 200 ∧ am_in l 30 ∧ am_in y 40 ∧ r_I M ∧ ∀ M', r_kr M M' → r_I M' → R (some (.int (r_rt M l y e a (M.2 207 l.toNatClampNeg)))) M'
  | _ => False
def JE8_rateOf : am_E → List Value → am_M → am_R → am_inv := fun live as M0 _ pc => match as with
  | [.ref n, .int l, .int y, .int e, .int a] => (match pc with
    | 145 => some ([0], fun k L st M => ∃ v : Int64, L = [(0, .ref 200)] ∧ st = [] ∧ k = (5, 0) ∧ r_rt M0 l y e a (M0.2 207 l.toNatClampNeg) = z_cl v ∧ M.2 205 0 = v ∧ r_kr M0 M ∧ r_I M)
    | _ => none)
  | _ => none
set_option maxRecDepth 100000 in
set_option maxHeartbeats 4000000 in
theorem metX8_rateOfE : am_Met yX8_rateOf cX8_rateOf 8 (some .int) (6) (135) TE8_rateOf := by
  refine am_met (own := RX8) (by decide +kernel) rfl kX8_rateOfE koX8_rateOfE 200 JE8_rateOf ?_ ?_
  · intro live as M Ret h
    unfold TE8_rateOf at h
    split at h
    · next n l y e a =>
      refine ⟨Nat.le_of_ble_eq_true rfl, ?_⟩
      change am_wp _ _ _ _ [(0, Value.ref n), (1, Value.int l), (2, Value.int y), (3, Value.int e), (4, Value.int a)] _ _
      obtain ⟨hmn, rfl, hl, hy, hR, h⟩ := h
      have hmn2 := hmn
      obtain ⟨i1, i2, rfl⟩ := hmn2
      have hp := r_pers hR hl
      have hpl := r_pl_in hR (y := y) hl
      have w0 : 0 ≤ (0 : Int32).toInt ∧ (0 : Int32).toInt ≤ 7 := ⟨by decide, by decide⟩
      have w2 : 0 ≤ (2 : Int32).toInt ∧ (2 : Int32).toInt ≤ 7 := ⟨by decide, by decide⟩
      have w26 : am_in (2 : Int32) 6 := ⟨by decide, by decide⟩
      have w06 : am_in (0 : Int32) 6 := ⟨by decide, by decide⟩
      have l207 : am_len 207 = 30 := rfl
      have l206 : am_len 206 = 7 := rfl
      have y518 := r_in40 hy (c := 518) ⟨by decide, by decide⟩
      have x1 := y518.1
      have x2 := y518.2
      have l1 := hl.1
      have l2 : l.toInt < (am_len 207 : Int) := by rw [l207]; exact hl.2
      have y1 := hy.1
      have p5 := r_in5 hpl (c := 3508) ⟨by decide, by decide⟩
      have x3 := p5.1
      have x4 := p5.2
      have e35 : (3508 + r_pl M l y).toNatClampNeg = 3508 + (r_pl M l y).toNatClampNeg := by
        have q1 := hpl.1
        have q2 := hpl.2
        have c1 := i_clamp q1
        have e := r_off (c := 3508) (x := r_pl M l y) ⟨by decide, by decide⟩ ⟨q1, by omega⟩
        simp only [Int32.reduceToInt] at e
        have c2 := i_clamp x3
        omega
      by_cases z0 : M.1 201 (3508 + r_pl M l y).toNatClampNeg = 0
      · have hh := h M r_kr.rf hR
        unfold r_rt z_rt at hh
        rw [show r_sn M (r_pl M l y) = 0 by unfold r_sn; rw [← e35, z0]; rfl, w_res_e (Nat.le_refl _)] at hh
        repeat' (first | (with_reducible exact hmn) | (with_reducible exact hl) | (with_reducible exact hp) | (with_reducible exact w0) | (with_reducible exact w26) | (with_reducible exact hR) | (with_reducible exact x1) | (with_reducible exact x2) | (with_reducible exact x3) | (with_reducible exact x4) | (with_reducible exact l1) | (with_reducible exact y1) | apply And.intro | exact rfl | (intro hx; with_reducible exact absurd z0 hx) | ((with_reducible change r_I _); (with_reducible assumption)) | (intro hx; exact absurd hx (by decide)) | (intro hx; exact absurd (by decide) hx) | decide | intro hx | (refine Exists.intro _ (And.intro rfl ?_)))
        all_goals try first | (with_reducible change am_tI _ _) | (change Ret _ _) | (change Ret _ _ _) | (change Exists _)
        all_goals try dsimp only at *
        all_goals try (with_reducible exact absurd ‹(1000 : Int64) = 0› am_z1000)
        all_goals exact hh
      · skip
        repeat' (first | (with_reducible exact hmn) | (with_reducible exact hl) | (with_reducible exact hp) | (with_reducible exact w0) | (with_reducible exact w2) | (with_reducible exact w26) | (with_reducible exact w06) | (with_reducible exact hpl) | (with_reducible exact hR) | (with_reducible exact x1) | (with_reducible exact x2) | (with_reducible exact x3) | (with_reducible exact x4) | (with_reducible exact l1) | (with_reducible exact l2) | (with_reducible exact y1) | apply And.intro | exact rfl | (intro hx; with_reducible exact absurd hx z0) | ((with_reducible change r_I _); (with_reducible assumption)) | (intro hx; exact absurd hx (by decide)) | (intro hx; exact absurd (by decide) hx) | decide | intro hx | (refine Exists.intro _ (And.intro rfl ?_)))
        all_goals try first | (with_reducible change am_tI _ _) | (change Ret _ _) | (change Ret _ _ _) | (change Exists _)
        all_goals try dsimp only at *
        all_goals try (with_reducible exact absurd ‹(1000 : Int64) = 0› am_z1000)
        all_goals first
          | decide
          | (rw [l206]; decide)
          | (change r_I _; (repeat' (first | (with_reducible assumption) | ((with_reducible change r_I (am_wJ _ _ _ _)); refine r_I.wJ ?_) | ((with_reducible change r_I (am_wI _ _ _ _)); refine r_I.wI ?_ rfl))))
          | skip
        · rename_i v hv N hN h5
          refine ⟨_, v, rfl, rfl, rfl, ?_, h5, r_kr.wh (((((((r_kr.rf.w).w).w).w).w).w).w) hN, ?_⟩
          · unfold r_rt z_rt
            have hv2 : w_res (r_fx M l y e a (M.2 207 l.toNatClampNeg)) (r_sg M (r_pl M l y)) (r_sn M (r_pl M l y)) 0 true [] [] = .inl v := by
              refine Eq.trans (congrArg (fun f => w_res f _ _ 0 true [] []) (Eq.symm (r_fx_fa ?_ ?_ ?_ ?_ ?_ ?_ ?_))) hv
              all_goals rfl
            rw [hv2]
          · exact r_I.sc (((((((hR.wJ).wJ).wJ).wJ).wJ).wJ).wJ) hN.sc
        · rename_i f hf N hN h14
          have hh := h N (r_kr.wh (((((((r_kr.rf.w).w).w).w).w).w).w) hN) (r_I.sc (((((((hR.wJ).wJ).wJ).wJ).wJ).wJ).wJ) hN.sc)
          unfold r_rt z_rt at hh
          have hv2 : w_res (r_fx M l y e a (M.2 207 l.toNatClampNeg)) (r_sg M (r_pl M l y)) (r_sn M (r_pl M l y)) 0 true [] [] = .inr f := by
            refine Eq.trans (congrArg (fun f => w_res f _ _ 0 true [] []) (Eq.symm (r_fx_fa ?_ ?_ ?_ ?_ ?_ ?_ ?_))) hf
            all_goals rfl
          rw [hv2] at hh
          exact hh
    · exact h.elim
  · intro live as M0 Ret h k pc I hI L st M hi
    unfold TE8_rateOf at h
    split at h
    · next n l y e a =>
      obtain ⟨hmn, rfl, hl, hy, hR, h⟩ := h
      have hmn2 := hmn
      obtain ⟨i1, i2, rfl⟩ := hmn2
      have d0 : (0 : Int64).toInt = 0 := rfl
      have d5 : (500 : Int64).toInt = 500 := rfl
      change (match pc with | 145 => _ | _ => none) = _ at hI
      split at hI
      · cases hI
        obtain ⟨v, rfl, rfl, rfl, er, ev, hk, hRM⟩ := hi
        have hh := h M hk hRM
        rw [er] at hh
        by_cases z1 : 0 ≤ lg_cmp (M.2 205 (0 : Int32).toNatClampNeg) 0
        · have y1 : ¬ v < 0 := fun q => by
            rw [lc_ge, show M.2 205 (0 : Int32).toNatClampNeg = v from ev] at z1
            rw [j_le] at z1
            rw [Int64.lt_iff_toInt_lt] at q
            omega
          by_cases z2 : lg_cmp (M.2 205 (0 : Int32).toNatClampNeg) 500 ≤ 0
          · have y2 : ¬ 500 < v := fun q => by
              rw [lc_le, show M.2 205 (0 : Int32).toNatClampNeg = v from ev] at z2
              rw [j_le] at z2
              rw [Int64.lt_iff_toInt_lt] at q
              omega
            rw [z_cl_v y1 y2, ← ev] at hh
            repeat' (first | apply And.intro | exact rfl | (intro hx; with_reducible exact absurd z1 hx) | (intro hx; with_reducible exact absurd z2 hx) | (intro hx; exact absurd hx (by decide)) | (intro hx; exact absurd (by decide) hx) | decide | intro hx | (refine Exists.intro _ (And.intro rfl ?_)))
            all_goals try first | (with_reducible change am_tI _ _) | (change Ret _ _) | (change Ret _ _ _) | (change Exists _)
            all_goals try dsimp only at *
            all_goals try (with_reducible exact absurd ‹(1000 : Int64) = 0› am_z1000)
            all_goals exact hh
          · have y2 : 500 < v := by
              rw [lc_le, show M.2 205 (0 : Int32).toNatClampNeg = v from ev] at z2
              rw [j_le] at z2
              rw [Int64.lt_iff_toInt_lt]
              omega
            rw [z_cl_m y1 y2] at hh
            repeat' (first | apply And.intro | exact rfl | (intro hx; with_reducible exact absurd hx z2) | (intro hx; with_reducible exact absurd z1 hx) | (intro hx; exact absurd hx (by decide)) | (intro hx; exact absurd (by decide) hx) | decide | intro hx | (refine Exists.intro _ (And.intro rfl ?_)))
            all_goals try first | (with_reducible change am_tI _ _) | (change Ret _ _) | (change Ret _ _ _) | (change Exists _)
            all_goals try dsimp only at *
            all_goals try (with_reducible exact absurd ‹(1000 : Int64) = 0› am_z1000)
            all_goals exact hh
        · have y1 : v < 0 := by
            rw [lc_ge, show M.2 205 (0 : Int32).toNatClampNeg = v from ev] at z1
            rw [j_le] at z1
            rw [Int64.lt_iff_toInt_lt]
            omega
          rw [z_cl_n y1] at hh
          repeat' (first | apply And.intro | exact rfl | (intro hx; with_reducible exact absurd hx z1) | (intro hx; exact absurd hx (by decide)) | (intro hx; exact absurd (by decide) hx) | decide | intro hx | (refine Exists.intro _ (And.intro rfl ?_)))
          all_goals try first | (with_reducible change am_tI _ _) | (change Ret _ _) | (change Ret _ _ _) | (change Exists _)
          all_goals try dsimp only at *
          all_goals try (with_reducible exact absurd ‹(1000 : Int64) = 0› am_z1000)
          all_goals exact hh
      · cases hI
    · exact h.elim
end
-- part 79v.rrun1.lean.txt
section
/-! runs, exact: the reference: a loan's year begins -/
/-- the reference's sums, laid out as the class's -/
def r_fl (M : am_M) : Nat → Int64 := fun k => if k < 30 then M.2 207 k else if k < 60 then M.2 208 (k - 30) else if k < 90 then M.2 211 (k - 60) else if k < 120 then M.2 209 (k - 90) else if k < 150 then M.2 212 (k - 120) else M.2 210 (k - 150)
theorem r_fl_cg {M N : am_M} (h : ∀ a, 207 ≤ a → a ≤ 212 → N.2 a = M.2 a) : r_fl N = r_fl M := by
  funext k
  unfold r_fl
  rw [h 207 (by decide) (by decide), h 208 (by decide) (by decide), h 209 (by decide) (by decide), h 210 (by decide) (by decide), h 211 (by decide) (by decide), h 212 (by decide) (by decide)]
theorem r_fl_w {M : am_M} {n l b : Nat} {v : Int64} (hl : l < 30) (hn : (n = 207 ∧ b = 0) ∨ (n = 208 ∧ b = 30) ∨ (n = 211 ∧ b = 60) ∨ (n = 209 ∧ b = 90) ∨ (n = 212 ∧ b = 120) ∨ (n = 210 ∧ b = 150)) : r_fl (am_wJ M n l v) = z_u (r_fl M) (b + l) v := by
  funext k
  unfold z_u r_fl
  by_cases z : k = b + l
  · subst z
    rw [if_pos rfl]
    rcases hn with ⟨rfl, rfl⟩ | ⟨rfl, rfl⟩ | ⟨rfl, rfl⟩ | ⟨rfl, rfl⟩ | ⟨rfl, rfl⟩ | ⟨rfl, rfl⟩
    · rw [if_pos (by omega), am_wJ_1, if_pos ⟨rfl, by omega⟩]
    · rw [if_neg (by omega), if_pos (by omega), am_wJ_1, if_pos ⟨rfl, by omega⟩]
    · rw [if_neg (by omega), if_neg (by omega), if_pos (by omega), am_wJ_1, if_pos ⟨rfl, by omega⟩]
    · rw [if_neg (by omega), if_neg (by omega), if_neg (by omega), if_pos (by omega), am_wJ_1, if_pos ⟨rfl, by omega⟩]
    · rw [if_neg (by omega), if_neg (by omega), if_neg (by omega), if_neg (by omega), if_pos (by omega), am_wJ_1, if_pos ⟨rfl, by omega⟩]
    · rw [if_neg (by omega), if_neg (by omega), if_neg (by omega), if_neg (by omega), if_neg (by omega), am_wJ_1, if_pos ⟨rfl, by omega⟩]
  · rw [if_neg z]
    repeat' split
    all_goals rw [am_wJ_1, if_neg (fun q => by omega)]
theorem r_fl_v {M : am_M} {l : Nat} (hl : l < 30) : r_fl M l = M.2 207 l := if_pos hl
/-- what a year's step changes -/
def r_ky (M N : am_M) : Prop := ∃ _ : Unit, (∀ a b, a ≠ 204 → a ≠ 213 → (a ≠ 200 ∨ (b ≠ 11 ∧ b ≠ 12 ∧ b ≠ 14)) → N.1 a b = M.1 a b) ∧ ∀ a b, a ≠ 205 → a ≠ 206 → ¬ (207 ≤ a ∧ a ≤ 212) → ¬ (a = 200 ∧ b = 22) → N.2 a b = M.2 a b
theorem r_ky.i {M N : am_M} (h : r_ky M N) {a b : Nat} (h4 : a ≠ 204) (h13 : a ≠ 213) (h2 : a ≠ 200 ∨ (b ≠ 11 ∧ b ≠ 12 ∧ b ≠ 14)) : N.1 a b = M.1 a b := by obtain ⟨-, h, -⟩ := h; exact h a b h4 h13 h2
theorem r_ky.j {M N : am_M} (h : r_ky M N) {a b : Nat} (h5 : a ≠ 205) (h6 : a ≠ 206) (h7 : ¬ (207 ≤ a ∧ a ≤ 212)) (h2 : ¬ (a = 200 ∧ b = 22)) : N.2 a b = M.2 a b := by obtain ⟨-, -, h⟩ := h; exact h a b h5 h6 h7 h2
theorem r_ky.rf {M : am_M} : r_ky M M := ⟨(), fun _ _ _ _ _ => rfl, fun _ _ _ _ _ _ => rfl⟩
theorem r_ky.tr {M N K : am_M} (h : r_ky M N) (h2 : r_ky N K) : r_ky M K := ⟨(), fun a b x y z => (h2.i x y z).trans (h.i x y z), fun a b x y z w => (h2.j x y z w).trans (h.j x y z w)⟩
theorem r_ky.kr {M N K : am_M} (h : r_ky M N) (h2 : r_kr N K) : r_ky M K := h.tr ⟨(), fun a b x _ z => h2.i x z, fun a b x y _ _ => by rw [h2.j x y]⟩
theorem r_ky.w {M N : am_M} {n k : Nat} {v : Int64} (h : r_ky M N) (hn : 207 ≤ n ∧ n ≤ 212) : r_ky M (am_wJ N n k v) := h.tr ⟨(), fun _ _ _ _ _ => rfl, fun a b _ _ z _ => by rw [am_wJ_1, if_neg (fun q => z (by omega))]⟩
theorem r_ky.wp {M N : am_M} {v : Int64} (h : r_ky M N) : r_ky M (am_wJ N 200 22 v) := h.tr ⟨(), fun _ _ _ _ _ => rfl, fun a b _ _ _ w => by rw [am_wJ_1, if_neg w]⟩
theorem r_ky.wb {M N : am_M} {k : Nat} {v : Int32} (h : r_ky M N) : r_ky M (am_wI N 213 k v) := h.tr ⟨(), fun a b _ z _ => by rw [am_wI_1, if_neg (fun q => z q.1)], fun _ _ _ _ _ _ => rfl⟩
theorem r_ky.sc {M N : am_M} (h : r_ky M N) : r_sc M N := ⟨(), fun a b z => ⟨h.i (by omega) (by omega) (by omega), h.j (by omega) (by omega) (by omega) (by omega)⟩, h.i (by decide) (by decide) (by decide), h.i (by decide) (by decide) (by decide)⟩
theorem r_ky.f {M N : am_M} (h : r_ky M N) {α : Type} (f : am_M → α) (hf : ∀ a b b', f (a, b) = f (a, b')) (h8 : ∀ (K : am_M) (u v w : Int32) (g g' : Nat → Int32), f (am_cI (am_cI (am_wI (am_wI (am_wI K 200 11 u) 200 12 v) 200 14 w) 204 g) 213 g') = f K) : f N = f M := by
  have e : N.1 = (am_cI (am_cI (am_wI (am_wI (am_wI M 200 11 (N.1 200 11)) 200 12 (N.1 200 12)) 200 14 (N.1 200 14)) 204 (N.1 204)) 213 (N.1 213)).1 := by
    funext a b
    rw [am_cI_1]
    by_cases z : a = 213
    · subst z; rw [if_pos rfl]
    · rw [if_neg z, am_cI_1]
      by_cases y : a = 204
      · subst y; rw [if_pos rfl]
      · rw [if_neg y, am_wI_1]
        by_cases w : a = 200 ∧ b = 14
        · rw [if_pos w, w.1, w.2]
        · rw [if_neg w, am_wI_1]
          by_cases w2 : a = 200 ∧ b = 12
          · rw [if_pos w2, w2.1, w2.2]
          · rw [if_neg w2, am_wI_1]
            by_cases w3 : a = 200 ∧ b = 11
            · rw [if_pos w3, w3.1, w3.2]
            · rw [if_neg w3]
              exact h.i y z (by omega)
  rw [z_cg1 f hf e, h8]
def r_ends (M : am_M) (y d l : Int32) : Bool := decide (¬ d = 0 ∨ ¬ (y - r_lo M l 2 < r_inF M (r_pl M l y) 3 (r_lo M l 0) y))
def r_o1 (M : am_M) (y l : Int32) (o : Int64) : Int64 := o + (if r_lo M l 2 = y then (r_lo M l 3).toInt64 else 0)
def r_dr (M : am_M) (y l : Int32) (o : Int64) : Int64 := if r_lo M l 5 = y then o - z_mn o (r_given M l y).toInt64 else o
def r_cap (o : Int64) (r : Int32) : Int64 := if 1000000000000 < o + o * r.toInt64 / 1000 then 1000000000000 else o + o * r.toInt64 / 1000
/-- sums of last year go -/
def z_r0 (s : Nat → Int64) (l : Int32) : Nat → Int64 := z_u (z_u (z_u s (60 + l.toNatClampNeg) 0) (120 + l.toNatClampNeg) 0) (30 + l.toNatClampNeg) 0
def z_ui (b : Nat → Int32) (k : Nat) (v : Int32) : Nat → Int32 := fun j => if j = k then v else b j
theorem z_wI {M : am_M} {n k : Nat} {v : Int32} : (am_wI M n k v).1 n = z_ui (M.1 n) k v := by
  funext b
  rw [am_wI_1]
  unfold z_ui
  by_cases z : b = k
  · rw [if_pos ⟨rfl, z⟩, if_pos z]
  · rw [if_neg (fun q => z q.2), if_neg z]
theorem z_u_u {s : Nat → Int64} {k : Nat} {v w : Int64} : z_u (z_u s k v) k w = z_u s k w := by
  funext j
  unfold z_u
  by_cases z : j = k
  · rw [if_pos z, if_pos z]
  · rw [if_neg z, if_neg z, if_neg z]
/-- a loan's year begins, as the reference has it -/
def z_rb (en : Int32 → Bool) (cap o1 dr : Int32 → Int64 → Int64) (p : (Nat → Int64) × (Nat → Int32)) (l : Int32) : (Nat → Int64) × (Nat → Int32) :=
  if ¬ p.2 l.toNatClampNeg = 0 then (z_r0 p.1 l, p.2)
  else if en l = true then (z_u (z_u (z_r0 p.1 l) (60 + l.toNatClampNeg) (p.1 l.toNatClampNeg)) l.toNatClampNeg 0, z_ui p.2 l.toNatClampNeg 1)
  else (z_u (z_u (z_r0 p.1 l) (120 + l.toNatClampNeg) (cap l (p.1 l.toNatClampNeg) - p.1 l.toNatClampNeg)) l.toNatClampNeg (dr l (o1 l (cap l (p.1 l.toNatClampNeg)))), p.2)
abbrev r_bg (M : am_M) (y e a d : Int32) : (Nat → Int64) × (Nat → Int32) → Int32 → (Nat → Int64) × (Nat → Int32) := z_rb (r_ends M y d) (fun l o => r_cap o (r_rt M l y e a o)) (r_o1 M y) (r_dr M y)
abbrev r_s2 (M : am_M) : (Nat → Int64) × (Nat → Int32) := (r_fl M, M.1 213)
def kX8_beginE (live : am_E) (Ret : am_R) : am_code := [(0, am_aload 0 1), (1, am_iload 1 2), (2, am_const (.int 0) 3), (3, am_callV live 8 2 TX8_ofLoan 6), (6, am_istore 6 12 8), (8, am_aload 0 9), (9, am_getR live 8 19 12), (12, am_iload 1 13), (13, am_const (.long 0) 14), (14, am_last live 1 15), (15, am_aload 0 16), (16, am_getR live 8 20 19), (19, am_iload 1 20), (20, am_const (.long 0) 21), (21, am_last live 1 22), (22, am_aload 0 23), (23, am_getR live 8 16 26), (26, am_iload 1 27), (27, am_const (.long 0) 28), (28, am_last live 1 29), (29, am_iload 5 31), (31, am_if1 (fun x => x = 0) 34 59), (34, am_iload 2 35), (35, am_aload 0 36), (36, am_iload 1 37), (37, am_const (.int 2) 38), (38, am_callV live 8 2 TX8_ofLoan 41), (41, am_i2 (fun x y => x - y) 42), (42, am_aload 0 43), (43, am_aload 0 44), (44, am_iload 1 45), (45, am_iload 2 46), (46, am_callV live 8 2 TE8_planAt 49), (49, am_const (.int 3) 50), (50, am_iload 6 52), (52, am_iload 2 53), (53, am_callV live 8 4 TE8_inForce 56), (56, am_if2 (fun x y => x < y) 63 59), (59, am_const (.int 1) 60), (60, am_goto 64), (63, am_const (.int 0) 64), (64, am_istore 7 12 66), (66, am_aload 0 67), (67, am_getR live 8 21 70), (70, am_iload 1 71), (71, am_ald live 2 72), (72, am_if1 (fun x => x = 0) 75 106), (75, am_iload 7 77), (77, am_if1 (fun x => x = 0) 106 80), (80, am_aload 0 81), (81, am_getR live 8 21 84), (84, am_iload 1 85), (85, am_const (.int 1) 86), (86, am_zst live 2 87), (87, am_aload 0 88), (88, am_getR live 8 19 91), (91, am_iload 1 92), (92, am_aload 0 93), (93, am_getR live 8 15 96), (96, am_iload 1 97), (97, am_lald live 1 98), (98, am_last live 1 99), (99, am_aload 0 100), (100, am_getR live 8 15 103), (103, am_iload 1 104), (104, am_const (.long 0) 105), (105, am_last live 1 106), (106, am_aload 0 107), (107, am_getR live 8 21 110), (110, am_iload 1 111), (111, am_ald live 2 112), (112, am_if1 (fun x => x = 0) 115 268), (115, am_aload 0 116), (116, am_getR live 8 15 119), (119, am_iload 1 120), (120, am_lald live 1 121), (121, am_aload 0 122), (122, am_getR live 8 15 125), (125, am_iload 1 126), (126, am_lald live 1 127), (127, am_aload 0 128), (128, am_iload 1 129), (129, am_iload 2 130), (130, am_iload 3 131), (131, am_iload 4 133), (133, am_callV live 8 4 TE8_rateOf 136), (136, am_i2l 137), (137, am_l2 (fun x y => x * y) 138), (138, am_const (.long 1000) 141), (141, am_l2z (fun x y => x / y) 142), (142, am_l2 (fun x y => x + y) 143), (143, am_lstore 8 12 145), (145, am_lload 8 147), (147, am_const (.long 1000000000000) 150), (150, am_lcmp 151), (151, am_if1 (fun x => x ≤ 0) 160 154), (154, am_const (.long 1000000000000) 157), (157, am_goto 162), (160, am_lload 8 162), (162, am_lstore 8 12 164), (164, am_aload 0 165), (165, am_getR live 8 20 168), (168, am_iload 1 169), (169, am_lload 8 171), (171, am_aload 0 172), (172, am_getR live 8 15 175), (175, am_iload 1 176), (176, am_lald live 1 177), (177, am_l2 (fun x y => x - y) 178), (178, am_last live 1 179), (179, am_aload 0 180), (180, am_getR live 8 15 183), (183, am_iload 1 184), (184, am_lload 8 186), (186, am_last live 1 187), (187, am_aload 0 188), (188, am_getR live 8 15 191), (191, am_iload 1 192), (192, am_dup2 193), (193, am_lald live 1 194), (194, am_aload 0 195), (195, am_iload 1 196), (196, am_const (.int 2) 197), (197, am_callV live 8 2 TX8_ofLoan 200), (200, am_iload 2 201), (201, am_if2 (fun x y => x = y) 204 214), (204, am_aload 0 205), (205, am_iload 1 206), (206, am_const (.int 3) 207), (207, am_callV live 8 2 TX8_ofLoan 210), (210, am_i2l 211), (211, am_goto 215), (214, am_const (.long 0) 215), (215, am_l2 (fun x y => x + y) 216), (216, am_last live 1 217), (217, am_aload 0 218), (218, am_iload 1 219), (219, am_const (.int 5) 220), (220, am_callV live 8 2 TX8_ofLoan 223), (223, am_iload 2 224), (224, am_if2 (fun x y => x = y) 227 268), (227, am_aload 0 228), (228, am_iload 1 229), (229, am_iload 2 230), (230, am_callV live 8 2 TX8_given 233), (233, am_i2l 234), (234, am_lstore 10 12 236), (236, am_aload 0 237), (237, am_getR live 8 15 240), (240, am_iload 1 241), (241, am_dup2 242), (242, am_lald live 1 243), (243, am_lload 10 245), (245, am_aload 0 246), (246, am_getR live 8 15 249), (249, am_iload 1 250), (250, am_lald live 1 251), (251, am_lcmp 252), (252, am_if1 (fun x => 0 ≤ x) 260 255), (255, am_lload 10 257), (257, am_goto 266), (260, am_aload 0 261), (261, am_getR live 8 15 264), (264, am_iload 1 265), (265, am_lald live 1 266), (266, am_l2 (fun x y => x - y) 267), (267, am_last live 1 268), (268, am_retV Ret)]
theorem koX8_beginE (live : am_E) (Ret : am_R) : ∀ q ∈ kX8_beginE live Ret, am_ok RX8 cX8_begin 12 none 7 162 live Ret q.1 q.2 :=
  am_kz dzX8_begin <|
  am_kd (fun d => ak_aload_n d rfl rfl) <|
  am_kd (fun d => ak_iload_n d rfl rfl) <|
  am_kd (fun d => ak_iconst d (by decide +kernel) rfl) <|
  am_kd (fun d => ak_callV (C := RX8) (F := TX8) (N := 27) metX8_ofLoan rfl ⟨rfl, hy_X8_ofLoan⟩ (am_w5 wd_1154 wd_1156 wd_41 wd_67 wd_1157) (by decide) d rfl) <|
  am_kd (fun d => ak_istore d rfl) <|
  am_kd (fun d => ak_aload_n d rfl rfl) <|
  am_kd (fun d => ak_getR (C := RX8) (T := TX8) (N := 27) rfl inX8w (by decide) rfl rfl rfl wd_914 d rfl) <|
  am_kd (fun d => ak_iload_n d rfl rfl) <|
  am_kd (fun d => ak_lconst d (by decide +kernel) rfl) <|
  am_kd (fun d => ak_last (t := 1) (fun _ => rfl) rfl d rfl) <|
  am_kd (fun d => ak_aload_n d rfl rfl) <|
  am_kd (fun d => ak_getR (C := RX8) (T := TX8) (N := 27) rfl inX8w (by decide) rfl rfl rfl wd_915 d rfl) <|
  am_kd (fun d => ak_iload_n d rfl rfl) <|
  am_kd (fun d => ak_lconst d (by decide +kernel) rfl) <|
  am_kd (fun d => ak_last (t := 1) (fun _ => rfl) rfl d rfl) <|
  am_kd (fun d => ak_aload_n d rfl rfl) <|
  am_kd (fun d => ak_getR (C := RX8) (T := TX8) (N := 27) rfl inX8w (by decide) rfl rfl rfl wd_911 d rfl) <|
  am_kd (fun d => ak_iload_n d rfl rfl) <|
  am_kd (fun d => ak_lconst d (by decide +kernel) rfl) <|
  am_kd (fun d => ak_last (t := 1) (fun _ => rfl) rfl d rfl) <|
  am_kd (fun d => ak_iload d rfl) <|
  am_kd (fun d => ak_if_ne d (by decide +kernel) rfl) <|
  am_kd (fun d => ak_iload_n d rfl rfl) <|
  am_kd (fun d => ak_aload_n d rfl rfl) <|
  am_kd (fun d => ak_iload_n d rfl rfl) <|
  am_kd (fun d => ak_iconst d (by decide +kernel) rfl) <|
  am_kd (fun d => ak_callV (C := RX8) (F := TX8) (N := 27) metX8_ofLoan rfl ⟨rfl, hy_X8_ofLoan⟩ (am_w5 wd_1154 wd_1156 wd_41 wd_67 wd_1157) (by decide) d rfl) <|
  am_kd (fun d => ak_isub d rfl) <|
  am_kd (fun d => ak_aload_n d rfl rfl) <|
  am_kd (fun d => ak_aload_n d rfl rfl) <|
  am_kd (fun d => ak_iload_n d rfl rfl) <|
  am_kd (fun d => ak_iload_n d rfl rfl) <|
  am_kd (fun d => ak_callV (C := RX8) (F := TX8) (N := 27) metX8_planAtE rfl ⟨rfl, hy_X8_planAt⟩ (am_w5 wd_1085 wd_1087 wd_32 wd_67 wd_1088) (by decide) d rfl) <|
  am_kd (fun d => ak_iconst d (by decide +kernel) rfl) <|
  am_kd (fun d => ak_iload d rfl) <|
  am_kd (fun d => ak_iload_n d rfl rfl) <|
  am_kd (fun d => ak_callV (C := RX8) (F := TX8) (N := 27) metX8_inForceE rfl ⟨rfl, hy_X8_inForce⟩ (am_w5 wd_1053 wd_1055 wd_29 wd_67 wd_1056) (by decide) d rfl) <|
  am_kd (fun d => ak_icmp_lt d (by decide +kernel) rfl) <|
  am_kd (fun d => ak_iconst d (by decide +kernel) rfl) <|
  am_kd (fun d => ak_goto d (by decide +kernel)) <|
  am_kd (fun d => ak_iconst d (by decide +kernel) rfl) <|
  am_kd (fun d => ak_istore d rfl) <|
  am_kd (fun d => ak_aload_n d rfl rfl) <|
  am_kd (fun d => ak_getR (C := RX8) (T := TX8) (N := 27) rfl inX8w (by decide) rfl rfl rfl wd_916 d rfl) <|
  am_kd (fun d => ak_iload_n d rfl rfl) <|
  am_kd (fun d => ak_zald (t := 2) (fun _ => rfl) rfl d rfl) <|
  am_kd (fun d => ak_if_ne d (by decide +kernel) rfl) <|
  am_kd (fun d => ak_iload d rfl) <|
  am_kd (fun d => ak_if_eq d (by decide +kernel) rfl) <|
  am_kd (fun d => ak_aload_n d rfl rfl) <|
  am_kd (fun d => ak_getR (C := RX8) (T := TX8) (N := 27) rfl inX8w (by decide) rfl rfl rfl wd_916 d rfl) <|
  am_kd (fun d => ak_iload_n d rfl rfl) <|
  am_kd (fun d => ak_iconst d (by decide +kernel) rfl) <|
  am_kd (fun d => ak_zast (t := 2) (fun _ => rfl) rfl d rfl) <|
  am_kd (fun d => ak_aload_n d rfl rfl) <|
  am_kd (fun d => ak_getR (C := RX8) (T := TX8) (N := 27) rfl inX8w (by decide) rfl rfl rfl wd_914 d rfl) <|
  am_kd (fun d => ak_iload_n d rfl rfl) <|
  am_kd (fun d => ak_aload_n d rfl rfl) <|
  am_kd (fun d => ak_getR (C := RX8) (T := TX8) (N := 27) rfl inX8w (by decide) rfl rfl rfl wd_910 d rfl) <|
  am_kd (fun d => ak_iload_n d rfl rfl) <|
  am_kd (fun d => ak_lald (t := 1) (fun _ => rfl) rfl d rfl) <|
  am_kd (fun d => ak_last (t := 1) (fun _ => rfl) rfl d rfl) <|
  am_kd (fun d => ak_aload_n d rfl rfl) <|
  am_kd (fun d => ak_getR (C := RX8) (T := TX8) (N := 27) rfl inX8w (by decide) rfl rfl rfl wd_910 d rfl) <|
  am_kd (fun d => ak_iload_n d rfl rfl) <|
  am_kd (fun d => ak_lconst d (by decide +kernel) rfl) <|
  am_kd (fun d => ak_last (t := 1) (fun _ => rfl) rfl d rfl) <|
  am_kd (fun d => ak_aload_n d rfl rfl) <|
  am_kd (fun d => ak_getR (C := RX8) (T := TX8) (N := 27) rfl inX8w (by decide) rfl rfl rfl wd_916 d rfl) <|
  am_kd (fun d => ak_iload_n d rfl rfl) <|
  am_kd (fun d => ak_zald (t := 2) (fun _ => rfl) rfl d rfl) <|
  am_kd (fun d => ak_if_ne d (by decide +kernel) rfl) <|
  am_kd (fun d => ak_aload_n d rfl rfl) <|
  am_kd (fun d => ak_getR (C := RX8) (T := TX8) (N := 27) rfl inX8w (by decide) rfl rfl rfl wd_910 d rfl) <|
  am_kd (fun d => ak_iload_n d rfl rfl) <|
  am_kd (fun d => ak_lald (t := 1) (fun _ => rfl) rfl d rfl) <|
  am_kd (fun d => ak_aload_n d rfl rfl) <|
  am_kd (fun d => ak_getR (C := RX8) (T := TX8) (N := 27) rfl inX8w (by decide) rfl rfl rfl wd_910 d rfl) <|
  am_kd (fun d => ak_iload_n d rfl rfl) <|
  am_kd (fun d => ak_lald (t := 1) (fun _ => rfl) rfl d rfl) <|
  am_kd (fun d => ak_aload_n d rfl rfl) <|
  am_kd (fun d => ak_iload_n d rfl rfl) <|
  am_kd (fun d => ak_iload_n d rfl rfl) <|
  am_kd (fun d => ak_iload_n d rfl rfl) <|
  am_kd (fun d => ak_iload d rfl) <|
  am_kd (fun d => ak_callV (C := RX8) (F := TX8) (N := 27) metX8_rateOfE rfl ⟨rfl, hy_X8_rateOf⟩ (am_w5 wd_1174 wd_1176 wd_46 wd_67 wd_1177) (by decide) d rfl) <|
  am_kd (fun d => ak_i2l d rfl) <|
  am_kd (fun d => ak_lmul d rfl) <|
  am_kd (fun d => ak_ldc2 wd_1045 d rfl) <|
  am_kd (fun d => ak_ldiv d rfl) <|
  am_kd (fun d => ak_ladd d rfl) <|
  am_kd (fun d => ak_lstore d rfl) <|
  am_kd (fun d => ak_lload d rfl) <|
  am_kd (fun d => ak_ldc2 wd_1178 d rfl) <|
  am_kd (fun d => ak_lcmp d rfl) <|
  am_kd (fun d => ak_if_le d (by decide +kernel) rfl) <|
  am_kd (fun d => ak_ldc2 wd_1178 d rfl) <|
  am_kd (fun d => ak_goto d (by decide +kernel)) <|
  am_kd (fun d => ak_lload d rfl) <|
  am_kd (fun d => ak_lstore d rfl) <|
  am_kd (fun d => ak_aload_n d rfl rfl) <|
  am_kd (fun d => ak_getR (C := RX8) (T := TX8) (N := 27) rfl inX8w (by decide) rfl rfl rfl wd_915 d rfl) <|
  am_kd (fun d => ak_iload_n d rfl rfl) <|
  am_kd (fun d => ak_lload d rfl) <|
  am_kd (fun d => ak_aload_n d rfl rfl) <|
  am_kd (fun d => ak_getR (C := RX8) (T := TX8) (N := 27) rfl inX8w (by decide) rfl rfl rfl wd_910 d rfl) <|
  am_kd (fun d => ak_iload_n d rfl rfl) <|
  am_kd (fun d => ak_lald (t := 1) (fun _ => rfl) rfl d rfl) <|
  am_kd (fun d => ak_lsub d rfl) <|
  am_kd (fun d => ak_last (t := 1) (fun _ => rfl) rfl d rfl) <|
  am_kd (fun d => ak_aload_n d rfl rfl) <|
  am_kd (fun d => ak_getR (C := RX8) (T := TX8) (N := 27) rfl inX8w (by decide) rfl rfl rfl wd_910 d rfl) <|
  am_kd (fun d => ak_iload_n d rfl rfl) <|
  am_kd (fun d => ak_lload d rfl) <|
  am_kd (fun d => ak_last (t := 1) (fun _ => rfl) rfl d rfl) <|
  am_kd (fun d => ak_aload_n d rfl rfl) <|
  am_kd (fun d => ak_getR (C := RX8) (T := TX8) (N := 27) rfl inX8w (by decide) rfl rfl rfl wd_910 d rfl) <|
  am_kd (fun d => ak_iload_n d rfl rfl) <|
  am_kd (fun d => ak_dup2 d rfl) <|
  am_kd (fun d => ak_lald (t := 1) (fun _ => rfl) rfl d rfl) <|
  am_kd (fun d => ak_aload_n d rfl rfl) <|
  am_kd (fun d => ak_iload_n d rfl rfl) <|
  am_kd (fun d => ak_iconst d (by decide +kernel) rfl) <|
  am_kd (fun d => ak_callV (C := RX8) (F := TX8) (N := 27) metX8_ofLoan rfl ⟨rfl, hy_X8_ofLoan⟩ (am_w5 wd_1154 wd_1156 wd_41 wd_67 wd_1157) (by decide) d rfl) <|
  am_kd (fun d => ak_iload_n d rfl rfl) <|
  am_kd (fun d => ak_icmp_ne d (by decide +kernel) rfl) <|
  am_kd (fun d => ak_aload_n d rfl rfl) <|
  am_kd (fun d => ak_iload_n d rfl rfl) <|
  am_kd (fun d => ak_iconst d (by decide +kernel) rfl) <|
  am_kd (fun d => ak_callV (C := RX8) (F := TX8) (N := 27) metX8_ofLoan rfl ⟨rfl, hy_X8_ofLoan⟩ (am_w5 wd_1154 wd_1156 wd_41 wd_67 wd_1157) (by decide) d rfl) <|
  am_kd (fun d => ak_i2l d rfl) <|
  am_kd (fun d => ak_goto d (by decide +kernel)) <|
  am_kd (fun d => ak_lconst d (by decide +kernel) rfl) <|
  am_kd (fun d => ak_ladd d rfl) <|
  am_kd (fun d => ak_last (t := 1) (fun _ => rfl) rfl d rfl) <|
  am_kd (fun d => ak_aload_n d rfl rfl) <|
  am_kd (fun d => ak_iload_n d rfl rfl) <|
  am_kd (fun d => ak_iconst d (by decide +kernel) rfl) <|
  am_kd (fun d => ak_callV (C := RX8) (F := TX8) (N := 27) metX8_ofLoan rfl ⟨rfl, hy_X8_ofLoan⟩ (am_w5 wd_1154 wd_1156 wd_41 wd_67 wd_1157) (by decide) d rfl) <|
  am_kd (fun d => ak_iload_n d rfl rfl) <|
  am_kd (fun d => ak_icmp_ne d (by decide +kernel) rfl) <|
  am_kd (fun d => ak_aload_n d rfl rfl) <|
  am_kd (fun d => ak_iload_n d rfl rfl) <|
  am_kd (fun d => ak_iload_n d rfl rfl) <|
  am_kd (fun d => ak_callV (C := RX8) (F := TX8) (N := 27) metX8_given rfl ⟨rfl, hy_X8_given⟩ (am_w5 wd_1073 wd_1075 wd_31 wd_67 wd_1076) (by decide) d rfl) <|
  am_kd (fun d => ak_i2l d rfl) <|
  am_kd (fun d => ak_lstore d rfl) <|
  am_kd (fun d => ak_aload_n d rfl rfl) <|
  am_kd (fun d => ak_getR (C := RX8) (T := TX8) (N := 27) rfl inX8w (by decide) rfl rfl rfl wd_910 d rfl) <|
  am_kd (fun d => ak_iload_n d rfl rfl) <|
  am_kd (fun d => ak_dup2 d rfl) <|
  am_kd (fun d => ak_lald (t := 1) (fun _ => rfl) rfl d rfl) <|
  am_kd (fun d => ak_lload d rfl) <|
  am_kd (fun d => ak_aload_n d rfl rfl) <|
  am_kd (fun d => ak_getR (C := RX8) (T := TX8) (N := 27) rfl inX8w (by decide) rfl rfl rfl wd_910 d rfl) <|
  am_kd (fun d => ak_iload_n d rfl rfl) <|
  am_kd (fun d => ak_lald (t := 1) (fun _ => rfl) rfl d rfl) <|
  am_kd (fun d => ak_lcmp d rfl) <|
  am_kd (fun d => ak_if_ge d (by decide +kernel) rfl) <|
  am_kd (fun d => ak_lload d rfl) <|
  am_kd (fun d => ak_goto d (by decide +kernel)) <|
  am_kd (fun d => ak_aload_n d rfl rfl) <|
  am_kd (fun d => ak_getR (C := RX8) (T := TX8) (N := 27) rfl inX8w (by decide) rfl rfl rfl wd_910 d rfl) <|
  am_kd (fun d => ak_iload_n d rfl rfl) <|
  am_kd (fun d => ak_lald (t := 1) (fun _ => rfl) rfl d rfl) <|
  am_kd (fun d => ak_lsub d rfl) <|
  am_kd (fun d => ak_last (t := 1) (fun _ => rfl) rfl d rfl) <|
  am_kd (fun d => ak_retV d) <| am_kdn
def TE8_begin : am_T := fun live as M R => match as with
  | [.ref n, .int l, .int y, .int e, .int a, .int d] => am_mn live ∧ n = 200 ∧ am_in l 30 ∧ am_in y 40 ∧ r_I M ∧ ∀ M', r_ky M M' → r_I M' → r_s2 M' = r_bg M y e a d (r_s2 M) l → R none M'
  | _ => False
def JE8_begin : am_E → List Value → am_M → am_R → am_inv := fun live as M0 _ pc => match as with
  | [.ref n, .int l, .int y, .int e, .int a, .int d] => (match pc with
    | 66 => some ([0, 1, 2, 3, 4, 7], fun k L st M => ∃ z : Int32, L = [(0, .ref 200), (1, .int l), (2, .int y), (3, .int e), (4, .int a), (7, .int z)] ∧ st = [] ∧ k = (10, 0) ∧ r_ky M0 M ∧ r_I M ∧ z = (if r_ends M0 y d l = true then 1 else 0) ∧ r_fl M = z_r0 (r_fl M0) l ∧ M.1 213 = M0.1 213)
    | 106 => some ([0, 1, 2, 3, 4], fun k L st M => L = [(0, .ref 200), (1, .int l), (2, .int y), (3, .int e), (4, .int a)] ∧ st = [] ∧ k = (9, 0) ∧ r_ky M0 M ∧ r_I M ∧ ((M.1 213 l.toNatClampNeg = 0 ∧ M0.1 213 l.toNatClampNeg = 0 ∧ r_ends M0 y d l = false ∧ r_fl M = z_r0 (r_fl M0) l ∧ M.1 213 = M0.1 213) ∨ (¬ M.1 213 l.toNatClampNeg = 0 ∧ r_s2 M = r_bg M0 y e a d (r_s2 M0) l)))
    | 187 => some ([0, 1, 2], fun k L st M => L = [(0, .ref 200), (1, .int l), (2, .int y)] ∧ st = [] ∧ k = (8, 0) ∧ r_ky M0 M ∧ r_I M ∧ M0.1 213 l.toNatClampNeg = 0 ∧ r_ends M0 y d l = false ∧ M.2 207 l.toNatClampNeg = r_cap (r_fl M0 l.toNatClampNeg) (r_rt M0 l y e a (r_fl M0 l.toNatClampNeg)) ∧ r_fl M = z_u (z_u (z_r0 (r_fl M0) l) (120 + l.toNatClampNeg) (r_cap (r_fl M0 l.toNatClampNeg) (r_rt M0 l y e a (r_fl M0 l.toNatClampNeg)) - r_fl M0 l.toNatClampNeg)) l.toNatClampNeg (r_cap (r_fl M0 l.toNatClampNeg) (r_rt M0 l y e a (r_fl M0 l.toNatClampNeg))) ∧ M.1 213 = M0.1 213)
    | 217 => some ([0, 1, 2], fun k L st M => L = [(0, .ref 200), (1, .int l), (2, .int y)] ∧ st = [] ∧ k = (7, 0) ∧ r_ky M0 M ∧ r_I M ∧ M0.1 213 l.toNatClampNeg = 0 ∧ r_ends M0 y d l = false ∧ M.2 207 l.toNatClampNeg = r_o1 M0 y l (r_cap (r_fl M0 l.toNatClampNeg) (r_rt M0 l y e a (r_fl M0 l.toNatClampNeg))) ∧ r_fl M = z_u (z_u (z_r0 (r_fl M0) l) (120 + l.toNatClampNeg) (r_cap (r_fl M0 l.toNatClampNeg) (r_rt M0 l y e a (r_fl M0 l.toNatClampNeg)) - r_fl M0 l.toNatClampNeg)) l.toNatClampNeg (r_o1 M0 y l (r_cap (r_fl M0 l.toNatClampNeg) (r_rt M0 l y e a (r_fl M0 l.toNatClampNeg)))) ∧ M.1 213 = M0.1 213)
    | _ => none)
  | _ => none
theorem r_b_y {M : am_M} {y e a d l : Int32} (h : M.1 213 l.toNatClampNeg = 0) (he : r_ends M y d l = true) : r_bg M y e a d (r_s2 M) l = (z_u (z_u (z_r0 (r_fl M) l) (60 + l.toNatClampNeg) (r_fl M l.toNatClampNeg)) l.toNatClampNeg 0, z_ui (M.1 213) l.toNatClampNeg 1) := by
  unfold r_bg z_rb
  rw [if_neg (fun q => q h), if_pos he]
theorem r_b_n {M : am_M} {y e a d l : Int32} (h : M.1 213 l.toNatClampNeg = 0) (he : r_ends M y d l = false) : r_bg M y e a d (r_s2 M) l = (z_u (z_u (z_r0 (r_fl M) l) (120 + l.toNatClampNeg) (r_cap (r_fl M l.toNatClampNeg) (r_rt M l y e a (r_fl M l.toNatClampNeg)) - r_fl M l.toNatClampNeg)) l.toNatClampNeg (r_dr M y l (r_o1 M y l (r_cap (r_fl M l.toNatClampNeg) (r_rt M l y e a (r_fl M l.toNatClampNeg))))), M.1 213) := by
  unfold r_bg z_rb
  rw [if_neg (fun q => q h), if_neg (by rw [he]; decide)]
theorem r_b_s {M : am_M} {y e a d l : Int32} (h : ¬ M.1 213 l.toNatClampNeg = 0) : r_bg M y e a d (r_s2 M) l = (z_r0 (r_fl M) l, M.1 213) := by
  unfold r_bg z_rb
  rw [if_pos h]
set_option maxRecDepth 100000 in
set_option maxHeartbeats 4000000 in
theorem metX8_beginE : am_Met yX8_begin cX8_begin 12 none (7) (162) TE8_begin := by
  refine am_met (own := RX8) (by decide +kernel) rfl kX8_beginE koX8_beginE 150 JE8_begin ?_ ?_
  · intro live as M Ret h
    unfold TE8_begin at h
    split at h
    · next n l y e a d =>
      refine ⟨Nat.le_of_ble_eq_true rfl, ?_⟩
      change am_wp _ _ _ _ [(0, Value.ref n), (1, Value.int l), (2, Value.int y), (3, Value.int e), (4, Value.int a), (5, Value.int d)] _ _
      obtain ⟨hmn, rfl, hl, hy, hR, h⟩ := h
      have hmn2 := hmn
      obtain ⟨i1, i2, rfl⟩ := hmn2
      have hp := r_pers hR hl
      have hy1 := hy.1
      have w0 : 0 ≤ (0 : Int32).toInt ∧ (0 : Int32).toInt ≤ 7 := ⟨by decide, by decide⟩
      have w2 : 0 ≤ (2 : Int32).toInt ∧ (2 : Int32).toInt ≤ 7 := ⟨by decide, by decide⟩
      have w36 : am_in (3 : Int32) 6 := ⟨by decide, by decide⟩
      have l1 := hl.1
      have l2 : l.toInt < ((30 : Nat) : Int) := hl.2
      have gl := g_cl hl
      have fl : r_fl (am_wJ (am_wJ (am_wJ M 211 l.toNatClampNeg 0) 212 l.toNatClampNeg 0) 208 l.toNatClampNeg 0) = z_r0 (r_fl M) l := by
        rw [r_fl_w (b := 30) gl (by simp), r_fl_w (b := 120) gl (by simp), r_fl_w (b := 60) gl (by simp)]
        rfl
      have ky : r_ky M (am_wJ (am_wJ (am_wJ M 211 l.toNatClampNeg 0) 212 l.toNatClampNeg 0) 208 l.toNatClampNeg 0) := ((r_ky.rf.w ⟨by decide, by decide⟩).w ⟨by decide, by decide⟩).w ⟨by decide, by decide⟩
      have hR2 : r_I (am_wJ (am_wJ (am_wJ M 211 l.toNatClampNeg 0) 212 l.toNatClampNeg 0) 208 l.toNatClampNeg 0) := ((hR.wJ).wJ).wJ
      by_cases zd : d = 0
      · by_cases zs : y - M.1 201 (2838 + 8 * l + 2).toNatClampNeg < r_inF M (r_pl M l y) 3 (M.1 201 (2838 + 8 * l + 0).toNatClampNeg) y
        · have en : r_ends M y d l = false := decide_eq_false (fun q => q.elim (fun q => q zd) (fun q => q zs))
          repeat' (first | ((with_reducible change ¬ _ < r_inF _ _ _ _ _ → _); intro hx; exact absurd zs hx) | (with_reducible exact hmn) | (with_reducible exact hl) | (with_reducible exact hy) | (with_reducible exact hy1) | (with_reducible exact hp) | (with_reducible exact w0) | (with_reducible exact w2) | (with_reducible exact w36) | (with_reducible exact hR2) | (with_reducible exact l1) | apply And.intro | exact rfl | (intro hx; with_reducible exact absurd zd hx) | ((with_reducible change r_I _); (with_reducible assumption)) | (intro hx; exact absurd hx (by decide)) | (intro hx; exact absurd (by decide) hx) | decide | intro hx | (refine Exists.intro _ (And.intro rfl ?_)))
          all_goals try first | (with_reducible change am_tI _ _) | (change Ret _ _) | (change Ret _ _ _) | (change Exists _)
          all_goals try dsimp only at *
          all_goals try (with_reducible exact absurd ‹(1000 : Int64) = 0› am_z1000)
          all_goals first
            | exact l2
            | skip
          all_goals exact ⟨_, _, rfl, rfl, rfl, ky, hR2, by rw [if_neg (by rw [en]; decide)], fl, rfl⟩
        · have en : r_ends M y d l = true := decide_eq_true (Or.inr zs)
          repeat' (first | ((with_reducible change _ < r_inF _ _ _ _ _ → _); intro hx; exact absurd hx zs) | (with_reducible exact hmn) | (with_reducible exact hl) | (with_reducible exact hy) | (with_reducible exact hy1) | (with_reducible exact hp) | (with_reducible exact w0) | (with_reducible exact w2) | (with_reducible exact w36) | (with_reducible exact hR2) | (with_reducible exact l1) | apply And.intro | exact rfl | (intro hx; with_reducible exact absurd zd hx) | ((with_reducible change r_I _); (with_reducible assumption)) | (intro hx; exact absurd hx (by decide)) | (intro hx; exact absurd (by decide) hx) | decide | intro hx | (refine Exists.intro _ (And.intro rfl ?_)))
          all_goals try first | (with_reducible change am_tI _ _) | (change Ret _ _) | (change Ret _ _ _) | (change Exists _)
          all_goals try dsimp only at *
          all_goals try (with_reducible exact absurd ‹(1000 : Int64) = 0› am_z1000)
          all_goals first
            | exact l2
            | skip
          all_goals exact ⟨_, _, rfl, rfl, rfl, ky, hR2, by rw [if_pos en], fl, rfl⟩
      · have en : r_ends M y d l = true := decide_eq_true (Or.inl zd)
        repeat' (first | (with_reducible exact hmn) | (with_reducible exact hl) | (with_reducible exact hy) | (with_reducible exact hy1) | (with_reducible exact hp) | (with_reducible exact w0) | (with_reducible exact w2) | (with_reducible exact w36) | (with_reducible exact hR2) | (with_reducible exact l1) | apply And.intro | exact rfl | (intro hx; with_reducible exact absurd hx zd) | ((with_reducible change r_I _); (with_reducible assumption)) | (intro hx; exact absurd hx (by decide)) | (intro hx; exact absurd (by decide) hx) | decide | intro hx | (refine Exists.intro _ (And.intro rfl ?_)))
        all_goals try first | (with_reducible change am_tI _ _) | (change Ret _ _) | (change Ret _ _ _) | (change Exists _)
        all_goals try dsimp only at *
        all_goals try (with_reducible exact absurd ‹(1000 : Int64) = 0› am_z1000)
        all_goals first
          | exact l2
          | skip
        all_goals exact ⟨_, _, rfl, rfl, rfl, ky, hR2, by rw [if_pos en], fl, rfl⟩
    · exact h.elim
  · intro live as M0 Ret h k pc I hI L st M hi
    unfold TE8_begin at h
    split at h
    · next n l y e a d =>
      obtain ⟨hmn, rfl, hl, hy, hR, h⟩ := h
      have hmn2 := hmn
      obtain ⟨i1, i2, rfl⟩ := hmn2
      have w2 : 0 ≤ (2 : Int32).toInt ∧ (2 : Int32).toInt ≤ 7 := ⟨by decide, by decide⟩
      have w3 : 0 ≤ (3 : Int32).toInt ∧ (3 : Int32).toInt ≤ 7 := ⟨by decide, by decide⟩
      have w5 : 0 ≤ (5 : Int32).toInt ∧ (5 : Int32).toInt ≤ 7 := ⟨by decide, by decide⟩
      have l1 := hl.1
      have l2 : l.toInt < ((30 : Nat) : Int) := hl.2
      have gl := g_cl hl
      have v0 : r_fl M0 l.toNatClampNeg = M0.2 207 l.toNatClampNeg := r_fl_v gl
      have rn : z_r0 (r_fl M0) l l.toNatClampNeg = r_fl M0 l.toNatClampNeg := by
        unfold z_r0
        rw [z_u_n (by omega), z_u_n (by omega), z_u_n (by omega)]
      change (match pc with | 66 => _ | 106 => _ | 187 => _ | 217 => _ | _ => none) = _ at hI
      split at hI
      · cases hI
        obtain ⟨z, rfl, rfl, rfl, e2, e3, ez, ef, eb⟩ := hi
        by_cases zb : M.1 213 l.toNatClampNeg = 0
        · have zb0 : M0.1 213 l.toNatClampNeg = 0 := by rw [← eb]; exact zb
          by_cases zz : z = 0
          · have en : r_ends M0 y d l = false := by
              cases q : r_ends M0 y d l with
              | false => rfl
              | true => rw [q, if_pos rfl] at ez; rw [ez] at zz; exact absurd zz (by decide)
            repeat' (first | (with_reducible exact hmn) | (with_reducible exact l1) | apply And.intro | exact rfl | (intro hx; with_reducible exact absurd zb hx) | (intro hx; with_reducible exact absurd zz hx) | (intro hx; exact absurd hx (by decide)) | (intro hx; exact absurd (by decide) hx) | decide | intro hx | (refine Exists.intro _ (And.intro rfl ?_)))
            all_goals try first | (with_reducible change am_tI _ _) | (change Ret _ _) | (change Ret _ _ _) | (change Exists _)
            all_goals try dsimp only at *
            all_goals try (with_reducible exact absurd ‹(1000 : Int64) = 0› am_z1000)
            all_goals first
              | (with_reducible exact l2)
              | exact l2
              | exact ⟨_, am_lt_l (by decide), rfl, rfl, rfl, e2, e3, Or.inl ⟨zb, zb0, en, ef, eb⟩⟩
              | skip
          · have en : r_ends M0 y d l = true := by
              cases q : r_ends M0 y d l with
              | true => rfl
              | false => rw [q, if_neg (by decide)] at ez; exact absurd ez zz
            have ev : M.2 207 l.toNatClampNeg = r_fl M0 l.toNatClampNeg := by
              rw [← r_fl_v (M := M) gl, ef, rn]
            repeat' (first | (with_reducible exact hmn) | (with_reducible exact l1) | apply And.intro | exact rfl | (intro hx; with_reducible exact absurd hx zz) | (intro hx; with_reducible exact absurd zb hx) | (intro hx; exact absurd hx (by decide)) | (intro hx; exact absurd (by decide) hx) | decide | intro hx | (refine Exists.intro _ (And.intro rfl ?_)))
            all_goals try first | (with_reducible change am_tI _ _) | (change Ret _ _) | (change Ret _ _ _) | (change Exists _)
            all_goals try dsimp only at *
            all_goals try (with_reducible exact absurd ‹(1000 : Int64) = 0› am_z1000)
            all_goals first
              | (with_reducible exact l2)
              | (right; rfl)
              | exact l2
              | skip
            all_goals
              refine ⟨_, am_lt_l (by decide), rfl, rfl, rfl, ((e2.wb).w ⟨by decide, by decide⟩).w ⟨by decide, by decide⟩, ?_, Or.inr ⟨?_, ?_⟩⟩
              · exact ((e3.wA rfl).wJ).wJ
              · show ¬ (am_wI M 213 l.toNatClampNeg 1).1 213 l.toNatClampNeg = 0
                rw [am_wI_self]
                decide
              · rw [r_b_y zb0 en]
                refine Prod.ext ?_ ?_
                · show r_fl (am_wJ (am_wJ (am_wI M 213 l.toNatClampNeg 1) 211 l.toNatClampNeg _) 207 l.toNatClampNeg 0) = _
                  rw [r_fl_w (b := 0) gl (by simp), r_fl_w (b := 60) gl (by simp), show r_fl (am_wI M 213 l.toNatClampNeg 1) = r_fl M from rfl, ef, Nat.zero_add]
                  congr 2
                · show (am_wI M 213 l.toNatClampNeg 1).1 213 = _
                  rw [z_wI, eb]
        · skip
          repeat' (first | (with_reducible exact hmn) | (with_reducible exact l1) | apply And.intro | exact rfl | (intro hx; with_reducible exact absurd hx zb) | (intro hx; exact absurd hx (by decide)) | (intro hx; exact absurd (by decide) hx) | decide | intro hx | (refine Exists.intro _ (And.intro rfl ?_)))
          all_goals try first | (with_reducible change am_tI _ _) | (change Ret _ _) | (change Ret _ _ _) | (change Exists _)
          all_goals try dsimp only at *
          all_goals try (with_reducible exact absurd ‹(1000 : Int64) = 0› am_z1000)
          all_goals first
            | (with_reducible exact l2)
            | exact l2
            | exact ⟨_, am_lt_l (by decide), rfl, rfl, rfl, e2, e3, Or.inr ⟨zb, by rw [r_b_s (by rw [← eb]; exact zb)]; exact Prod.ext ef eb⟩⟩
            | skip
      · cases hI
        obtain ⟨rfl, rfl, rfl, e2, e3, ez⟩ := hi
        rcases ez with ⟨zb, zb0, en, ef, eb⟩ | ⟨zb, es⟩
        · have ev : M.2 207 l.toNatClampNeg = r_fl M0 l.toNatClampNeg := by
            rw [← r_fl_v (M := M) gl, ef, rn]
          have er : r_rt M l y e a (M.2 207 l.toNatClampNeg) = r_rt M0 l y e a (r_fl M0 l.toNatClampNeg) := by
            rw [ev]
            exact e2.f (fun K => r_rt K l y e a (r_fl M0 l.toNatClampNeg)) (fun _ _ _ => rfl) (fun _ _ _ _ _ _ => rfl)
          by_cases zc : lg_cmp (M.2 207 l.toNatClampNeg + M.2 207 l.toNatClampNeg * (r_rt M l y e a (M.2 207 l.toNatClampNeg)).toInt64 / 1000) 1000000000000 ≤ 0
          · have ec : r_cap (r_fl M0 l.toNatClampNeg) (r_rt M0 l y e a (r_fl M0 l.toNatClampNeg)) = M.2 207 l.toNatClampNeg + M.2 207 l.toNatClampNeg * (r_rt M l y e a (M.2 207 l.toNatClampNeg)).toInt64 / 1000 := by
              rw [lc_le, j_le] at zc
              rw [er, ev] at zc ⊢
              exact if_neg (fun q => by rw [Int64.lt_iff_toInt_lt] at q; omega)
            repeat' (first | (with_reducible exact hmn) | (with_reducible exact hl) | (with_reducible exact hy) | (with_reducible exact l1) | (with_reducible exact e3) | apply And.intro | exact rfl | (intro hx; with_reducible exact absurd zb hx) | (intro hx; with_reducible exact absurd zc hx) | (intro hx; exact absurd hx (by decide)) | (intro hx; exact absurd (by decide) hx) | decide | intro hx | (refine Exists.intro _ (And.intro rfl ?_)))
            all_goals try first | (with_reducible change am_tI _ _) | (change Ret _ _) | (change Ret _ _ _) | (change Exists _)
            all_goals try dsimp only at *
            all_goals try (with_reducible exact absurd ‹(1000 : Int64) = 0› am_z1000)
            all_goals first
              | (with_reducible exact l2)
              | decide
              | exact l2
              | skip
            all_goals
              rename_i N kr hRN
              have en7 : N.2 207 = M.2 207 := kr.j (by decide) (by decide)
              have efN : r_fl N = r_fl M := r_fl_cg (fun a x y => kr.j (by omega) (by omega))
              refine ⟨_, am_lt_l (by decide), rfl, rfl, rfl, ((e2.kr kr).w ⟨by decide, by decide⟩).w ⟨by decide, by decide⟩, (hRN.wJ).wJ, zb0, en, ?_, ?_, ?_⟩
              · rw [am_wJ_1, if_pos ⟨rfl, rfl⟩, ec]
              · rw [r_fl_w (b := 0) gl (by simp), r_fl_w (b := 120) gl (by simp), efN, ef, Nat.zero_add, en7, ec, ev]
              · exact (funext fun j => kr.i (by decide) (Or.inl (by decide))).trans eb
          · have ec : r_cap (r_fl M0 l.toNatClampNeg) (r_rt M0 l y e a (r_fl M0 l.toNatClampNeg)) = 1000000000000 := by
              rw [lc_le, j_le] at zc
              rw [er, ev] at zc
              exact if_pos (by rw [Int64.lt_iff_toInt_lt]; omega)
            repeat' (first | (with_reducible exact hmn) | (with_reducible exact hl) | (with_reducible exact hy) | (with_reducible exact l1) | (with_reducible exact e3) | apply And.intro | exact rfl | (intro hx; with_reducible exact absurd hx zc) | (intro hx; with_reducible exact absurd zb hx) | (intro hx; exact absurd hx (by decide)) | (intro hx; exact absurd (by decide) hx) | decide | intro hx | (refine Exists.intro _ (And.intro rfl ?_)))
            all_goals try first | (with_reducible change am_tI _ _) | (change Ret _ _) | (change Ret _ _ _) | (change Exists _)
            all_goals try dsimp only at *
            all_goals try (with_reducible exact absurd ‹(1000 : Int64) = 0› am_z1000)
            all_goals first
              | (with_reducible exact l2)
              | decide
              | exact l2
              | skip
            all_goals
              rename_i N kr hRN
              have en7 : N.2 207 = M.2 207 := kr.j (by decide) (by decide)
              have efN : r_fl N = r_fl M := r_fl_cg (fun a x y => kr.j (by omega) (by omega))
              refine ⟨_, am_lt_l (by decide), rfl, rfl, rfl, ((e2.kr kr).w ⟨by decide, by decide⟩).w ⟨by decide, by decide⟩, (hRN.wJ).wJ, zb0, en, ?_, ?_, ?_⟩
              · rw [am_wJ_1, if_pos ⟨rfl, rfl⟩, ec]
              · rw [r_fl_w (b := 0) gl (by simp), r_fl_w (b := 120) gl (by simp), efN, ef, Nat.zero_add, en7, ec, ev]
              · exact (funext fun j => kr.i (by decide) (Or.inl (by decide))).trans eb
        · have hh := h M e2 e3 es
          repeat' (first | (with_reducible exact hmn) | (with_reducible exact hl) | (with_reducible exact hy) | (with_reducible exact l1) | (with_reducible exact e3) | apply And.intro | exact rfl | (intro hx; with_reducible exact absurd hx zb) | (intro hx; exact absurd hx (by decide)) | (intro hx; exact absurd (by decide) hx) | decide | intro hx | (refine Exists.intro _ (And.intro rfl ?_)))
          all_goals try first | (with_reducible change am_tI _ _) | (change Ret _ _) | (change Ret _ _ _) | (change Exists _)
          all_goals try dsimp only at *
          all_goals try (with_reducible exact absurd ‹(1000 : Int64) = 0› am_z1000)
          all_goals first
            | (with_reducible exact l2)
            | (with_reducible exact hh)
            | exact l2
            | exact hh
            | skip
      · cases hI
        obtain ⟨rfl, rfl, rfl, e2, e3, zb0, en, ev, ef, eb⟩ := hi
        have f2 : M.1 201 (2838 + 8 * l + 2).toNatClampNeg = r_lo M0 l 2 := e2.i (by decide) (by decide) (Or.inl (by decide))
        have f3 : M.1 201 (2838 + 8 * l + 3).toNatClampNeg = r_lo M0 l 3 := e2.i (by decide) (by decide) (Or.inl (by decide))
        by_cases z2 : M.1 201 (2838 + 8 * l + 2).toNatClampNeg = y
        · have eo : r_o1 M0 y l (r_cap (r_fl M0 l.toNatClampNeg) (r_rt M0 l y e a (r_fl M0 l.toNatClampNeg))) = M.2 207 l.toNatClampNeg + (M.1 201 (2838 + 8 * l + 3).toNatClampNeg).toInt64 := by
            unfold r_o1
            rw [ev, if_pos (by rw [← f2]; exact z2), f3]
          repeat' (first | (with_reducible exact hmn) | (with_reducible exact hl) | (with_reducible exact w2) | (with_reducible exact w3) | (with_reducible exact l1) | (with_reducible exact e3) | apply And.intro | exact rfl | (intro hx; with_reducible exact absurd z2 hx) | (intro hx; exact absurd hx (by decide)) | (intro hx; exact absurd (by decide) hx) | decide | intro hx | (refine Exists.intro _ (And.intro rfl ?_)))
          all_goals try first | (with_reducible change am_tI _ _) | (change Ret _ _) | (change Ret _ _ _) | (change Exists _)
          all_goals try dsimp only at *
          all_goals try (with_reducible exact absurd ‹(1000 : Int64) = 0› am_z1000)
          all_goals first
            | (with_reducible exact l2)
            | exact l2
            | exact ⟨_, am_lt_l (by decide), rfl, rfl, rfl, e2.w ⟨by decide, by decide⟩, e3.wJ, zb0, en, by rw [am_wJ_1, if_pos ⟨rfl, rfl⟩, eo], by rw [r_fl_w (b := 0) gl (by simp), ef, Nat.zero_add, z_u_u, eo], eb⟩
            | skip
        · have eo : r_o1 M0 y l (r_cap (r_fl M0 l.toNatClampNeg) (r_rt M0 l y e a (r_fl M0 l.toNatClampNeg))) = M.2 207 l.toNatClampNeg + 0 := by
            unfold r_o1
            rw [ev, if_neg (by rw [← f2]; exact z2)]
          repeat' (first | (with_reducible exact hmn) | (with_reducible exact hl) | (with_reducible exact w2) | (with_reducible exact w3) | (with_reducible exact l1) | (with_reducible exact e3) | apply And.intro | exact rfl | (intro hx; with_reducible exact absurd hx z2) | (intro hx; exact absurd hx (by decide)) | (intro hx; exact absurd (by decide) hx) | decide | intro hx | (refine Exists.intro _ (And.intro rfl ?_)))
          all_goals try first | (with_reducible change am_tI _ _) | (change Ret _ _) | (change Ret _ _ _) | (change Exists _)
          all_goals try dsimp only at *
          all_goals try (with_reducible exact absurd ‹(1000 : Int64) = 0› am_z1000)
          all_goals first
            | (with_reducible exact l2)
            | exact l2
            | exact ⟨_, am_lt_l (by decide), rfl, rfl, rfl, e2.w ⟨by decide, by decide⟩, e3.wJ, zb0, en, by rw [am_wJ_1, if_pos ⟨rfl, rfl⟩, eo], by rw [r_fl_w (b := 0) gl (by simp), ef, Nat.zero_add, z_u_u, eo], eb⟩
            | skip
      · cases hI
        obtain ⟨rfl, rfl, rfl, e2, e3, zb0, en, ev, ef, eb⟩ := hi
        have f5 : M.1 201 (2838 + 8 * l + 5).toNatClampNeg = r_lo M0 l 5 := e2.i (by decide) (by decide) (Or.inl (by decide))
        have fg : r_given M l y = r_given M0 l y := e2.f (fun K => r_given K l y) (fun _ _ _ => rfl) (fun _ _ _ _ _ _ => rfl)
        by_cases z5 : M.1 201 (2838 + 8 * l + 5).toNatClampNeg = y
        · have ed : ∀ o, r_dr M0 y l o = o - z_mn o (r_given M l y).toInt64 := fun o => by
            unfold r_dr
            rw [if_pos (by rw [← f5]; exact z5), fg]
          by_cases zl : 0 ≤ lg_cmp (r_given M l y).toInt64 (M.2 207 l.toNatClampNeg)
          · have em : z_mn (M.2 207 l.toNatClampNeg) (r_given M l y).toInt64 = M.2 207 l.toNatClampNeg := by
              rw [lc_ge, j_le] at zl
              exact if_neg (fun q => by rw [Int64.lt_iff_toInt_lt] at q; omega)
            repeat' (first | (with_reducible exact hmn) | (with_reducible exact hl) | (with_reducible exact w5) | (with_reducible exact l1) | (with_reducible exact e3) | apply And.intro | exact rfl | (intro hx; with_reducible exact absurd z5 hx) | (intro hx; with_reducible exact absurd zl hx) | (intro hx; exact absurd hx (by decide)) | (intro hx; exact absurd (by decide) hx) | decide | intro hx | (refine Exists.intro _ (And.intro rfl ?_)))
            all_goals try first | (with_reducible change am_tI _ _) | (change Ret _ _) | (change Ret _ _ _) | (change Exists _)
            all_goals try dsimp only at *
            all_goals try (with_reducible exact absurd ‹(1000 : Int64) = 0› am_z1000)
            all_goals first
              | exact l2
              | skip
            all_goals
              refine h _ (e2.w ⟨by decide, by decide⟩) e3.wJ ?_
              rw [r_b_n zb0 en]
              refine Prod.ext ?_ eb
              show r_fl (am_wJ M 207 l.toNatClampNeg _) = _
              rw [r_fl_w (b := 0) gl (by simp), ef, Nat.zero_add, z_u_u, ed, ← ev, em]
          · have em : z_mn (M.2 207 l.toNatClampNeg) (r_given M l y).toInt64 = (r_given M l y).toInt64 := by
              rw [lc_ge, j_le] at zl
              exact if_pos (by rw [Int64.lt_iff_toInt_lt]; omega)
            repeat' (first | (with_reducible exact hmn) | (with_reducible exact hl) | (with_reducible exact w5) | (with_reducible exact l1) | (with_reducible exact e3) | apply And.intro | exact rfl | (intro hx; with_reducible exact absurd hx zl) | (intro hx; with_reducible exact absurd z5 hx) | (intro hx; exact absurd hx (by decide)) | (intro hx; exact absurd (by decide) hx) | decide | intro hx | (refine Exists.intro _ (And.intro rfl ?_)))
            all_goals try first | (with_reducible change am_tI _ _) | (change Ret _ _) | (change Ret _ _ _) | (change Exists _)
            all_goals try dsimp only at *
            all_goals try (with_reducible exact absurd ‹(1000 : Int64) = 0› am_z1000)
            all_goals first
              | exact l2
              | skip
            all_goals
              refine h _ (e2.w ⟨by decide, by decide⟩) e3.wJ ?_
              rw [r_b_n zb0 en]
              refine Prod.ext ?_ eb
              show r_fl (am_wJ M 207 l.toNatClampNeg _) = _
              rw [r_fl_w (b := 0) gl (by simp), ef, Nat.zero_add, z_u_u, ed, ← ev, em]
        · have ed : ∀ o, r_dr M0 y l o = o := fun o => by
            unfold r_dr
            rw [if_neg (by rw [← f5]; exact z5)]
          have hh := h M e2 e3 (by rw [r_b_n zb0 en, ed]; exact Prod.ext ef eb)
          repeat' (first | (with_reducible exact hmn) | (with_reducible exact hl) | (with_reducible exact w5) | (with_reducible exact l1) | (with_reducible exact e3) | apply And.intro | exact rfl | (intro hx; with_reducible exact absurd hx z5) | (intro hx; exact absurd hx (by decide)) | (intro hx; exact absurd (by decide) hx) | decide | intro hx | (refine Exists.intro _ (And.intro rfl ?_)))
          all_goals try first | (with_reducible change am_tI _ _) | (change Ret _ _) | (change Ret _ _ _) | (change Exists _)
          all_goals try dsimp only at *
          all_goals try (with_reducible exact absurd ‹(1000 : Int64) = 0› am_z1000)
          all_goals first
            | (with_reducible exact l2)
            | (with_reducible exact hh)
            | exact l2
            | exact hh
            | skip
      · cases hI
    · exact h.elim
end
-- part 79w.rrun2.lean.txt
section
/-! runs, exact: the reference: what a run says, what is due, who is in line -/
def TE8_runOf : am_T := fun live as M R => match as with
  | [.ref n, .int l, .int w] => am_mn live ∧ n = 200 ∧ am_in l 30 ∧ am_in w 5 ∧ R (some (.long (r_fl M (30 * w.toNatClampNeg + l.toNatClampNeg)))) M
  | _ => False
set_option maxRecDepth 100000 in
set_option maxHeartbeats 4000000 in
theorem metX8_runOfE : am_Met yX8_runOf cX8_runOf 3 (some .long) (0) (0) TE8_runOf := by
  refine am_met (own := RX8) (by decide +kernel) rfl kX8_runOf koX8_runOf 100 (fun _ _ _ _ _ => none) (fun live as M Ret h => ?_) (fun _ _ _ _ _ _ _ _ hI => by cases hI)
  unfold TE8_runOf at h
  split at h
  · next n l w =>
    refine ⟨Nat.le_of_ble_eq_true rfl, ?_⟩
    change am_wp _ _ _ _ [(0, Value.ref n), (1, Value.int l), (2, Value.int w)] _ _
    obtain ⟨⟨i1, i2, rfl⟩, rfl, hl, hw, h⟩ := h
    have l1 := hl.1
    have l2 : l.toInt < ((30 : Nat) : Int) := hl.2
    have gl := g_cl hl
    have hs : w = 0 ∨ w = 1 ∨ w = 2 ∨ w = 3 ∨ w = 4 := by
      have h1 := hw.1
      have h2 := hw.2
      simp only [i_eq, Int32.reduceToInt]
      omega
    rcases hs with rfl | rfl | rfl | rfl | rfl
    · have e : r_fl M (30 * (0 : Int32).toNatClampNeg + l.toNatClampNeg) = M.2 207 l.toNatClampNeg := by
        rw [show (0 : Int32).toNatClampNeg = 0 from rfl]
        unfold r_fl
        rw [if_pos (by omega), show 30 * 0 + l.toNatClampNeg = l.toNatClampNeg by omega]
      rw [e] at h
      repeat' (first | apply And.intro | exact rfl | (intro hx; exact absurd hx (by decide)) | (intro hx; exact absurd (by decide) hx) | decide | intro hx | (refine Exists.intro _ (And.intro rfl ?_)))
      all_goals try first | (with_reducible change am_tI _ _) | (change Ret _ _) | (change Ret _ _ _) | (change Exists _)
      all_goals try dsimp only at *
      all_goals try (with_reducible exact absurd ‹(1000 : Int64) = 0› am_z1000)
      all_goals first | (with_reducible exact h) | (with_reducible exact l1) | (with_reducible exact l2) | exact h | exact l1 | exact l2
    · have e : r_fl M (30 * (1 : Int32).toNatClampNeg + l.toNatClampNeg) = M.2 208 l.toNatClampNeg := by
        rw [show (1 : Int32).toNatClampNeg = 1 from rfl]
        unfold r_fl
        rw [if_neg (by omega), if_pos (by omega), show 30 * 1 + l.toNatClampNeg - 30 = l.toNatClampNeg by omega]
      rw [e] at h
      repeat' (first | apply And.intro | exact rfl | (intro hx; exact absurd hx (by decide)) | (intro hx; exact absurd (by decide) hx) | decide | intro hx | (refine Exists.intro _ (And.intro rfl ?_)))
      all_goals try first | (with_reducible change am_tI _ _) | (change Ret _ _) | (change Ret _ _ _) | (change Exists _)
      all_goals try dsimp only at *
      all_goals try (with_reducible exact absurd ‹(1000 : Int64) = 0› am_z1000)
      all_goals first | (with_reducible exact h) | (with_reducible exact l1) | (with_reducible exact l2) | exact h | exact l1 | exact l2
    · have e : r_fl M (30 * (2 : Int32).toNatClampNeg + l.toNatClampNeg) = M.2 211 l.toNatClampNeg := by
        rw [show (2 : Int32).toNatClampNeg = 2 from rfl]
        unfold r_fl
        rw [if_neg (by omega), if_neg (by omega), if_pos (by omega), show 30 * 2 + l.toNatClampNeg - 60 = l.toNatClampNeg by omega]
      rw [e] at h
      repeat' (first | apply And.intro | exact rfl | (intro hx; exact absurd hx (by decide)) | (intro hx; exact absurd (by decide) hx) | decide | intro hx | (refine Exists.intro _ (And.intro rfl ?_)))
      all_goals try first | (with_reducible change am_tI _ _) | (change Ret _ _) | (change Ret _ _ _) | (change Exists _)
      all_goals try dsimp only at *
      all_goals try (with_reducible exact absurd ‹(1000 : Int64) = 0› am_z1000)
      all_goals first | (with_reducible exact h) | (with_reducible exact l1) | (with_reducible exact l2) | exact h | exact l1 | exact l2
    · have e : r_fl M (30 * (3 : Int32).toNatClampNeg + l.toNatClampNeg) = M.2 209 l.toNatClampNeg := by
        rw [show (3 : Int32).toNatClampNeg = 3 from rfl]
        unfold r_fl
        rw [if_neg (by omega), if_neg (by omega), if_neg (by omega), if_pos (by omega), show 30 * 3 + l.toNatClampNeg - 90 = l.toNatClampNeg by omega]
      rw [e] at h
      repeat' (first | apply And.intro | exact rfl | (intro hx; exact absurd hx (by decide)) | (intro hx; exact absurd (by decide) hx) | decide | intro hx | (refine Exists.intro _ (And.intro rfl ?_)))
      all_goals try first | (with_reducible change am_tI _ _) | (change Ret _ _) | (change Ret _ _ _) | (change Exists _)
      all_goals try dsimp only at *
      all_goals try (with_reducible exact absurd ‹(1000 : Int64) = 0› am_z1000)
      all_goals first | (with_reducible exact h) | (with_reducible exact l1) | (with_reducible exact l2) | exact h | exact l1 | exact l2
    · have e : r_fl M (30 * (4 : Int32).toNatClampNeg + l.toNatClampNeg) = M.2 212 l.toNatClampNeg := by
        rw [show (4 : Int32).toNatClampNeg = 4 from rfl]
        unfold r_fl
        rw [if_neg (by omega), if_neg (by omega), if_neg (by omega), if_neg (by omega), if_pos (by omega), show 30 * 4 + l.toNatClampNeg - 120 = l.toNatClampNeg by omega]
      rw [e] at h
      repeat' (first | apply And.intro | exact rfl | (intro hx; exact absurd hx (by decide)) | (intro hx; exact absurd (by decide) hx) | decide | intro hx | (refine Exists.intro _ (And.intro rfl ?_)))
      all_goals try first | (with_reducible change am_tI _ _) | (change Ret _ _) | (change Ret _ _ _) | (change Exists _)
      all_goals try dsimp only at *
      all_goals try (with_reducible exact absurd ‹(1000 : Int64) = 0› am_z1000)
      all_goals first | (with_reducible exact h) | (with_reducible exact l1) | (with_reducible exact l2) | exact h | exact l1 | exact l2
  · exact h.elim
def kX8_allOfE (live : am_E) (Ret : am_R) : am_code := [(0, am_const (.long 0) 1), (1, am_lstore 3 6 2), (2, am_const (.int 0) 3), (3, am_istore 5 6 5), (5, am_iload 5 7), (7, am_aload 0 8), (8, am_getR live 8 0 11), (11, am_const (.int 1) 12), (12, am_ald live 0 13), (13, am_if2 (fun x y => y ≤ x) 47 16), (16, am_lload 3 17), (17, am_aload 0 18), (18, am_iload 5 20), (20, am_const (.int 0) 21), (21, am_callV live 8 2 TX8_ofLoan 24), (24, am_iload 1 25), (25, am_if2 (fun x y => x = y) 28 38), (28, am_aload 0 29), (29, am_iload 5 31), (31, am_iload 2 32), (32, am_callV live 8 2 TE8_runOf 35), (35, am_goto 39), (38, am_const (.long 0) 39), (39, am_l2 (fun x y => x + y) 40), (40, am_lstore 3 6 41), (41, am_iinc 5 6 1 44), (44, am_goto 5), (47, am_lload 3 48), (48, am_retL Ret)]
theorem koX8_allOfE (live : am_E) (Ret : am_R) : ∀ q ∈ kX8_allOfE live Ret, am_ok RX8 cX8_allOf 6 (some .long) 1 22 live Ret q.1 q.2 :=
  am_kz dzX8_allOf <|
  am_kd (fun d => ak_lconst d (by decide +kernel) rfl) <|
  am_kd (fun d => ak_lstore_n d rfl rfl) <|
  am_kd (fun d => ak_iconst d (by decide +kernel) rfl) <|
  am_kd (fun d => ak_istore d rfl) <|
  am_kd (fun d => ak_iload d rfl) <|
  am_kd (fun d => ak_aload_n d rfl rfl) <|
  am_kd (fun d => ak_getR (C := RX8) (T := TX8) (N := 27) rfl inX8w (by decide) rfl rfl rfl wd_895 d rfl) <|
  am_kd (fun d => ak_iconst d (by decide +kernel) rfl) <|
  am_kd (fun d => ak_iald (t := 0) (fun _ => rfl) rfl d rfl) <|
  am_kd (fun d => ak_icmp_ge d (by decide +kernel) rfl) <|
  am_kd (fun d => ak_lload_n d rfl rfl) <|
  am_kd (fun d => ak_aload_n d rfl rfl) <|
  am_kd (fun d => ak_iload d rfl) <|
  am_kd (fun d => ak_iconst d (by decide +kernel) rfl) <|
  am_kd (fun d => ak_callV (C := RX8) (F := TX8) (N := 27) metX8_ofLoan rfl ⟨rfl, hy_X8_ofLoan⟩ (am_w5 wd_1154 wd_1156 wd_41 wd_67 wd_1157) (by decide) d rfl) <|
  am_kd (fun d => ak_iload_n d rfl rfl) <|
  am_kd (fun d => ak_icmp_ne d (by decide +kernel) rfl) <|
  am_kd (fun d => ak_aload_n d rfl rfl) <|
  am_kd (fun d => ak_iload d rfl) <|
  am_kd (fun d => ak_iload_n d rfl rfl) <|
  am_kd (fun d => ak_callV (C := RX8) (F := TX8) (N := 27) metX8_runOfE rfl ⟨rfl, hy_X8_runOf⟩ (am_w5 wd_1187 wd_1189 wd_49 wd_67 wd_1190) (by decide) d rfl) <|
  am_kd (fun d => ak_goto d (by decide +kernel)) <|
  am_kd (fun d => ak_lconst d (by decide +kernel) rfl) <|
  am_kd (fun d => ak_ladd d rfl) <|
  am_kd (fun d => ak_lstore_n d rfl rfl) <|
  am_kd (fun d => ak_iinc d (by decide +kernel) rfl) <|
  am_kd (fun d => ak_goto d (by decide +kernel)) <|
  am_kd (fun d => ak_lload_n d rfl rfl) <|
  am_kd (fun d => ak_retL d) <| am_kdn
def r_own (M : am_M) (p l : Int32) : Bool := decide (r_lo M l 0 = p)
theorem r_own_iff {M : am_M} {p l : Int32} : r_own M p l = true ↔ r_lo M l 0 = p := by
  unfold r_own
  exact decide_eq_true_iff
abbrev r_n (M : am_M) : Nat := (M.1 201 1).toNatClampNeg
abbrev r_mine (M : am_M) (p : Int32) (n : Nat) : List Int32 := z_mine (r_own M p) n
theorem z_tog_s {s : Nat → Int64} {w : Nat} {ms : List Int32} {l : Int32} : z_tog s w (ms ++ [l]) = z_tog s w ms + s (w + l.toNatClampNeg) := by
  unfold z_tog
  rw [List.foldl_append]
  rfl
def TE8_allOf : am_T := fun live as M R => match as with
  | [.ref n, .int p, .int w] => am_mn live ∧ n = 200 ∧ am_in w 5 ∧ r_I M ∧ R (some (.long (z_tog (r_fl M) (30 * w.toNatClampNeg) (r_mine M p (r_n M))))) M
  | _ => False
def JE8_allOf : am_E → List Value → am_M → am_R → am_inv := fun live as M0 _ pc => match as with
  | [.ref n, .int p, .int w] => (match pc with
    | 5 => some ([0, 1, 2, 3, 5], fun k L st M => ∃ (v : Int64) (i : Int32), L = [(0, .ref 200), (1, .int p), (2, .int w), (3, .long v), (5, .int i)] ∧ st = [] ∧ k = ((31 - i.toInt).toNat, 0) ∧ (0 ≤ i.toInt ∧ i.toInt ≤ (M0.1 201 1).toInt) ∧ v = z_tog (r_fl M0) (30 * w.toNatClampNeg) (r_mine M0 p i.toNatClampNeg) ∧ M = M0)
    | _ => none)
  | _ => none
set_option maxRecDepth 100000 in
set_option maxHeartbeats 4000000 in
theorem metX8_allOfE : am_Met yX8_allOf cX8_allOf 6 (some .long) (1) (22) TE8_allOf := by
  refine am_met (own := RX8) (by decide +kernel) rfl kX8_allOfE koX8_allOfE 100 JE8_allOf ?_ ?_
  · intro live as M Ret h
    unfold TE8_allOf at h
    split at h
    · next n p w =>
      refine ⟨Nat.le_of_ble_eq_true rfl, ?_⟩
      change am_wp _ _ _ _ [(0, Value.ref n), (1, Value.int p), (2, Value.int w)] _ _
      obtain ⟨hmn, rfl, hw, hR, h⟩ := h
      have n1 := hR.n1
      repeat' (first | apply And.intro | exact rfl | intro hx | (refine Exists.intro _ (And.intro rfl ?_)))
      all_goals try first | (with_reducible change am_tI _ _) | (change Ret _ _) | (change Ret _ _ _) | (change Exists _)
      all_goals try dsimp only at *
      all_goals try (with_reducible exact absurd ‹(1000 : Int64) = 0› am_z1000)
      exact ⟨_, _, _, rfl, rfl, rfl, ⟨by decide, n1.1⟩, rfl, rfl⟩
    · exact h.elim
  · intro live as M0 Ret h k pc I hI L st M hi
    unfold TE8_allOf at h
    split at h
    · next n p w =>
      obtain ⟨hmn, rfl, hw, hR, h⟩ := h
      have hmn2 := hmn
      obtain ⟨i1, i2, rfl⟩ := hmn2
      have l201 : am_len 201 = 3760 := rfl
      have w0 : 0 ≤ (0 : Int32).toInt ∧ (0 : Int32).toInt ≤ 7 := ⟨by decide, by decide⟩
      have n1 : 0 ≤ (M0.1 201 (Int32.toNatClampNeg 1)).toInt ∧ (M0.1 201 (Int32.toNatClampNeg 1)).toInt ≤ 30 := hR.n1
      have cn : (r_n M0 : Int) = (M0.1 201 (Int32.toNatClampNeg 1)).toInt := i_clamp n1.1
      change (match pc with | 5 => _ | _ => none) = _ at hI
      split at hI
      · cases hI
        obtain ⟨v, i, rfl, rfl, rfl, ⟨e1, e2⟩, ev, rfl⟩ := hi
        have e2 : i.toInt ≤ (M.1 201 (Int32.toNatClampNeg 1)).toInt := e2
        have ci := i_clamp e1
        by_cases hz : M.1 201 (Int32.toNatClampNeg 1) ≤ i
        · have hz2 := hz
          simp only [i_le] at hz2
          rw [show i.toNatClampNeg = r_n M by omega] at ev
          rw [← ev] at h
          repeat' (first | apply And.intro | exact rfl | (intro hx; with_reducible exact absurd hz hx) | (intro hx; exact absurd hx (by decide)) | (intro hx; exact absurd (by decide) hx) | decide | intro hx | (refine Exists.intro _ (And.intro rfl ?_)))
          all_goals try first | (with_reducible change am_tI _ _) | (change Ret _ _) | (change Ret _ _ _) | (change Exists _)
          all_goals try dsimp only at *
          all_goals try (with_reducible exact absurd ‹(1000 : Int64) = 0› am_z1000)
          all_goals first
            | (with_reducible exact h)
            | (show _ < _; simp only [l201]; decide)
            | exact h
        · have hz2 := hz
          simp only [i_le] at hz2
          have hz3 : ¬ (M.1 201 1).toInt ≤ i.toInt := hz2
          have hl : am_in i 30 := ⟨e1, by omega⟩
          have hi := i_inc (x := i) (by omega) (by omega)
          have ci1 := i_clamp (x := i + 1) (by omega)
          have ol := o_cl hl (by decide)
          by_cases hm : M.1 201 (2838 + 8 * i + 0).toNatClampNeg = p
          · have nx : v + r_fl M (30 * w.toNatClampNeg + i.toNatClampNeg) = z_tog (r_fl M) (30 * w.toNatClampNeg) (r_mine M p (i + 1).toNatClampNeg) := by
              rw [show (i + 1).toNatClampNeg = i.toNatClampNeg + 1 by omega]
              show _ = z_tog _ _ (z_mine _ (_ + 1))
              rw [z_mine_s, ol, if_pos (r_own_iff.mpr hm), z_tog_s, ev]
            repeat' (first | (with_reducible exact hmn) | (with_reducible exact hl) | (with_reducible exact hw) | (with_reducible exact w0) | apply And.intro | exact rfl | (intro hx; with_reducible exact absurd hx hz) | (intro hx; with_reducible exact absurd hm hx) | (intro hx; exact absurd hx (by decide)) | (intro hx; exact absurd (by decide) hx) | decide | intro hx | (refine Exists.intro _ (And.intro rfl ?_)))
            all_goals try first | (with_reducible change am_tI _ _) | (change Ret _ _) | (change Ret _ _ _) | (change Exists _)
            all_goals try dsimp only at *
            all_goals try (with_reducible exact absurd ‹(1000 : Int64) = 0› am_z1000)
            all_goals first
              | (show _ < _; simp only [l201]; decide)
              | exact ⟨_, am_lt_l (by omega), _, _, rfl, rfl, rfl, ⟨by omega, by omega⟩, nx, rfl⟩
              | skip
          · have nx : v + 0 = z_tog (r_fl M) (30 * w.toNatClampNeg) (r_mine M p (i + 1).toNatClampNeg) := by
              rw [show (i + 1).toNatClampNeg = i.toNatClampNeg + 1 by omega]
              show _ = z_tog _ _ (z_mine _ (_ + 1))
              rw [z_mine_s, ol, if_neg (fun q => hm (r_own_iff.mp q)), List.append_nil, ev, Int64.add_zero]
            repeat' (first | (with_reducible exact hmn) | (with_reducible exact hl) | (with_reducible exact hw) | (with_reducible exact w0) | apply And.intro | exact rfl | (intro hx; with_reducible exact absurd hx hz) | (intro hx; with_reducible exact absurd hx hm) | (intro hx; exact absurd hx (by decide)) | (intro hx; exact absurd (by decide) hx) | decide | intro hx | (refine Exists.intro _ (And.intro rfl ?_)))
            all_goals try first | (with_reducible change am_tI _ _) | (change Ret _ _) | (change Ret _ _ _) | (change Exists _)
            all_goals try dsimp only at *
            all_goals try (with_reducible exact absurd ‹(1000 : Int64) = 0› am_z1000)
            all_goals first
              | (show _ < _; simp only [l201]; decide)
              | exact ⟨_, am_lt_l (by omega), _, _, rfl, rfl, rfl, ⟨by omega, by omega⟩, nx, rfl⟩
              | skip
      · cases hI
    · exact h.elim
/-- all is 0 -/
def r_zr (M : am_M) (n : Nat) : Prop := ∃ _ : Unit, (∀ l : Nat, l < n → M.2 207 l = 0 ∧ M.2 208 l = 0 ∧ M.2 209 l = 0 ∧ M.2 210 l = 0 ∧ M.2 211 l = 0 ∧ M.2 212 l = 0 ∧ M.1 213 l = 0)
def TE8_beginRun : am_T := fun live as M R => match as with
  | [.ref n] => am_mn live ∧ n = 200 ∧ r_I M ∧ ∀ M', r_ky M M' → r_I M' → (∀ k, k < 180 → r_fl M' k = 0) → (∀ l, l < 30 → M'.1 213 l = 0) → R none M'
  | _ => False
def JE8_beginRun : am_E → List Value → am_M → am_R → am_inv := fun live as M0 _ pc => match as with
  | [.ref n] => (match pc with
    | 2 => some ([0, 1], fun k L st M => ∃ i : Int32, L = [(0, .ref 200), (1, .int i)] ∧ st = [] ∧ k = ((31 - i.toInt).toNat, 0) ∧ (0 ≤ i.toInt ∧ i.toInt ≤ 30) ∧ r_ky M0 M ∧ r_I M ∧ r_zr M i.toNatClampNeg)
    | _ => none)
  | _ => none
set_option maxRecDepth 100000 in
set_option maxHeartbeats 4000000 in
theorem metX8_beginRunE : am_Met yX8_beginRun cX8_beginRun 2 none (0) (0) TE8_beginRun := by
  refine am_met (own := RX8) (by decide +kernel) rfl kX8_beginRun koX8_beginRun 100 JE8_beginRun ?_ ?_
  · intro live as M Ret h
    unfold TE8_beginRun at h
    split at h
    · next n =>
      refine ⟨Nat.le_of_ble_eq_true rfl, ?_⟩
      change am_wp _ _ _ _ [(0, Value.ref n)] _ _
      obtain ⟨hmn, rfl, hR, h⟩ := h
      repeat' (first | apply And.intro | exact rfl | intro hx | (refine Exists.intro _ (And.intro rfl ?_)))
      all_goals try first | (with_reducible change am_tI _ _) | (change Ret _ _) | (change Ret _ _ _) | (change Exists _)
      all_goals try dsimp only at *
      all_goals try (with_reducible exact absurd ‹(1000 : Int64) = 0› am_z1000)
      exact ⟨_, _, rfl, rfl, rfl, ⟨by decide, by decide⟩, r_ky.rf, hR, (), fun l hl => absurd hl (by show ¬ l < 0; omega)⟩
    · exact h.elim
  · intro live as M0 Ret h k pc I hI L st M hi
    unfold TE8_beginRun at h
    split at h
    · next n =>
      obtain ⟨hmn, rfl, hR, h⟩ := h
      obtain ⟨i1, i2, rfl⟩ := hmn
      change (match pc with | 2 => _ | _ => none) = _ at hI
      split at hI
      · cases hI
        obtain ⟨i, rfl, rfl, rfl, ⟨e1, e4⟩, e2, e3, e5⟩ := hi
        have ci := i_clamp e1
        obtain ⟨-, e5⟩ := e5
        by_cases hz : (30 : Int32) ≤ i
        · have hz2 := hz
          simp only [i_le, Int32.reduceToInt] at hz2
          rw [show i.toNatClampNeg = 30 by omega] at e5
          have hh := h M e2 e3 (fun k hk => by
            unfold r_fl
            split
            · exact (e5 k (by omega)).1
            · split
              · exact (e5 (k - 30) (by omega)).2.1
              · split
                · exact (e5 (k - 60) (by omega)).2.2.2.2.1
                · split
                  · exact (e5 (k - 90) (by omega)).2.2.1
                  · split
                    · exact (e5 (k - 120) (by omega)).2.2.2.2.2.1
                    · exact (e5 (k - 150) (by omega)).2.2.2.1) (fun l hl => (e5 l hl).2.2.2.2.2.2)
          repeat' (first | apply And.intro | exact rfl | (intro hx; with_reducible exact absurd hz hx) | intro hx | (refine Exists.intro _ (And.intro rfl ?_)))
          all_goals try first | (with_reducible change am_tI _ _) | (change Ret _ _) | (change Ret _ _ _) | (change Exists _)
          all_goals try dsimp only at *
          all_goals try (with_reducible exact absurd ‹(1000 : Int64) = 0› am_z1000)
          exact hh
        · have hz2 := hz
          simp only [i_le, Int32.reduceToInt] at hz2
          have hi := i_inc (x := i) (by omega) (by omega)
          have ci1 := i_clamp (x := i + 1) (by omega)
          have x2 : i.toInt < ((30 : Nat) : Int) := by omega
          repeat' (first | (with_reducible exact e1) | apply And.intro | exact rfl | (intro hx; with_reducible exact absurd hx hz) | intro hx | (refine Exists.intro _ (And.intro rfl ?_)))
          all_goals try first | (with_reducible change am_tI _ _) | (change Ret _ _) | (change Ret _ _ _) | (change Exists _)
          all_goals try dsimp only at *
          all_goals try (with_reducible exact absurd ‹(1000 : Int64) = 0› am_z1000)
          all_goals first
            | exact x2
            | skip
          refine ⟨_, am_lt_l (by omega), _, rfl, rfl, rfl, ⟨by omega, by omega⟩, ((((((e2.w ⟨by decide, by decide⟩).w ⟨by decide, by decide⟩).w ⟨by decide, by decide⟩).w ⟨by decide, by decide⟩).w ⟨by decide, by decide⟩).w ⟨by decide, by decide⟩).wb, by (repeat' (first | (with_reducible assumption) | ((with_reducible change r_I (am_wJ _ _ _ _)); refine r_I.wJ ?_) | ((with_reducible change r_I (am_wI _ _ _ _)); refine r_I.wI ?_ rfl))), (), fun l hl => ?_⟩
          by_cases z : l = i.toNatClampNeg
          · subst z
            refine ⟨?_, ?_, ?_, ?_, ?_, ?_, ?_⟩
            all_goals first
              | (rw [am_wI_self]; rfl)
              | (repeat (first | rw [show ∀ (K : am_M) (n k : Nat) (v : Int32), (am_wI K n k v).2 = K.2 from fun _ _ _ _ => rfl] | rw [am_wJ_1, if_pos ⟨rfl, rfl⟩] | rw [am_wJ_1, if_neg (fun q => absurd q.1 (by decide))]))
          · obtain ⟨a1, a2, a3, a4, a5, a6, a7⟩ := e5 l (by omega)
            refine ⟨?_, ?_, ?_, ?_, ?_, ?_, ?_⟩
            all_goals first
              | (rw [am_wI_1, if_neg (fun q => z q.2)]; assumption)
              | (repeat (first | rw [show ∀ (K : am_M) (n k : Nat) (v : Int32), (am_wI K n k v).2 = K.2 from fun _ _ _ _ => rfl] | rw [am_wJ_1, if_neg (fun q => z q.2)])); assumption
      · cases hI
    · exact h.elim
def kX8_dueOfE (live : am_E) (Ret : am_R) : am_code := [(0, am_aload 0 1), (1, am_iload 1 2), (2, am_const (.int 0) 3), (3, am_callV live 8 2 TX8_ofLoan 6), (6, am_istore 5 9 8), (8, am_aload 0 9), (9, am_iload 1 10), (10, am_iload 2 11), (11, am_callV live 8 2 TE8_planAt 14), (14, am_istore 6 9 16), (16, am_iload 3 17), (17, am_if1 (fun x => 0 ≤ x) 41 20), (20, am_iload 4 22), (22, am_if1 (fun x => x = 0) 25 29), (25, am_const (.long 0) 26), (26, am_goto 40), (29, am_aload 0 30), (30, am_iload 6 32), (32, am_const (.int 5) 33), (33, am_iload 5 35), (35, am_iload 2 36), (36, am_callV live 8 4 TE8_inForce 39), (39, am_i2l 40), (40, am_retL Ret), (41, am_aload 0 42), (42, am_iload 6 44), (44, am_const (.int 0) 45), (45, am_iload 5 47), (47, am_iload 2 48), (48, am_callV live 8 4 TE8_inForce 51), (51, am_i2l 52), (52, am_lstore 7 9 54), (54, am_iload 4 56), (56, am_if1 (fun x => x = 0) 59 64), (59, am_lload 7 61), (61, am_goto 83), (64, am_lload 7 66), (66, am_aload 0 67), (67, am_getR live 8 0 70), (70, am_const (.int 514) 73), (73, am_iload 4 75), (75, am_i2 (fun x y => x + y) 76), (76, am_ald live 0 77), (77, am_i2l 78), (78, am_l2 (fun x y => x * y) 79), (79, am_const (.long 1000) 82), (82, am_l2z (fun x y => x / y) 83), (83, am_lstore 7 9 85), (85, am_iload 3 86), (86, am_i2l 87), (87, am_lload 7 89), (89, am_lcmp 90), (90, am_if1 (fun x => x ≤ 0) 117 93), (93, am_iload 3 94), (94, am_i2l 95), (95, am_lload 7 97), (97, am_l2 (fun x y => x - y) 98), (98, am_aload 0 99), (99, am_iload 6 101), (101, am_const (.int 1) 102), (102, am_iload 5 104), (104, am_iload 2 105), (105, am_callV live 8 4 TE8_inForce 108), (108, am_i2l 109), (109, am_l2 (fun x y => x * y) 110), (110, am_const (.long 1000) 113), (113, am_l2z (fun x y => x / y) 114), (114, am_goto 118), (117, am_const (.long 0) 118), (118, am_retL Ret)]
theorem koX8_dueOfE (live : am_E) (Ret : am_R) : ∀ q ∈ kX8_dueOfE live Ret, am_ok RX8 cX8_dueOf 9 (some .long) 2 53 live Ret q.1 q.2 :=
  am_kz dzX8_dueOf <|
  am_kd (fun d => ak_aload_n d rfl rfl) <|
  am_kd (fun d => ak_iload_n d rfl rfl) <|
  am_kd (fun d => ak_iconst d (by decide +kernel) rfl) <|
  am_kd (fun d => ak_callV (C := RX8) (F := TX8) (N := 27) metX8_ofLoan rfl ⟨rfl, hy_X8_ofLoan⟩ (am_w5 wd_1154 wd_1156 wd_41 wd_67 wd_1157) (by decide) d rfl) <|
  am_kd (fun d => ak_istore d rfl) <|
  am_kd (fun d => ak_aload_n d rfl rfl) <|
  am_kd (fun d => ak_iload_n d rfl rfl) <|
  am_kd (fun d => ak_iload_n d rfl rfl) <|
  am_kd (fun d => ak_callV (C := RX8) (F := TX8) (N := 27) metX8_planAtE rfl ⟨rfl, hy_X8_planAt⟩ (am_w5 wd_1085 wd_1087 wd_32 wd_67 wd_1088) (by decide) d rfl) <|
  am_kd (fun d => ak_istore d rfl) <|
  am_kd (fun d => ak_iload_n d rfl rfl) <|
  am_kd (fun d => ak_if_ge d (by decide +kernel) rfl) <|
  am_kd (fun d => ak_iload d rfl) <|
  am_kd (fun d => ak_if_ne d (by decide +kernel) rfl) <|
  am_kd (fun d => ak_lconst d (by decide +kernel) rfl) <|
  am_kd (fun d => ak_goto d (by decide +kernel)) <|
  am_kd (fun d => ak_aload_n d rfl rfl) <|
  am_kd (fun d => ak_iload d rfl) <|
  am_kd (fun d => ak_iconst d (by decide +kernel) rfl) <|
  am_kd (fun d => ak_iload d rfl) <|
  am_kd (fun d => ak_iload_n d rfl rfl) <|
  am_kd (fun d => ak_callV (C := RX8) (F := TX8) (N := 27) metX8_inForceE rfl ⟨rfl, hy_X8_inForce⟩ (am_w5 wd_1053 wd_1055 wd_29 wd_67 wd_1056) (by decide) d rfl) <|
  am_kd (fun d => ak_i2l d rfl) <|
  am_kd (fun d => ak_retL d) <|
  am_kd (fun d => ak_aload_n d rfl rfl) <|
  am_kd (fun d => ak_iload d rfl) <|
  am_kd (fun d => ak_iconst d (by decide +kernel) rfl) <|
  am_kd (fun d => ak_iload d rfl) <|
  am_kd (fun d => ak_iload_n d rfl rfl) <|
  am_kd (fun d => ak_callV (C := RX8) (F := TX8) (N := 27) metX8_inForceE rfl ⟨rfl, hy_X8_inForce⟩ (am_w5 wd_1053 wd_1055 wd_29 wd_67 wd_1056) (by decide) d rfl) <|
  am_kd (fun d => ak_i2l d rfl) <|
  am_kd (fun d => ak_lstore d rfl) <|
  am_kd (fun d => ak_iload d rfl) <|
  am_kd (fun d => ak_if_ne d (by decide +kernel) rfl) <|
  am_kd (fun d => ak_lload d rfl) <|
  am_kd (fun d => ak_goto d (by decide +kernel)) <|
  am_kd (fun d => ak_lload d rfl) <|
  am_kd (fun d => ak_aload_n d rfl rfl) <|
  am_kd (fun d => ak_getR (C := RX8) (T := TX8) (N := 27) rfl inX8w (by decide) rfl rfl rfl wd_895 d rfl) <|
  am_kd (fun d => ak_sipush d (by decide +kernel) rfl) <|
  am_kd (fun d => ak_iload d rfl) <|
  am_kd (fun d => ak_iadd d rfl) <|
  am_kd (fun d => ak_iald (t := 0) (fun _ => rfl) rfl d rfl) <|
  am_kd (fun d => ak_i2l d rfl) <|
  am_kd (fun d => ak_lmul d rfl) <|
  am_kd (fun d => ak_ldc2 wd_1045 d rfl) <|
  am_kd (fun d => ak_ldiv d rfl) <|
  am_kd (fun d => ak_lstore d rfl) <|
  am_kd (fun d => ak_iload_n d rfl rfl) <|
  am_kd (fun d => ak_i2l d rfl) <|
  am_kd (fun d => ak_lload d rfl) <|
  am_kd (fun d => ak_lcmp d rfl) <|
  am_kd (fun d => ak_if_le d (by decide +kernel) rfl) <|
  am_kd (fun d => ak_iload_n d rfl rfl) <|
  am_kd (fun d => ak_i2l d rfl) <|
  am_kd (fun d => ak_lload d rfl) <|
  am_kd (fun d => ak_lsub d rfl) <|
  am_kd (fun d => ak_aload_n d rfl rfl) <|
  am_kd (fun d => ak_iload d rfl) <|
  am_kd (fun d => ak_iconst d (by decide +kernel) rfl) <|
  am_kd (fun d => ak_iload d rfl) <|
  am_kd (fun d => ak_iload_n d rfl rfl) <|
  am_kd (fun d => ak_callV (C := RX8) (F := TX8) (N := 27) metX8_inForceE rfl ⟨rfl, hy_X8_inForce⟩ (am_w5 wd_1053 wd_1055 wd_29 wd_67 wd_1056) (by decide) d rfl) <|
  am_kd (fun d => ak_i2l d rfl) <|
  am_kd (fun d => ak_lmul d rfl) <|
  am_kd (fun d => ak_ldc2 wd_1045 d rfl) <|
  am_kd (fun d => ak_ldiv d rfl) <|
  am_kd (fun d => ak_goto d (by decide +kernel)) <|
  am_kd (fun d => ak_lconst d (by decide +kernel) rfl) <|
  am_kd (fun d => ak_retL d) <| am_kdn
def r_line (M : am_M) (l y a : Int32) : Int64 := if a = 0 then (r_inF M (r_pl M l y) 0 (r_lo M l 0) y).toInt64 else (r_inF M (r_pl M l y) 0 (r_lo M l 0) y).toInt64 * (M.1 201 (514 + a).toNatClampNeg).toInt64 / 1000
def r_due (M : am_M) (y e a l : Int32) : Int64 := if e < 0 then (if a = 0 then 0 else (r_inF M (r_pl M l y) 5 (r_lo M l 0) y).toInt64) else if r_line M l y a < e.toInt64 then (e.toInt64 - r_line M l y a) * (r_inF M (r_pl M l y) 1 (r_lo M l 0) y).toInt64 / 1000 else 0
def TE8_dueOf : am_T := fun live as M R => match as with
  | [.ref n, .int l, .int y, .int e, .int a] => am_mn live ∧ n = 200 ∧ am_in l 30 ∧ 0 ≤ y.toInt ∧ am_in a 4 ∧ r_I M ∧ R (some (.long (r_due M y e a l))) M
  | _ => False
set_option maxRecDepth 100000 in
set_option maxHeartbeats 4000000 in
theorem metX8_dueOfE : am_Met yX8_dueOf cX8_dueOf 9 (some .long) (2) (53) TE8_dueOf := by
  refine am_met (own := RX8) (by decide +kernel) rfl kX8_dueOfE koX8_dueOfE 150 (fun _ _ _ _ _ => none) (fun live as M Ret h => ?_) (fun _ _ _ _ _ _ _ _ hI => by cases hI)
  unfold TE8_dueOf at h
  split at h
  · next n l y e a =>
    refine ⟨Nat.le_of_ble_eq_true rfl, ?_⟩
    change am_wp _ _ _ _ [(0, Value.ref n), (1, Value.int l), (2, Value.int y), (3, Value.int e), (4, Value.int a)] _ _
    obtain ⟨hmn, rfl, hl, hy, ha, hR, h⟩ := h
    have hmn2 := hmn
    obtain ⟨i1, i2, rfl⟩ := hmn2
    have hp := r_pers hR hl
    have w0 : 0 ≤ (0 : Int32).toInt ∧ (0 : Int32).toInt ≤ 7 := ⟨by decide, by decide⟩
    have w06 : am_in (0 : Int32) 6 := ⟨by decide, by decide⟩
    have w16 : am_in (1 : Int32) 6 := ⟨by decide, by decide⟩
    have w56 : am_in (5 : Int32) 6 := ⟨by decide, by decide⟩
    have a40 : am_in a 40 := ⟨ha.1, by have := ha.2; omega⟩
    have y514 := r_in40 a40 (c := 514) ⟨by decide, by decide⟩
    have x1 := y514.1
    have x2 := y514.2
    by_cases ze : 0 ≤ e
    · have ze2 : ¬ e < 0 := fun q => by simp only [i_lt, i_le, Int32.toInt_zero] at ze q; omega
      unfold r_due at h
      rw [if_neg ze2] at h
      by_cases za : a = 0
      · have el : r_line M l y a = (r_inF M (r_pl M l y) 0 (r_lo M l 0) y).toInt64 := if_pos za
        rw [el] at h
        by_cases zc : lg_cmp e.toInt64 (r_inF M (r_pl M l y) 0 (r_lo M l 0) y).toInt64 ≤ 0
        · rw [if_neg (fun q => by rw [lc_le, j_le] at zc; rw [Int64.lt_iff_toInt_lt] at q; omega)] at h
          repeat' (first | (with_reducible exact hmn) | (with_reducible exact hl) | (with_reducible exact hy) | (with_reducible exact hp) | (with_reducible exact w0) | (with_reducible exact w06) | (with_reducible exact w16) | (with_reducible exact hR) | (with_reducible exact x1) | (with_reducible exact x2) | apply And.intro | exact rfl | (intro hx; with_reducible exact absurd ze hx) | (intro hx; with_reducible exact absurd za hx) | (intro hx; with_reducible exact absurd zc hx) | ((with_reducible change r_I _); (with_reducible assumption)) | (intro hx; exact absurd hx (by decide)) | (intro hx; exact absurd (by decide) hx) | decide | intro hx | (refine Exists.intro _ (And.intro rfl ?_)))
          all_goals try first | (with_reducible change am_tI _ _) | (change Ret _ _) | (change Ret _ _ _) | (change Exists _)
          all_goals try dsimp only at *
          all_goals try (with_reducible exact absurd ‹(1000 : Int64) = 0› am_z1000)
          all_goals first | (with_reducible exact h) | decide | exact h | skip
        · rw [if_pos (by rw [lc_le, j_le] at zc; rw [Int64.lt_iff_toInt_lt]; omega)] at h
          repeat' (first | (with_reducible exact hmn) | (with_reducible exact hl) | (with_reducible exact hy) | (with_reducible exact hp) | (with_reducible exact w0) | (with_reducible exact w06) | (with_reducible exact w16) | (with_reducible exact hR) | (with_reducible exact x1) | (with_reducible exact x2) | apply And.intro | exact rfl | (intro hx; with_reducible exact absurd hx zc) | (intro hx; with_reducible exact absurd ze hx) | (intro hx; with_reducible exact absurd za hx) | ((with_reducible change r_I _); (with_reducible assumption)) | (intro hx; exact absurd hx (by decide)) | (intro hx; exact absurd (by decide) hx) | decide | intro hx | (refine Exists.intro _ (And.intro rfl ?_)))
          all_goals try first | (with_reducible change am_tI _ _) | (change Ret _ _) | (change Ret _ _ _) | (change Exists _)
          all_goals try dsimp only at *
          all_goals try (with_reducible exact absurd ‹(1000 : Int64) = 0› am_z1000)
          all_goals first | (with_reducible exact h) | decide | exact h | skip
      · have el : r_line M l y a = (r_inF M (r_pl M l y) 0 (r_lo M l 0) y).toInt64 * (M.1 201 (514 + a).toNatClampNeg).toInt64 / 1000 := if_neg za
        rw [el] at h
        by_cases zc : lg_cmp e.toInt64 ((r_inF M (r_pl M l y) 0 (r_lo M l 0) y).toInt64 * (M.1 201 (514 + a).toNatClampNeg).toInt64 / 1000) ≤ 0
        · rw [if_neg (fun q => by rw [lc_le, j_le] at zc; rw [Int64.lt_iff_toInt_lt] at q; omega)] at h
          repeat' (first | (with_reducible exact hmn) | (with_reducible exact hl) | (with_reducible exact hy) | (with_reducible exact hp) | (with_reducible exact w0) | (with_reducible exact w06) | (with_reducible exact w16) | (with_reducible exact hR) | (with_reducible exact x1) | (with_reducible exact x2) | apply And.intro | exact rfl | (intro hx; with_reducible exact absurd hx za) | (intro hx; with_reducible exact absurd ze hx) | (intro hx; with_reducible exact absurd zc hx) | ((with_reducible change r_I _); (with_reducible assumption)) | (intro hx; exact absurd hx (by decide)) | (intro hx; exact absurd (by decide) hx) | decide | intro hx | (refine Exists.intro _ (And.intro rfl ?_)))
          all_goals try first | (with_reducible change am_tI _ _) | (change Ret _ _) | (change Ret _ _ _) | (change Exists _)
          all_goals try dsimp only at *
          all_goals try (with_reducible exact absurd ‹(1000 : Int64) = 0› am_z1000)
          all_goals first | (with_reducible exact h) | decide | exact h | skip
        · rw [if_pos (by rw [lc_le, j_le] at zc; rw [Int64.lt_iff_toInt_lt]; omega)] at h
          repeat' (first | (with_reducible exact hmn) | (with_reducible exact hl) | (with_reducible exact hy) | (with_reducible exact hp) | (with_reducible exact w0) | (with_reducible exact w06) | (with_reducible exact w16) | (with_reducible exact hR) | (with_reducible exact x1) | (with_reducible exact x2) | apply And.intro | exact rfl | (intro hx; with_reducible exact absurd hx za) | (intro hx; with_reducible exact absurd hx zc) | (intro hx; with_reducible exact absurd ze hx) | ((with_reducible change r_I _); (with_reducible assumption)) | (intro hx; exact absurd hx (by decide)) | (intro hx; exact absurd (by decide) hx) | decide | intro hx | (refine Exists.intro _ (And.intro rfl ?_)))
          all_goals try first | (with_reducible change am_tI _ _) | (change Ret _ _) | (change Ret _ _ _) | (change Exists _)
          all_goals try dsimp only at *
          all_goals try (with_reducible exact absurd ‹(1000 : Int64) = 0› am_z1000)
          all_goals first | (with_reducible exact h) | decide | exact h | skip
    · have ze2 : e < 0 := by simp only [i_lt, i_le, Int32.toInt_zero] at ze ⊢; omega
      unfold r_due at h
      rw [if_pos ze2] at h
      by_cases za : a = 0
      · rw [if_pos za] at h
        repeat' (first | (with_reducible exact hmn) | (with_reducible exact hl) | (with_reducible exact hy) | (with_reducible exact hp) | (with_reducible exact w0) | (with_reducible exact w56) | (with_reducible exact hR) | (with_reducible exact x1) | (with_reducible exact x2) | apply And.intro | exact rfl | (intro hx; with_reducible exact absurd hx ze) | (intro hx; with_reducible exact absurd za hx) | ((with_reducible change r_I _); (with_reducible assumption)) | (intro hx; exact absurd hx (by decide)) | (intro hx; exact absurd (by decide) hx) | decide | intro hx | (refine Exists.intro _ (And.intro rfl ?_)))
        all_goals try first | (with_reducible change am_tI _ _) | (change Ret _ _) | (change Ret _ _ _) | (change Exists _)
        all_goals try dsimp only at *
        all_goals try (with_reducible exact absurd ‹(1000 : Int64) = 0› am_z1000)
        all_goals first | (with_reducible exact h) | decide | exact h | skip
      · rw [if_neg za] at h
        repeat' (first | (with_reducible exact hmn) | (with_reducible exact hl) | (with_reducible exact hy) | (with_reducible exact hp) | (with_reducible exact w0) | (with_reducible exact w56) | (with_reducible exact hR) | (with_reducible exact x1) | (with_reducible exact x2) | apply And.intro | exact rfl | (intro hx; with_reducible exact absurd hx ze) | (intro hx; with_reducible exact absurd hx za) | ((with_reducible change r_I _); (with_reducible assumption)) | (intro hx; exact absurd hx (by decide)) | (intro hx; exact absurd (by decide) hx) | decide | intro hx | (refine Exists.intro _ (And.intro rfl ?_)))
        all_goals try first | (with_reducible change am_tI _ _) | (change Ret _ _) | (change Ret _ _ _) | (change Exists _)
        all_goals try dsimp only at *
        all_goals try (with_reducible exact absurd ‹(1000 : Int64) = 0› am_z1000)
        all_goals first | (with_reducible exact h) | decide | exact h | skip
  · exact h.elim
def kX8_isInE (live : am_E) (Ret : am_R) : am_code := [(0, am_aload 0 1), (1, am_iload 1 2), (2, am_const (.int 0) 3), (3, am_callV live 8 2 TX8_ofLoan 6), (6, am_iload 2 7), (7, am_if2 (fun x y => x = y) 10 41), (10, am_aload 0 11), (11, am_getR live 8 21 14), (14, am_iload 1 15), (15, am_ald live 2 16), (16, am_if1 (fun x => x = 0) 19 41), (19, am_aload 0 20), (20, am_aload 0 21), (21, am_iload 1 22), (22, am_iload 3 23), (23, am_callV live 8 2 TE8_planAt 26), (26, am_const (.int 4) 27), (27, am_iload 2 28), (28, am_iload 3 29), (29, am_callV live 8 4 TE8_inForce 32), (32, am_iload 4 34), (34, am_if2 (fun x y => x = y) 37 41), (37, am_const (.int 1) 38), (38, am_goto 42), (41, am_const (.int 0) 42), (42, am_retZ Ret)]
theorem koX8_isInE (live : am_E) (Ret : am_R) : ∀ q ∈ kX8_isInE live Ret, am_ok RX8 cX8_isIn 5 (some .boolean) 2 53 live Ret q.1 q.2 :=
  am_kz dzX8_isIn <|
  am_kd (fun d => ak_aload_n d rfl rfl) <|
  am_kd (fun d => ak_iload_n d rfl rfl) <|
  am_kd (fun d => ak_iconst d (by decide +kernel) rfl) <|
  am_kd (fun d => ak_callV (C := RX8) (F := TX8) (N := 27) metX8_ofLoan rfl ⟨rfl, hy_X8_ofLoan⟩ (am_w5 wd_1154 wd_1156 wd_41 wd_67 wd_1157) (by decide) d rfl) <|
  am_kd (fun d => ak_iload_n d rfl rfl) <|
  am_kd (fun d => ak_icmp_ne d (by decide +kernel) rfl) <|
  am_kd (fun d => ak_aload_n d rfl rfl) <|
  am_kd (fun d => ak_getR (C := RX8) (T := TX8) (N := 27) rfl inX8w (by decide) rfl rfl rfl wd_916 d rfl) <|
  am_kd (fun d => ak_iload_n d rfl rfl) <|
  am_kd (fun d => ak_zald (t := 2) (fun _ => rfl) rfl d rfl) <|
  am_kd (fun d => ak_if_ne d (by decide +kernel) rfl) <|
  am_kd (fun d => ak_aload_n d rfl rfl) <|
  am_kd (fun d => ak_aload_n d rfl rfl) <|
  am_kd (fun d => ak_iload_n d rfl rfl) <|
  am_kd (fun d => ak_iload_n d rfl rfl) <|
  am_kd (fun d => ak_callV (C := RX8) (F := TX8) (N := 27) metX8_planAtE rfl ⟨rfl, hy_X8_planAt⟩ (am_w5 wd_1085 wd_1087 wd_32 wd_67 wd_1088) (by decide) d rfl) <|
  am_kd (fun d => ak_iconst d (by decide +kernel) rfl) <|
  am_kd (fun d => ak_iload_n d rfl rfl) <|
  am_kd (fun d => ak_iload_n d rfl rfl) <|
  am_kd (fun d => ak_callV (C := RX8) (F := TX8) (N := 27) metX8_inForceE rfl ⟨rfl, hy_X8_inForce⟩ (am_w5 wd_1053 wd_1055 wd_29 wd_67 wd_1056) (by decide) d rfl) <|
  am_kd (fun d => ak_iload d rfl) <|
  am_kd (fun d => ak_icmp_ne d (by decide +kernel) rfl) <|
  am_kd (fun d => ak_iconst d (by decide +kernel) rfl) <|
  am_kd (fun d => ak_goto d (by decide +kernel)) <|
  am_kd (fun d => ak_iconst d (by decide +kernel) rfl) <|
  am_kd (fun d => ak_retZ d) <| am_kdn
def r_isin (M : am_M) (p y o l : Int32) : Prop := r_lo M l 0 = p ∧ M.1 213 l.toNatClampNeg = 0 ∧ r_inF M (r_pl M l y) 4 p y = o
def TE8_isIn : am_T := fun live as M R => match as with
  | [.ref n, .int l, .int p, .int y, .int o] => am_mn live ∧ n = 200 ∧ am_in l 30 ∧ am_in p 12 ∧ 0 ≤ y.toInt ∧ r_I M ∧ (¬ r_isin M p y o l → R (some (.int 0)) M) ∧ (r_isin M p y o l → R (some (.int 1)) M)
  | _ => False
set_option maxRecDepth 100000 in
set_option maxHeartbeats 4000000 in
theorem metX8_isInE : am_Met yX8_isIn cX8_isIn 5 (some .boolean) (2) (53) TE8_isIn := by
  refine am_met (own := RX8) (by decide +kernel) rfl kX8_isInE koX8_isInE 150 (fun _ _ _ _ _ => none) (fun live as M Ret h => ?_) (fun _ _ _ _ _ _ _ _ hI => by cases hI)
  unfold TE8_isIn at h
  split at h
  · next n l p y o =>
    refine ⟨Nat.le_of_ble_eq_true rfl, ?_⟩
    change am_wp _ _ _ _ [(0, Value.ref n), (1, Value.int l), (2, Value.int p), (3, Value.int y), (4, Value.int o)] _ _
    obtain ⟨hmn, rfl, hl, hp, hy, hR, h0, h1⟩ := h
    have hmn2 := hmn
    obtain ⟨i1, i2, rfl⟩ := hmn2
    have w0 : 0 ≤ (0 : Int32).toInt ∧ (0 : Int32).toInt ≤ 7 := ⟨by decide, by decide⟩
    have w46 : am_in (4 : Int32) 6 := ⟨by decide, by decide⟩
    have l213 : am_len 213 = 30 := rfl
    have l1 := hl.1
    have l2 : l.toInt < (am_len 213 : Int) := by rw [l213]; exact hl.2
    by_cases z1 : M.1 201 (2838 + 8 * l + 0).toNatClampNeg = p
    · by_cases z2 : M.1 213 l.toNatClampNeg = 0
      · by_cases z3 : r_inF M (r_pl M l y) 4 p y = o
        · have hh := h1 ⟨z1, z2, z3⟩
          repeat' (first | (with_reducible exact hmn) | (with_reducible exact hl) | (with_reducible exact hy) | (with_reducible exact hp) | (with_reducible exact w0) | (with_reducible exact w46) | (with_reducible exact hR) | (with_reducible exact l1) | (with_reducible exact l2) | apply And.intro | exact rfl | (intro hx; with_reducible exact absurd z1 hx) | (intro hx; with_reducible exact absurd z2 hx) | (intro hx; with_reducible exact absurd z3 hx) | ((with_reducible change r_I _); (with_reducible assumption)) | (intro hx; exact absurd hx (by decide)) | (intro hx; exact absurd (by decide) hx) | decide | intro hx | (refine Exists.intro _ (And.intro rfl ?_)))
          all_goals try first | (with_reducible change am_tI _ _) | (change Ret _ _) | (change Ret _ _ _) | (change Exists _)
          all_goals try dsimp only at *
          all_goals try (with_reducible exact absurd ‹(1000 : Int64) = 0› am_z1000)
          all_goals first | (with_reducible exact hh) | (left; rfl) | (right; rfl) | exact hh | skip
        · have hh := h0 (fun q => z3 q.2.2)
          repeat' (first | (with_reducible exact hmn) | (with_reducible exact hl) | (with_reducible exact hy) | (with_reducible exact hp) | (with_reducible exact w0) | (with_reducible exact w46) | (with_reducible exact hR) | (with_reducible exact l1) | (with_reducible exact l2) | apply And.intro | exact rfl | (intro hx; with_reducible exact absurd hx z3) | (intro hx; with_reducible exact absurd z1 hx) | (intro hx; with_reducible exact absurd z2 hx) | ((with_reducible change r_I _); (with_reducible assumption)) | (intro hx; exact absurd hx (by decide)) | (intro hx; exact absurd (by decide) hx) | decide | intro hx | (refine Exists.intro _ (And.intro rfl ?_)))
          all_goals try first | (with_reducible change am_tI _ _) | (change Ret _ _) | (change Ret _ _ _) | (change Exists _)
          all_goals try dsimp only at *
          all_goals try (with_reducible exact absurd ‹(1000 : Int64) = 0› am_z1000)
          all_goals first | (with_reducible exact hh) | (left; rfl) | (right; rfl) | exact hh | skip
      · have hh := h0 (fun q => z2 q.2.1)
        repeat' (first | (with_reducible exact hmn) | (with_reducible exact hl) | (with_reducible exact hy) | (with_reducible exact hp) | (with_reducible exact w0) | (with_reducible exact w46) | (with_reducible exact hR) | (with_reducible exact l1) | (with_reducible exact l2) | apply And.intro | exact rfl | (intro hx; with_reducible exact absurd hx z2) | (intro hx; with_reducible exact absurd z1 hx) | ((with_reducible change r_I _); (with_reducible assumption)) | (intro hx; exact absurd hx (by decide)) | (intro hx; exact absurd (by decide) hx) | decide | intro hx | (refine Exists.intro _ (And.intro rfl ?_)))
        all_goals try first | (with_reducible change am_tI _ _) | (change Ret _ _) | (change Ret _ _ _) | (change Exists _)
        all_goals try dsimp only at *
        all_goals try (with_reducible exact absurd ‹(1000 : Int64) = 0› am_z1000)
        all_goals first | (with_reducible exact hh) | (left; rfl) | (right; rfl) | exact hh | skip
    · have hh := h0 (fun q => z1 q.1)
      repeat' (first | (with_reducible exact hmn) | (with_reducible exact hl) | (with_reducible exact hy) | (with_reducible exact hp) | (with_reducible exact w0) | (with_reducible exact w46) | (with_reducible exact hR) | (with_reducible exact l1) | (with_reducible exact l2) | apply And.intro | exact rfl | (intro hx; with_reducible exact absurd hx z1) | ((with_reducible change r_I _); (with_reducible assumption)) | (intro hx; exact absurd hx (by decide)) | (intro hx; exact absurd (by decide) hx) | decide | intro hx | (refine Exists.intro _ (And.intro rfl ?_)))
      all_goals try first | (with_reducible change am_tI _ _) | (change Ret _ _) | (change Ret _ _ _) | (change Exists _)
      all_goals try dsimp only at *
      all_goals try (with_reducible exact absurd ‹(1000 : Int64) = 0› am_z1000)
      all_goals first | (with_reducible exact hh) | (left; rfl) | (right; rfl) | exact hh | skip
  · exact h.elim
end
