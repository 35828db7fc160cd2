/-! runs, exact: the class: a year looked at, years gone -/
def c_look (M : am_M) (y : Int32) : am_M := if M.1 4 11 = -1 then am_wI (am_wI (am_wI M 4 16 (am_earn M (M.1 4 8 * 40 + y) (M.1 4 9))) 4 17 (M.1 24 (M.1 4 8 * 40 + y).toNatClampNeg)) 4 18 (if M.1 23 (M.1 4 8).toNatClampNeg ≠ -1 ∧ M.1 23 (M.1 4 8).toNatClampNeg ≤ y then 1 else 0) else am_wI (am_wI (am_wI M 4 16 (M.1 56 (M.1 4 11 * 40 + y).toNatClampNeg)) 4 17 0) 4 18 (M.1 4 13)
theorem c_look_2 {M : am_M} {y : Int32} : (c_look M y).2 = M.2 := by
  unfold c_look
  split <;> rfl
theorem c_look_1 {M : am_M} {y : Int32} {a k : Nat} (h : ¬ (a = 4 ∧ (k = 16 ∨ k = 17 ∨ k = 18))) : (c_look M y).1 a k = M.1 a k := by
  unfold c_look
  split
  all_goals rw [am_wI_1, if_neg (fun q => h ⟨q.1, Or.inr (Or.inr q.2)⟩), am_wI_1, if_neg (fun q => h ⟨q.1, Or.inr (Or.inl q.2)⟩), am_wI_1, if_neg (fun q => h ⟨q.1, Or.inl q.2⟩)]
def TE4_look : am_T := fun live as M R => match as with
  | [.ref n, .int y] => am_mn live ∧ n = 4 ∧ am_in y 40 ∧ g_rI M ∧ (g_rI (c_look M y) → R none (c_look M y))
  | _ => False
set_option maxRecDepth 100000 in
set_option maxHeartbeats 4000000 in
theorem metX4_lookE : am_Met yX4_look cX4_look 2 none (1) (24) TE4_look := by
  refine am_met (own := RX4) (by decide +kernel) rfl kX4_look koX4_look 100 (fun _ _ _ _ _ => none) (fun live as M Ret h => ?_) (fun _ _ _ _ _ _ _ _ hI => by cases hI)
  unfold TE4_look at h
  split at h
  · next n y =>
    refine ⟨Nat.le_of_ble_eq_true rfl, ?_⟩
    change am_wp _ _ _ _ [(0, Value.ref n), (1, Value.int y)] _ _
    obtain ⟨hmn, rfl, hy, hr, h⟩ := h
    have hmn2 := hmn
    obtain ⟨i1, i2, rfl⟩ := hmn2
    have l56 : am_len 56 = 160 := rfl
    have l24 : am_len 24 = 480 := rfl
    have hp := hr.s.pe
    have ep := g_40 (by decide) hp hy
    have hy1 := hy.1
    have hy2 := hy.2
    have hp1 := hp.1
    have hp2 := hp.2
    have hld := hr.t.ld (k := (M.1 4 8 * 40 + y).toNatClampNeg) (by have := i_clamp (x := M.1 4 8 * 40 + y) (by omega); omega)
    by_cases hz : M.1 4 11 = -1
    · have e : c_look M y = am_wI (am_wI (am_wI M 4 16 (am_earn M (M.1 4 8 * 40 + y) (M.1 4 9))) 4 17 (M.1 24 (M.1 4 8 * 40 + y).toNatClampNeg)) 4 18 (if M.1 23 (M.1 4 8).toNatClampNeg ≠ -1 ∧ M.1 23 (M.1 4 8).toNatClampNeg ≤ y then 1 else 0) := if_pos hz
      rw [e] at h
      have hh := h (((hr.wF rfl).w417 hld).wF rfl)
      repeat' (first | (with_reducible exact hmn) | (with_reducible exact hp) | apply And.intro | exact rfl | (intro hx; with_reducible exact absurd hz hx) | intro hx | (refine Exists.intro _ (And.intro rfl ?_)))
      all_goals try first | (with_reducible change am_tI _ _) | (change Ret _ _) | (change Ret _ _ _) | (change Exists _)
      all_goals try dsimp only at *
      all_goals try exact absurd ‹(1000 : Int64) = 0› (by decide)
      all_goals first
        | exact hp.1
        | exact hp.2
        | exact g_01 _
        | (rw [ep]; omega)
        | (rw [ep, l24]; omega)
        | exact hh
    · have e : c_look M y = am_wI (am_wI (am_wI M 4 16 (M.1 56 (M.1 4 11 * 40 + y).toNatClampNeg)) 4 17 0) 4 18 (M.1 4 13) := if_neg hz
      rw [e] at h
      have hh := h (((hr.wF rfl).w417 ⟨by decide, by decide⟩).wF rfl)
      have hl := hr.s.li.resolve_left hz
      have el := g_40 (by decide) hl hy
      have hl1 := hl.1
      have hl2 := hl.2
      repeat' (first | (with_reducible exact hmn) | apply And.intro | exact rfl | (intro hx; with_reducible exact absurd hx hz) | intro hx | (refine Exists.intro _ (And.intro rfl ?_)))
      all_goals try first | (with_reducible change am_tI _ _) | (change Ret _ _) | (change Ret _ _ _) | (change Exists _)
      all_goals try dsimp only at *
      all_goals try exact absurd ‹(1000 : Int64) = 0› (by decide)
      all_goals first
        | (left; rfl)
        | (rw [el]; omega)
        | (rw [el, l56]; omega)
        | exact g_d2 hr.s.da
        | exact hh
  · exact h.elim
/-- alike but for the queue and the next year -/
def c_q8 (M N : am_M) : Prop := ∃ _ : Unit, ∀ a k, a ≠ 8 → ¬ (a = 4 ∧ k = 10) → N.1 a k = M.1 a k
theorem c_q8.v {M N : am_M} (h : c_q8 M N) {a k : Nat} (h8 : a ≠ 8) (h4 : ¬ (a = 4 ∧ k = 10)) : N.1 a k = M.1 a k := by obtain ⟨-, h⟩ := h; exact h a k h8 h4
theorem c_q8.f {M N : am_M} (h : c_q8 M N) {α : Type} (f : am_M → α) (hf : ∀ a b b', f (a, b) = f (a, b')) (h8 : ∀ (K : am_M) (v : Int32) (g : Nat → Int32), f (am_cI (am_wI K 4 10 v) 8 g) = f K) : f N = f M := by
  have e : N.1 = (am_cI (am_wI M 4 10 (N.1 4 10)) 8 (N.1 8)).1 := by
    funext a b
    rw [am_cI_1]
    by_cases z : a = 8
    · subst z; rw [if_pos rfl]
    · rw [if_neg z, am_wI_1]
      by_cases w : a = 4 ∧ b = 10
      · rw [if_pos w, w.1, w.2]
      · rw [if_neg w, h.v z w]
  rw [z_cg1 f hf e, h8]
theorem c_q8.rt {M N : am_M} (h : c_q8 M N) (y l : Int32) (o : Int64) : c_rt N l y o = c_rt M l y o := by
  have e1 : am_pln N l y = am_pln M l y := h.f (fun K => am_pln K l y) (fun _ _ _ => rfl) (fun _ _ _ => rfl)
  have e2 : am_cell N l y 2 = am_cell M l y 2 := h.f (fun K => am_cell K l y 2) (fun _ _ _ => rfl) (fun _ _ _ => rfl)
  have e3 : c_fa N l y o = c_fa M l y o := h.f (fun K => c_fa K l y o) (fun _ _ _ => rfl) (fun _ _ _ => rfl)
  unfold c_rt
  rw [e1, e2, e3]
  have e4 : N.1 (40 + 3 * (am_pln M l y).toNatClampNeg) = M.1 (40 + 3 * (am_pln M l y).toNatClampNeg) := funext fun j => h.v (by omega) (by omega)
  have e5 : t_n N (39 + 3 * (am_pln M l y).toNatClampNeg) = t_n M (39 + 3 * (am_pln M l y).toNatClampNeg) := by unfold t_n; rw [h.v (by omega) (by omega)]
  rw [e4, e5]
theorem c_q8.T {M N : am_M} (h : c_q8 M N) (y : Int32) : c_T N y = c_T M y := by
  have e1 : c_stk N y = c_stk M y := h.f (fun K => c_stk K y) (fun _ _ _ => rfl) (fun _ _ _ => rfl)
  have e2 : c_gr N y = c_gr M y := by
    funext l o
    unfold c_gr
    rw [h.rt]
  have e3 : (fun l o => c_dr N l y o) = (fun l o => c_dr M l y o) := h.f (fun K => (fun l o => c_dr K l y o)) (fun _ _ _ => rfl) (fun _ _ _ => rfl)
  have e4 : c_of N y = c_of M y := h.f (fun K => c_of K y) (fun _ _ _ => rfl) (fun _ _ _ => rfl)
  have e5 : c_ask N y = c_ask M y := h.f (fun K => c_ask K y) (fun _ _ _ => rfl) (fun _ _ _ => rfl)
  have e6 : c_sd N y = c_sd M y := h.f (fun K => c_sd K y) (fun _ _ _ => rfl) (fun _ _ _ => rfl)
  have e7 : c_ms N (c_sz N) = c_ms M (c_sz M) := h.f (fun K => c_ms K (c_sz K)) (fun _ _ _ => rfl) (fun _ _ _ => rfl)
  unfold c_T c_b
  rw [e1, e2, e3, e4, e5, e6, e7]
theorem c_q8.look {M N : am_M} (h : c_q8 M N) (y : Int32) : c_q8 (c_look M y) (c_look N y) := by
  refine ⟨(), fun a k h8 h4 => ?_⟩
  have e11 := h.v (a := 4) (k := 11) (by decide) (by decide)
  by_cases z : a = 4 ∧ (k = 16 ∨ k = 17 ∨ k = 18)
  · have g := h.f (fun K => ((c_look K y).1 4 16, (c_look K y).1 4 17, (c_look K y).1 4 18)) (fun a b b' => by
      unfold c_look
      by_cases w : a 4 11 = -1
      · rw [if_pos w, if_pos w]; rfl
      · rw [if_neg w, if_neg w]; rfl) (fun K v g => by
      unfold c_look
      by_cases w : K.1 4 11 = -1
      · rw [if_pos w, if_pos (show (am_cI (am_wI K 4 10 v) 8 g).1 4 11 = -1 from w)]; rfl
      · rw [if_neg w, if_neg (show ¬ (am_cI (am_wI K 4 10 v) 8 g).1 4 11 = -1 from w)]; rfl)
    have g1 := congrArg (fun q : Int32 × Int32 × Int32 => q.1) g
    have g2 := congrArg (fun q : Int32 × Int32 × Int32 => q.2.1) g
    have g3 := congrArg (fun q : Int32 × Int32 × Int32 => q.2.2) g
    obtain ⟨rfl, rfl | rfl | rfl⟩ := z
    · exact g1
    · exact g2
    · exact g3
  · rw [c_look_1 z, c_look_1 z]
    exact h.v h8 h4
/-- a year of the run: sums, due, paid -/
def c_yr (M : am_M) (y : Int32) : z_S → z_S := c_T (c_look M y) y
/-- years, one after the other -/
def z_it {σ : Type} (F : Nat → σ → σ) (a : Nat) : Nat → σ → σ
  | 0, s => s
  | n + 1, s => F (a + n) (z_it F a n s)
theorem z_it_cg {σ : Type} {F G : Nat → σ → σ} {a : Nat} : ∀ {n : Nat} {s : σ}, (∀ y, a ≤ y → y < a + n → F y = G y) → z_it F a n s = z_it G a n s
  | 0, _, _ => rfl
  | n + 1, s, h => by
    show F (a + n) (z_it F a n s) = G (a + n) (z_it G a n s)
    rw [h (a + n) (by omega) (by omega), z_it_cg (fun y z1 z2 => h y z1 (by omega))]
/-- the run's years gone -/
def c_gn (M N : am_M) : Prop := ∃ _ : Unit, (∀ a k, a ≠ 8 → ¬ (a = 4 ∧ (k = 10 ∨ k = 16 ∨ k = 17 ∨ k = 18)) → N.1 a k = M.1 a k) ∧ ∀ a, a ≠ 4 → a ≠ 6 → a ≠ 9 → a ≠ 10 → N.2 a = M.2 a
theorem c_gn.i {M N : am_M} (h : c_gn M N) {a k : Nat} (h8 : a ≠ 8) (h4 : ¬ (a = 4 ∧ (k = 10 ∨ k = 16 ∨ k = 17 ∨ k = 18))) : N.1 a k = M.1 a k := by obtain ⟨-, h, -⟩ := h; exact h a k h8 h4
theorem c_gn.j {M N : am_M} (h : c_gn M N) {a : Nat} (h4 : a ≠ 4) (h6 : a ≠ 6) (h9 : a ≠ 9) (h10 : a ≠ 10) : N.2 a = M.2 a := by obtain ⟨-, -, h⟩ := h; exact h a h4 h6 h9 h10
theorem c_gn.rf {M : am_M} : c_gn M M := ⟨(), fun _ _ _ _ => rfl, fun _ _ _ _ _ => rfl⟩
theorem c_gn.tr {M N K : am_M} (h : c_gn M N) (h2 : c_gn N K) : c_gn M K := ⟨(), fun a k z8 z4 => (h2.i z8 z4).trans (h.i z8 z4), fun a z4 z6 z9 z10 => (h2.j z4 z6 z9 z10).trans (h.j z4 z6 z9 z10)⟩
theorem c_gn.lk {M : am_M} {y : Int32} : c_gn M (c_look M y) := ⟨(), fun a k _ z4 => c_look_1 (fun q => z4 ⟨q.1, Or.inr q.2⟩), fun a _ _ _ _ => by rw [c_look_2]⟩
theorem c_gn.tn {M N : am_M} (h : c_tn M N) : c_gn M N := ⟨(), fun a k z8 _ => by rw [h.i z8], fun a z4 z6 z9 z10 => h.j z4 z6 z9 z10⟩
theorem c_gn.w10 {M : am_M} {v : Int32} : c_gn M (am_wI M 4 10 v) := ⟨(), fun a k _ z4 => by rw [am_wI_1, if_neg (fun q => z4 ⟨q.1, Or.inl q.2⟩)], fun a _ _ _ _ => rfl⟩
theorem c_gn.sc {M N : am_M} (h : c_gn M N) : g_sc M N := ⟨(), fun a b z => ⟨h.i (by omega) (by omega), by rw [h.j (by omega) (by omega) (by omega) (by omega)]⟩⟩
/-- what a year reads stays -/
theorem c_gn.look {M N : am_M} (h : c_gn M N) (y : Int32) : c_q8 (c_look M y) (c_look N y) := by
  have h0 : c_q8 (am_wI (am_wI (am_wI M 4 16 (N.1 4 16)) 4 17 (N.1 4 17)) 4 18 (N.1 4 18)) N := ⟨(), fun a k h8 h4 => by
    by_cases z : a = 4 ∧ (k = 16 ∨ k = 17 ∨ k = 18)
    · obtain ⟨rfl, rfl | rfl | rfl⟩ := z <;> rfl
    · rw [am_wI_1, if_neg (fun q => z ⟨q.1, Or.inr (Or.inr q.2)⟩), am_wI_1, if_neg (fun q => z ⟨q.1, Or.inr (Or.inl q.2)⟩), am_wI_1, if_neg (fun q => z ⟨q.1, Or.inl q.2⟩)]
      exact h.i h8 (fun q => q.2.elim (fun q2 => h4 ⟨q.1, q2⟩) (fun q2 => z ⟨q.1, q2⟩))⟩
  have h1 := h0.look y
  refine ⟨(), fun a k h8 h4 => ?_⟩
  rw [h1.v h8 h4]
  by_cases z : a = 4 ∧ (k = 16 ∨ k = 17 ∨ k = 18)
  · unfold c_look
    by_cases w : M.1 4 11 = -1
    · rw [if_pos w, if_pos (show (am_wI (am_wI (am_wI M 4 16 (N.1 4 16)) 4 17 (N.1 4 17)) 4 18 (N.1 4 18)).1 4 11 = -1 from w)]
      obtain ⟨rfl, rfl | rfl | rfl⟩ := z <;> rfl
    · rw [if_neg w, if_neg (show ¬ (am_wI (am_wI (am_wI M 4 16 (N.1 4 16)) 4 17 (N.1 4 17)) 4 18 (N.1 4 18)).1 4 11 = -1 from w)]
      obtain ⟨rfl, rfl | rfl | rfl⟩ := z <;> rfl
  · rw [c_look_1 z, c_look_1 z, am_wI_1, if_neg (fun q => z ⟨q.1, Or.inr (Or.inr q.2)⟩), am_wI_1, if_neg (fun q => z ⟨q.1, Or.inr (Or.inl q.2)⟩), am_wI_1, if_neg (fun q => z ⟨q.1, Or.inl q.2⟩)]
theorem c_gn.yr {M N : am_M} (h : c_gn M N) (y : Int32) : c_yr N y = c_yr M y := (h.look y).T y
theorem c_q8.oo {M N : am_M} (h : c_q8 M N) {y : Int32} (o : c_oo M y) : c_oo N y := ⟨(), fun i hi => by
  rw [h.v (a := 4) (k := 7) (by decide) (by decide)] at hi
  have q := o.v hi
  rw [← h.f (fun K => am_cell K (K.1 7 i) y 4) (fun _ _ _ => rfl) (fun _ _ _ => rfl)] at q
  exact q⟩
/-- orders are such in all years of it -/
def c_oa (M : am_M) : Prop := ∃ _ : Unit, ∀ y : Int32, am_in y 40 → c_oo (c_look M y) y
theorem c_oa.v {M : am_M} (h : c_oa M) {y : Int32} (hy : am_in y 40) : c_oo (c_look M y) y := by obtain ⟨-, h⟩ := h; exact h y hy
theorem c_gn.oa {M N : am_M} (h : c_gn M N) (o : c_oa M) : c_oa N := ⟨(), fun y hy => (h.look y).oo (o.v hy)⟩
/-- how many years -/
def c_nn (a u : Int32) : Nat := ((if u.toInt ≤ 39 then u.toInt else 39) + 1 - a.toInt).toNat
theorem t_b.g {M N : am_M} (h : t_b M 20) (c : g_sc M N) : t_b N 20 := h.kt (Or.inl rfl) ⟨(), fun a k z => c.i k (by have := x_tb_lt z; omega)⟩
def kX4_goE (live : am_E) (Ret : am_R) : am_code := [(0, am_aload 0 1), (1, am_getI live 4 10 4), (4, am_istore 2 3 5), (5, am_iload 2 6), (6, am_iload 1 7), (7, am_if2 (fun x y => y < x) 39 10), (10, am_iload 2 11), (11, am_const (.int 40) 13), (13, am_if2 (fun x y => y ≤ x) 39 16), (16, am_aload 0 17), (17, am_iload 2 18), (18, am_callV live 4 1 TE4_look 21), (21, am_aload 0 22), (22, am_iload 2 23), (23, am_callV live 4 1 TE4_turn 26), (26, am_aload 0 27), (27, am_iload 2 28), (28, am_const (.int 1) 29), (29, am_i2 (fun x y => x + y) 30), (30, am_putI live 4 10 33), (33, am_iinc 2 3 1 36), (36, am_goto 5), (39, am_retV Ret)]
theorem koX4_goE (live : am_E) (Ret : am_R) : ∀ q ∈ kX4_goE live Ret, am_ok RX4 cX4_go 3 none 4 102 live Ret q.1 q.2 :=
  am_kc (ak_aload_n dX4_go_0 rfl rfl) <|
  am_kc (ak_getI (C := RX4) (T := TX4) (N := 19) rfl inX4w (by decide) rfl rfl rfl wd_306 dX4_go_1 rfl) <|
  am_kc (ak_istore_n dX4_go_4 rfl rfl) <|
  am_kc (ak_iload_n dX4_go_5 rfl rfl) <|
  am_kc (ak_iload_n dX4_go_6 rfl rfl) <|
  am_kc (ak_icmp_gt dX4_go_7 (by decide +kernel) rfl) <|
  am_kc (ak_iload_n dX4_go_10 rfl rfl) <|
  am_kc (ak_bipush dX4_go_11 (by decide +kernel) rfl) <|
  am_kc (ak_icmp_ge dX4_go_13 (by decide +kernel) rfl) <|
  am_kc (ak_aload_n dX4_go_16 rfl rfl) <|
  am_kc (ak_iload_n dX4_go_17 rfl rfl) <|
  am_kc (ak_callV (C := RX4) (F := TX4) (N := 19) metX4_lookE rfl ⟨rfl, by decide +kernel, by decide +kernel, by decide +kernel⟩ (am_w5 wd_563 wd_564 wd_565 wd_60 wd_566) (by decide) dX4_go_18 rfl) <|
  am_kc (ak_aload_n dX4_go_21 rfl rfl) <|
  am_kc (ak_iload_n dX4_go_22 rfl rfl) <|
  am_kc (ak_callV (C := RX4) (F := TX4) (N := 19) metX4_turnE rfl ⟨rfl, by decide +kernel, by decide +kernel, by decide +kernel⟩ (am_w5 wd_572 wd_573 wd_574 wd_60 wd_575) (by decide) dX4_go_23 rfl) <|
  am_kc (ak_aload_n dX4_go_26 rfl rfl) <|
  am_kc (ak_iload_n dX4_go_27 rfl rfl) <|
  am_kc (ak_iconst dX4_go_28 (by decide +kernel) rfl) <|
  am_kc (ak_iadd dX4_go_29 rfl) <|
  am_kc (ak_putI (C := RX4) (T := TX4) (N := 19) rfl inX4w tyX4_ok nmX4 (by decide) rfl rfl rfl rfl (by decide +kernel) wd_306 dX4_go_30 rfl) <|
  am_kc (ak_iinc dX4_go_33 (by decide +kernel) rfl) <|
  am_kc (ak_goto dX4_go_36 (by decide +kernel)) <|
  am_kc (ak_retV dX4_go_39) <| am_kn
def TE4_go : am_T := fun live as M R => match as with
  | [.ref n, .int u] => am_mn live ∧ n = 4 ∧ g_rI M ∧ t_b M 20 ∧ c_oa M ∧ (M.1 4 10).toInt ≤ 40 ∧ ∀ M', c_gn M M' → g_rI M' → c_st M' = z_it (fun y => c_yr M (Int32.ofNat y)) (M.1 4 10).toNatClampNeg (c_nn (M.1 4 10) u) (c_st M) → (M'.1 4 10).toInt = (M.1 4 10).toInt + c_nn (M.1 4 10) u → R none M'
  | _ => False
def JE4_go : am_E → List Value → am_M → am_R → am_inv := fun live as M0 _ pc => match as with
  | [.ref n, .int u] => (match pc with
    | 5 => some ([0, 1, 2], fun k L st M => ∃ (y : Int32) (j : Nat), L = [(0, .ref 4), (1, .int u), (2, .int y)] ∧ st = [] ∧ k = ((41 - y.toInt).toNat, 0) ∧ (y.toInt = (M0.1 4 10).toInt + j ∧ j ≤ c_nn (M0.1 4 10) u) ∧ M.1 4 10 = y ∧ c_gn M0 M ∧ g_rI M ∧ c_st M = z_it (fun y => c_yr M0 (Int32.ofNat y)) (M0.1 4 10).toNatClampNeg j (c_st M0))
    | _ => none)
  | _ => none
set_option maxRecDepth 100000 in
set_option maxHeartbeats 4000000 in
theorem metX4_goE : am_Met yX4_go cX4_go 3 none (4) (102) TE4_go := by
  refine am_met (own := RX4) (by decide +kernel) rfl kX4_goE koX4_goE 100 JE4_go ?_ ?_
  · intro live as M Ret h
    unfold TE4_go at h
    split at h
    · next n u =>
      refine ⟨Nat.le_of_ble_eq_true rfl, ?_⟩
      change am_wp _ _ _ _ [(0, Value.ref n), (1, Value.int u)] _ _
      obtain ⟨hmn, rfl, hr, htb, hoa, ha, h⟩ := h
      have hmn2 := hmn
      obtain ⟨i1, i2, rfl⟩ := hmn2
      repeat' (first | (with_reducible exact hmn) | apply And.intro | exact rfl | intro hx | (refine Exists.intro _ (And.intro rfl ?_)))
      all_goals try first | (with_reducible change am_tI _ _) | (change Ret _ _) | (change Ret _ _ _) | (change Exists _)
      all_goals try dsimp only at *
      all_goals try exact absurd ‹(1000 : Int64) = 0› (by decide)
      exact ⟨_, _, 0, rfl, rfl, rfl, ⟨by omega, Nat.zero_le _⟩, rfl, c_gn.rf, hr, rfl⟩
    · exact h.elim
  · intro live as M0 Ret h k pc I hI L st M hi
    unfold TE4_go at h
    split at h
    · next n u =>
      obtain ⟨hmn, rfl, hr, htb, hoa, ha, h⟩ := h
      have hmn2 := hmn
      obtain ⟨i1, i2, rfl⟩ := hmn2
      have n0 := hr.s.ny
      have cn := i_clamp n0
      change (match pc with | 5 => _ | _ => none) = _ at hI
      split at hI
      · cases hI
        obtain ⟨y, j, rfl, rfl, rfl, ⟨e1, e4⟩, ey, e2, e3, e5⟩ := hi
        have en : (c_nn (M0.1 4 10) u : Int) = if (if u.toInt ≤ 39 then u.toInt else 39) + 1 - (M0.1 4 10).toInt < 0 then 0 else (if u.toInt ≤ 39 then u.toInt else 39) + 1 - (M0.1 4 10).toInt := by
          unfold c_nn
          split <;> omega
        by_cases hu : u < y
        · have hu2 := hu
          simp only [i_lt] at hu2
          have ej : j = c_nn (M0.1 4 10) u := by
            split at en
            · omega
            · split at en <;> omega
          subst ej
          have hh := h M e2 e3 e5 (by rw [ey]; exact e1)
          repeat' (first | apply And.intro | exact rfl | (intro hx; with_reducible exact absurd hu hx) | intro hx | (refine Exists.intro _ (And.intro rfl ?_)))
          all_goals try first | (with_reducible change am_tI _ _) | (change Ret _ _) | (change Ret _ _ _) | (change Exists _)
          all_goals try dsimp only at *
          all_goals try exact absurd ‹(1000 : Int64) = 0› (by decide)
          all_goals exact hh
        · have hu2 := hu
          simp only [i_lt] at hu2
          by_cases hz : (40 : Int32) ≤ y
          · have hz2 := hz
            simp only [i_le, Int32.reduceToInt] at hz2
            have ej : j = c_nn (M0.1 4 10) u := by
              split at en
              · omega
              · split at en <;> omega
            subst ej
            have hh := h M e2 e3 e5 (by rw [ey]; exact e1)
            repeat' (first | apply And.intro | exact rfl | (intro hx; with_reducible exact absurd hx hu) | (intro hx; with_reducible exact absurd hz hx) | intro hx | (refine Exists.intro _ (And.intro rfl ?_)))
            all_goals try first | (with_reducible change am_tI _ _) | (change Ret _ _) | (change Ret _ _ _) | (change Exists _)
            all_goals try dsimp only at *
            all_goals try exact absurd ‹(1000 : Int64) = 0› (by decide)
            all_goals exact hh
          · have hz2 := hz
            simp only [i_le, Int32.reduceToInt] at hz2
            have hy : am_in y 40 := ⟨by omega, by omega⟩
            have hi := i_inc (x := y) (by omega) (by omega)
            have cy := i_clamp hy.1
            have htl : t_b (c_look M y) 20 := (htb.g e2.sc).g c_gn.lk.sc
            have hol : c_oo (c_look M y) y := (e2.oa hoa).v hy
            have ej : j + 1 ≤ c_nn (M0.1 4 10) u := by
              split at en
              · split at en <;> omega
              · split at en <;> omega
            repeat' (first | (with_reducible exact hmn) | (with_reducible exact hy) | (with_reducible exact e3) | (with_reducible exact htl) | (with_reducible exact hol) | apply And.intro | exact rfl | (intro hx; with_reducible exact absurd hx hu) | (intro hx; with_reducible exact absurd hx hz) | ((with_reducible change g_rI _); (with_reducible assumption)) | intro hx | (refine Exists.intro _ (And.intro rfl ?_)))
            all_goals try first | (with_reducible change am_tI _ _) | (change Ret _ _) | (change Ret _ _ _) | (change Exists _)
            all_goals try dsimp only at *
            all_goals try exact absurd ‹(1000 : Int64) = 0› (by decide)
            all_goals
              rename_i N tn hrN
              have est := hx
              refine ⟨_, am_lt_l (by omega), _, j + 1, rfl, rfl, rfl, ⟨by omega, ej⟩, by rw [am_wI_1, if_pos ⟨rfl, rfl⟩], ((e2.tr c_gn.lk).tr (c_gn.tn tn)).tr c_gn.w10, g_rI.w410 hrN (by omega), ?_⟩
              show c_st N = c_yr M0 (Int32.ofNat ((M0.1 4 10).toNatClampNeg + j)) (z_it _ _ j _)
              rw [← e5, est, show c_st (c_look M y) = c_st M by unfold c_st; rw [c_look_2], show (M0.1 4 10).toNatClampNeg + j = y.toNatClampNeg by omega, o_cl hy (by decide), ← e2.yr y]
              rfl
      · cases hI
    · exact h.elim
