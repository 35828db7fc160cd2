-- part 79zl.life1.lean.txt
section
/-! runs exact: a life: a year of it is told alike -/
theorem r_ld_I {M : am_M} {pl y : Int32} (h : r_I M) (hp : pl = -1 ∨ am_in pl 5) : r_I (r_ld M pl y) := by
  obtain ⟨-, t, -⟩ := h
  refine ⟨(), ?_, ?_⟩
  · unfold r_T at t ⊢
    rw [r_ld_1]
    exact t
  · unfold r_S
    rw [r_ld_7]
    exact hp
theorem r_inF_ld {M : am_M} {pl0 y0 pl w p y : Int32} : r_inF (r_ld M pl0 y0) pl w p y = r_inF M pl w p y := by
  unfold r_inF r_A
  rw [r_ld_1, r_ld_2 (by decide) (by decide), r_ld_2 (by decide) (by decide), r_ld_2 (by decide) (by decide), r_ld_2 (by decide) (by decide)]
section LXL
variable {i1 i2 : Bool} {M N N2 : am_M} {p k lf pl y0 y : Int32}
theorem LX.lkl (h : LX i1 i2 M) (hp : am_in p 12) (hb : c_bg M p k N) (hn : c_mine M p (M.1 33 2).toNatClampNeg ≠ []) (ni : ∀ a j, a ≠ 8 → ¬ (a = 4 ∧ 10 ≤ j ∧ j ≤ 18) → N2.1 a j = N.1 a j) (n11 : N2.1 4 11 = lf) (n12 : N2.1 4 12 = pl) (hlf : am_in lf 4) (hpl : pl = -1 ∨ am_in pl 5) (hy : am_in y 40) (hy0 : y0.toInt ≤ y.toInt) : z_lk (r_ld M pl y0) (c_look N2 y) p y (M.1 201 (3573 + (lf * 40 + y).toNatClampNeg)) 0 ∧ (c_look N2 y).1 4 18 = N2.1 4 13 := by
  have li := h.li
  have p1 := hp.1
  have l1 := hlf.1
  have l2 := hlf.2
  have y1 := hy.1
  have y2 := hy.2
  have cy := i_clamp y1
  have xx := x_40 (p := lf) (y := y) ⟨l1, by omega⟩ ⟨y1, by omega⟩
  have cxx := i_clamp (x := lf * 40 + y) (by omega)
  have lo : ∀ {a : Nat}, a ≠ 4 → a ≠ 5 → a ≠ 7 → a ≠ 8 → (c_look N2 y).1 a = M.1 a := fun h4 h5 h7 h8 => funext fun j => (c_look_1 (fun q => h4 q.1)).trans ((ni _ j h8 (fun q => h4 q.1)).trans (congrFun (hb.o h4 h5 h7) j))
  have e : c_look N2 y = am_wI (am_wI (am_wI N2 4 16 (N2.1 56 (N2.1 4 11 * 40 + y).toNatClampNeg)) 4 17 0) 4 18 (N2.1 4 13) := by
    unfold c_look
    rw [if_neg (fun q => by rw [n11] at q; rw [q] at l1; exact absurd l1 (by decide))]
  have lv : N2.1 56 (N2.1 4 11 * 40 + y).toNatClampNeg = M.1 201 (3573 + (lf * 40 + y).toNatClampNeg) := by
    have q := li.e (o := 36) (k0 := 0) (b0 := 3573) (n := 160) (by decide) (k := (lf * 40 + y).toNatClampNeg) (by omega)
    rw [Nat.zero_add] at q
    rw [n11, ni 56 _ (by decide) (fun q => absurd q.1 (by decide)), hb.o (by decide) (by decide) (by decide)]
    exact q
  refine ⟨⟨(), ⟨?_, fun l w hl hw => ?_, fun j hj => ?_, fun j hj => ?_⟩, ⟨?_, ?_⟩, fun l hl hl2 => ?_, fun pl' w hpl' hw => ?_, fun pl' hpl' => ?_, fun pl' w hpl' hw => ?_, ?_, ?_, ⟨by decide, by decide⟩, hy, r_ld_I li.i hpl⟩, ?_⟩
  · rw [lo (by decide) (by decide) (by decide) (by decide)]; exact li.w.2.1
  · rw [lo (by decide) (by decide) (by decide) (by decide), r_ld_1]
    have q := li.e (o := 14) (k0 := 0) (b0 := 2838) (n := 240) (by decide) (k := 8 * l + w) (by omega)
    rw [Nat.zero_add, ← Nat.add_assoc] at q
    exact q
  · rw [lo (by decide) (by decide) (by decide) (by decide), r_ld_1]
    have q := li.e (o := 9) (k0 := 0) (b0 := 514) (n := 4) (by decide) (k := j) hj
    rw [Nat.zero_add] at q
    exact q
  · rw [lo (by decide) (by decide) (by decide) (by decide), r_ld_1]
    have q := li.e (o := 10) (k0 := 0) (b0 := 518) (n := 40) (by decide) (k := j) hj
    rw [Nat.zero_add] at q
    exact q
  · rw [e, ← lv]
    rfl
  · rw [e]
    rfl
  · rw [r_ld_1] at hl2
    unfold am_pln
    rw [c_look_1 (fun q => absurd q.2 (by decide)), n12, lo (by decide) (by decide) (by decide) (by decide)]
    rcases hpl with z | z
    · rw [if_pos z, z, r_pl_n li.n7]
      exact li.pl hl hl2 hy
    · rw [if_neg (fun q => by have := z.1; rw [q] at this; exact absurd this (by decide)), r_pl_y z.1 hy0]
  · rw [c_look_1 (fun q => absurd q.1 (by decide)), ni 5 _ (by decide) (fun q => absurd q.1 (by decide)), r_inF_ld]
    have cc := c_cell hy hpl' hw
    have v := (hb.nm hn).v (y' := y.toNatClampNeg) (pl := pl'.toNatClampNeg) (w := w.toNatClampNeg) (g_cl hy) (g_cl hpl') (g_cl hw)
    rw [← cc.2, q_Fn, o_cl hpl' (by decide), o_cl hw (by decide), i_clamp y1] at v
    rw [v, li.inF hpl'.1]
    exact li.F hp _
  · have q := h.txs hpl'
    have e5 : t_n (c_look N2 y) (39 + 3 * pl'.toNatClampNeg) = t_n M (39 + 3 * pl'.toNatClampNeg) := by
      unfold t_n
      rw [lo (by omega) (by omega) (by omega) (by omega)]
    have sg : r_sg (r_ld M pl y0) pl' = r_sg M pl' := by unfold r_sg; rw [r_ld_1]
    have sn : r_sn (r_ld M pl y0) pl' = r_sn M pl' := by unfold r_sn; rw [r_ld_1]
    rw [lo (by omega) (by omega) (by omega) (by omega), e5, sg, sn]
    exact q
  · rw [r_inF_ld]
    exact li.nums hpl' hw
  · rw [r_ld_1]
    exact li.tok
  · have q := (li.v (k := 3573 + (lf * 40 + y).toNatClampNeg) (by omega)).a33 (by omega)
    omega
  · rw [e]
    rfl
end LXL
end
-- part 79zm.life2.lean.txt
section
/-! runs exact: a life: years of it in step -/
/-- a year of a life, the reference -/
def r_le (K : am_M) (lf : Int32) (y : Nat) : Int32 := K.1 201 (3573 + (lf * 40 + Int32.ofNat y).toNatClampNeg)
def r_ly (K : am_M) (p lf : Int32) (sum : Int64) (y0 : Nat) (y : Nat) (S : (Nat → Int64) × (Nat → Int32)) : (Nat → Int64) × (Nat → Int32) := r_Y K p (Int32.ofNat y) (r_le K lf y) 0 0 (if y = y0 then sum else 0) S
/-- in step within a life -/
def z_RL (K : am_M) (p dd : Int32) (y : Int) (s s' : Nat → Int64) (b : Nat → Int32) : Prop := ∀ l ∈ r_mine K p (r_n K), z_L s s' b l ∧ (¬ dd = 0 → ¬ b l.toNatClampNeg = 0) ∧ (¬ b l.toNatClampNeg = 0 → ¬ dd = 0 ∨ (r_lo K l 2).toInt < y)
section LXF
variable {i1 i2 : Bool} {M N N2 : am_M} {p k lf pl y0i dd : Int32}
theorem LX.lyr (h : LX i1 i2 M) (hp : am_in p 12) (hb : c_bg M p k N) (hn : c_mine M p (M.1 33 2).toNatClampNeg ≠ []) (ni : ∀ a j, a ≠ 8 → ¬ (a = 4 ∧ 10 ≤ j ∧ j ≤ 18) → N2.1 a j = N.1 a j) (n11 : N2.1 4 11 = lf) (n12 : N2.1 4 12 = pl) (n13 : N2.1 4 13 = dd) (hlf : am_in lf 4) (hpl : pl = -1 ∨ am_in pl 5) {n : Nat} (hn40 : n < 40) (hy0 : y0i.toInt ≤ (n : Int)) {s s' : Nat → Int64} {b : Nat → Int32} {due paid : Int64} (hd : 0 ≤ due.toInt) (R : z_RL (r_ld M pl y0i) p dd n s s' b) :
    z_RL (r_ld M pl y0i) p dd (n + 1) (c_yr N2 (Int32.ofNat n) (s, due, paid)).1 (r_Y (r_ld M pl y0i) p (Int32.ofNat n) (r_le (r_ld M pl y0i) lf n) 0 0 due (s', b)).1 (r_Y (r_ld M pl y0i) p (Int32.ofNat n) (r_le (r_ld M pl y0i) lf n) 0 0 due (s', b)).2 ∧ (c_yr N2 (Int32.ofNat n) (s, due, paid)).2.1 = 0 ∧ (c_yr N2 (Int32.ofNat n) (s, due, paid)).2.2 = paid + r_P (r_ld M pl y0i) p (Int32.ofNat n) (r_le (r_ld M pl y0i) lf n) 0 0 due (s', b) := by
  have n1 : 0 ≤ ((r_ld M pl y0i).1 201 1).toInt ∧ ((r_ld M pl y0i).1 201 1).toInt ≤ 30 := by rw [r_ld_1]; exact h.li.n1
  have cn : (r_n (r_ld M pl y0i) : Int) = ((r_ld M pl y0i).1 201 1).toInt := i_clamp n1.1
  have oy := o_nat (n := n) (by omega)
  have hy : am_in (Int32.ofNat n) 40 := ⟨by omega, by omega⟩
  obtain ⟨lk, d18⟩ := h.lkl hp hb hn ni n11 n12 hlf hpl hy (y0 := y0i) (by omega)
  rw [n13] at d18
  have el : M.1 201 (3573 + (lf * 40 + Int32.ofNat n).toNatClampNeg) = r_le (r_ld M pl y0i) lf n := by unfold r_le; rw [r_ld_1]
  rw [el] at lk
  have mK : r_mine (r_ld M pl y0i) p (r_n (r_ld M pl y0i)) = r_mine M p (r_n M) := r_mine_cg r_ld_1 p
  have msL : c_ms (c_look N2 (Int32.ofNat n)) (c_sz (c_look N2 (Int32.ofNat n))) = r_mine (r_ld M pl y0i) p (r_n (r_ld M pl y0i)) := by
    rw [c_look_ms, mK, ← h.li.mine, ← hb.ms]
    unfold c_ms c_sz
    rw [ni 4 7 (by decide) (fun q => absurd q.2.1 (by decide))]
    refine List.map_congr_left (fun j _ => ?_)
    rw [ni 7 _ (by decide) (fun q => absurd q.1 (by decide))]
  generalize r_ld M pl y0i = K at *
  have zin : ∀ l ∈ r_mine K p (r_n K), z_in K p l := fun l hl => r_mine_z n1 hl
  have Q0 : 0 < r_n K := by
    refine Nat.pos_of_ne_zero (fun q => hn ?_)
    rw [h.li.mine, ← mK]
    unfold r_mine
    rw [q]
    rfl
  have Y := z_year (ms := r_mine K p (r_n K)) (Q := z_pf (r_own K p) (r_of K p (Int32.ofNat n)) (r_n K) (10 * r_n K)) (stk := c_stk (c_look N2 (Int32.ofNat n)) (Int32.ofNat n)) (en := r_ends K (Int32.ofNat n) 0) (gr := c_gr (c_look N2 (Int32.ofNat n)) (Int32.ofNat n)) (cap := fun l o => r_cap o (r_rt K l (Int32.ofNat n) (r_le K lf n) 0 o)) (dr := fun l o => c_dr (c_look N2 (Int32.ofNat n)) l (Int32.ofNat n) o) (o1 := r_o1 K (Int32.ofNat n)) (dr' := r_dr K (Int32.ofNat n)) (f := c_of (c_look N2 (Int32.ofNat n)) (Int32.ofNat n)) (ask := c_ask (c_look N2 (Int32.ofNat n)) (Int32.ofNat n)) (ask' := r_due K (Int32.ofNat n) (r_le K lf n) 0) (sd := c_sd (c_look N2 (Int32.ofNat n)) (Int32.ofNat n)) (sd' := r_sd K (Int32.ofNat n)) (s := s) (s' := s') (b := b) (due := due) (paid := paid)
    (fun l hl => (zin l hl).1) (z_mine_nd (by omega)) (fun l hl => (R l hl).1)
    (fun l hl => lk.H (zin l hl) (fun q => by
      rcases (R l hl).2.2 q with w | w
      · exact Or.inl (by rw [d18]; exact w)
      · exact Or.inr (by rw [oy.1]; exact w)) (fun q => ⟨fun w => absurd q ((R l hl).2.1 (by rw [← d18]; exact w)), fun w => absurd rfl w⟩))
    (fun l hl => lk.ask (zin l hl)) (fun l hl => lk.sd (zin l hl).1) (fun l hl => (lk.of (zin l hl)).2)
    (by rw [z_pf_e Q0]; exact z_q_cg (fun l hl => (lk.of (zin l hl)).1.symm) 10) hd
  obtain ⟨Y1, Y2, Y3, Y4⟩ := Y
  have ec : c_yr N2 (Int32.ofNat n) = z_T (c_b (c_look N2 (Int32.ofNat n)) (Int32.ofNat n)) (c_of (c_look N2 (Int32.ofNat n)) (Int32.ofNat n)) (c_ask (c_look N2 (Int32.ofNat n)) (Int32.ofNat n)) (c_sd (c_look N2 (Int32.ofNat n)) (Int32.ofNat n)) (r_mine K p (r_n K)) := by
    unfold c_yr c_T
    rw [msL]
  rw [ec]
  refine ⟨fun l hl => ⟨Y1 l hl, fun q => (Y4 l hl).mpr (Or.inl ((R l hl).2.1 q)), fun q => ?_⟩, Y2, Y3⟩
  rcases (Y4 l hl).mp q with w | w
  · rcases (R l hl).2.2 w with w2 | w2
    · exact Or.inl w2
    · exact Or.inr (by omega)
  · rcases of_decide_eq_true w with w2 | w2
    · exact absurd rfl w2
    · have q2 := (lk.ye (zin l hl)).2 w2
      exact Or.inr (by omega)
end LXF
end
-- part 79zn.life3.lean.txt
section
/-! runs exact: a life: all its years -/
theorem z_rps_0 {b : Nat → Int32} : ∀ {Q : List Int32} {s : Nat → Int64}, Q.foldl (z_rp b) (s, 0) = (s, 0)
  | [], _ => rfl
  | x :: Q, s => by
    show Q.foldl (z_rp b) (z_rp b (s, 0) x) = (s, 0)
    have e : z_rp b (s, 0) x = (s, 0) := by
      unfold z_rp
      exact if_neg (fun q => absurd q.1 (show ¬ (0 : Int64) < 0 by decide))
    rw [e]
    exact z_rps_0
theorem r_P_0 {K : am_M} {p y e a d : Int32} {S : (Nat → Int64) × (Nat → Int32)} : r_P K p y e a d 0 S = 0 := by
  unfold r_P
  rw [z_rps_0]
  exact Int64.sub_self _
section LXF2
variable {i1 i2 : Bool} {M N N2 : am_M} {p k lf pl y0i dd : Int32}
theorem LX.life (h : LX i1 i2 M) (hp : am_in p 12) (hb : c_bg M p k N) (hn : c_mine M p (M.1 33 2).toNatClampNeg ≠ []) (ni : ∀ a j, a ≠ 8 → ¬ (a = 4 ∧ 10 ≤ j ∧ j ≤ 18) → N2.1 a j = N.1 a j) (n11 : N2.1 4 11 = lf) (n12 : N2.1 4 12 = pl) (n13 : N2.1 4 13 = dd) (hlf : am_in lf 4) (hpl : pl = -1 ∨ am_in pl 5) {y0 : Nat} (hy0 : y0i.toInt = (y0 : Int)) {sum : Int64} (hsum : 0 ≤ sum.toInt) {s0 : Nat → Int64} {S0 : (Nat → Int64) × (Nat → Int32)} (R0 : z_RL (r_ld M pl y0i) p dd (y0 : Int) s0 S0.1 S0.2) : ∀ n : Nat, y0 + n ≤ 40 →
    z_RL (r_ld M pl y0i) p dd ((y0 + n : Nat) : Int) (z_it (fun y => c_yr N2 (Int32.ofNat y)) y0 n (s0, sum, 0)).1 (z_it (r_ly (r_ld M pl y0i) p lf sum y0) y0 n S0).1 (z_it (r_ly (r_ld M pl y0i) p lf sum y0) y0 n S0).2 ∧ (z_it (fun y => c_yr N2 (Int32.ofNat y)) y0 n (s0, sum, 0)).2.1 = (if n = 0 then sum else 0) ∧ (z_it (fun y => c_yr N2 (Int32.ofNat y)) y0 n (s0, sum, 0)).2.2 = (if n = 0 then 0 else r_P (r_ld M pl y0i) p (Int32.ofNat y0) (r_le (r_ld M pl y0i) lf y0) 0 0 sum S0)
  | 0, _ => ⟨R0, (if_pos rfl).symm, (if_pos rfl).symm⟩
  | n + 1, hle => by
    obtain ⟨ih, j1, j2⟩ := LX.life h hp hb hn ni n11 n12 n13 hlf hpl hy0 hsum R0 n (by omega)
    have hS : n = 0 → z_it (r_ly (r_ld M pl y0i) p lf sum y0) y0 n S0 = S0 := by rintro rfl; rfl
    show z_RL (r_ld M pl y0i) p dd ((y0 + (n + 1) : Nat) : Int) (c_yr N2 (Int32.ofNat (y0 + n)) (z_it (fun y => c_yr N2 (Int32.ofNat y)) y0 n (s0, sum, 0))).1 (r_ly (r_ld M pl y0i) p lf sum y0 (y0 + n) (z_it (r_ly (r_ld M pl y0i) p lf sum y0) y0 n S0)).1 (r_ly (r_ld M pl y0i) p lf sum y0 (y0 + n) (z_it (r_ly (r_ld M pl y0i) p lf sum y0) y0 n S0)).2 ∧ (c_yr N2 (Int32.ofNat (y0 + n)) (z_it (fun y => c_yr N2 (Int32.ofNat y)) y0 n (s0, sum, 0))).2.1 = (if n + 1 = 0 then sum else 0) ∧ (c_yr N2 (Int32.ofNat (y0 + n)) (z_it (fun y => c_yr N2 (Int32.ofNat y)) y0 n (s0, sum, 0))).2.2 = (if n + 1 = 0 then 0 else r_P (r_ld M pl y0i) p (Int32.ofNat y0) (r_le (r_ld M pl y0i) lf y0) 0 0 sum S0)
    generalize z_it (fun y => c_yr N2 (Int32.ofNat y)) y0 n (s0, sum, 0) = C at ih j1 j2 ⊢
    generalize z_it (r_ly (r_ld M pl y0i) p lf sum y0) y0 n S0 = S at ih hS ⊢
    obtain ⟨s, due, paid⟩ := C
    have j1 : due = (if n = 0 then sum else 0) := j1
    have j2 : paid = (if n = 0 then 0 else r_P (r_ld M pl y0i) p (Int32.ofNat y0) (r_le (r_ld M pl y0i) lf y0) 0 0 sum S0) := j2
    have hd : 0 ≤ due.toInt := by
      rw [j1]
      split
      · exact hsum
      · decide
    have st := h.lyr hp hb hn ni n11 n12 n13 hlf hpl (n := y0 + n) (by omega) (by omega) (paid := paid) hd ih
    have er : r_ly (r_ld M pl y0i) p lf sum y0 (y0 + n) S = r_Y (r_ld M pl y0i) p (Int32.ofNat (y0 + n)) (r_le (r_ld M pl y0i) lf (y0 + n)) 0 0 due S := by
      unfold r_ly
      rw [j1]
      by_cases z : n = 0
      · rw [if_pos z, if_pos (by omega)]
      · rw [if_neg z, if_neg (by omega)]
    rw [er, if_neg (by omega), if_neg (by omega)]
    refine ⟨st.1, st.2.1, st.2.2.trans ?_⟩
    by_cases z : n = 0
    · rw [j1, j2, if_pos z, if_pos z, Int64.zero_add]
      subst z
      have e := hS rfl
      subst e
      rfl
    · rw [j1, j2, if_neg z, if_neg z]
      exact (congrArg (fun x => _ + x) r_P_0).trans (Int64.add_zero _)
end LXF2
end
