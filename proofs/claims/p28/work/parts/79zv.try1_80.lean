-- part 79zv.try1.lean.txt
section
/-! runs exact: with a number tried: class and reference in step -/
section ZRUN
variable {M N : am_M} {p k : Int32}
theorem z_run (n1 : 0 ≤ (M.1 201 1).toInt ∧ (M.1 201 1).toInt ≤ 30) (hms : c_ms N (c_sz N) = r_mine M p (r_n M)) (z0 : z_00 (N.2 6) (r_mine M p (r_n M))) (f14 : N.2 4 14 = 0) (f15 : N.2 4 15 = 0) (hlk : r_mine M p (r_n M) ≠ [] → ∀ y, am_in y 40 → z_lk M (c_look N y) p y (r_known M p y k) (r_la M p y) ∧ (c_look N y).1 4 18 = r_dd M p y) : ∀ n : Nat, n ≤ 40 →
    z_RR M p n (z_it (fun y => c_yr N (Int32.ofNat y)) 0 n (c_st N)).1 (z_it (r_yr M p k) 0 n z_00s).1 (z_it (r_yr M p k) 0 n z_00s).2 ∧ (z_it (fun y => c_yr N (Int32.ofNat y)) 0 n (c_st N)).2 = (0, 0)
  | 0, _ => by
    refine ⟨fun l hl => ⟨⟨fun w hw => ?_, ?_, fun q => absurd rfl q⟩, fun q => ?_, fun q => absurd rfl q⟩, ?_⟩
    · exact z0.v hl hw
    · have q := z0.v hl (w := 0) (by decide)
      rw [Nat.mul_zero, Nat.zero_add] at q
      show z_ok (N.2 6 l.toNatClampNeg)
      rw [q]
      have k0 : (0 : Int64).toInt = 0 := rfl
      exact ⟨by rw [k0]; omega, by rw [k0]; omega⟩
    · have q1 := q.1
      have q2 := q.2
      rw [i_lt, Int32.toInt_zero] at q1
      omega
    · exact Prod.ext f14 f15
  | n + 1, hn => by
    obtain ⟨ih, ih2⟩ := z_run n1 hms z0 f14 f15 hlk n (by omega)
    have cn : (r_n M : Int) = (M.1 201 1).toInt := i_clamp n1.1
    have oy := o_nat (n := n) (by omega)
    have hy : am_in (Int32.ofNat n) 40 := ⟨by omega, by omega⟩
    show z_RR M p (n + 1 : Nat) (c_yr N (Int32.ofNat (0 + n)) (z_it (fun y => c_yr N (Int32.ofNat y)) 0 n (c_st N))).1 (r_yr M p k (0 + n) (z_it (r_yr M p k) 0 n z_00s)).1 (r_yr M p k (0 + n) (z_it (r_yr M p k) 0 n z_00s)).2 ∧ (c_yr N (Int32.ofNat (0 + n)) (z_it (fun y => c_yr N (Int32.ofNat y)) 0 n (c_st N))).2 = (0, 0)
    rw [Nat.zero_add]
    generalize z_it (fun y => c_yr N (Int32.ofNat y)) 0 n (c_st N) = C at ih ih2 ⊢
    generalize z_it (r_yr M p k) 0 n z_00s = S at ih ⊢
    obtain ⟨s, due, paid⟩ := C
    obtain ⟨s', b⟩ := S
    have ih2 : (due, paid) = (0, 0) := ih2
    have d0 : due = 0 := congrArg Prod.fst ih2
    have p0 : paid = 0 := congrArg Prod.snd ih2
    subst d0 p0
    by_cases hne : r_mine M p (r_n M) = []
    · refine ⟨fun l hl => ?_, ?_⟩
      · rw [hne] at hl
        exact absurd hl List.not_mem_nil
      · unfold c_yr c_T z_T
        dsimp only
        rw [if_neg (show ¬ (0 : Int64) < 0 by decide), if_neg (show ¬ (0 : Int64) < 0 by decide)]
    · obtain ⟨lk, dd⟩ := hlk hne _ hy
      have msL : c_ms (c_look N (Int32.ofNat n)) (c_sz (c_look N (Int32.ofNat n))) = r_mine M p (r_n M) := by
        rw [c_look_ms, hms]
      have zin : ∀ l ∈ r_mine M p (r_n M), z_in M p l := fun l hl => r_mine_z n1 hl
      have dn : ¬ (c_look N (Int32.ofNat n)).1 4 18 = 0 ↔ ¬ r_dd M p (Int32.ofNat n) = 0 := by rw [dd]
      have dv : ¬ r_dd M p (Int32.ofNat n) = 0 ↔ r_da M p ((n + 1 : Nat) : Int) := by
        unfold r_dd r_da
        by_cases z : M.1 201 (22 + p).toNatClampNeg < 0
        · rw [if_pos z]
          exact ⟨fun q => absurd rfl q, fun q => absurd z q.1⟩
        · rw [if_neg z]
          by_cases w : Int32.ofNat n < M.1 201 (22 + p).toNatClampNeg
          · rw [if_pos w]
            rw [i_lt] at w
            exact ⟨fun q => absurd rfl q, fun q => by have := q.2; omega⟩
          · rw [if_neg w]
            rw [i_lt] at w
            exact ⟨fun _ => ⟨z, by omega⟩, fun _ => by decide⟩
      have dm : r_da M p (n : Int) → r_da M p ((n + 1 : Nat) : Int) := fun q => ⟨q.1, by have := q.2; omega⟩
      have Q0 : 0 < r_n M := by
        refine Nat.pos_of_ne_zero (fun q => hne ?_)
        unfold r_mine
        rw [q]
        rfl
      have Y := z_year (ms := r_mine M p (r_n M)) (Q := z_pf (r_own M p) (r_of M p (Int32.ofNat n)) (r_n M) (10 * r_n M)) (stk := c_stk (c_look N (Int32.ofNat n)) (Int32.ofNat n)) (en := r_ends M (Int32.ofNat n) (r_dd M p (Int32.ofNat n))) (gr := c_gr (c_look N (Int32.ofNat n)) (Int32.ofNat n)) (cap := fun l o => r_cap o (r_rt M l (Int32.ofNat n) (r_known M p (Int32.ofNat n) k) (r_la M p (Int32.ofNat n)) o)) (dr := fun l o => c_dr (c_look N (Int32.ofNat n)) l (Int32.ofNat n) o) (o1 := r_o1 M (Int32.ofNat n)) (dr' := r_dr M (Int32.ofNat n)) (f := c_of (c_look N (Int32.ofNat n)) (Int32.ofNat n)) (ask := c_ask (c_look N (Int32.ofNat n)) (Int32.ofNat n)) (ask' := r_due M (Int32.ofNat n) (r_known M p (Int32.ofNat n) k) (r_la M p (Int32.ofNat n))) (sd := c_sd (c_look N (Int32.ofNat n)) (Int32.ofNat n)) (sd' := r_sd M (Int32.ofNat n)) (s := s) (s' := s') (b := b) (due := 0) (paid := 0)
        (fun l hl => (zin l hl).1) (z_mine_nd (by omega)) (fun l hl => (ih l hl).1)
        (fun l hl => lk.H (zin l hl) (fun q => by
          rcases (ih l hl).2.2 q with w | w
          · exact Or.inl (dn.mpr (dv.mpr (dm w)))
          · exact Or.inr (by rw [oy.1]; exact w)) (fun _ => dn))
        (fun l hl => lk.ask (zin l hl)) (fun l hl => lk.sd (zin l hl).1) (fun l hl => (lk.of (zin l hl)).2)
        (by rw [z_pf_e Q0]; exact z_q_cg (fun l hl => (lk.of (zin l hl)).1.symm) 10) (by decide)
      obtain ⟨Y1, Y2, Y3, Y4⟩ := Y
      have ec : c_yr N (Int32.ofNat n) = z_T (c_b (c_look N (Int32.ofNat n)) (Int32.ofNat n)) (c_of (c_look N (Int32.ofNat n)) (Int32.ofNat n)) (c_ask (c_look N (Int32.ofNat n)) (Int32.ofNat n)) (c_sd (c_look N (Int32.ofNat n)) (Int32.ofNat n)) (r_mine M p (r_n M)) := by
        unfold c_yr c_T
        rw [msL]
      rw [ec]
      refine ⟨fun l hl => ⟨Y1 l hl, fun q => (Y4 l hl).mpr ?_, fun q => ?_⟩, ?_⟩
      · exact Or.inr (decide_eq_true (Or.inl (dv.mpr q)))
      · rcases (Y4 l hl).mp q with w | w
        · rcases (ih l hl).2.2 w with w2 | w2
          · exact Or.inl (dm w2)
          · exact Or.inr (by omega)
        · rcases of_decide_eq_true w with w2 | w2
          · exact Or.inl (dv.mp w2)
          · have q2 := (lk.ye (zin l hl)).2 w2
            exact Or.inr (by omega)
      · unfold z_T
        dsimp only
        rw [if_neg (show ¬ (0 : Int64) < 0 by decide), if_neg (show ¬ (0 : Int64) < 0 by decide)]
end ZRUN
/-- the class's memory while a number is tried: an act more than is told -/
def LT (i1 i2 : Bool) (M0 : am_M) (pl w v f : Int32) (M : am_M) : Prop := ∃ _ : Unit, LX i1 i2 M0 ∧ (am_in pl 5 ∧ am_in w 6 ∧ am_isNum w v ∧ am_in f 40) ∧ g_sc (am_addAct M0 pl w v f 0 39) M ∧ g_rI M
section LTT
variable {i1 i2 : Bool} {M0 M N N2 : am_M} {pl w v f p : Int32}
theorem LT.x (h : LT i1 i2 M0 pl w v f M) : LX i1 i2 M0 := by obtain ⟨-, h, -⟩ := h; exact h
theorem LT.a (h : LT i1 i2 M0 pl w v f M) : am_in pl 5 ∧ am_in w 6 ∧ am_isNum w v ∧ am_in f 40 := by obtain ⟨-, -, h, -⟩ := h; exact h
theorem LT.sc (h : LT i1 i2 M0 pl w v f M) : g_sc (am_addAct M0 pl w v f 0 39) M := by obtain ⟨-, -, -, h, -⟩ := h; exact h
theorem LT.g (h : LT i1 i2 M0 pl w v f M) : g_rI M := by obtain ⟨-, -, -, -, h⟩ := h; exact h
theorem LT.on (h : LT i1 i2 M0 pl w v f M) (c : g_sc M N) (r : g_rI N) : LT i1 i2 M0 pl w v f N := ⟨(), h.x, h.a, h.sc.tr c, r⟩
theorem LT.o (h : LT i1 i2 M0 pl w v f M) {a : Nat} (ha : 11 ≤ a) (h31 : a ≠ 31) (h32 : a ≠ 32) : M.1 a = M0.1 a := funext fun b => (h.sc.i b ha).trans (g_addAct_o h.x.li.h (Or.inl h31) (fun q => absurd q h32))
theorem LT.s (h : LT i1 i2 M0 pl w v f M) : (M.1 31 2).toNatClampNeg = (M0.1 201 2).toNatClampNeg + 1 ∧ (M.1 31 2).toInt = (M0.1 201 2).toInt + 1 ∧ M.1 31 1 = 6 := by
  have e : M.1 31 2 = M0.1 31 2 + 1 := (h.sc.i 2 (by decide)).trans (g_addAct_s h.x.li.h)
  have e1 : M.1 31 1 = M0.1 31 1 := (h.sc.i 1 (by decide)).trans (g_addAct_o h.x.li.h (Or.inr (by decide)) (fun q => absurd q (by decide)))
  have n2 := h.x.li.n2
  have c := i_clamp n2.1
  rw [h.x.li.e2] at e
  have hi := i_inc (x := M0.1 201 2) (by omega) (by omega)
  have c1 := i_clamp (x := M0.1 201 2 + 1) (by omega)
  rw [e, e1, h.x.li.w.1]
  exact ⟨by omega, by omega, rfl⟩
theorem LT.A (h : LT i1 i2 M0 pl w v f M) {k : Nat} (hk : k < 6 * (M0.1 201 2).toNatClampNeg) : M.1 32 k = r_A M0 k := by
  have e : M.1 32 k = M0.1 32 k := (h.sc.i k (by decide)).trans (g_addAct_o h.x.li.h (Or.inl (by decide)) (fun _ => by rw [h.x.li.e2]; exact hk))
  rw [e]
  exact h.x.li.acts hk
theorem LT.row (h : LT i1 i2 M0 pl w v f M) : M.1 32 (6 * (M0.1 201 2).toNatClampNeg) = pl ∧ M.1 32 (6 * (M0.1 201 2).toNatClampNeg + 1) = w ∧ M.1 32 (6 * (M0.1 201 2).toNatClampNeg + 2) = v ∧ M.1 32 (6 * (M0.1 201 2).toNatClampNeg + 3) = f ∧ M.1 32 (6 * (M0.1 201 2).toNatClampNeg + 4) = 0 ∧ M.1 32 (6 * (M0.1 201 2).toNatClampNeg + 5) = 39 := by
  have hh := h.x.li.h
  have e2 := h.x.li.e2
  have g : ∀ k, M.1 32 k = (am_addAct M0 pl w v f 0 39).1 32 k := fun k => h.sc.i k (by decide)
  rw [g, g, g, g, g, g, g_addAct hh.ac.1 hh.ac.2.1 hh.ac.2.2, e2]
  simp only [am_wI_1]
  refine ⟨?_, ?_, ?_, ?_, ?_, ?_⟩
  all_goals
    repeat rw [if_neg (by intro q; have q1 := q.1; have q2 := q.2; omega)]
    first
      | rfl
      | (rw [if_pos ⟨trivial, by omega⟩])
      | (rw [if_pos (by omega)])
      | (rw [if_pos ⟨by decide, by omega⟩])
theorem LT.cA (h : LT i1 i2 M0 pl w v f M) : c_A M := by
  have hs := h.s
  have n2 := h.x.li.n2
  have c := i_clamp n2.1
  have a := h.x.li.cA
  refine ⟨(), hs.2.2, ⟨by omega, by omega⟩, fun i hi => ?_⟩
  have r := h.row
  by_cases z : i = (M0.1 201 2).toNatClampNeg
  · rw [z, r.1, r.2.1, r.2.2.2.1]
    exact ⟨h.a.1, h.a.2.1, h.a.2.2.2.1⟩
  · have lt : i < (M0.1 201 2).toNatClampNeg := by omega
    have q := a.a (i := i) (by rw [h.x.li.e2]; omega)
    rw [h.x.li.acts (k := 6 * i) (by omega), h.x.li.acts (k := 6 * i + 1) (by omega), h.x.li.acts (k := 6 * i + 3) (by omega)] at q
    rw [h.A (k := 6 * i) (by omega), h.A (k := 6 * i + 1) (by omega), h.A (k := 6 * i + 3) (by omega)]
    exact q
theorem LT.t0 (h : LT i1 i2 M0 pl w v f M) : t_b M 20 := h.x.t0.kt (Or.inl rfl) ⟨(), fun a k z => by
  have q := x_tb_lt z
  rw [h.o (by omega) (by omega) (by omega)]⟩
theorem LT.F (h : LT i1 i2 M0 pl w v f M) (hp : am_in p 12) (pl' w' : Int32) (y : Int32) : q_F (M.1 32) (M.1 31 2).toNatClampNeg (M.1 22 p.toNatClampNeg) pl' w' y.toInt = r_inF (r_tr M0 pl w v f) pl' w' p y := by
  have r := h.row
  have gp := g_cl hp
  have eb : M.1 22 p.toNatClampNeg = M0.1 201 (10 + p.toNatClampNeg) := by
    rw [h.o (by decide) (by decide) (by decide)]
    exact h.x.li.bg hp
  have bg := (h.x.li.v (k := 10 + p.toNatClampNeg) (by omega)).a6 ⟨by omega, by omega⟩
  rw [h.s.1, eb, r_tr_F]
  exact q_F_try (fun k hk => h.A hk) r.1 r.2.1 r.2.2.1 r.2.2.2.1 r.2.2.2.2.1 r.2.2.2.2.2 bg
theorem LT.num (h : LT i1 i2 M0 pl w v f M) {pl' w' y : Int32} (hpl : am_in pl' 5) (hw : am_in w' 6) : am_isNum w' (r_inF (r_tr M0 pl w v f) pl' w' p y) := by
  rw [r_tr_F]
  split
  · next q =>
    rw [← q.2.1]
    exact h.a.2.2.1
  · have q := h.x.li.nums (p := p) (y := y) hpl hw
    rw [h.x.li.inF hpl.1] at q
    exact q
theorem LT.mine (h : LT i1 i2 M0 pl w v f M) : c_mine M p (M.1 33 2).toNatClampNeg = r_mine (r_tr M0 pl w v f) p (r_n (r_tr M0 pl w v f)) := by
  have e : r_mine (r_tr M0 pl w v f) p (r_n (r_tr M0 pl w v f)) = r_mine M0 p (r_n M0) := r_mine_cg r_tr_1 p
  rw [e, ← h.x.li.mine]
  unfold c_mine c_own am_loanAt
  rw [h.o (show 11 ≤ 33 by decide) (by decide) (by decide), h.o (show 11 ≤ 34 by decide) (by decide) (by decide)]
theorem LT.lk (h : LT i1 i2 M0 pl w v f M) (hp : am_in p 12) (hp2 : p.toInt < (M0.1 201 0).toInt) {k : Int32} (hk : am_in k 40) (hb : c_bg M p k N) (hn : c_mine M p (M.1 33 2).toNatClampNeg ≠ []) {y : Int32} (hy : am_in y 40) : z_lk (r_tr M0 pl w v f) (c_look N y) p y (r_known (r_tr M0 pl w v f) p y k) (r_la (r_tr M0 pl w v f) p y) ∧ (c_look N y).1 4 18 = r_dd (r_tr M0 pl w v f) p y := by
  have li := h.x.li
  obtain ⟨⟨f8, f9⟩, f10, f11, f12, -, -⟩ := hb.f
  have p1 := hp.1
  have p2 := hp.2
  have y1 := hy.1
  have y2 := hy.2
  have cp := i_clamp p1
  have cy := i_clamp y1
  have xx := x_40 (p := p) (y := y) ⟨p1, by omega⟩ ⟨y1, by omega⟩
  have cxx := i_clamp (x := p * 40 + y) (by omega)
  have nb : ∀ {a : Nat}, 11 ≤ a → a ≠ 31 → a ≠ 32 → N.1 a = M0.1 a := fun ha h31 h32 => (hb.o (by omega) (by omega) (by omega)).trans (h.o ha h31 h32)
  have lo : ∀ {a : Nat}, 11 ≤ a → a ≠ 31 → a ≠ 32 → (c_look N y).1 a = M0.1 a := fun ha h31 h32 => (funext fun j => c_look_1 (fun q => by have := q.1; omega)).trans (nb ha h31 h32)
  have ek : r_known (r_tr M0 pl w v f) p y k = r_known M0 p y k := by unfold r_known; rw [r_tr_1]
  have el : r_la (r_tr M0 pl w v f) p y = r_la M0 p y := by unfold r_la; rw [r_tr_1]
  have ed : r_dd (r_tr M0 pl w v f) p y = r_dd M0 p y := by unfold r_dd; rw [r_tr_1]
  rw [ek, el, ed]
  have e : c_look N y = am_wI (am_wI (am_wI N 4 16 (am_earn N (p * 40 + y) k)) 4 17 (N.1 24 (p * 40 + y).toNatClampNeg)) 4 18 (if N.1 23 p.toNatClampNeg ≠ -1 ∧ N.1 23 p.toNatClampNeg ≤ y then 1 else 0) := by
    unfold c_look
    rw [if_pos f11, f8, f9]
  have ear : am_earn N (p * 40 + y) k = am_earn M0 (p * 40 + y) k := by
    unfold am_earn
    rw [nb (show 11 ≤ 28 by decide) (by decide) (by decide), nb (show 11 ≤ 27 by decide) (by decide) (by decide), nb (show 11 ≤ 26 by decide) (by decide) (by decide), nb (show 11 ≤ 25 by decide) (by decide) (by decide)]
  have lnd : M0.1 24 (p * 40 + y).toNatClampNeg = r_la M0 p y := by
    have q := li.e (o := 4) (k0 := 0) (b0 := 34) (n := 480) (by decide) (k := (p * 40 + y).toNatClampNeg) (by omega)
    rw [Nat.zero_add] at q
    have e40 := r_mul (c := 40) (x := p) ⟨by decide, by decide⟩ ⟨by omega, by omega⟩
    simp only [Int32.reduceToInt] at e40
    have ea := r_off (c := 34) (x := 40 * p) ⟨by decide, by decide⟩ ⟨by omega, by omega⟩
    simp only [e40, Int32.reduceToInt] at ea
    have eb := r_off (c := 34 + 40 * p) (x := y) ⟨by omega, by omega⟩ ⟨by omega, by omega⟩
    have cb := i_clamp (x := 34 + 40 * p + y) (by omega)
    unfold r_la
    rw [show (34 + 40 * p + y).toNatClampNeg = 34 + (p * 40 + y).toNatClampNeg by omega]
    exact q
  have rla : am_in (r_la M0 p y) 4 := by
    rw [← lnd]
    exact li.g.t.ld (by omega)
  have died : M0.1 23 p.toNatClampNeg = M0.1 201 (22 + p).toNatClampNeg := by
    have q := li.e (o := 3) (k0 := 0) (b0 := 22) (n := 12) (by decide) (k := p.toNatClampNeg) (by omega)
    rw [Nat.zero_add] at q
    rw [x_off (c := 22) (cn := 22) rfl (x := p) ⟨p1, by omega⟩ (by decide)]
    exact q
  have dr := (li.v (k := (22 + p).toNatClampNeg) (by rw [x_off (c := 22) (cn := 22) rfl (x := p) ⟨p1, by omega⟩ (by decide)]; omega)).a7 (by rw [x_off (c := 22) (cn := 22) rfl (x := p) ⟨p1, by omega⟩ (by decide)]; omega)
  refine ⟨⟨(), ⟨?_, fun l w hl hw => ?_, fun j hj => ?_, fun j hj => ?_⟩, ⟨?_, ?_⟩, fun l hl hl2 => ?_, fun pl' w' hpl hw => ?_, fun pl' hpl => ?_, fun pl' w' hpl hw => h.num hpl hw, ?_, li.kr hp hy, rla, hy, r_tr_I li.i⟩, ?_⟩
  · rw [lo (by decide) (by decide) (by decide)]; exact li.w.2.1
  · rw [lo (by decide) (by decide) (by decide), r_tr_1]
    have q := li.e (o := 14) (k0 := 0) (b0 := 2838) (n := 240) (by decide) (k := 8 * l + w) (by omega)
    rw [Nat.zero_add, ← Nat.add_assoc] at q
    exact q
  · rw [lo (by decide) (by decide) (by decide), r_tr_1]
    have q := li.e (o := 9) (k0 := 0) (b0 := 514) (n := 4) (by decide) (k := j) hj
    rw [Nat.zero_add] at q
    exact q
  · rw [lo (by decide) (by decide) (by decide), r_tr_1]
    have q := li.e (o := 10) (k0 := 0) (b0 := 518) (n := 40) (by decide) (k := j) hj
    rw [Nat.zero_add] at q
    exact q
  · rw [e]
    show am_earn N (p * 40 + y) k = _
    rw [ear]
    exact li.erk hp hp2 hy hk
  · rw [e]
    show N.1 24 (p * 40 + y).toNatClampNeg = _
    rw [nb (show 11 ≤ 24 by decide) (by decide) (by decide)]
    exact lnd
  · rw [r_tr_1] at hl2
    unfold am_pln
    rw [c_look_1 (fun q => absurd q.2 (by decide)), f12, if_pos rfl, lo (by decide) (by decide) (by decide), r_tr_pl]
    exact li.pl hl hl2 hy
  · rw [c_look_1 (fun q => absurd q.1 (by decide))]
    have cc := c_cell hy hpl hw
    have v := (hb.nm hn).v (y' := y.toNatClampNeg) (pl := pl'.toNatClampNeg) (w := w'.toNatClampNeg) (g_cl hy) (g_cl hpl) (g_cl hw)
    rw [← cc.2, q_Fn, o_cl hpl (by decide), o_cl hw (by decide), i_clamp y1] at v
    rw [v]
    exact h.F hp _ _ _
  · have q := h.x.txs hpl
    have e5 : t_n (c_look N y) (39 + 3 * pl'.toNatClampNeg) = t_n M0 (39 + 3 * pl'.toNatClampNeg) := by
      unfold t_n
      rw [lo (by omega) (by omega) (by omega)]
    have sg : r_sg (r_tr M0 pl w v f) pl' = r_sg M0 pl' := by unfold r_sg; rw [r_tr_1]
    have sn : r_sn (r_tr M0 pl w v f) pl' = r_sn M0 pl' := by unfold r_sn; rw [r_tr_1]
    rw [lo (by omega) (by omega) (by omega), e5, sg, sn]
    exact q
  · rw [r_tr_1]
    exact li.tok
  · rw [e]
    show (if N.1 23 p.toNatClampNeg ≠ -1 ∧ N.1 23 p.toNatClampNeg ≤ y then (1 : Int32) else 0) = _
    rw [nb (show 11 ≤ 23 by decide) (by decide) (by decide), died]
    unfold r_dd
    have n1 := neg1 dr.1
    by_cases z : M0.1 201 (22 + p).toNatClampNeg < 0
    · rw [if_pos z, if_neg (fun q => q.1 (n1.mpr z))]
    · rw [if_neg z]
      by_cases w : y < M0.1 201 (22 + p).toNatClampNeg
      · rw [if_pos w, if_neg (fun q => by have q2 := q.2; rw [i_le] at q2; rw [i_lt] at w; omega)]
      · rw [if_neg w, if_pos ⟨fun q => z (n1.mp q), by rw [i_le]; rw [i_lt] at w; omega⟩]
theorem LT.coa (h : LT i1 i2 M0 pl w v f M) (hp : am_in p 12) (hp2 : p.toInt < (M0.1 201 0).toInt) {k : Int32} (hk : am_in k 40) (hb : c_bg M p k N) (hN : g_rI N) : c_oa N := by
  refine ⟨(), fun y hy => ⟨(), fun i hi => ?_⟩⟩
  have n1 : 0 ≤ ((r_tr M0 pl w v f).1 201 1).toInt ∧ ((r_tr M0 pl w v f).1 201 1).toInt ≤ 30 := by rw [r_tr_1]; exact h.x.li.n1
  rw [c_look_1 (fun q => absurd q.2 (by decide))] at hi
  have sz := hN.s.sz
  have cs : (c_sz N : Int) = (N.1 4 7).toInt := i_clamp sz.1
  have hm : N.1 7 i ∈ r_mine (r_tr M0 pl w v f) p (r_n (r_tr M0 pl w v f)) := by
    rw [← h.mine, ← hb.ms]
    exact List.mem_map.mpr ⟨i, List.mem_range.mpr (by omega), rfl⟩
  have hne : c_mine M p (M.1 33 2).toNatClampNeg ≠ [] := fun q => by
    rw [← h.mine, q] at hm
    exact absurd hm List.not_mem_nil
  obtain ⟨lk, -⟩ := h.lk hp hp2 hk hb hne hy
  have zi := r_mine_z n1 hm
  rw [c_look_1 (fun q => absurd q.1 (by decide)), lk.cell zi ⟨by decide, by decide⟩]
  exact (z_isNum (lk.cr zi (w := 4) ⟨by decide, by decide⟩)).2.2.2.2.1 rfl
theorem LT.roa (h : LT i1 i2 M0 pl w v f M) : r_oa (r_tr M0 pl w v f) p := ⟨(), fun y _ => ⟨(), fun q hq => (z_isNum (h.num (p := p) (y := y) hq ⟨by decide, by decide⟩)).2.2.2.2.1 rfl⟩⟩
/-- what a person's loans are taken of, a number tried -/
theorem LT.tg (h : LT i1 i2 M0 pl w v f M) (hp : am_in p 12) (hp2 : p.toInt < (M0.1 201 0).toInt) {k : Int32} (hk : am_in k 40) (hb : c_bg M p k N) {u : Int32} (hu : -1 ≤ u.toInt ∧ u.toInt ≤ 39) (gn : c_gn N N2) (hs : c_st N2 = z_it (fun y => c_yr N (Int32.ofNat y)) (N.1 4 10).toNatClampNeg (c_nn (N.1 4 10) u) (c_st N)) {x : Nat} (hx : x < 6) : z_tog (N2.2 6) (30 * x) (c_ms N2 (c_sz N2)) = z_tog (r_R (r_tr M0 pl w v f) p k (u.toInt + 1).toNat).1 (30 * x) (r_mine M0 p (r_n M0)) := by
  have mK : r_mine (r_tr M0 pl w v f) p (r_n (r_tr M0 pl w v f)) = r_mine M0 p (r_n M0) := r_mine_cg r_tr_1 p
  obtain ⟨-, f10, -, -, f14, f15⟩ := hb.f
  have en : c_nn (N.1 4 10) u = (u.toInt + 1).toNat := by
    rw [f10]
    unfold c_nn
    rw [if_pos hu.2, Int32.toInt_zero, Int.sub_zero]
  have e0 : (N.1 4 10).toNatClampNeg = 0 := by rw [f10]; rfl
  rw [en, e0] at hs
  have R := z_run (M := r_tr M0 pl w v f) (N := N) (p := p) (k := k) (by rw [r_tr_1]; exact h.x.li.n1) (hb.ms.trans h.mine) (by rw [← h.mine]; exact hb.z0) f14 f15 (fun hne y hy => h.lk hp hp2 hk hb (by rw [h.mine]; exact hne) hy) (u.toInt + 1).toNat (by omega)
  rw [← hs] at R
  have em : c_ms N2 (c_sz N2) = r_mine M0 p (r_n M0) := by
    rw [← mK, ← h.mine, ← hb.ms]
    unfold c_ms c_sz
    rw [gn.i (by decide) (fun q => absurd q.2 (by decide))]
    refine List.map_congr_left (fun j _ => ?_)
    rw [gn.i (by decide) (fun q => absurd q.1 (by decide))]
  rw [em]
  unfold z_tog
  exact z_tog_cg (fun l hl => (R.1 l (by rw [mK]; exact hl)).1.1 x hx)
end LTT
def kX7_takenIfE (live : am_E) (Ret : am_R) : am_code := [(0, am_aload 0 1), (1, am_getR live 7 0 4), (4, am_iload 1 5), (5, am_iload 2 6), (6, am_iload 3 7), (7, am_iload 4 9), (9, am_const (.int 0) 10), (10, am_const (.int 39) 12), (12, am_callV live 0 6 TX0_addAct 15), (15, am_pop 16), (16, am_const (.long 0) 17), (17, am_lstore 6 9 19), (19, am_const (.int 0) 20), (20, am_istore 8 9 22), (22, am_iload 8 24), (24, am_aload 0 25), (25, am_getR live 7 0 28), (28, am_getR live 0 0 31), (31, am_getI live 2 7 34), (34, am_if2 (fun x y => y ≤ x) 76 37), (37, am_aload 0 38), (38, am_getR live 7 2 41), (41, am_iload 8 43), (43, am_const (.int 39) 45), (45, am_callV live 4 2 TE4_begin 48), (48, am_aload 0 49), (49, am_getR live 7 2 52), (52, am_iload 5 54), (54, am_callV live 4 1 TE4_go 57), (57, am_lload 6 59), (59, am_aload 0 60), (60, am_getR live 7 2 63), (63, am_const (.int 1) 64), (64, am_callV live 4 1 TE4_together 67), (67, am_l2 (fun x y => x + y) 68), (68, am_lstore 6 9 70), (70, am_iinc 8 9 1 73), (73, am_goto 22), (76, am_aload 0 77), (77, am_getR live 7 0 80), (80, am_getR live 0 3 83), (83, am_callV live 3 0 TX3_dropLast 86), (86, am_lload 6 88), (88, am_retL Ret)]
theorem koX7_takenIfE (live : am_E) (Ret : am_R) : ∀ q ∈ kX7_takenIfE live Ret, am_ok RX7 cX7_takenIf 9 (some .long) 5 124 live Ret q.1 q.2 :=
  am_kz dzX7_takenIf <|
  am_kd (fun d => ak_aload_n d rfl rfl) <|
  am_kd (fun d => ak_getR (C := RX7) (T := TX7) (N := 4) rfl inX7w (by decide) rfl rfl rfl wd_390 d rfl) <|
  am_kd (fun d => ak_iload_n d rfl rfl) <|
  am_kd (fun d => ak_iload_n d rfl rfl) <|
  am_kd (fun d => ak_iload_n d rfl rfl) <|
  am_kd (fun d => ak_iload d rfl) <|
  am_kd (fun d => ak_iconst d (by decide +kernel) rfl) <|
  am_kd (fun d => ak_bipush d (by decide +kernel) rfl) <|
  am_kd (fun d => ak_callV (C := RX0) (F := TX0) (N := 13) metX0_addAct rfl ⟨rfl, hy_X0_addAct⟩ (am_w5 wd_476 wd_477 wd_478 wd_61 wd_479) (by decide) d rfl) <|
  am_kd (fun d => ak_pop d rfl) <|
  am_kd (fun d => ak_lconst d (by decide +kernel) rfl) <|
  am_kd (fun d => ak_lstore d rfl) <|
  am_kd (fun d => ak_iconst d (by decide +kernel) rfl) <|
  am_kd (fun d => ak_istore d rfl) <|
  am_kd (fun d => ak_iload d rfl) <|
  am_kd (fun d => ak_aload_n d rfl rfl) <|
  am_kd (fun d => ak_getR (C := RX7) (T := TX7) (N := 4) rfl inX7w (by decide) rfl rfl rfl wd_390 d rfl) <|
  am_kd (fun d => ak_getR (C := RX0) (T := TX0) (N := 13) rfl inX0w (by decide) rfl rfl rfl wd_194 d rfl) <|
  am_kd (fun d => ak_getI (C := RX2) (T := TX2) (N := 8) rfl inX2w (by decide) rfl rfl rfl wd_121 d rfl) <|
  am_kd (fun d => ak_icmp_ge d (by decide +kernel) rfl) <|
  am_kd (fun d => ak_aload_n d rfl rfl) <|
  am_kd (fun d => ak_getR (C := RX7) (T := TX7) (N := 4) rfl inX7w (by decide) rfl rfl rfl wd_392 d rfl) <|
  am_kd (fun d => ak_iload d rfl) <|
  am_kd (fun d => ak_bipush d (by decide +kernel) rfl) <|
  am_kd (fun d => ak_callV (C := RX4) (F := TX4) (N := 19) metX4_beginE rfl ⟨rfl, hy_X4_begin⟩ (am_w5 wd_546 wd_547 wd_548 wd_60 wd_549) (by decide) d rfl) <|
  am_kd (fun d => ak_aload_n d rfl rfl) <|
  am_kd (fun d => ak_getR (C := RX7) (T := TX7) (N := 4) rfl inX7w (by decide) rfl rfl rfl wd_392 d rfl) <|
  am_kd (fun d => ak_iload d rfl) <|
  am_kd (fun d => ak_callV (C := RX4) (F := TX4) (N := 19) metX4_goE rfl ⟨rfl, hy_X4_go⟩ (am_w5 wd_559 wd_560 wd_561 wd_60 wd_562) (by decide) d rfl) <|
  am_kd (fun d => ak_lload d rfl) <|
  am_kd (fun d => ak_aload_n d rfl rfl) <|
  am_kd (fun d => ak_getR (C := RX7) (T := TX7) (N := 4) rfl inX7w (by decide) rfl rfl rfl wd_392 d rfl) <|
  am_kd (fun d => ak_iconst d (by decide +kernel) rfl) <|
  am_kd (fun d => ak_callV (C := RX4) (F := TX4) (N := 19) metX4_togetherE rfl ⟨rfl, hy_X4_together⟩ (am_w5 wd_649 wd_650 wd_651 wd_60 wd_652) (by decide) d rfl) <|
  am_kd (fun d => ak_ladd d rfl) <|
  am_kd (fun d => ak_lstore d rfl) <|
  am_kd (fun d => ak_iinc d (by decide +kernel) rfl) <|
  am_kd (fun d => ak_goto d (by decide +kernel)) <|
  am_kd (fun d => ak_aload_n d rfl rfl) <|
  am_kd (fun d => ak_getR (C := RX7) (T := TX7) (N := 4) rfl inX7w (by decide) rfl rfl rfl wd_390 d rfl) <|
  am_kd (fun d => ak_getR (C := RX0) (T := TX0) (N := 13) rfl inX0w (by decide) rfl rfl rfl wd_204 d rfl) <|
  am_kd (fun d => ak_callV (C := RX3) (F := TX3) (N := 3) metX3_dropLast rfl ⟨rfl, hy_X3_dropLast⟩ (am_w5 wd_808 wd_809 wd_810 wd_64 wd_811) (by decide) d rfl) <|
  am_kd (fun d => ak_lload d rfl) <|
  am_kd (fun d => ak_retL d) <| am_kdn
def TE7_takenIf : am_T := fun live as M R => match as with
  | [.ref n, .int pl, .int w, .int v, .int f, .int y] => am_mn live ∧ n = 0 ∧ (am_in pl 5 ∧ am_in w 6 ∧ am_isNum w v ∧ am_in f 40 ∧ am_in y 40) ∧ (∃ i1 i2, LX i1 i2 M) ∧ ∀ M', g_sa M M' → g_rI M' → R (some (.long (r_triV M pl w v f y))) M'
  | _ => False
def JE7_takenIf : am_E → List Value → am_M → am_R → am_inv := fun live as M0 _ pc => match as with
  | [.ref n, .int pl, .int w, .int v, .int f, .int y] => (match pc with
    | 22 => some ([0, 5, 6, 8], fun k L st M => ∃ (t : Int64) (i : Int32), L = [(0, .ref 0), (5, .int y), (6, .long t), (8, .int i)] ∧ st = [] ∧ k = ((13 - i.toInt).toNat, 0) ∧ (0 ≤ i.toInt ∧ i.toInt ≤ (M0.1 201 0).toInt) ∧ t = z_sum (r_triF M0 pl w v f y) i.toNatClampNeg ∧ g_sc (am_addAct M0 pl w v f 0 39) M ∧ g_rI M)
    | _ => none)
  | _ => none
set_option maxRecDepth 100000 in
set_option maxHeartbeats 4000000 in
theorem metX7_takenIfE : am_Met yX7_takenIf cX7_takenIf 9 (some .long) (5) (124) TE7_takenIf := by
  refine am_met (own := RX7) (by decide +kernel) rfl kX7_takenIfE koX7_takenIfE 100 JE7_takenIf ?_ ?_
  · intro live as M Ret h
    unfold TE7_takenIf at h
    split at h
    · next n pl w v f y =>
      refine ⟨Nat.le_of_ble_eq_true rfl, ?_⟩
      change am_wp _ _ _ _ [(0, Value.ref n), (1, Value.int pl), (2, Value.int w), (3, Value.int v), (4, Value.int f), (5, Value.int y)] _ _
      obtain ⟨hmn, rfl, ha, ⟨j1, j2, hX⟩, h⟩ := h
      have hmn2 := hmn
      obtain ⟨i1, i2, rfl⟩ := hmn2
      have hh := hX.li.h
      have hr := hX.li.g
      have n0 := hX.li.n0
      repeat' (first | (with_reducible exact hmn) | apply And.intro | exact rfl | intro hx | (refine Exists.intro _ (And.intro rfl ?_)))
      all_goals try first | (with_reducible change am_tI _ _) | (change Ret _ _) | (change Ret _ _ _) | (change Exists _)
      all_goals try dsimp only at *
      all_goals try (with_reducible exact absurd ‹(1000 : Int64) = 0› am_z1000)
      exact ⟨_, _, _, rfl, rfl, rfl, ⟨by decide, n0.1⟩, rfl, g_sc.rf, hr.on (fun a b z => g_addAct_o hh (Or.inl (fun q => by rw [q] at z; exact absurd z (by decide))) (fun q => by rw [q] at z; exact absurd z (by decide)))⟩
    · exact h.elim
  · intro live as M0 Ret h k pc I hI L st M hi
    unfold TE7_takenIf at h
    split at h
    · next n pl w v f y =>
      obtain ⟨hmn, rfl, ⟨hpl, hw, hv, hf, hy⟩, ⟨j1, j2, hX⟩, h⟩ := h
      have hmn2 := hmn
      obtain ⟨i1, i2, rfl⟩ := hmn2
      change (match pc with | 22 => _ | _ => none) = _ at hI
      split at hI
      · cases hI
        obtain ⟨t, i, rfl, rfl, rfl, ⟨e1, e4⟩, et, e2, e3⟩ := hi
        have T : LT j1 j2 M0 pl w v f M := ⟨(), hX, ⟨hpl, hw, hv, hf⟩, e2, e3⟩
        have w1 : am_in (1 : Int32) 6 := ⟨by decide, by decide⟩
        have hh := hX.li.h
        have hs := hh.pe
        have ha := hh.ac
        have n0 := hX.li.n0
        have c0 := i_clamp n0.1
        have ci := i_clamp e1
        have e21 : M.1 21 7 = M0.1 201 0 := (congrFun (T.o (show 11 ≤ 21 by decide) (by decide) (by decide)) 7).trans hX.li.e0
        have e31 : M.1 31 2 = M0.1 31 2 + 1 := (e2.i 2 (by decide)).trans (g_addAct_s hh)
        have h31 := i_inc (x := M0.1 31 2) (by omega) (by omega)
        by_cases hz : M.1 21 7 ≤ i
        · have hz2 := hz
          rw [e21] at hz2
          simp only [i_le] at hz2
          have eV : r_triV M0 pl w v f y = t := by
            rw [et]
            unfold r_triV
            rw [show (M0.1 201 0).toNatClampNeg = i.toNatClampNeg by omega]
          rw [eV] at h
          repeat' (first | (with_reducible exact hmn) | apply And.intro | exact rfl | (intro hx; with_reducible exact absurd hz hx) | intro hx | (refine Exists.intro _ (And.intro rfl ?_)))
          all_goals try first | (with_reducible change am_tI _ _) | (change Ret _ _) | (change Ret _ _ _) | (change Exists _)
          all_goals try dsimp only at *
          all_goals try (with_reducible exact absurd ‹(1000 : Int64) = 0› am_z1000)
          refine h _ ?_ ?_
          · rw [am_wIc_t (by rw [e31, i_lt, h31]; simp only [Int32.reduceToInt]; omega), e31, Int32.add_sub_cancel]
            have e2b := e2.v
            obtain ⟨-, e2b⟩ := e2b
            refine ⟨(), fun a b z y => ⟨?_, ?_⟩⟩
            · rw [am_wI_1]
              by_cases q : a = 31 ∧ b = 2
              · rw [if_pos q, q.1, q.2]
              · rw [if_neg q, (e2b a b z).1]
                exact g_addAct_o hh (by omega) y
            · show M.2 a b = _
              rw [(e2b a b z).2, g_addAct_J hh]
          · refine e3.on (fun a b z => ?_)
            unfold am_wIc
            show (if _ then _ else _) = _
            rw [if_neg (fun q => by rw [q.2.1] at z; exact absurd z (by decide))]
        · have hz2 := hz
          rw [e21] at hz2
          simp only [i_le] at hz2
          have hp : am_in i 12 := ⟨e1, by omega⟩
          have hp2 : i.toInt < (M0.1 201 0).toInt := by omega
          have hi := i_inc (x := i) (by omega) (by omega)
          have ci1 := i_clamp (x := i + 1) (by omega)
          have hA := T.cA
          have hn : 0 ≤ (M.1 33 2).toInt ∧ (M.1 33 2).toInt ≤ 30 := by
            rw [T.o (show 11 ≤ 33 by decide) (by decide) (by decide), hX.li.e1]
            exact hX.li.n1
          have hk : am_in (39 : Int32) 40 := ⟨by decide, by decide⟩
          have y39 : -1 ≤ y.toInt ∧ y.toInt ≤ 39 := ⟨by have := hy.1; omega, by have := hy.2; omega⟩
          have cy := i_clamp hy.1
          have oi := o_cl hp (by decide)
          repeat' (first | (with_reducible exact hmn) | (with_reducible exact hp) | (with_reducible exact w1) | (with_reducible exact hA) | (with_reducible exact hn) | (with_reducible exact e3) | apply And.intro | exact rfl | (intro hx; with_reducible exact absurd hx hz) | ((with_reducible change g_rI _); (with_reducible assumption)) | intro hx | (refine Exists.intro _ (And.intro rfl ?_)))
          all_goals try first | (with_reducible change am_tI _ _) | (change Ret _ _) | (change Ret _ _ _) | (change Exists _)
          all_goals try dsimp only at *
          all_goals try (with_reducible exact absurd ‹(1000 : Int64) = 0› am_z1000)
          all_goals first
            | exact T.t0.g (c_bg.sc (by with_reducible assumption))
            | exact T.coa hp hp2 hk (by with_reducible assumption) (by with_reducible assumption)
            | (rw [(c_bg.f (by with_reducible assumption)).2.1]; decide)
            | skip
          rename_i N b1 r1 N2 g2 r2 s2
          have tg := T.tg hp hp2 hk b1 y39 g2 s2 (x := 1) (by decide)
          have nx : t + z_tog (N2.2 6) (30 * (1 : Int32).toNatClampNeg) (c_ms N2 (c_sz N2)) = z_sum (r_triF M0 pl w v f y) (i + 1).toNatClampNeg := by
            rw [show 30 * (1 : Int32).toNatClampNeg = 30 * 1 from rfl, tg, et, show (i + 1).toNatClampNeg = i.toNatClampNeg + 1 by omega]
            show _ = z_sum (r_triF M0 pl w v f y) i.toNatClampNeg + r_triF M0 pl w v f y i.toNatClampNeg
            unfold r_triF
            rw [oi, show (y.toInt + 1).toNat = y.toNatClampNeg + 1 by omega]
          exact ⟨_, am_lt_l (by omega), _, _, rfl, rfl, rfl, ⟨by omega, by omega⟩, nx, e2.tr ((c_bg.sc b1).tr (c_gn.sc g2)), r2⟩
      · cases hI
    · exact h.elim
def kX8_triedOfE (live : am_E) (Ret : am_R) : am_code := [(0, am_aload 0 1), (1, am_iload 1 2), (2, am_putI live 8 3 5), (5, am_aload 0 6), (6, am_iload 2 7), (7, am_putI live 8 4 10), (10, am_aload 0 11), (11, am_iload 3 12), (12, am_putI live 8 5 15), (15, am_aload 0 16), (16, am_iload 4 18), (18, am_putI live 8 6 21), (21, am_const (.long 0) 22), (22, am_lstore 6 9 24), (24, am_const (.int 0) 25), (25, am_istore 8 9 27), (27, am_iload 8 29), (29, am_aload 0 30), (30, am_getR live 8 0 33), (33, am_const (.int 0) 34), (34, am_ald live 0 35), (35, am_if2 (fun x y => y ≤ x) 66 38), (38, am_aload 0 39), (39, am_iload 8 41), (41, am_iload 5 43), (43, am_const (.int 39) 45), (45, am_callV live 8 3 TE8_run 48), (48, am_lload 6 50), (50, am_aload 0 51), (51, am_iload 8 53), (53, am_const (.int 1) 54), (54, am_callV live 8 2 TE8_allOf 57), (57, am_l2 (fun x y => x + y) 58), (58, am_lstore 6 9 60), (60, am_iinc 8 9 1 63), (63, am_goto 27), (66, am_aload 0 67), (67, am_const (.int (-1)) 68), (68, am_putI live 8 3 71), (71, am_lload 6 73), (73, am_retL Ret)]
theorem koX8_triedOfE (live : am_E) (Ret : am_R) : ∀ q ∈ kX8_triedOfE live Ret, am_ok RX8 cX8_triedOf 9 (some .long) 10 253 live Ret q.1 q.2 :=
  am_kz dzX8_triedOf <|
  am_kd (fun d => ak_aload_n d rfl rfl) <|
  am_kd (fun d => ak_iload_n d rfl rfl) <|
  am_kd (fun d => ak_putI (C := RX8) (T := TX8) (N := 27) rfl inX8w tyX8_ok nmX8 (by decide) rfl rfl rfl rfl (by decide +kernel) wd_898 d rfl) <|
  am_kd (fun d => ak_aload_n d rfl rfl) <|
  am_kd (fun d => ak_iload_n d rfl rfl) <|
  am_kd (fun d => ak_putI (C := RX8) (T := TX8) (N := 27) rfl inX8w tyX8_ok nmX8 (by decide) rfl rfl rfl rfl (by decide +kernel) wd_899 d rfl) <|
  am_kd (fun d => ak_aload_n d rfl rfl) <|
  am_kd (fun d => ak_iload_n d rfl rfl) <|
  am_kd (fun d => ak_putI (C := RX8) (T := TX8) (N := 27) rfl inX8w tyX8_ok nmX8 (by decide) rfl rfl rfl rfl (by decide +kernel) wd_900 d rfl) <|
  am_kd (fun d => ak_aload_n d rfl rfl) <|
  am_kd (fun d => ak_iload d rfl) <|
  am_kd (fun d => ak_putI (C := RX8) (T := TX8) (N := 27) rfl inX8w tyX8_ok nmX8 (by decide) rfl rfl rfl rfl (by decide +kernel) wd_901 d rfl) <|
  am_kd (fun d => ak_lconst d (by decide +kernel) rfl) <|
  am_kd (fun d => ak_lstore d rfl) <|
  am_kd (fun d => ak_iconst d (by decide +kernel) rfl) <|
  am_kd (fun d => ak_istore d rfl) <|
  am_kd (fun d => ak_iload d rfl) <|
  am_kd (fun d => ak_aload_n d rfl rfl) <|
  am_kd (fun d => ak_getR (C := RX8) (T := TX8) (N := 27) rfl inX8w (by decide) rfl rfl rfl wd_895 d rfl) <|
  am_kd (fun d => ak_iconst d (by decide +kernel) rfl) <|
  am_kd (fun d => ak_iald (t := 0) (fun _ => rfl) rfl d rfl) <|
  am_kd (fun d => ak_icmp_ge d (by decide +kernel) rfl) <|
  am_kd (fun d => ak_aload_n d rfl rfl) <|
  am_kd (fun d => ak_iload d rfl) <|
  am_kd (fun d => ak_iload d rfl) <|
  am_kd (fun d => ak_bipush d (by decide +kernel) rfl) <|
  am_kd (fun d => ak_callV (C := RX8) (F := TX8) (N := 27) metX8_runE rfl ⟨rfl, hy_X8_run⟩ (am_w5 wd_1158 wd_1160 wd_42 wd_67 wd_1161) (by decide) d rfl) <|
  am_kd (fun d => ak_lload d rfl) <|
  am_kd (fun d => ak_aload_n d rfl rfl) <|
  am_kd (fun d => ak_iload d rfl) <|
  am_kd (fun d => ak_iconst d (by decide +kernel) rfl) <|
  am_kd (fun d => ak_callV (C := RX8) (F := TX8) (N := 27) metX8_allOfE rfl ⟨rfl, hy_X8_allOf⟩ (am_w5 wd_1195 wd_1197 wd_50 wd_67 wd_1198) (by decide) d rfl) <|
  am_kd (fun d => ak_ladd d rfl) <|
  am_kd (fun d => ak_lstore d rfl) <|
  am_kd (fun d => ak_iinc d (by decide +kernel) rfl) <|
  am_kd (fun d => ak_goto d (by decide +kernel)) <|
  am_kd (fun d => ak_aload_n d rfl rfl) <|
  am_kd (fun d => ak_iconst d (by decide +kernel) rfl) <|
  am_kd (fun d => ak_putI (C := RX8) (T := TX8) (N := 27) rfl inX8w tyX8_ok nmX8 (by decide) rfl rfl rfl rfl (by decide +kernel) wd_898 d rfl) <|
  am_kd (fun d => ak_lload d rfl) <|
  am_kd (fun d => ak_retL d) <| am_kdn
def TE8_triedOf : am_T := fun live as M R => match as with
  | [.ref n, .int pl, .int w, .int v, .int f, .int y] => am_mn live ∧ n = 200 ∧ (am_in pl 5 ∧ am_in w 6 ∧ am_isNum w v ∧ am_in f 40 ∧ am_in y 40) ∧ (∃ i1 i2, LX i1 i2 M) ∧ ∀ M', r_sc M M' → r_I M' → R (some (.long (r_triV M pl w v f y))) M'
  | _ => False
def JE8_triedOf : am_E → List Value → am_M → am_R → am_inv := fun live as M0 _ pc => match as with
  | [.ref n, .int pl, .int w, .int v, .int f, .int y] => (match pc with
    | 27 => some ([0, 5, 6, 8], fun k L st M => ∃ (u : Int64) (i : Int32), L = [(0, .ref 200), (5, .int y), (6, .long u), (8, .int i)] ∧ st = [] ∧ k = ((13 - i.toInt).toNat, 0) ∧ (0 ≤ i.toInt ∧ i.toInt ≤ (M0.1 201 0).toInt) ∧ u = z_sum (r_triF M0 pl w v f y) i.toNatClampNeg ∧ r_ky (r_tr M0 pl w v f) M ∧ r_I M)
    | _ => none)
  | _ => none
set_option maxRecDepth 100000 in
set_option maxHeartbeats 4000000 in
theorem metX8_triedOfE : am_Met yX8_triedOf cX8_triedOf 9 (some .long) (10) (253) TE8_triedOf := by
  refine am_met (own := RX8) (by decide +kernel) rfl kX8_triedOfE koX8_triedOfE 100 JE8_triedOf ?_ ?_
  · intro live as M Ret h
    unfold TE8_triedOf at h
    split at h
    · next n pl w v f y =>
      refine ⟨Nat.le_of_ble_eq_true rfl, ?_⟩
      change am_wp _ _ _ _ [(0, Value.ref n), (1, Value.int pl), (2, Value.int w), (3, Value.int v), (4, Value.int f), (5, Value.int y)] _ _
      obtain ⟨hmn, rfl, ha, ⟨j1, j2, hX⟩, h⟩ := h
      have hmn2 := hmn
      obtain ⟨i1, i2, rfl⟩ := hmn2
      have n0 := hX.li.n0
      have hR := hX.li.i
      repeat' (first | apply And.intro | exact rfl | intro hx | (refine Exists.intro _ (And.intro rfl ?_)))
      all_goals try first | (with_reducible change am_tI _ _) | (change Ret _ _) | (change Ret _ _ _) | (change Exists _)
      all_goals try dsimp only at *
      all_goals try (with_reducible exact absurd ‹(1000 : Int64) = 0› am_z1000)
      exact ⟨_, _, _, rfl, rfl, rfl, ⟨by decide, n0.1⟩, rfl, r_ky.rf, r_tr_I hR⟩
    · exact h.elim
  · intro live as M0 Ret h k pc I hI L st M hi
    unfold TE8_triedOf at h
    split at h
    · next n pl w v f y =>
      obtain ⟨hmn, rfl, ⟨hpl, hw, hv, hf, hy⟩, ⟨j1, j2, hX⟩, h⟩ := h
      have hmn2 := hmn
      obtain ⟨i1, i2, rfl⟩ := hmn2
      have l201 : am_len 201 = 3760 := rfl
      have x0l : (0 : Int32).toInt < (am_len 201 : Int) := by rw [l201]; decide
      have hn3 := hX.li.n3t
      have n00 := hX.li.n0
      have c0 := i_clamp n00.1
      change (match pc with | 27 => _ | _ => none) = _ at hI
      split at hI
      · cases hI
        obtain ⟨u, i, rfl, rfl, rfl, ⟨e1, e4⟩, eu, ky, e3⟩ := hi
        have c201 : M.1 201 = M0.1 201 := (funext fun b => ky.i (by decide) (by decide) (Or.inl (by decide))).trans r_tr_1
        have n0 : 0 ≤ (M.1 201 (Int32.toNatClampNeg 0)).toInt ∧ (M.1 201 (Int32.toNatClampNeg 0)).toInt ≤ 12 := e3.n0
        have ci := i_clamp e1
        by_cases hz : M.1 201 (Int32.toNatClampNeg 0) ≤ i
        · have hz2 := hz
          rw [c201] at hz2
          simp only [i_le] at hz2
          have hz3 : (M0.1 201 0).toInt ≤ i.toInt := hz2
          have eV : r_triV M0 pl w v f y = u := by
            rw [eu]
            unfold r_triV
            rw [show (M0.1 201 0).toNatClampNeg = i.toNatClampNeg by omega]
          rw [eV] at h
          repeat' (first | (with_reducible exact x0l) | apply And.intro | exact rfl | (intro hx; with_reducible exact absurd hz hx) | (intro hx; exact absurd hx (by decide)) | (intro hx; exact absurd (by decide) hx) | decide | intro hx | (refine Exists.intro _ (And.intro rfl ?_)))
          all_goals try first | (with_reducible change am_tI _ _) | (change Ret _ _) | (change Ret _ _ _) | (change Exists _)
          all_goals try dsimp only at *
          all_goals try (with_reducible exact absurd ‹(1000 : Int64) = 0› am_z1000)
          all_goals exact h _ (r_sc.w3 ky.sc hn3) (by (repeat' (first | (with_reducible assumption) | ((with_reducible change r_I (am_wJ _ _ _ _)); refine r_I.wJ ?_) | ((with_reducible change r_I (am_wI _ _ _ _)); refine r_I.wI ?_ rfl))))
        · have hz2 := hz
          rw [c201] at hz2
          simp only [i_le] at hz2
          have hz3 : ¬ (M0.1 201 0).toInt ≤ i.toInt := hz2
          have hp : am_in i 12 := ⟨e1, by omega⟩
          have hi := i_inc (x := i) (by omega) (by omega)
          have ci1 := i_clamp (x := i + 1) (by omega)
          have y39 : -1 ≤ y.toInt ∧ y.toInt ≤ 39 := ⟨by have := hy.1; omega, by have := hy.2; omega⟩
          have cy := i_clamp hy.1
          have w1 : am_in (1 : Int32) 5 := ⟨by decide, by decide⟩
          have oi := o_cl hp (by decide)
          have oa : r_oa (r_tr M0 pl w v f) i := ⟨(), fun z _ => ⟨(), fun q hq => by
            have k : am_isNum 4 (r_inF (r_tr M0 pl w v f) q 4 i z) := by
              rw [r_tr_F]
              split
              · next c =>
                rw [← c.2.1]
                exact hv
              · have c := hX.li.nums (p := i) (y := z) hq (w := 4) ⟨by decide, by decide⟩
                rw [hX.li.inF hq.1] at c
                exact c
            exact (z_isNum k).2.2.2.2.1 rfl⟩⟩
          have hoa : r_oa M i := ky.oa oa
          repeat' (first | (with_reducible exact x0l) | (with_reducible exact hmn) | (with_reducible exact hp) | (with_reducible exact y39) | (with_reducible exact w1) | (with_reducible exact e3) | (with_reducible exact hoa) | apply And.intro | exact rfl | (intro hx; with_reducible exact absurd hx hz) | ((with_reducible change r_I _); (with_reducible assumption)) | (intro hx; exact absurd hx (by decide)) | (intro hx; exact absurd (by decide) hx) | decide | intro hx | (refine Exists.intro _ (And.intro rfl ?_)))
          all_goals try first | (with_reducible change am_tI _ _) | (change Ret _ _) | (change Ret _ _ _) | (change Exists _)
          all_goals try dsimp only at *
          all_goals try (with_reducible exact absurd ‹(1000 : Int64) = 0› am_z1000)
          all_goals
            rename_i N s0 ky2 rN z0
            have e0 := hx
            have ey : r_yr M i 39 = r_yr (r_tr M0 pl w v f) i 39 := funext fun z => ky.f (fun K => r_yr K i 39 z) (fun _ _ _ => rfl) (fun _ _ _ _ _ _ => rfl)
            rw [ey] at e0
            have n1 : 0 ≤ ((r_tr M0 pl w v f).1 201 1).toInt ∧ ((r_tr M0 pl w v f).1 201 1).toInt ≤ 30 := by rw [r_tr_1]; exact hX.li.n1
            have cN : N.1 201 = M0.1 201 := (funext fun b => ky2.i (by decide) (by decide) (Or.inl (by decide))).trans c201
            have f1 : z_tog (r_fl N) 30 (r_mine M0 i (r_n M0)) = z_tog (r_R (r_tr M0 pl w v f) i 39 (y.toInt + 1).toNat).1 30 (r_mine M0 i (r_n M0)) := z_tog_cg (fun x hxm => (r_R_of n1 e0 z0).1 _ (by have q := g_cl (r_mine_z hX.li.n1 hxm).1; omega))
            have nx : u + z_tog (r_fl N) (30 * (1 : Int32).toNatClampNeg) (r_mine N i (r_n N)) = z_sum (r_triF M0 pl w v f y) (i + 1).toNatClampNeg := by
              rw [show 30 * (1 : Int32).toNatClampNeg = 30 from rfl, r_mine_cg cN, f1, eu, show (i + 1).toNatClampNeg = i.toNatClampNeg + 1 by omega]
              show _ = z_sum (r_triF M0 pl w v f y) i.toNatClampNeg + r_triF M0 pl w v f y i.toNatClampNeg
              unfold r_triF
              rw [oi, show (y.toInt + 1).toNat = y.toNatClampNeg + 1 by omega]
            exact ⟨_, am_lt_l (by omega), _, _, rfl, rfl, rfl, ⟨by omega, by omega⟩, nx, ky.tr ky2, rN⟩
      · cases hI
    · exact h.elim
end
-- part 79zw.try2.lean.txt
section
/-! exact: tried, best -/
theorem z_num_b {w v : Int32} (h : am_isNum w v) : 0 ≤ v.toInt ∧ v.toInt ≤ 10000000 := by
  have q := z_isNum h
  obtain ⟨⟨a, b⟩, -, -⟩ := h
  simp only [i_le, i_lt, Int32.reduceToInt, Int32.toInt_zero] at a b
  have c : w = 0 ∨ w = 1 ∨ w = 2 ∨ w = 3 ∨ w = 4 ∨ w = 5 := by
    simp only [i_eq, Int32.reduceToInt, Int32.toInt_zero]
    omega
  rcases c with c | c | c | c | c | c
  · have := q.1 c; omega
  · have := q.2.1 c; omega
  · have := q.2.2.1 c; omega
  · have := q.2.2.2.1 c; omega
  · have := q.2.2.2.2.1 c; omega
  · have := q.2.2.2.2.2 c; omega
/-- nearer to what is in force -/
abbrev z_near (v n c : Int32) : Prop := n = -1 ∨ (v.toInt - c.toInt).natAbs < (n.toInt - c.toInt).natAbs ∨ ((v.toInt - c.toInt).natAbs = (n.toInt - c.toInt).natAbs ∧ v.toInt < n.toInt)
theorem z_abs {v c : Int32} (hv : -1 ≤ v.toInt ∧ v.toInt ≤ 10000000) (hc : 0 ≤ c.toInt ∧ c.toInt ≤ 10000000) : (if 0 ≤ v - c then v - c else 0 - (v - c)).toInt = ((v.toInt - c.toInt).natAbs : Int) := by
  have e := i_sub (x := v) (y := c) (by omega) (by omega)
  have e2 := i_sub (x := 0) (y := v - c) (by rw [e]; simp only [Int32.toInt_zero]; omega) (by rw [e]; simp only [Int32.toInt_zero]; omega)
  simp only [Int32.toInt_zero] at e2
  split
  · next q =>
    simp only [i_le, Int32.toInt_zero] at q
    omega
  · next q =>
    simp only [i_le, Int32.toInt_zero] at q
    omega
def kX7_isNearerE (live : am_E) (Ret : am_R) : am_code := [(0, am_iload 1 1), (1, am_const (.int (-1)) 2), (2, am_if2 (fun x y => x = y) 5 7), (5, am_const (.int 1) 6), (6, am_retZ Ret), (7, am_iload 0 8), (8, am_iload 2 9), (9, am_i2 (fun x y => x - y) 10), (10, am_math1 (fun x => if 0 ≤ x then x else 0 - x) 23 13), (13, am_istore 3 5 14), (14, am_iload 1 15), (15, am_iload 2 16), (16, am_i2 (fun x y => x - y) 17), (17, am_math1 (fun x => if 0 ≤ x then x else 0 - x) 23 20), (20, am_istore 4 5 22), (22, am_iload 3 23), (23, am_iload 4 25), (25, am_if2 (fun x y => x < y) 39 28), (28, am_iload 3 29), (29, am_iload 4 31), (31, am_if2 (fun x y => x = y) 34 43), (34, am_iload 0 35), (35, am_iload 1 36), (36, am_if2 (fun x y => y ≤ x) 43 39), (39, am_const (.int 1) 40), (40, am_goto 44), (43, am_const (.int 0) 44), (44, am_retZ Ret)]
theorem koX7_isNearerE (live : am_E) (Ret : am_R) : ∀ q ∈ kX7_isNearerE live Ret, am_ok RX7 cX7_isNearer 5 (some .boolean) 1 23 live Ret q.1 q.2 :=
  am_kz dzX7_isNearer <|
  am_kd (fun d => ak_iload_n d rfl rfl) <|
  am_kd (fun d => ak_iconst d (by decide +kernel) rfl) <|
  am_kd (fun d => ak_icmp_ne d (by decide +kernel) rfl) <|
  am_kd (fun d => ak_iconst d (by decide +kernel) rfl) <|
  am_kd (fun d => ak_retZ d) <|
  am_kd (fun d => ak_iload_n d rfl rfl) <|
  am_kd (fun d => ak_iload_n d rfl rfl) <|
  am_kd (fun d => ak_isub d rfl) <|
  am_kd (fun d => ak_iabs (am_w4 wd_828 wd_829 wd_68 wd_830) (by decide) d rfl) <|
  am_kd (fun d => ak_istore_n d rfl rfl) <|
  am_kd (fun d => ak_iload_n d rfl rfl) <|
  am_kd (fun d => ak_iload_n d rfl rfl) <|
  am_kd (fun d => ak_isub d rfl) <|
  am_kd (fun d => ak_iabs (am_w4 wd_828 wd_829 wd_68 wd_830) (by decide) d rfl) <|
  am_kd (fun d => ak_istore d rfl) <|
  am_kd (fun d => ak_iload_n d rfl rfl) <|
  am_kd (fun d => ak_iload d rfl) <|
  am_kd (fun d => ak_icmp_lt d (by decide +kernel) rfl) <|
  am_kd (fun d => ak_iload_n d rfl rfl) <|
  am_kd (fun d => ak_iload d rfl) <|
  am_kd (fun d => ak_icmp_ne d (by decide +kernel) rfl) <|
  am_kd (fun d => ak_iload_n d rfl rfl) <|
  am_kd (fun d => ak_iload_n d rfl rfl) <|
  am_kd (fun d => ak_icmp_ge d (by decide +kernel) rfl) <|
  am_kd (fun d => ak_iconst d (by decide +kernel) rfl) <|
  am_kd (fun d => ak_goto d (by decide +kernel)) <|
  am_kd (fun d => ak_iconst d (by decide +kernel) rfl) <|
  am_kd (fun d => ak_retZ d) <| am_kdn
def TE7_isNearer : am_T := fun live as M R => match as with
  | [.int v, .int n, .int c] => (0 ≤ v.toInt ∧ v.toInt ≤ 10000000) ∧ (-1 ≤ n.toInt ∧ n.toInt ≤ 10000000) ∧ (0 ≤ c.toInt ∧ c.toInt ≤ 10000000) ∧ R (some (.int (if z_near v n c then 1 else 0))) M
  | _ => False
set_option maxRecDepth 100000 in
set_option maxHeartbeats 4000000 in
theorem metX7_isNearerE : am_Met yX7_isNearer cX7_isNearer 5 (some .boolean) (1) (23) TE7_isNearer := by
  refine am_met (own := RX7) (by decide +kernel) rfl kX7_isNearer koX7_isNearer 100 (fun _ _ _ _ _ => none) (fun live as M Ret h => ?_) (fun _ _ _ _ _ _ _ _ hI => by cases hI)
  unfold TE7_isNearer at h
  split at h
  · next v n c =>
    refine ⟨Nat.le_of_ble_eq_true rfl, ?_⟩
    change am_wp _ _ _ _ [(0, Value.int v), (1, Value.int n), (2, Value.int c)] _ _
    obtain ⟨hv, hn, hc, h⟩ := h
    have a1 := z_abs (v := v) (c := c) ⟨by omega, hv.2⟩ hc
    have a2 := z_abs (v := n) (c := c) hn hc
    by_cases z : n = -1
    · rw [if_pos (Or.inl z)] at h
      repeat' (first | apply And.intro | exact rfl | (intro hx; with_reducible exact absurd z hx) | intro hx | (refine Exists.intro _ (And.intro rfl ?_)))
      all_goals try first | (with_reducible change am_tI _ _) | (change Ret _ _) | (change Ret _ _ _) | (change Exists _)
      all_goals try dsimp only at *
      all_goals try (with_reducible exact absurd ‹(1000 : Int64) = 0› am_z1000)
      all_goals first | (with_reducible exact h) | (left; rfl) | (right; rfl) | exact h
    · by_cases x1 : (if 0 ≤ v - c then v - c else 0 - (v - c)) < (if 0 ≤ n - c then n - c else 0 - (n - c))
      · have x2 := x1
        rw [i_lt, a1, a2] at x2
        rw [if_pos (Or.inr (Or.inl (by omega)))] at h
        repeat' (first | apply And.intro | exact rfl | (intro hx; with_reducible exact absurd hx z) | (intro hx; with_reducible exact absurd x1 hx) | intro hx | (refine Exists.intro _ (And.intro rfl ?_)))
        all_goals try first | (with_reducible change am_tI _ _) | (change Ret _ _) | (change Ret _ _ _) | (change Exists _)
        all_goals try dsimp only at *
        all_goals try (with_reducible exact absurd ‹(1000 : Int64) = 0› am_z1000)
        all_goals first | (with_reducible exact h) | (left; rfl) | (right; rfl) | exact h
      · have x2 := x1
        rw [i_lt, a1, a2] at x2
        by_cases y1 : (if 0 ≤ v - c then v - c else 0 - (v - c)) = (if 0 ≤ n - c then n - c else 0 - (n - c))
        · have y2 := y1
          rw [i_eq, a1, a2] at y2
          by_cases w1 : n ≤ v
          rotate_left
          · have w2 := w1
            rw [i_le] at w2
            rw [if_pos (Or.inr (Or.inr ⟨by omega, by omega⟩))] at h
            repeat' (first | apply And.intro | exact rfl | (intro hx; with_reducible exact absurd hx z) | (intro hx; with_reducible exact absurd hx x1) | (intro hx; with_reducible exact absurd hx w1) | (intro hx; with_reducible exact absurd y1 hx) | intro hx | (refine Exists.intro _ (And.intro rfl ?_)))
            all_goals try first | (with_reducible change am_tI _ _) | (change Ret _ _) | (change Ret _ _ _) | (change Exists _)
            all_goals try dsimp only at *
            all_goals try (with_reducible exact absurd ‹(1000 : Int64) = 0› am_z1000)
            all_goals first | (with_reducible exact h) | (left; rfl) | (right; rfl) | exact h
          · have w2 := w1
            rw [i_le] at w2
            rw [if_neg (fun q => q.elim z (fun q => q.elim (fun q => by omega) (fun q => absurd q.2 (by omega))))] at h
            repeat' (first | apply And.intro | exact rfl | (intro hx; with_reducible exact absurd hx z) | (intro hx; with_reducible exact absurd hx x1) | (intro hx; with_reducible exact absurd y1 hx) | (intro hx; with_reducible exact absurd w1 hx) | intro hx | (refine Exists.intro _ (And.intro rfl ?_)))
            all_goals try first | (with_reducible change am_tI _ _) | (change Ret _ _) | (change Ret _ _ _) | (change Exists _)
            all_goals try dsimp only at *
            all_goals try (with_reducible exact absurd ‹(1000 : Int64) = 0› am_z1000)
            all_goals first | (with_reducible exact h) | (left; rfl) | (right; rfl) | exact h
        · have y2 := y1
          rw [i_eq, a1, a2] at y2
          rw [if_neg (fun q => q.elim z (fun q => q.elim (fun q => by omega) (fun q => y2 (by omega))))] at h
          repeat' (first | apply And.intro | exact rfl | (intro hx; with_reducible exact absurd hx z) | (intro hx; with_reducible exact absurd hx x1) | (intro hx; with_reducible exact absurd hx y1) | intro hx | (refine Exists.intro _ (And.intro rfl ?_)))
          all_goals try first | (with_reducible change am_tI _ _) | (change Ret _ _) | (change Ret _ _ _) | (change Exists _)
          all_goals try dsimp only at *
          all_goals try (with_reducible exact absurd ‹(1000 : Int64) = 0› am_z1000)
          all_goals first | (with_reducible exact h) | (left; rfl) | (right; rfl) | exact h
  · exact h.elim
def r_far (a b : Int32) : Int32 := if a < b then b - a else a - b
theorem r_far_i {v c : Int32} (hv : -1 ≤ v.toInt ∧ v.toInt ≤ 10000000) (hc : 0 ≤ c.toInt ∧ c.toInt ≤ 10000000) : (r_far v c).toInt = ((v.toInt - c.toInt).natAbs : Int) := by
  have e := i_sub (x := v) (y := c) (by omega) (by omega)
  have e2 := i_sub (x := c) (y := v) (by omega) (by omega)
  unfold r_far
  split
  · next q =>
    simp only [i_lt] at q
    omega
  · next q =>
    simp only [i_lt] at q
    omega
def kX8_farE (live : am_E) (Ret : am_R) : am_code := [(0, am_iload 0 1), (1, am_iload 1 2), (2, am_if2 (fun x y => y ≤ x) 11 5), (5, am_iload 1 6), (6, am_iload 0 7), (7, am_i2 (fun x y => x - y) 8), (8, am_goto 14), (11, am_iload 0 12), (12, am_iload 1 13), (13, am_i2 (fun x y => x - y) 14), (14, am_retI Ret)]
theorem koX8_farE (live : am_E) (Ret : am_R) : ∀ q ∈ kX8_farE live Ret, am_ok RX8 cX8_far 2 (some .int) 0 0 live Ret q.1 q.2 :=
  am_kz dzX8_far <|
  am_kd (fun d => ak_iload_n d rfl rfl) <|
  am_kd (fun d => ak_iload_n d rfl rfl) <|
  am_kd (fun d => ak_icmp_ge d (by decide +kernel) rfl) <|
  am_kd (fun d => ak_iload_n d rfl rfl) <|
  am_kd (fun d => ak_iload_n d rfl rfl) <|
  am_kd (fun d => ak_isub d rfl) <|
  am_kd (fun d => ak_goto d (by decide +kernel)) <|
  am_kd (fun d => ak_iload_n d rfl rfl) <|
  am_kd (fun d => ak_iload_n d rfl rfl) <|
  am_kd (fun d => ak_isub d rfl) <|
  am_kd (fun d => ak_retI d) <| am_kdn
def TE8_far : am_T := fun _ as M R => match as with
  | [.int a, .int b] => R (some (.int (r_far a b))) M
  | _ => False
set_option maxRecDepth 100000 in
set_option maxHeartbeats 4000000 in
theorem metX8_farE : am_Met yX8_far cX8_far 2 (some .int) (0) (0) TE8_far := by
  refine am_met (own := RX8) (by decide +kernel) rfl kX8_far koX8_far 60 (fun _ _ _ _ _ => none) (fun live as M Ret h => ?_) (fun _ _ _ _ _ _ _ _ hI => by cases hI)
  unfold TE8_far at h
  split at h
  · next a b =>
    refine ⟨Nat.le_of_ble_eq_true rfl, ?_⟩
    change am_wp _ _ _ _ [(0, Value.int a), (1, Value.int b)] _ _
    by_cases z : b ≤ a
    · have z2 := z
      rw [i_le] at z2
      have e : r_far a b = a - b := if_neg (by rw [i_lt]; omega)
      rw [e] at h
      repeat' (first | apply And.intro | exact rfl | (intro hx; with_reducible exact absurd z hx) | intro hx | (refine Exists.intro _ (And.intro rfl ?_)))
      all_goals try first | (with_reducible change am_tI _ _) | (change Ret _ _) | (change Ret _ _ _) | (change Exists _)
      all_goals try dsimp only at *
      all_goals try (with_reducible exact absurd ‹(1000 : Int64) = 0› am_z1000)
      all_goals exact h
    · have z2 := z
      rw [i_le] at z2
      have e : r_far a b = b - a := if_pos (by rw [i_lt]; omega)
      rw [e] at h
      repeat' (first | apply And.intro | exact rfl | (intro hx; with_reducible exact absurd hx z) | intro hx | (refine Exists.intro _ (And.intro rfl ?_)))
      all_goals try first | (with_reducible change am_tI _ _) | (change Ret _ _) | (change Ret _ _ _) | (change Exists _)
      all_goals try dsimp only at *
      all_goals try (with_reducible exact absurd ‹(1000 : Int64) = 0› am_z1000)
      all_goals exact h
  · exact h.elim
def r_triedV (M : am_M) (pl w v f y : Int32) : Int64 := if 0 ≤ pl ∧ pl < 5 then (if (0 ≤ w ∧ w < 6) ∧ am_sf 1 w.toNatClampNeg ≤ v ∧ v ≤ am_sf 2 w.toNatClampNeg then (if 0 ≤ f ∧ f < 40 then (if 0 ≤ y ∧ y < 40 then r_triV M pl w v f y else -2) else -2) else -2) else -2
def kX7_triedE (live : am_E) (Ret : am_R) : am_code := [(0, am_iload 1 1), (1, am_callS live 1 TX7_isPlan 4), (4, am_if1 (fun x => x = 0) 31 7), (7, am_iload 2 8), (8, am_iload 3 9), (9, am_callS live 2 TX7_isNumber 12), (12, am_if1 (fun x => x = 0) 31 15), (15, am_iload 4 17), (17, am_callS live 1 TX7_isYear 20), (20, am_if1 (fun x => x = 0) 31 23), (23, am_iload 5 25), (25, am_callS live 1 TX7_isYear 28), (28, am_if1 (fun x => x = 0) 31 35), (31, am_const (.long (-2)) 34), (34, am_retL Ret), (35, am_aload 0 36), (36, am_iload 1 37), (37, am_iload 2 38), (38, am_iload 3 39), (39, am_iload 4 41), (41, am_iload 5 43), (43, am_callV live 7 5 TE7_takenIf 46), (46, am_retL Ret)]
theorem koX7_triedE (live : am_E) (Ret : am_R) : ∀ q ∈ kX7_triedE live Ret, am_ok RX7 cX7_tried 6 (some .long) 6 152 live Ret q.1 q.2 :=
  am_kz dzX7_tried <|
  am_kd (fun d => ak_iload_n d rfl rfl) <|
  am_kd (fun d => ak_callS metX7_isPlan ⟨rfl, hy_X7_isPlan⟩ (am_w4 wd_466 wd_467 wd_58 wd_468) (by decide) d rfl) <|
  am_kd (fun d => ak_if_eq d (by decide +kernel) rfl) <|
  am_kd (fun d => ak_iload_n d rfl rfl) <|
  am_kd (fun d => ak_iload_n d rfl rfl) <|
  am_kd (fun d => ak_callS metX7_isNumber ⟨rfl, hy_X7_isNumber⟩ (am_w4 wd_469 wd_470 wd_58 wd_471) (by decide) d rfl) <|
  am_kd (fun d => ak_if_eq d (by decide +kernel) rfl) <|
  am_kd (fun d => ak_iload d rfl) <|
  am_kd (fun d => ak_callS metX7_isYear ⟨rfl, hy_X7_isYear⟩ (am_w4 wd_407 wd_408 wd_58 wd_409) (by decide) d rfl) <|
  am_kd (fun d => ak_if_eq d (by decide +kernel) rfl) <|
  am_kd (fun d => ak_iload d rfl) <|
  am_kd (fun d => ak_callS metX7_isYear ⟨rfl, hy_X7_isYear⟩ (am_w4 wd_407 wd_408 wd_58 wd_409) (by decide) d rfl) <|
  am_kd (fun d => ak_if_ne d (by decide +kernel) rfl) <|
  am_kd (fun d => ak_ldc2 wd_545 d rfl) <|
  am_kd (fun d => ak_retL d) <|
  am_kd (fun d => ak_aload_n d rfl rfl) <|
  am_kd (fun d => ak_iload_n d rfl rfl) <|
  am_kd (fun d => ak_iload_n d rfl rfl) <|
  am_kd (fun d => ak_iload_n d rfl rfl) <|
  am_kd (fun d => ak_iload d rfl) <|
  am_kd (fun d => ak_iload d rfl) <|
  am_kd (fun d => ak_callV (C := RX7) (F := TX7) (N := 4) metX7_takenIfE rfl ⟨rfl, hy_X7_takenIf⟩ (am_w5 wd_804 wd_806 wd_26 wd_58 wd_807) (by decide) d rfl) <|
  am_kd (fun d => ak_retL d) <| am_kdn
def TE7_tried : am_T := fun live as M R => match as with
  | [.ref n, .int pl, .int w, .int v, .int f, .int y] => am_mn live ∧ n = 0 ∧ (∃ i1 i2, LX i1 i2 M) ∧ ∀ M', g_sa M M' → g_rI M' → R (some (.long (r_triedV M pl w v f y))) M'
  | _ => False
set_option maxRecDepth 100000 in
set_option maxHeartbeats 4000000 in
theorem metX7_triedE : am_Met yX7_tried cX7_tried 6 (some .long) (6) (152) TE7_tried := by
  refine am_met (own := RX7) (by decide +kernel) rfl kX7_triedE koX7_triedE 200 (fun _ _ _ _ _ => none) (fun live as M Ret h => ?_) (fun _ _ _ _ _ _ _ _ hI => by cases hI)
  unfold TE7_tried at h
  split at h
  · next n pl w v f y =>
    refine ⟨Nat.le_of_ble_eq_true rfl, ?_⟩
    change am_wp _ _ _ _ [(0, Value.ref n), (1, Value.int pl), (2, Value.int w), (3, Value.int v), (4, Value.int f), (5, Value.int y)] _ _
    obtain ⟨hmn, rfl, ⟨j1, j2, hX⟩, h⟩ := h
    have hmn2 := hmn
    obtain ⟨i1, i2, rfl⟩ := hmn2
    have hR := hX.li.g
    have hH := hX.li.h
    have le0 := hX.li.e0
    by_cases z0 : 0 ≤ pl ∧ pl < 5
    rotate_left
    · skip
      have e : r_triedV M pl w v f y = -2 := by unfold r_triedV; rw [if_neg z0]
      rw [e] at h
      have qz0 : (if 0 ≤ pl ∧ pl < 5 then (1 : Int32) else 0) = 0 := if_neg z0
      repeat' (first | (with_reducible exact hmn) | apply And.intro | exact rfl | (intro hx; with_reducible exact absurd qz0 hx) | (intro hx; exact absurd hx (by decide)) | (intro hx; exact absurd (by decide) hx) | decide | intro hx | (refine Exists.intro _ (And.intro rfl ?_)))
      all_goals try first | (with_reducible change am_tI _ _) | (change Ret _ _) | (change Ret _ _ _) | (change Exists _)
      all_goals try dsimp only at *
      all_goals try (with_reducible exact absurd ‹(1000 : Int64) = 0› am_z1000)
      all_goals exact h _ g_sv.rf.a hR
    · skip
      have qz0 : ¬ ((if 0 ≤ pl ∧ pl < 5 then (1 : Int32) else 0) = 0) := by rw [if_pos z0]; decide
      by_cases zn : (0 ≤ w ∧ w < 6) ∧ am_sf 1 w.toNatClampNeg ≤ v ∧ v ≤ am_sf 2 w.toNatClampNeg
      rotate_left
      · skip
        have e : r_triedV M pl w v f y = -2 := by unfold r_triedV; rw [if_pos z0, if_neg zn]
        rw [e] at h
        have qzn : ¬ am_isNum w v := zn
        repeat' (first | (with_reducible exact hmn) | apply And.intro | exact rfl | (intro hx; with_reducible exact absurd hx qz0) | (intro hx; with_reducible exact absurd hx qzn) | (intro hx; exact absurd hx (by decide)) | (intro hx; exact absurd (by decide) hx) | decide | intro hx | (refine Exists.intro _ (And.intro rfl ?_)))
        all_goals try first | (with_reducible change am_tI _ _) | (change Ret _ _) | (change Ret _ _ _) | (change Exists _)
        all_goals try dsimp only at *
        all_goals try (with_reducible exact absurd ‹(1000 : Int64) = 0› am_z1000)
        all_goals exact h _ g_sv.rf.a hR
      · skip
        have qzn : am_isNum w v := zn
        by_cases zf : 0 ≤ f ∧ f < 40
        rotate_left
        · skip
          have e : r_triedV M pl w v f y = -2 := by unfold r_triedV; rw [if_pos z0, if_pos zn, if_neg zf]
          rw [e] at h
          have qzf : (if 0 ≤ f ∧ f < 40 then (1 : Int32) else 0) = 0 := if_neg zf
          repeat' (first | (with_reducible exact hmn) | apply And.intro | exact rfl | (intro hx; with_reducible exact absurd hx qz0) | (intro hx; with_reducible exact absurd qzn hx) | (intro hx; with_reducible exact absurd qzf hx) | (intro hx; exact absurd hx (by decide)) | (intro hx; exact absurd (by decide) hx) | decide | intro hx | (refine Exists.intro _ (And.intro rfl ?_)))
          all_goals try first | (with_reducible change am_tI _ _) | (change Ret _ _) | (change Ret _ _ _) | (change Exists _)
          all_goals try dsimp only at *
          all_goals try (with_reducible exact absurd ‹(1000 : Int64) = 0› am_z1000)
          all_goals exact h _ g_sv.rf.a hR
        · skip
          have qzf : ¬ ((if 0 ≤ f ∧ f < 40 then (1 : Int32) else 0) = 0) := by rw [if_pos zf]; decide
          by_cases zy : 0 ≤ y ∧ y < 40
          rotate_left
          · skip
            have e : r_triedV M pl w v f y = -2 := by unfold r_triedV; rw [if_pos z0, if_pos zn, if_pos zf, if_neg zy]
            rw [e] at h
            have qzy : (if 0 ≤ y ∧ y < 40 then (1 : Int32) else 0) = 0 := if_neg zy
            repeat' (first | (with_reducible exact hmn) | apply And.intro | exact rfl | (intro hx; with_reducible exact absurd hx qz0) | (intro hx; with_reducible exact absurd hx qzf) | (intro hx; with_reducible exact absurd qzn hx) | (intro hx; with_reducible exact absurd qzy hx) | (intro hx; exact absurd hx (by decide)) | (intro hx; exact absurd (by decide) hx) | decide | intro hx | (refine Exists.intro _ (And.intro rfl ?_)))
            all_goals try first | (with_reducible change am_tI _ _) | (change Ret _ _) | (change Ret _ _ _) | (change Exists _)
            all_goals try dsimp only at *
            all_goals try (with_reducible exact absurd ‹(1000 : Int64) = 0› am_z1000)
            all_goals exact h _ g_sv.rf.a hR
          · skip
            have qzy : ¬ ((if 0 ≤ y ∧ y < 40 then (1 : Int32) else 0) = 0) := by rw [if_pos zy]; decide
            have e : r_triedV M pl w v f y = r_triV M pl w v f y := by unfold r_triedV; rw [if_pos z0, if_pos zn, if_pos zf, if_pos zy]
            rw [e] at h
            have hpl : am_in pl 5 := ⟨by have q := z0.1; simp only [i_le, Int32.reduceToInt, Int32.toInt_zero] at q; omega, by have q := z0.2; simp only [i_lt, Int32.reduceToInt] at q; omega⟩
            have hw : am_in w 6 := ⟨by have q := zn.1.1; simp only [i_le, Int32.reduceToInt, Int32.toInt_zero] at q; omega, by have q := zn.1.2; simp only [i_lt, Int32.reduceToInt] at q; omega⟩
            have hf : am_in f 40 := ⟨by have q := zf.1; simp only [i_le, Int32.reduceToInt, Int32.toInt_zero] at q; omega, by have q := zf.2; simp only [i_lt, Int32.reduceToInt] at q; omega⟩
            have hy : am_in y 40 := ⟨by have q := zy.1; simp only [i_le, Int32.reduceToInt, Int32.toInt_zero] at q; omega, by have q := zy.2; simp only [i_lt, Int32.reduceToInt] at q; omega⟩
            repeat' (first | (with_reducible exact hmn) | (with_reducible exact hpl) | (with_reducible exact hw) | (with_reducible exact hf) | (with_reducible exact hy) | apply And.intro | exact rfl | (intro hx; with_reducible exact absurd hx qz0) | (intro hx; with_reducible exact absurd hx qzf) | (intro hx; with_reducible exact absurd hx qzy) | (intro hx; with_reducible exact absurd qzn hx) | (intro hx; exact absurd hx (by decide)) | (intro hx; exact absurd (by decide) hx) | decide | intro hx | (refine Exists.intro _ (And.intro rfl ?_)))
            all_goals try first | (with_reducible change am_tI _ _) | (change Ret _ _) | (change Ret _ _ _) | (change Exists _)
            all_goals try dsimp only at *
            all_goals try (with_reducible exact absurd ‹(1000 : Int64) = 0› am_z1000)
            all_goals first
              | (with_reducible exact qzn)
              | (with_reducible exact zn.1.1)
              | (with_reducible exact zn.1.2)
              | (with_reducible exact zn.2.1)
              | (with_reducible exact zn.2.2)
              | exact qzn
              | exact zn.1.1
              | exact zn.1.2
              | exact zn.2.1
              | exact zn.2.2
              | exact ⟨_, _, hX⟩
              | exact h _ (by with_reducible assumption) (by with_reducible assumption)
              | skip
  · exact h.elim
def kX8_triedE (live : am_E) (Ret : am_R) : am_code := [(0, am_iload 1 1), (1, am_callS live 1 TX8_isPlan 4), (4, am_if1 (fun x => x = 0) 38 7), (7, am_iload 2 8), (8, am_callS live 1 TX8_isWhat 11), (11, am_if1 (fun x => x = 0) 38 14), (14, am_iload 2 15), (15, am_iload 3 16), (16, am_callS live 2 TX8_mayBe 19), (19, am_if1 (fun x => x = 0) 38 22), (22, am_iload 4 24), (24, am_callS live 1 TX8_isYear 27), (27, am_if1 (fun x => x = 0) 38 30), (30, am_iload 5 32), (32, am_callS live 1 TX8_isYear 35), (35, am_if1 (fun x => x = 0) 38 42), (38, am_const (.long (-2)) 41), (41, am_retL Ret), (42, am_aload 0 43), (43, am_iload 1 44), (44, am_iload 2 45), (45, am_iload 3 46), (46, am_iload 4 48), (48, am_iload 5 50), (50, am_callV live 8 5 TE8_triedOf 53), (53, am_retL Ret)]
theorem koX8_triedE (live : am_E) (Ret : am_R) : ∀ q ∈ kX8_triedE live Ret, am_ok RX8 cX8_tried 6 (some .long) 11 281 live Ret q.1 q.2 :=
  am_kz dzX8_tried <|
  am_kd (fun d => ak_iload_n d rfl rfl) <|
  am_kd (fun d => ak_callS metX8_isPlan ⟨rfl, hy_X8_isPlan⟩ (am_w4 wd_1034 wd_1035 wd_67 wd_1036) (by decide) d rfl) <|
  am_kd (fun d => ak_if_eq d (by decide +kernel) rfl) <|
  am_kd (fun d => ak_iload_n d rfl rfl) <|
  am_kd (fun d => ak_callS metX8_isWhat ⟨rfl, hy_X8_isWhat⟩ (am_w4 wd_1038 wd_1039 wd_67 wd_1040) (by decide) d rfl) <|
  am_kd (fun d => ak_if_eq d (by decide +kernel) rfl) <|
  am_kd (fun d => ak_iload_n d rfl rfl) <|
  am_kd (fun d => ak_iload_n d rfl rfl) <|
  am_kd (fun d => ak_callS metX8_mayBe ⟨rfl, hy_X8_mayBe⟩ (am_w4 wd_1042 wd_1043 wd_67 wd_1044) (by decide) d rfl) <|
  am_kd (fun d => ak_if_eq d (by decide +kernel) rfl) <|
  am_kd (fun d => ak_iload d rfl) <|
  am_kd (fun d => ak_callS metX8_isYear ⟨rfl, hy_X8_isYear⟩ (am_w4 wd_982 wd_983 wd_67 wd_984) (by decide) d rfl) <|
  am_kd (fun d => ak_if_eq d (by decide +kernel) rfl) <|
  am_kd (fun d => ak_iload d rfl) <|
  am_kd (fun d => ak_callS metX8_isYear ⟨rfl, hy_X8_isYear⟩ (am_w4 wd_982 wd_983 wd_67 wd_984) (by decide) d rfl) <|
  am_kd (fun d => ak_if_ne d (by decide +kernel) rfl) <|
  am_kd (fun d => ak_ldc2 wd_1153 d rfl) <|
  am_kd (fun d => ak_retL d) <|
  am_kd (fun d => ak_aload_n d rfl rfl) <|
  am_kd (fun d => ak_iload_n d rfl rfl) <|
  am_kd (fun d => ak_iload_n d rfl rfl) <|
  am_kd (fun d => ak_iload_n d rfl rfl) <|
  am_kd (fun d => ak_iload d rfl) <|
  am_kd (fun d => ak_iload d rfl) <|
  am_kd (fun d => ak_callV (C := RX8) (F := TX8) (N := 27) metX8_triedOfE rfl ⟨rfl, hy_X8_triedOf⟩ (am_w5 wd_1270 wd_1272 wd_56 wd_67 wd_1273) (by decide) d rfl) <|
  am_kd (fun d => ak_retL d) <| am_kdn
def TE8_tried : am_T := fun live as M R => match as with
  | [.ref n, .int pl, .int w, .int v, .int f, .int y] => am_mn live ∧ n = 200 ∧ (∃ i1 i2, LX i1 i2 M) ∧ ∀ M', r_sc M M' → r_I M' → R (some (.long (r_triedV M pl w v f y))) M'
  | _ => False
set_option maxRecDepth 100000 in
set_option maxHeartbeats 4000000 in
theorem metX8_triedE : am_Met yX8_tried cX8_tried 6 (some .long) (11) (281) TE8_tried := by
  refine am_met (own := RX8) (by decide +kernel) rfl kX8_triedE koX8_triedE 200 (fun _ _ _ _ _ => none) (fun live as M Ret h => ?_) (fun _ _ _ _ _ _ _ _ hI => by cases hI)
  unfold TE8_tried at h
  split at h
  · next n pl w v f y =>
    refine ⟨Nat.le_of_ble_eq_true rfl, ?_⟩
    change am_wp _ _ _ _ [(0, Value.ref n), (1, Value.int pl), (2, Value.int w), (3, Value.int v), (4, Value.int f), (5, Value.int y)] _ _
    obtain ⟨hmn, rfl, ⟨j1, j2, hX⟩, h⟩ := h
    have hmn2 := hmn
    obtain ⟨i1, i2, rfl⟩ := hmn2
    have l201 : am_len 201 = 3760 := rfl
    have hR := hX.li.i
    have n0 := hR.n0
    have n1 := hR.n1
    have n030 : 0 ≤ (M.1 201 0).toInt ∧ (M.1 201 0).toInt ≤ 30 := ⟨n0.1, by omega⟩
    by_cases z0 : 0 ≤ pl ∧ pl < 5
    rotate_left
    · skip
      have e : r_triedV M pl w v f y = -2 := by unfold r_triedV; rw [if_neg z0]
      rw [e] at h
      have qz0 : (if 0 ≤ pl ∧ pl < 5 then (1 : Int32) else 0) = 0 := if_neg z0
      repeat' (first | (with_reducible exact hmn) | (with_reducible exact n030) | (with_reducible exact n1) | apply And.intro | exact rfl | (intro hx; with_reducible exact absurd qz0 hx) | (intro hx; exact absurd hx (by decide)) | (intro hx; exact absurd (by decide) hx) | decide | intro hx | (refine Exists.intro _ (And.intro rfl ?_)))
      all_goals try first | (with_reducible change am_tI _ _) | (change Ret _ _) | (change Ret _ _ _) | (change Exists _)
      all_goals try dsimp only at *
      all_goals try (with_reducible exact absurd ‹(1000 : Int64) = 0› am_z1000)
      all_goals first | (with_reducible exact w1) | (with_reducible exact w2) | (with_reducible exact h _ r_sc.rf hR) | exact w1 | exact w2 | exact h _ r_sc.rf hR
    · skip
      have qz0 : ¬ ((if 0 ≤ pl ∧ pl < 5 then (1 : Int32) else 0) = 0) := by rw [if_pos z0]; decide
      by_cases zw : 0 ≤ w ∧ w < 6
      rotate_left
      · skip
        have e : r_triedV M pl w v f y = -2 := by unfold r_triedV; rw [if_pos z0, if_neg (fun q => zw q.1)]
        rw [e] at h
        have qzw : (if 0 ≤ w ∧ w < 6 then (1 : Int32) else 0) = 0 := if_neg zw
        repeat' (first | (with_reducible exact hmn) | (with_reducible exact n030) | (with_reducible exact n1) | apply And.intro | exact rfl | (intro hx; with_reducible exact absurd hx qz0) | (intro hx; with_reducible exact absurd qzw hx) | (intro hx; exact absurd hx (by decide)) | (intro hx; exact absurd (by decide) hx) | decide | intro hx | (refine Exists.intro _ (And.intro rfl ?_)))
        all_goals try first | (with_reducible change am_tI _ _) | (change Ret _ _) | (change Ret _ _ _) | (change Exists _)
        all_goals try dsimp only at *
        all_goals try (with_reducible exact absurd ‹(1000 : Int64) = 0› am_z1000)
        all_goals first | (with_reducible exact w1) | (with_reducible exact w2) | (with_reducible exact h _ r_sc.rf hR) | exact w1 | exact w2 | exact h _ r_sc.rf hR
      · skip
        have qzw : ¬ ((if 0 ≤ w ∧ w < 6 then (1 : Int32) else 0) = 0) := by rw [if_pos zw]; decide
        have w1 := zw.1
        have w2 := zw.2
        by_cases zn : (0 ≤ w ∧ w < 6) ∧ am_sf 1 w.toNatClampNeg ≤ v ∧ v ≤ am_sf 2 w.toNatClampNeg
        rotate_left
        · skip
          have e : r_triedV M pl w v f y = -2 := by unfold r_triedV; rw [if_pos z0, if_neg zn]
          rw [e] at h
          have qzn : ¬ am_isNum w v := zn
          repeat' (first | (with_reducible exact hmn) | (with_reducible exact n030) | (with_reducible exact n1) | (with_reducible exact w1) | (with_reducible exact w2) | apply And.intro | exact rfl | (intro hx; with_reducible exact absurd hx qz0) | (intro hx; with_reducible exact absurd hx qzw) | (intro hx; with_reducible exact absurd hx qzn) | (intro hx; exact absurd hx (by decide)) | (intro hx; exact absurd (by decide) hx) | decide | intro hx | (refine Exists.intro _ (And.intro rfl ?_)))
          all_goals try first | (with_reducible change am_tI _ _) | (change Ret _ _) | (change Ret _ _ _) | (change Exists _)
          all_goals try dsimp only at *
          all_goals try (with_reducible exact absurd ‹(1000 : Int64) = 0› am_z1000)
          all_goals first | (with_reducible exact w1) | (with_reducible exact w2) | (with_reducible exact h _ r_sc.rf hR) | exact w1 | exact w2 | exact h _ r_sc.rf hR
        · skip
          have qzn : am_isNum w v := zn
          by_cases zf : 0 ≤ f ∧ f < 40
          rotate_left
          · skip
            have e : r_triedV M pl w v f y = -2 := by unfold r_triedV; rw [if_pos z0, if_pos zn, if_neg zf]
            rw [e] at h
            have qzf : (if 0 ≤ f ∧ f < 40 then (1 : Int32) else 0) = 0 := if_neg zf
            repeat' (first | (with_reducible exact hmn) | (with_reducible exact n030) | (with_reducible exact n1) | (with_reducible exact w1) | (with_reducible exact w2) | apply And.intro | exact rfl | (intro hx; with_reducible exact absurd hx qz0) | (intro hx; with_reducible exact absurd hx qzw) | (intro hx; with_reducible exact absurd qzn hx) | (intro hx; with_reducible exact absurd qzf hx) | (intro hx; exact absurd hx (by decide)) | (intro hx; exact absurd (by decide) hx) | decide | intro hx | (refine Exists.intro _ (And.intro rfl ?_)))
            all_goals try first | (with_reducible change am_tI _ _) | (change Ret _ _) | (change Ret _ _ _) | (change Exists _)
            all_goals try dsimp only at *
            all_goals try (with_reducible exact absurd ‹(1000 : Int64) = 0› am_z1000)
            all_goals first | (with_reducible exact w1) | (with_reducible exact w2) | (with_reducible exact h _ r_sc.rf hR) | exact w1 | exact w2 | exact h _ r_sc.rf hR
          · skip
            have qzf : ¬ ((if 0 ≤ f ∧ f < 40 then (1 : Int32) else 0) = 0) := by rw [if_pos zf]; decide
            by_cases zy : 0 ≤ y ∧ y < 40
            rotate_left
            · skip
              have e : r_triedV M pl w v f y = -2 := by unfold r_triedV; rw [if_pos z0, if_pos zn, if_pos zf, if_neg zy]
              rw [e] at h
              have qzy : (if 0 ≤ y ∧ y < 40 then (1 : Int32) else 0) = 0 := if_neg zy
              repeat' (first | (with_reducible exact hmn) | (with_reducible exact n030) | (with_reducible exact n1) | (with_reducible exact w1) | (with_reducible exact w2) | apply And.intro | exact rfl | (intro hx; with_reducible exact absurd hx qz0) | (intro hx; with_reducible exact absurd hx qzw) | (intro hx; with_reducible exact absurd hx qzf) | (intro hx; with_reducible exact absurd qzn hx) | (intro hx; with_reducible exact absurd qzy hx) | (intro hx; exact absurd hx (by decide)) | (intro hx; exact absurd (by decide) hx) | decide | intro hx | (refine Exists.intro _ (And.intro rfl ?_)))
              all_goals try first | (with_reducible change am_tI _ _) | (change Ret _ _) | (change Ret _ _ _) | (change Exists _)
              all_goals try dsimp only at *
              all_goals try (with_reducible exact absurd ‹(1000 : Int64) = 0› am_z1000)
              all_goals first | (with_reducible exact w1) | (with_reducible exact w2) | (with_reducible exact h _ r_sc.rf hR) | exact w1 | exact w2 | exact h _ r_sc.rf hR
            · skip
              have qzy : ¬ ((if 0 ≤ y ∧ y < 40 then (1 : Int32) else 0) = 0) := by rw [if_pos zy]; decide
              have e : r_triedV M pl w v f y = r_triV M pl w v f y := by unfold r_triedV; rw [if_pos z0, if_pos zn, if_pos zf, if_pos zy]
              rw [e] at h
              have hpl : am_in pl 5 := ⟨by have q := z0.1; simp only [i_le, Int32.reduceToInt, Int32.toInt_zero] at q; omega, by have q := z0.2; simp only [i_lt, Int32.reduceToInt] at q; omega⟩
              have hw : am_in w 6 := ⟨by have q := zn.1.1; simp only [i_le, Int32.reduceToInt, Int32.toInt_zero] at q; omega, by have q := zn.1.2; simp only [i_lt, Int32.reduceToInt] at q; omega⟩
              have hf : am_in f 40 := ⟨by have q := zf.1; simp only [i_le, Int32.reduceToInt, Int32.toInt_zero] at q; omega, by have q := zf.2; simp only [i_lt, Int32.reduceToInt] at q; omega⟩
              have hy : am_in y 40 := ⟨by have q := zy.1; simp only [i_le, Int32.reduceToInt, Int32.toInt_zero] at q; omega, by have q := zy.2; simp only [i_lt, Int32.reduceToInt] at q; omega⟩
              repeat' (first | (with_reducible exact hmn) | (with_reducible exact n030) | (with_reducible exact n1) | (with_reducible exact w1) | (with_reducible exact w2) | (with_reducible exact hpl) | (with_reducible exact hw) | (with_reducible exact hf) | (with_reducible exact hy) | apply And.intro | exact rfl | (intro hx; with_reducible exact absurd hx qz0) | (intro hx; with_reducible exact absurd hx qzw) | (intro hx; with_reducible exact absurd hx qzf) | (intro hx; with_reducible exact absurd hx qzy) | (intro hx; with_reducible exact absurd qzn hx) | (intro hx; exact absurd hx (by decide)) | (intro hx; exact absurd (by decide) hx) | decide | intro hx | (refine Exists.intro _ (And.intro rfl ?_)))
              all_goals try first | (with_reducible change am_tI _ _) | (change Ret _ _) | (change Ret _ _ _) | (change Exists _)
              all_goals try dsimp only at *
              all_goals try (with_reducible exact absurd ‹(1000 : Int64) = 0› am_z1000)
              all_goals first
                | (with_reducible exact qzn)
                | (with_reducible exact zn.1.1)
                | (with_reducible exact zn.1.2)
                | (with_reducible exact zn.2.1)
                | (with_reducible exact zn.2.2)
                | exact qzn
                | exact zn.1.1
                | exact zn.1.2
                | exact zn.2.1
                | exact zn.2.2
                | exact ⟨_, _, hX⟩
                | exact h _ (by with_reducible assumption) (by with_reducible assumption)
                | skip
  · exact h.elim
/-- the best of the first numbers told -/
def r_bsx (M : am_M) (pl w f y p : Int32) (a : Int64) : Nat → Int32
  | 0 => -1
  | i + 1 => if ((0 ≤ w ∧ w < 6) ∧ am_sf 1 w.toNatClampNeg ≤ M.1 201 (3745 + i) ∧ M.1 201 (3745 + i) ≤ am_sf 2 w.toNatClampNeg) ∧ a ≤ r_triV M pl w (M.1 201 (3745 + i)) f y ∧ z_near (M.1 201 (3745 + i)) (r_bsx M pl w f y p a i) (r_inF M pl w p y) then M.1 201 (3745 + i) else r_bsx M pl w f y p a i
def r_bestV (M : am_M) (pl w f y p : Int32) (a : Int64) : Int32 := if 0 ≤ pl ∧ pl < 5 then (if 0 ≤ w ∧ w < 6 then (if 0 ≤ f ∧ f < 40 then (if 0 ≤ y ∧ y < 40 then (if 0 ≤ p ∧ p < M.1 201 0 then r_bsx M pl w f y p a (M.1 201 5).toNatClampNeg else -2) else -2) else -2) else -2) else -2
theorem r_bsx_y {M : am_M} {pl w f y p : Int32} {a : Int64} {i : Nat} (h1 : am_isNum w (M.1 201 (3745 + i))) (h2 : a ≤ r_triV M pl w (M.1 201 (3745 + i)) f y) (h3 : z_near (M.1 201 (3745 + i)) (r_bsx M pl w f y p a i) (r_inF M pl w p y)) : r_bsx M pl w f y p a (i + 1) = M.1 201 (3745 + i) := if_pos ⟨h1, h2, h3⟩
theorem r_bsx_n {M : am_M} {pl w f y p : Int32} {a : Int64} {i : Nat} (h : ¬ (am_isNum w (M.1 201 (3745 + i)) ∧ a ≤ r_triV M pl w (M.1 201 (3745 + i)) f y ∧ z_near (M.1 201 (3745 + i)) (r_bsx M pl w f y p a i) (r_inF M pl w p y))) : r_bsx M pl w f y p a (i + 1) = r_bsx M pl w f y p a i := if_neg h
theorem r_bsx_b {M : am_M} {pl w f y p : Int32} {a : Int64} : ∀ i : Nat, -1 ≤ (r_bsx M pl w f y p a i).toInt ∧ (r_bsx M pl w f y p a i).toInt ≤ 10000000 ∧ (r_bsx M pl w f y p a i = -1 ∨ 0 ≤ (r_bsx M pl w f y p a i).toInt)
  | 0 => by
    show -1 ≤ (-1 : Int32).toInt ∧ (-1 : Int32).toInt ≤ 10000000 ∧ ((-1 : Int32) = -1 ∨ 0 ≤ (-1 : Int32).toInt)
    exact ⟨by decide, by decide, Or.inl rfl⟩
  | i + 1 => by
    by_cases z : am_isNum w (M.1 201 (3745 + i)) ∧ a ≤ r_triV M pl w (M.1 201 (3745 + i)) f y ∧ z_near (M.1 201 (3745 + i)) (r_bsx M pl w f y p a i) (r_inF M pl w p y)
    · rw [r_bsx_y z.1 z.2.1 z.2.2]
      have q := z_num_b z.1
      exact ⟨by omega, q.2, Or.inr q.1⟩
    · rw [r_bsx_n z]
      exact r_bsx_b i
theorem r_bsx_cg {M N : am_M} (h1 : N.1 201 = M.1 201) (h2 : N.1 200 = M.1 200) {pl w f y p : Int32} {a : Int64} : ∀ i : Nat, r_bsx N pl w f y p a i = r_bsx M pl w f y p a i
  | 0 => rfl
  | i + 1 => by
    have e : r_inF N pl w p y = r_inF M pl w p y := by
      unfold r_inF r_A
      rw [h1, h2]
    unfold r_bsx
    rw [r_bsx_cg h1 h2 i, e, r_triV_cg2 h1 h2, h1]
theorem LI.tld {i1 i2 : Bool} {M : am_M} (h : LI i1 i2 M) {i : Int32} (hi : am_in i 9) : M.1 58 i.toNatClampNeg = M.1 201 (3745 + i.toNatClampNeg) := by
  have q := h.e (o := 38) (k0 := 0) (b0 := 3745) (n := 9) (by decide) (k := i.toNatClampNeg) (g_cl hi)
  rw [Nat.zero_add] at q
  exact q
theorem LI.now {i1 i2 : Bool} {M : am_M} (h : LI i1 i2 M) {pl w p y : Int32} (hpl : am_in pl 5) (hw : am_in w 6) : 0 ≤ (r_inF M pl w p y).toInt ∧ (r_inF M pl w p y).toInt ≤ 10000000 := z_num_b (h.nums hpl hw)
def kX7_bestE (live : am_E) (Ret : am_R) : am_code := [(0, am_iload 1 1), (1, am_callS live 1 TX7_isPlan 4), (4, am_if1 (fun x => x = 0) 31 7), (7, am_iload 2 8), (8, am_const (.int 0) 9), (9, am_const (.int 5) 10), (10, am_callS live 3 TX7_within 13), (13, am_if1 (fun x => x = 0) 31 16), (16, am_iload 3 17), (17, am_callS live 1 TX7_isYear 20), (20, am_if1 (fun x => x = 0) 31 23), (23, am_iload 4 25), (25, am_callS live 1 TX7_isYear 28), (28, am_if1 (fun x => x = 0) 31 34), (31, am_const (.int (-2)) 33), (33, am_retI Ret), (34, am_aload 0 35), (35, am_iload 5 37), (37, am_callV live 7 1 TX7_isPerson 40), (40, am_if1 (fun x => x = 0) 43 46), (43, am_const (.int (-2)) 45), (45, am_retI Ret), (46, am_aload 0 47), (47, am_iload 1 48), (48, am_iload 2 49), (49, am_iload 5 51), (51, am_iload 4 53), (53, am_callV live 7 4 TE7_force 56), (56, am_istore 8 12 58), (58, am_const (.int (-1)) 59), (59, am_istore 9 12 61), (61, am_const (.int 0) 62), (62, am_istore 10 12 64), (64, am_iload 10 66), (66, am_aload 0 67), (67, am_getR live 7 0 70), (70, am_getI live 0 12 73), (73, am_if2 (fun x y => y ≤ x) 143 76), (76, am_iload 10 78), (78, am_const (.int 9) 80), (80, am_if2 (fun x y => y ≤ x) 143 83), (83, am_aload 0 84), (84, am_getR live 7 0 87), (87, am_getR live 0 11 90), (90, am_iload 10 92), (92, am_ald live 0 93), (93, am_istore 11 12 95), (95, am_iload 2 96), (96, am_iload 11 98), (98, am_callS live 2 TX7_isNumber 101), (101, am_if1 (fun x => x = 0) 137 104), (104, am_iload 11 106), (106, am_iload 9 108), (108, am_iload 8 110), (110, am_callS live 3 TE7_isNearer 113), (113, am_if1 (fun x => x = 0) 137 116), (116, am_aload 0 117), (117, am_iload 1 118), (118, am_iload 2 119), (119, am_iload 11 121), (121, am_iload 3 122), (122, am_iload 4 124), (124, am_callV live 7 5 TE7_takenIf 127), (127, am_lload 6 129), (129, am_lcmp 130), (130, am_if1 (fun x => x < 0) 137 133), (133, am_iload 11 135), (135, am_istore 9 12 137), (137, am_iinc 10 12 1 140), (140, am_goto 64), (143, am_iload 9 145), (145, am_retI Ret)]
theorem koX7_bestE (live : am_E) (Ret : am_R) : ∀ q ∈ kX7_bestE live Ret, am_ok RX7 cX7_best 12 (some .int) 6 152 live Ret q.1 q.2 :=
  am_kz dzX7_best <|
  am_kd (fun d => ak_iload_n d rfl rfl) <|
  am_kd (fun d => ak_callS metX7_isPlan ⟨rfl, hy_X7_isPlan⟩ (am_w4 wd_466 wd_467 wd_58 wd_468) (by decide) d rfl) <|
  am_kd (fun d => ak_if_eq d (by decide +kernel) rfl) <|
  am_kd (fun d => ak_iload_n d rfl rfl) <|
  am_kd (fun d => ak_iconst d (by decide +kernel) rfl) <|
  am_kd (fun d => ak_iconst d (by decide +kernel) rfl) <|
  am_kd (fun d => ak_callS metX7_within ⟨rfl, hy_X7_within⟩ (am_w4 wd_418 wd_419 wd_58 wd_420) (by decide) d rfl) <|
  am_kd (fun d => ak_if_eq d (by decide +kernel) rfl) <|
  am_kd (fun d => ak_iload_n d rfl rfl) <|
  am_kd (fun d => ak_callS metX7_isYear ⟨rfl, hy_X7_isYear⟩ (am_w4 wd_407 wd_408 wd_58 wd_409) (by decide) d rfl) <|
  am_kd (fun d => ak_if_eq d (by decide +kernel) rfl) <|
  am_kd (fun d => ak_iload d rfl) <|
  am_kd (fun d => ak_callS metX7_isYear ⟨rfl, hy_X7_isYear⟩ (am_w4 wd_407 wd_408 wd_58 wd_409) (by decide) d rfl) <|
  am_kd (fun d => ak_if_ne d (by decide +kernel) rfl) <|
  am_kd (fun d => ak_bipush d (by decide +kernel) rfl) <|
  am_kd (fun d => ak_retI d) <|
  am_kd (fun d => ak_aload_n d rfl rfl) <|
  am_kd (fun d => ak_iload d rfl) <|
  am_kd (fun d => ak_callV (C := RX7) (F := TX7) (N := 4) metX7_isPerson rfl ⟨rfl, hy_X7_isPerson⟩ (am_w5 wd_414 wd_416 wd_0 wd_58 wd_417) (by decide) d rfl) <|
  am_kd (fun d => ak_if_ne d (by decide +kernel) rfl) <|
  am_kd (fun d => ak_bipush d (by decide +kernel) rfl) <|
  am_kd (fun d => ak_retI d) <|
  am_kd (fun d => ak_aload_n d rfl rfl) <|
  am_kd (fun d => ak_iload_n d rfl rfl) <|
  am_kd (fun d => ak_iload_n d rfl rfl) <|
  am_kd (fun d => ak_iload d rfl) <|
  am_kd (fun d => ak_iload d rfl) <|
  am_kd (fun d => ak_callV (C := RX7) (F := TX7) (N := 4) metX7_forceE rfl ⟨rfl, hy_X7_force⟩ (am_w5 wd_824 wd_490 wd_491 wd_58 wd_492) (by decide) d rfl) <|
  am_kd (fun d => ak_istore d rfl) <|
  am_kd (fun d => ak_iconst d (by decide +kernel) rfl) <|
  am_kd (fun d => ak_istore d rfl) <|
  am_kd (fun d => ak_iconst d (by decide +kernel) rfl) <|
  am_kd (fun d => ak_istore d rfl) <|
  am_kd (fun d => ak_iload d rfl) <|
  am_kd (fun d => ak_aload_n d rfl rfl) <|
  am_kd (fun d => ak_getR (C := RX7) (T := TX7) (N := 4) rfl inX7w (by decide) rfl rfl rfl wd_390 d rfl) <|
  am_kd (fun d => ak_getI (C := RX0) (T := TX0) (N := 13) rfl inX0w (by decide) rfl rfl rfl wd_227 d rfl) <|
  am_kd (fun d => ak_icmp_ge d (by decide +kernel) rfl) <|
  am_kd (fun d => ak_iload d rfl) <|
  am_kd (fun d => ak_bipush d (by decide +kernel) rfl) <|
  am_kd (fun d => ak_icmp_ge d (by decide +kernel) rfl) <|
  am_kd (fun d => ak_aload_n d rfl rfl) <|
  am_kd (fun d => ak_getR (C := RX7) (T := TX7) (N := 4) rfl inX7w (by decide) rfl rfl rfl wd_390 d rfl) <|
  am_kd (fun d => ak_getR (C := RX0) (T := TX0) (N := 13) rfl inX0w (by decide) rfl rfl rfl wd_225 d rfl) <|
  am_kd (fun d => ak_iload d rfl) <|
  am_kd (fun d => ak_iald (t := 0) (fun _ => rfl) rfl d rfl) <|
  am_kd (fun d => ak_istore d rfl) <|
  am_kd (fun d => ak_iload_n d rfl rfl) <|
  am_kd (fun d => ak_iload d rfl) <|
  am_kd (fun d => ak_callS metX7_isNumber ⟨rfl, hy_X7_isNumber⟩ (am_w4 wd_469 wd_470 wd_58 wd_471) (by decide) d rfl) <|
  am_kd (fun d => ak_if_eq d (by decide +kernel) rfl) <|
  am_kd (fun d => ak_iload d rfl) <|
  am_kd (fun d => ak_iload d rfl) <|
  am_kd (fun d => ak_iload d rfl) <|
  am_kd (fun d => ak_callS metX7_isNearerE ⟨rfl, hy_X7_isNearer⟩ (am_w4 wd_825 wd_826 wd_58 wd_827) (by decide) d rfl) <|
  am_kd (fun d => ak_if_eq d (by decide +kernel) rfl) <|
  am_kd (fun d => ak_aload_n d rfl rfl) <|
  am_kd (fun d => ak_iload_n d rfl rfl) <|
  am_kd (fun d => ak_iload_n d rfl rfl) <|
  am_kd (fun d => ak_iload d rfl) <|
  am_kd (fun d => ak_iload_n d rfl rfl) <|
  am_kd (fun d => ak_iload d rfl) <|
  am_kd (fun d => ak_callV (C := RX7) (F := TX7) (N := 4) metX7_takenIfE rfl ⟨rfl, hy_X7_takenIf⟩ (am_w5 wd_804 wd_806 wd_26 wd_58 wd_807) (by decide) d rfl) <|
  am_kd (fun d => ak_lload d rfl) <|
  am_kd (fun d => ak_lcmp d rfl) <|
  am_kd (fun d => ak_if_lt d (by decide +kernel) rfl) <|
  am_kd (fun d => ak_iload d rfl) <|
  am_kd (fun d => ak_istore d rfl) <|
  am_kd (fun d => ak_iinc d (by decide +kernel) rfl) <|
  am_kd (fun d => ak_goto d (by decide +kernel)) <|
  am_kd (fun d => ak_iload d rfl) <|
  am_kd (fun d => ak_retI d) <| am_kdn
def TE7_best : am_T := fun live as M R => match as with
  | [.ref n, .int pl, .int w, .int f, .int y, .int p, .long a] => am_mn live ∧ n = 0 ∧ (∃ i1 i2, LX i1 i2 M) ∧ ∀ M', g_sa M M' → g_rI M' → R (some (.int (r_bestV M pl w f y p a))) M'
  | _ => False
def JE7_best : am_E → List Value → am_M → am_R → am_inv := fun live as M0 _ pc => match as with
  | [.ref n, .int pl, .int w, .int f, .int y, .int p, .long a] => (match pc with
    | 64 => some ([0, 1, 2, 3, 4, 6, 8, 9, 10], fun u L st M => ∃ o b i : Int32, L = [(0, .ref 0), (1, .int pl), (2, .int w), (3, .int f), (4, .int y), (6, .long a), (8, .int o), (9, .int b), (10, .int i)] ∧ st = [] ∧ u = ((10 - i.toInt).toNat, 0) ∧ (0 ≤ i.toInt ∧ i.toInt ≤ (M0.1 201 5).toInt) ∧ (am_in pl 5 ∧ am_in w 6 ∧ am_in f 40 ∧ am_in y 40) ∧ r_bestV M0 pl w f y p a = r_bsx M0 pl w f y p a (M0.1 201 5).toNatClampNeg ∧ o = r_inF M0 pl w p y ∧ b = r_bsx M0 pl w f y p a i.toNatClampNeg ∧ g_sa M0 M ∧ g_rI M)
    | _ => none)
  | _ => none
set_option maxRecDepth 100000 in
set_option maxHeartbeats 4000000 in
theorem metX7_bestE : am_Met yX7_best cX7_best 12 (some .int) (6) (152) TE7_best := by
  refine am_met (own := RX7) (by decide +kernel) rfl kX7_bestE koX7_bestE 200 JE7_best ?_ ?_
  · intro live as M Ret h
    unfold TE7_best at h
    split at h
    · next n pl w f y p a =>
      refine ⟨Nat.le_of_ble_eq_true rfl, ?_⟩
      change am_wp _ _ _ _ [(0, Value.ref n), (1, Value.int pl), (2, Value.int w), (3, Value.int f), (4, Value.int y), (5, Value.int p), (6, Value.long a)] _ _
      obtain ⟨hmn, rfl, ⟨j1, j2, hX⟩, h⟩ := h
      have hmn2 := hmn
      obtain ⟨i1, i2, rfl⟩ := hmn2
      have hR := hX.li.g
      have hH := hX.li.h
      have le0 := hX.li.e0
      by_cases y0 : 0 ≤ pl ∧ pl < 5
      rotate_left
      · skip
        have e : r_bestV M pl w f y p a = -2 := by unfold r_bestV; rw [if_neg y0]
        rw [e] at h
        have q0 : (if 0 ≤ pl ∧ pl < 5 then (1 : Int32) else 0) = 0 := if_neg y0
        repeat' (first | (with_reducible exact hmn) | apply And.intro | exact rfl | (intro hx; with_reducible exact absurd q0 hx) | (intro hx; exact absurd hx (by decide)) | (intro hx; exact absurd (by decide) hx) | decide | intro hx | (refine Exists.intro _ (And.intro rfl ?_)))
        all_goals try first | (with_reducible change am_tI _ _) | (change Ret _ _) | (change Ret _ _ _) | (change Exists _)
        all_goals try dsimp only at *
        all_goals try (with_reducible exact absurd ‹(1000 : Int64) = 0› am_z1000)
        all_goals exact h _ g_sv.rf.a hR
      · skip
        have q0 : ¬ ((if 0 ≤ pl ∧ pl < 5 then (1 : Int32) else 0) = 0) := by rw [if_pos y0]; decide
        by_cases y1 : 0 ≤ w ∧ w < 6
        rotate_left
        · skip
          have e : r_bestV M pl w f y p a = -2 := by unfold r_bestV; rw [if_pos y0, if_neg y1]
          rw [e] at h
          have q1 : (if 0 ≤ w ∧ w ≤ 5 then (1 : Int32) else 0) = 0 := if_neg (fun z => y1 ⟨z.1, by have q := z.2; simp only [i_le, i_lt, Int32.reduceToInt] at q ⊢; omega⟩)
          repeat' (first | (with_reducible exact hmn) | apply And.intro | exact rfl | (intro hx; with_reducible exact absurd hx q0) | (intro hx; with_reducible exact absurd q1 hx) | (intro hx; exact absurd hx (by decide)) | (intro hx; exact absurd (by decide) hx) | decide | intro hx | (refine Exists.intro _ (And.intro rfl ?_)))
          all_goals try first | (with_reducible change am_tI _ _) | (change Ret _ _) | (change Ret _ _ _) | (change Exists _)
          all_goals try dsimp only at *
          all_goals try (with_reducible exact absurd ‹(1000 : Int64) = 0› am_z1000)
          all_goals exact h _ g_sv.rf.a hR
        · skip
          have q1 : ¬ ((if 0 ≤ w ∧ w ≤ 5 then (1 : Int32) else 0) = 0) := by rw [if_pos ⟨y1.1, by have q := y1.2; simp only [i_le, i_lt, Int32.reduceToInt] at q ⊢; omega⟩]; decide
          by_cases y2 : 0 ≤ f ∧ f < 40
          rotate_left
          · skip
            have e : r_bestV M pl w f y p a = -2 := by unfold r_bestV; rw [if_pos y0, if_pos y1, if_neg y2]
            rw [e] at h
            have q2 : (if 0 ≤ f ∧ f < 40 then (1 : Int32) else 0) = 0 := if_neg y2
            repeat' (first | (with_reducible exact hmn) | apply And.intro | exact rfl | (intro hx; with_reducible exact absurd hx q0) | (intro hx; with_reducible exact absurd hx q1) | (intro hx; with_reducible exact absurd q2 hx) | (intro hx; exact absurd hx (by decide)) | (intro hx; exact absurd (by decide) hx) | decide | intro hx | (refine Exists.intro _ (And.intro rfl ?_)))
            all_goals try first | (with_reducible change am_tI _ _) | (change Ret _ _) | (change Ret _ _ _) | (change Exists _)
            all_goals try dsimp only at *
            all_goals try (with_reducible exact absurd ‹(1000 : Int64) = 0› am_z1000)
            all_goals exact h _ g_sv.rf.a hR
          · skip
            have q2 : ¬ ((if 0 ≤ f ∧ f < 40 then (1 : Int32) else 0) = 0) := by rw [if_pos y2]; decide
            by_cases y3 : 0 ≤ y ∧ y < 40
            rotate_left
            · skip
              have e : r_bestV M pl w f y p a = -2 := by unfold r_bestV; rw [if_pos y0, if_pos y1, if_pos y2, if_neg y3]
              rw [e] at h
              have q3 : (if 0 ≤ y ∧ y < 40 then (1 : Int32) else 0) = 0 := if_neg y3
              repeat' (first | (with_reducible exact hmn) | apply And.intro | exact rfl | (intro hx; with_reducible exact absurd hx q0) | (intro hx; with_reducible exact absurd hx q1) | (intro hx; with_reducible exact absurd hx q2) | (intro hx; with_reducible exact absurd q3 hx) | (intro hx; exact absurd hx (by decide)) | (intro hx; exact absurd (by decide) hx) | decide | intro hx | (refine Exists.intro _ (And.intro rfl ?_)))
              all_goals try first | (with_reducible change am_tI _ _) | (change Ret _ _) | (change Ret _ _ _) | (change Exists _)
              all_goals try dsimp only at *
              all_goals try (with_reducible exact absurd ‹(1000 : Int64) = 0› am_z1000)
              all_goals exact h _ g_sv.rf.a hR
            · skip
              have q3 : ¬ ((if 0 ≤ y ∧ y < 40 then (1 : Int32) else 0) = 0) := by rw [if_pos y3]; decide
              by_cases y4 : 0 ≤ p ∧ p < M.1 201 0
              rotate_left
              · skip
                have e : r_bestV M pl w f y p a = -2 := by unfold r_bestV; rw [if_pos y0, if_pos y1, if_pos y2, if_pos y3, if_neg y4]
                rw [e] at h
                have q4 : (if 0 ≤ p ∧ p < M.1 21 7 then (1 : Int32) else 0) = 0 := if_neg (fun z => y4 (by rw [← le0]; exact z))
                repeat' (first | (with_reducible exact hmn) | apply And.intro | exact rfl | (intro hx; with_reducible exact absurd hx q0) | (intro hx; with_reducible exact absurd hx q1) | (intro hx; with_reducible exact absurd hx q2) | (intro hx; with_reducible exact absurd hx q3) | (intro hx; with_reducible exact absurd q4 hx) | (intro hx; exact absurd hx (by decide)) | (intro hx; exact absurd (by decide) hx) | decide | intro hx | (refine Exists.intro _ (And.intro rfl ?_)))
                all_goals try first | (with_reducible change am_tI _ _) | (change Ret _ _) | (change Ret _ _ _) | (change Exists _)
                all_goals try dsimp only at *
                all_goals try (with_reducible exact absurd ‹(1000 : Int64) = 0› am_z1000)
                all_goals exact h _ g_sv.rf.a hR
              · skip
                have q4 : ¬ ((if 0 ≤ p ∧ p < M.1 21 7 then (1 : Int32) else 0) = 0) := by rw [if_pos (by rw [le0]; exact y4)]; decide
                have e : r_bestV M pl w f y p a = r_bsx M pl w f y p a (M.1 201 5).toNatClampNeg := by unfold r_bestV; rw [if_pos y0, if_pos y1, if_pos y2, if_pos y3, if_pos y4]
                have hpl : am_in pl 5 := ⟨by have q := y0.1; simp only [i_le, Int32.reduceToInt, Int32.toInt_zero] at q; omega, by have q := y0.2; simp only [i_lt, Int32.reduceToInt] at q; omega⟩
                have hw : am_in w 6 := ⟨by have q := y1.1; simp only [i_le, Int32.reduceToInt, Int32.toInt_zero] at q; omega, by have q := y1.2; simp only [i_lt, Int32.reduceToInt] at q; omega⟩
                have hf : am_in f 40 := ⟨by have q := y2.1; simp only [i_le, Int32.reduceToInt, Int32.toInt_zero] at q; omega, by have q := y2.2; simp only [i_lt, Int32.reduceToInt] at q; omega⟩
                have hy : am_in y 40 := ⟨by have q := y3.1; simp only [i_le, Int32.reduceToInt, Int32.toInt_zero] at q; omega, by have q := y3.2; simp only [i_lt, Int32.reduceToInt] at q; omega⟩
                have hp : am_in p 12 := ⟨by have q := y4.1; simp only [i_le, Int32.reduceToInt, Int32.toInt_zero] at q; omega, by have q := y4.2; simp only [i_lt] at q; have := hX.li.n0.2; omega⟩
                have hA := hX.li.cA
                have n5 := hX.li.n5
                have ef : c_forceV M pl w p y = r_inF M pl w p y := by
                  rw [(hX.li.force pl w p y).1]
                  unfold r_force
                  rw [if_pos y0, if_pos y1, if_pos y4, if_pos y3]
                repeat' (first | (with_reducible exact hmn) | (with_reducible exact hR) | (with_reducible exact hH) | (with_reducible exact hA) | apply And.intro | exact rfl | (intro hx; with_reducible exact absurd hx q0) | (intro hx; with_reducible exact absurd hx q1) | (intro hx; with_reducible exact absurd hx q2) | (intro hx; with_reducible exact absurd hx q3) | (intro hx; with_reducible exact absurd hx q4) | ((with_reducible change g_rI _); (with_reducible assumption)) | (intro hx; exact absurd hx (by decide)) | (intro hx; exact absurd (by decide) hx) | decide | intro hx | (refine Exists.intro _ (And.intro rfl ?_)))
                all_goals try first | (with_reducible change am_tI _ _) | (change Ret _ _) | (change Ret _ _ _) | (change Exists _)
                all_goals try dsimp only at *
                all_goals try (with_reducible exact absurd ‹(1000 : Int64) = 0› am_z1000)
                all_goals
                  rename_i N c5
                  have rN := hx
                  exact ⟨_, _, _, _, rfl, rfl, rfl, ⟨by decide, n5.1⟩, ⟨hpl, hw, hf, hy⟩, e, ef, rfl, (g_sc.v c5.sc).a, rN⟩
    · exact h.elim
  · intro live as M0 Ret h k pc I hI L st M hi
    unfold TE7_best at h
    split at h
    · next n pl w f y p a =>
      obtain ⟨hmn, rfl, ⟨j1, j2, hX⟩, h⟩ := h
      have hmn2 := hmn
      obtain ⟨i1, i2, rfl⟩ := hmn2
      have n5 := hX.li.n5
      have c5 := i_clamp n5.1
      change (match pc with | 64 => _ | _ => none) = _ at hI
      split at hI
      · cases hI
        obtain ⟨o, b, i, rfl, rfl, rfl, ⟨e1, e4⟩, ⟨hpl, hw, hf, hy⟩, eV, eo, eb, e2, e3⟩ := hi
        have hX2 := hX.sa e2 e3
        have ci := i_clamp e1
        have c201 : M.1 201 = M0.1 201 := funext fun k => by
          obtain ⟨-, q⟩ := e2
          exact (q 201 k (by decide) (fun w => absurd w (by decide))).1
        have t5 : M.1 20 12 = M0.1 201 5 := by rw [hX2.li.e5, c201]
        by_cases hz : M.1 20 12 ≤ i
        · have hz2 := hz
          rw [t5] at hz2
          simp only [i_le] at hz2
          have hh := h M e2 e3
          rw [eV, show (M0.1 201 5).toNatClampNeg = i.toNatClampNeg by omega, ← eb] at hh
          repeat' (first | (with_reducible exact hmn) | apply And.intro | exact rfl | (intro hx; with_reducible exact absurd hz hx) | intro hx | (refine Exists.intro _ (And.intro rfl ?_)))
          all_goals try first | (with_reducible change am_tI _ _) | (change Ret _ _) | (change Ret _ _ _) | (change Exists _)
          all_goals try dsimp only at *
          all_goals try (with_reducible exact absurd ‹(1000 : Int64) = 0› am_z1000)
          all_goals exact hh
        · have hz2 := hz
          rw [t5] at hz2
          simp only [i_le] at hz2
          have h9 : ¬ (9 : Int32) ≤ i := fun q => by simp only [i_le, Int32.reduceToInt] at q; omega
          have hi := i_inc (x := i) (by omega) (by omega)
          have ci1 := i_clamp (x := i + 1) (by omega)
          have hi9 : am_in i 9 := ⟨e1, by omega⟩
          have l58 : am_len 58 = 9 := rfl
          have ev : M.1 58 i.toNatClampNeg = M0.1 201 (3745 + i.toNatClampNeg) := by rw [hX2.li.tld hi9, c201]
          have now := hX.li.now (p := p) (y := y) hpl hw
          have bb := r_bsx_b (M := M0) (pl := pl) (w := w) (f := f) (y := y) (p := p) (a := a) i.toNatClampNeg
          rw [← eb] at bb
          rw [← eo] at now
          have eT : ∀ v, r_triV M pl w v f y = r_triV M0 pl w v f y := fun v => r_triV_cg c201 hX2.li.n7 hX.li.n7
          have nx : (i + 1).toNatClampNeg = i.toNatClampNeg + 1 := by omega
          by_cases zn : am_isNum w (M.1 58 i.toNatClampNeg)
          · have vb := z_num_b zn
            have zn2 := zn
            rw [ev] at zn2
            by_cases zr : z_near (M.1 58 i.toNatClampNeg) b o
            · have q2 : ¬ ((if z_near (M.1 58 i.toNatClampNeg) b o then (1 : Int32) else 0) = 0) := by rw [if_pos zr]; decide
              have zr2 := zr
              rw [ev, eb, eo] at zr2
              by_cases zt : lg_cmp (r_triV M pl w (M.1 58 i.toNatClampNeg) f y) a < 0
              · have zt2 := zt
                rw [lc_lt, eT, ev] at zt2
                have en : b = r_bsx M0 pl w f y p a (i + 1).toNatClampNeg := by
                  rw [nx, r_bsx_n (fun q => absurd q.2.1 (Int64.not_le.mpr zt2)), eb]
                repeat' (first | (with_reducible exact hmn) | (with_reducible exact vb) | (with_reducible exact now) | (with_reducible exact hpl) | (with_reducible exact hw) | (with_reducible exact hf) | (with_reducible exact hy) | (with_reducible exact e3) | apply And.intro | exact rfl | (intro hx; with_reducible exact absurd hx hz) | (intro hx; with_reducible exact absurd hx h9) | (intro hx; with_reducible exact absurd hx q2) | (intro hx; with_reducible exact absurd zn hx) | (intro hx; with_reducible exact absurd zt hx) | (intro hx; exact absurd hx (by decide)) | (intro hx; exact absurd (by decide) hx) | decide | intro hx | (refine Exists.intro _ (And.intro rfl ?_)))
                all_goals try first | (with_reducible change am_tI _ _) | (change Ret _ _) | (change Ret _ _ _) | (change Exists _)
                all_goals try dsimp only at *
                all_goals try (with_reducible exact absurd ‹(1000 : Int64) = 0› am_z1000)
                all_goals first
                  | omega
                  | (rw [l58]; omega)
                  | (with_reducible exact zn)
                  | (with_reducible exact zn.1.1)
                  | (with_reducible exact zn.1.2)
                  | (with_reducible exact zn.2.1)
                  | (with_reducible exact zn.2.2)
                  | exact zn
                  | exact zn.1.1
                  | exact zn.1.2
                  | exact zn.2.1
                  | exact zn.2.2
                  | exact ⟨bb.1, bb.2.1⟩
                  | (with_reducible exact bb.1)
                  | (with_reducible exact bb.2.1)
                  | exact bb.1
                  | exact bb.2.1
                  | exact ⟨_, _, hX2⟩
                  | exact ⟨_, am_lt_l (by omega), _, _, _, rfl, rfl, rfl, ⟨by omega, by omega⟩, ⟨hpl, hw, hf, hy⟩, eV, eo, en, e2.tr (by with_reducible assumption), by with_reducible assumption⟩
                  | skip
              · have zt2 := zt
                rw [lc_lt, eT, ev] at zt2
                have ey : M.1 58 i.toNatClampNeg = r_bsx M0 pl w f y p a (i + 1).toNatClampNeg := by
                  rw [nx, r_bsx_y zn2 (Int64.not_lt.mp zt2) zr2, ev]
                repeat' (first | (with_reducible exact hmn) | (with_reducible exact vb) | (with_reducible exact now) | (with_reducible exact hpl) | (with_reducible exact hw) | (with_reducible exact hf) | (with_reducible exact hy) | (with_reducible exact e3) | apply And.intro | exact rfl | (intro hx; with_reducible exact absurd hx hz) | (intro hx; with_reducible exact absurd hx h9) | (intro hx; with_reducible exact absurd hx q2) | (intro hx; with_reducible exact absurd hx zt) | (intro hx; with_reducible exact absurd zn hx) | (intro hx; exact absurd hx (by decide)) | (intro hx; exact absurd (by decide) hx) | decide | intro hx | (refine Exists.intro _ (And.intro rfl ?_)))
                all_goals try first | (with_reducible change am_tI _ _) | (change Ret _ _) | (change Ret _ _ _) | (change Exists _)
                all_goals try dsimp only at *
                all_goals try (with_reducible exact absurd ‹(1000 : Int64) = 0› am_z1000)
                all_goals first
                  | omega
                  | (rw [l58]; omega)
                  | (with_reducible exact zn)
                  | (with_reducible exact zn.1.1)
                  | (with_reducible exact zn.1.2)
                  | (with_reducible exact zn.2.1)
                  | (with_reducible exact zn.2.2)
                  | exact zn
                  | exact zn.1.1
                  | exact zn.1.2
                  | exact zn.2.1
                  | exact zn.2.2
                  | exact ⟨bb.1, bb.2.1⟩
                  | (with_reducible exact bb.1)
                  | (with_reducible exact bb.2.1)
                  | exact bb.1
                  | exact bb.2.1
                  | exact ⟨_, _, hX2⟩
                  | exact ⟨_, am_lt_l (by omega), _, _, _, rfl, rfl, rfl, ⟨by omega, by omega⟩, ⟨hpl, hw, hf, hy⟩, eV, eo, ey, e2.tr (by with_reducible assumption), by with_reducible assumption⟩
                  | skip
            · have q2 : (if z_near (M.1 58 i.toNatClampNeg) b o then (1 : Int32) else 0) = 0 := if_neg zr
              have en : b = r_bsx M0 pl w f y p a (i + 1).toNatClampNeg := by
                rw [nx, r_bsx_n (fun q => zr (by rw [ev, eb, eo]; exact q.2.2)), eb]
              repeat' (first | (with_reducible exact hmn) | (with_reducible exact vb) | (with_reducible exact now) | apply And.intro | exact rfl | (intro hx; with_reducible exact absurd hx hz) | (intro hx; with_reducible exact absurd hx h9) | (intro hx; with_reducible exact absurd zn hx) | (intro hx; with_reducible exact absurd q2 hx) | (intro hx; exact absurd hx (by decide)) | (intro hx; exact absurd (by decide) hx) | decide | intro hx | (refine Exists.intro _ (And.intro rfl ?_)))
              all_goals try first | (with_reducible change am_tI _ _) | (change Ret _ _) | (change Ret _ _ _) | (change Exists _)
              all_goals try dsimp only at *
              all_goals try (with_reducible exact absurd ‹(1000 : Int64) = 0› am_z1000)
              all_goals first
                | omega
                | (rw [l58]; omega)
                | (with_reducible exact zn)
                | (with_reducible exact zn.1.1)
                | (with_reducible exact zn.1.2)
                | (with_reducible exact zn.2.1)
                | (with_reducible exact zn.2.2)
                | exact zn
                | exact zn.1.1
                | exact zn.1.2
                | exact zn.2.1
                | exact zn.2.2
                | exact ⟨bb.1, bb.2.1⟩
                | (with_reducible exact bb.1)
                | (with_reducible exact bb.2.1)
                | exact bb.1
                | exact bb.2.1
                | exact ⟨_, am_lt_l (by omega), _, _, _, rfl, rfl, rfl, ⟨by omega, by omega⟩, ⟨hpl, hw, hf, hy⟩, eV, eo, en, e2, e3⟩
                | skip
          · have en : b = r_bsx M0 pl w f y p a (i + 1).toNatClampNeg := by
              rw [nx, r_bsx_n (fun q => zn (by rw [ev]; exact q.1)), eb]
            repeat' (first | (with_reducible exact hmn) | apply And.intro | exact rfl | (intro hx; with_reducible exact absurd hx hz) | (intro hx; with_reducible exact absurd hx h9) | (intro hx; with_reducible exact absurd hx zn) | (intro hx; exact absurd hx (by decide)) | (intro hx; exact absurd (by decide) hx) | decide | intro hx | (refine Exists.intro _ (And.intro rfl ?_)))
            all_goals try first | (with_reducible change am_tI _ _) | (change Ret _ _) | (change Ret _ _ _) | (change Exists _)
            all_goals try dsimp only at *
            all_goals try (with_reducible exact absurd ‹(1000 : Int64) = 0› am_z1000)
            all_goals first
              | omega
              | (rw [l58]; omega)
              | exact ⟨_, am_lt_l (by omega), _, _, _, rfl, rfl, rfl, ⟨by omega, by omega⟩, ⟨hpl, hw, hf, hy⟩, eV, eo, en, e2, e3⟩
              | skip
      · cases hI
    · exact h.elim
def kX8_bestE (live : am_E) (Ret : am_R) : am_code := [(0, am_iload 1 1), (1, am_callS live 1 TX8_isPlan 4), (4, am_if1 (fun x => x = 0) 38 7), (7, am_iload 2 8), (8, am_callS live 1 TX8_isWhat 11), (11, am_if1 (fun x => x = 0) 38 14), (14, am_iload 3 15), (15, am_callS live 1 TX8_isYear 18), (18, am_if1 (fun x => x = 0) 38 21), (21, am_iload 4 23), (23, am_callS live 1 TX8_isYear 26), (26, am_if1 (fun x => x = 0) 38 29), (29, am_aload 0 30), (30, am_iload 5 32), (32, am_callV live 8 1 TX8_isPerson 35), (35, am_if1 (fun x => x = 0) 38 41), (38, am_const (.int (-2)) 40), (40, am_retI Ret), (41, am_aload 0 42), (42, am_iload 1 43), (43, am_iload 2 44), (44, am_iload 5 46), (46, am_iload 4 48), (48, am_callV live 8 4 TE8_inForce 51), (51, am_istore 8 13 53), (53, am_const (.int (-1)) 54), (54, am_istore 9 13 56), (56, am_const (.int 0) 57), (57, am_istore 10 13 59), (59, am_iload 10 61), (61, am_aload 0 62), (62, am_getR live 8 0 65), (65, am_const (.int 5) 66), (66, am_ald live 0 67), (67, am_if2 (fun x y => y ≤ x) 182 70), (70, am_aload 0 71), (71, am_getR live 8 0 74), (74, am_const (.int 3745) 77), (77, am_iload 10 79), (79, am_i2 (fun x y => x + y) 80), (80, am_ald live 0 81), (81, am_istore 11 13 83), (83, am_iload 2 84), (84, am_iload 11 86), (86, am_callS live 2 TX8_mayBe 89), (89, am_if1 (fun x => x = 0) 176 92), (92, am_aload 0 93), (93, am_iload 1 94), (94, am_iload 2 95), (95, am_iload 11 97), (97, am_iload 3 98), (98, am_iload 4 100), (100, am_callV live 8 5 TE8_triedOf 103), (103, am_lload 6 105), (105, am_lcmp 106), (106, am_if1 (fun x => x < 0) 176 109), (109, am_iload 9 111), (111, am_if1 (fun x => x < 0) 155 114), (114, am_iload 11 116), (116, am_iload 8 118), (118, am_callS live 2 TE8_far 121), (121, am_iload 9 123), (123, am_iload 8 125), (125, am_callS live 2 TE8_far 128), (128, am_if2 (fun x y => x < y) 155 131), (131, am_iload 11 133), (133, am_iload 8 135), (135, am_callS live 2 TE8_far 138), (138, am_iload 9 140), (140, am_iload 8 142), (142, am_callS live 2 TE8_far 145), (145, am_if2 (fun x y => x = y) 148 159), (148, am_iload 11 150), (150, am_iload 9 152), (152, am_if2 (fun x y => y ≤ x) 159 155), (155, am_const (.int 1) 156), (156, am_goto 160), (159, am_const (.int 0) 160), (160, am_istore 12 13 162), (162, am_iload 12 164), (164, am_if1 (fun x => x = 0) 172 167), (167, am_iload 11 169), (169, am_goto 174), (172, am_iload 9 174), (174, am_istore 9 13 176), (176, am_iinc 10 13 1 179), (179, am_goto 59), (182, am_iload 9 184), (184, am_retI Ret)]
theorem koX8_bestE (live : am_E) (Ret : am_R) : ∀ q ∈ kX8_bestE live Ret, am_ok RX8 cX8_best 13 (some .int) 11 281 live Ret q.1 q.2 :=
  am_kz dzX8_best <|
  am_kd (fun d => ak_iload_n d rfl rfl) <|
  am_kd (fun d => ak_callS metX8_isPlan ⟨rfl, hy_X8_isPlan⟩ (am_w4 wd_1034 wd_1035 wd_67 wd_1036) (by decide) d rfl) <|
  am_kd (fun d => ak_if_eq d (by decide +kernel) rfl) <|
  am_kd (fun d => ak_iload_n d rfl rfl) <|
  am_kd (fun d => ak_callS metX8_isWhat ⟨rfl, hy_X8_isWhat⟩ (am_w4 wd_1038 wd_1039 wd_67 wd_1040) (by decide) d rfl) <|
  am_kd (fun d => ak_if_eq d (by decide +kernel) rfl) <|
  am_kd (fun d => ak_iload_n d rfl rfl) <|
  am_kd (fun d => ak_callS metX8_isYear ⟨rfl, hy_X8_isYear⟩ (am_w4 wd_982 wd_983 wd_67 wd_984) (by decide) d rfl) <|
  am_kd (fun d => ak_if_eq d (by decide +kernel) rfl) <|
  am_kd (fun d => ak_iload d rfl) <|
  am_kd (fun d => ak_callS metX8_isYear ⟨rfl, hy_X8_isYear⟩ (am_w4 wd_982 wd_983 wd_67 wd_984) (by decide) d rfl) <|
  am_kd (fun d => ak_if_eq d (by decide +kernel) rfl) <|
  am_kd (fun d => ak_aload_n d rfl rfl) <|
  am_kd (fun d => ak_iload d rfl) <|
  am_kd (fun d => ak_callV (C := RX8) (F := TX8) (N := 27) metX8_isPerson rfl ⟨rfl, hy_X8_isPerson⟩ (am_w5 wd_993 wd_995 wd_27 wd_67 wd_996) (by decide) d rfl) <|
  am_kd (fun d => ak_if_ne d (by decide +kernel) rfl) <|
  am_kd (fun d => ak_bipush d (by decide +kernel) rfl) <|
  am_kd (fun d => ak_retI d) <|
  am_kd (fun d => ak_aload_n d rfl rfl) <|
  am_kd (fun d => ak_iload_n d rfl rfl) <|
  am_kd (fun d => ak_iload_n d rfl rfl) <|
  am_kd (fun d => ak_iload d rfl) <|
  am_kd (fun d => ak_iload d rfl) <|
  am_kd (fun d => ak_callV (C := RX8) (F := TX8) (N := 27) metX8_inForceE rfl ⟨rfl, hy_X8_inForce⟩ (am_w5 wd_1053 wd_1055 wd_29 wd_67 wd_1056) (by decide) d rfl) <|
  am_kd (fun d => ak_istore d rfl) <|
  am_kd (fun d => ak_iconst d (by decide +kernel) rfl) <|
  am_kd (fun d => ak_istore d rfl) <|
  am_kd (fun d => ak_iconst d (by decide +kernel) rfl) <|
  am_kd (fun d => ak_istore d rfl) <|
  am_kd (fun d => ak_iload d rfl) <|
  am_kd (fun d => ak_aload_n d rfl rfl) <|
  am_kd (fun d => ak_getR (C := RX8) (T := TX8) (N := 27) rfl inX8w (by decide) rfl rfl rfl wd_895 d rfl) <|
  am_kd (fun d => ak_iconst d (by decide +kernel) rfl) <|
  am_kd (fun d => ak_iald (t := 0) (fun _ => rfl) rfl d rfl) <|
  am_kd (fun d => ak_icmp_ge d (by decide +kernel) rfl) <|
  am_kd (fun d => ak_aload_n d rfl rfl) <|
  am_kd (fun d => ak_getR (C := RX8) (T := TX8) (N := 27) rfl inX8w (by decide) rfl rfl rfl wd_895 d rfl) <|
  am_kd (fun d => ak_sipush d (by decide +kernel) rfl) <|
  am_kd (fun d => ak_iload d rfl) <|
  am_kd (fun d => ak_iadd d rfl) <|
  am_kd (fun d => ak_iald (t := 0) (fun _ => rfl) rfl d rfl) <|
  am_kd (fun d => ak_istore d rfl) <|
  am_kd (fun d => ak_iload_n d rfl rfl) <|
  am_kd (fun d => ak_iload d rfl) <|
  am_kd (fun d => ak_callS metX8_mayBe ⟨rfl, hy_X8_mayBe⟩ (am_w4 wd_1042 wd_1043 wd_67 wd_1044) (by decide) d rfl) <|
  am_kd (fun d => ak_if_eq d (by decide +kernel) rfl) <|
  am_kd (fun d => ak_aload_n d rfl rfl) <|
  am_kd (fun d => ak_iload_n d rfl rfl) <|
  am_kd (fun d => ak_iload_n d rfl rfl) <|
  am_kd (fun d => ak_iload d rfl) <|
  am_kd (fun d => ak_iload_n d rfl rfl) <|
  am_kd (fun d => ak_iload d rfl) <|
  am_kd (fun d => ak_callV (C := RX8) (F := TX8) (N := 27) metX8_triedOfE rfl ⟨rfl, hy_X8_triedOf⟩ (am_w5 wd_1270 wd_1272 wd_56 wd_67 wd_1273) (by decide) d rfl) <|
  am_kd (fun d => ak_lload d rfl) <|
  am_kd (fun d => ak_lcmp d rfl) <|
  am_kd (fun d => ak_if_lt d (by decide +kernel) rfl) <|
  am_kd (fun d => ak_iload d rfl) <|
  am_kd (fun d => ak_if_lt d (by decide +kernel) rfl) <|
  am_kd (fun d => ak_iload d rfl) <|
  am_kd (fun d => ak_iload d rfl) <|
  am_kd (fun d => ak_callS metX8_farE ⟨rfl, hy_X8_far⟩ (am_w4 wd_1286 wd_1287 wd_67 wd_1288) (by decide) d rfl) <|
  am_kd (fun d => ak_iload d rfl) <|
  am_kd (fun d => ak_iload d rfl) <|
  am_kd (fun d => ak_callS metX8_farE ⟨rfl, hy_X8_far⟩ (am_w4 wd_1286 wd_1287 wd_67 wd_1288) (by decide) d rfl) <|
  am_kd (fun d => ak_icmp_lt d (by decide +kernel) rfl) <|
  am_kd (fun d => ak_iload d rfl) <|
  am_kd (fun d => ak_iload d rfl) <|
  am_kd (fun d => ak_callS metX8_farE ⟨rfl, hy_X8_far⟩ (am_w4 wd_1286 wd_1287 wd_67 wd_1288) (by decide) d rfl) <|
  am_kd (fun d => ak_iload d rfl) <|
  am_kd (fun d => ak_iload d rfl) <|
  am_kd (fun d => ak_callS metX8_farE ⟨rfl, hy_X8_far⟩ (am_w4 wd_1286 wd_1287 wd_67 wd_1288) (by decide) d rfl) <|
  am_kd (fun d => ak_icmp_ne d (by decide +kernel) rfl) <|
  am_kd (fun d => ak_iload d rfl) <|
  am_kd (fun d => ak_iload d rfl) <|
  am_kd (fun d => ak_icmp_ge d (by decide +kernel) rfl) <|
  am_kd (fun d => ak_iconst d (by decide +kernel) rfl) <|
  am_kd (fun d => ak_goto d (by decide +kernel)) <|
  am_kd (fun d => ak_iconst d (by decide +kernel) rfl) <|
  am_kd (fun d => ak_istore d rfl) <|
  am_kd (fun d => ak_iload d rfl) <|
  am_kd (fun d => ak_if_eq d (by decide +kernel) rfl) <|
  am_kd (fun d => ak_iload d rfl) <|
  am_kd (fun d => ak_goto d (by decide +kernel)) <|
  am_kd (fun d => ak_iload d rfl) <|
  am_kd (fun d => ak_istore d rfl) <|
  am_kd (fun d => ak_iinc d (by decide +kernel) rfl) <|
  am_kd (fun d => ak_goto d (by decide +kernel)) <|
  am_kd (fun d => ak_iload d rfl) <|
  am_kd (fun d => ak_retI d) <| am_kdn
def TE8_best : am_T := fun live as M R => match as with
  | [.ref n, .int pl, .int w, .int f, .int y, .int p, .long a] => am_mn live ∧ n = 200 ∧ (∃ i1 i2, LX i1 i2 M) ∧ ∀ M', r_sc M M' → r_I M' → R (some (.int (r_bestV M pl w f y p a))) M'
  | _ => False
def JE8_best : am_E → List Value → am_M → am_R → am_inv := fun live as M0 _ pc => match as with
  | [.ref n, .int pl, .int w, .int f, .int y, .int p, .long a] => (match pc with
    | 59 => some ([0, 1, 2, 3, 4, 6, 8, 9, 10], fun u L st M => ∃ o b i : Int32, L = [(0, .ref 200), (1, .int pl), (2, .int w), (3, .int f), (4, .int y), (6, .long a), (8, .int o), (9, .int b), (10, .int i)] ∧ st = [] ∧ u = ((20 - i.toInt).toNat, 9) ∧ (0 ≤ i.toInt ∧ i.toInt ≤ (M0.1 201 5).toInt) ∧ (am_in pl 5 ∧ am_in w 6 ∧ am_in f 40 ∧ am_in y 40) ∧ r_bestV M0 pl w f y p a = r_bsx M0 pl w f y p a (M0.1 201 5).toNatClampNeg ∧ o = r_inF M0 pl w p y ∧ b = r_bsx M0 pl w f y p a i.toNatClampNeg ∧ r_sc M0 M ∧ r_I M)
    | 162 => some ([0, 1, 2, 3, 4, 6, 8, 9, 10, 11, 12], fun u L st M => ∃ o b i v z : Int32, L = [(0, .ref 200), (1, .int pl), (2, .int w), (3, .int f), (4, .int y), (6, .long a), (8, .int o), (9, .int b), (10, .int i), (11, .int v), (12, .int z)] ∧ st = [] ∧ u = ((20 - i.toInt).toNat, 8) ∧ (0 ≤ i.toInt ∧ i.toInt < (M0.1 201 5).toInt) ∧ (am_in pl 5 ∧ am_in w 6 ∧ am_in f 40 ∧ am_in y 40) ∧ r_bestV M0 pl w f y p a = r_bsx M0 pl w f y p a (M0.1 201 5).toNatClampNeg ∧ o = r_inF M0 pl w p y ∧ (if z = 0 then b else v) = r_bsx M0 pl w f y p a (i + 1).toNatClampNeg ∧ r_sc M0 M ∧ r_I M)
    | _ => none)
  | _ => none
set_option maxRecDepth 100000 in
set_option maxHeartbeats 4000000 in
theorem metX8_bestE : am_Met yX8_best cX8_best 13 (some .int) (11) (281) TE8_best := by
  refine am_met (own := RX8) (by decide +kernel) rfl kX8_bestE koX8_bestE 200 JE8_best ?_ ?_
  · intro live as M Ret h
    unfold TE8_best at h
    split at h
    · next n pl w f y p a =>
      refine ⟨Nat.le_of_ble_eq_true rfl, ?_⟩
      change am_wp _ _ _ _ [(0, Value.ref n), (1, Value.int pl), (2, Value.int w), (3, Value.int f), (4, Value.int y), (5, Value.int p), (6, Value.long a)] _ _
      obtain ⟨hmn, rfl, ⟨j1, j2, hX⟩, h⟩ := h
      have hmn2 := hmn
      obtain ⟨i1, i2, rfl⟩ := hmn2
      have l201 : am_len 201 = 3760 := rfl
      have hR := hX.li.i
      have n0 := hR.n0
      have n1 := hR.n1
      have n030 : 0 ≤ (M.1 201 0).toInt ∧ (M.1 201 0).toInt ≤ 30 := ⟨n0.1, by omega⟩
      by_cases y0 : 0 ≤ pl ∧ pl < 5
      rotate_left
      · skip
        have e : r_bestV M pl w f y p a = -2 := by unfold r_bestV; rw [if_neg y0]
        rw [e] at h
        have q0 : (if 0 ≤ pl ∧ pl < 5 then (1 : Int32) else 0) = 0 := if_neg y0
        repeat' (first | (with_reducible exact hmn) | (with_reducible exact n030) | (with_reducible exact n1) | apply And.intro | exact rfl | (intro hx; with_reducible exact absurd q0 hx) | (intro hx; exact absurd hx (by decide)) | (intro hx; exact absurd (by decide) hx) | decide | intro hx | (refine Exists.intro _ (And.intro rfl ?_)))
        all_goals try first | (with_reducible change am_tI _ _) | (change Ret _ _) | (change Ret _ _ _) | (change Exists _)
        all_goals try dsimp only at *
        all_goals try (with_reducible exact absurd ‹(1000 : Int64) = 0› am_z1000)
        all_goals exact h _ r_sc.rf hR
      · skip
        have q0 : ¬ ((if 0 ≤ pl ∧ pl < 5 then (1 : Int32) else 0) = 0) := by rw [if_pos y0]; decide
        by_cases y1 : 0 ≤ w ∧ w < 6
        rotate_left
        · skip
          have e : r_bestV M pl w f y p a = -2 := by unfold r_bestV; rw [if_pos y0, if_neg y1]
          rw [e] at h
          have q1 : (if 0 ≤ w ∧ w < 6 then (1 : Int32) else 0) = 0 := if_neg y1
          repeat' (first | (with_reducible exact hmn) | (with_reducible exact n030) | (with_reducible exact n1) | apply And.intro | exact rfl | (intro hx; with_reducible exact absurd hx q0) | (intro hx; with_reducible exact absurd q1 hx) | (intro hx; exact absurd hx (by decide)) | (intro hx; exact absurd (by decide) hx) | decide | intro hx | (refine Exists.intro _ (And.intro rfl ?_)))
          all_goals try first | (with_reducible change am_tI _ _) | (change Ret _ _) | (change Ret _ _ _) | (change Exists _)
          all_goals try dsimp only at *
          all_goals try (with_reducible exact absurd ‹(1000 : Int64) = 0› am_z1000)
          all_goals exact h _ r_sc.rf hR
        · skip
          have q1 : ¬ ((if 0 ≤ w ∧ w < 6 then (1 : Int32) else 0) = 0) := by rw [if_pos y1]; decide
          by_cases y2 : 0 ≤ f ∧ f < 40
          rotate_left
          · skip
            have e : r_bestV M pl w f y p a = -2 := by unfold r_bestV; rw [if_pos y0, if_pos y1, if_neg y2]
            rw [e] at h
            have q2 : (if 0 ≤ f ∧ f < 40 then (1 : Int32) else 0) = 0 := if_neg y2
            repeat' (first | (with_reducible exact hmn) | (with_reducible exact n030) | (with_reducible exact n1) | apply And.intro | exact rfl | (intro hx; with_reducible exact absurd hx q0) | (intro hx; with_reducible exact absurd hx q1) | (intro hx; with_reducible exact absurd q2 hx) | (intro hx; exact absurd hx (by decide)) | (intro hx; exact absurd (by decide) hx) | decide | intro hx | (refine Exists.intro _ (And.intro rfl ?_)))
            all_goals try first | (with_reducible change am_tI _ _) | (change Ret _ _) | (change Ret _ _ _) | (change Exists _)
            all_goals try dsimp only at *
            all_goals try (with_reducible exact absurd ‹(1000 : Int64) = 0› am_z1000)
            all_goals exact h _ r_sc.rf hR
          · skip
            have q2 : ¬ ((if 0 ≤ f ∧ f < 40 then (1 : Int32) else 0) = 0) := by rw [if_pos y2]; decide
            by_cases y3 : 0 ≤ y ∧ y < 40
            rotate_left
            · skip
              have e : r_bestV M pl w f y p a = -2 := by unfold r_bestV; rw [if_pos y0, if_pos y1, if_pos y2, if_neg y3]
              rw [e] at h
              have q3 : (if 0 ≤ y ∧ y < 40 then (1 : Int32) else 0) = 0 := if_neg y3
              repeat' (first | (with_reducible exact hmn) | (with_reducible exact n030) | (with_reducible exact n1) | apply And.intro | exact rfl | (intro hx; with_reducible exact absurd hx q0) | (intro hx; with_reducible exact absurd hx q1) | (intro hx; with_reducible exact absurd hx q2) | (intro hx; with_reducible exact absurd q3 hx) | (intro hx; exact absurd hx (by decide)) | (intro hx; exact absurd (by decide) hx) | decide | intro hx | (refine Exists.intro _ (And.intro rfl ?_)))
              all_goals try first | (with_reducible change am_tI _ _) | (change Ret _ _) | (change Ret _ _ _) | (change Exists _)
              all_goals try dsimp only at *
              all_goals try (with_reducible exact absurd ‹(1000 : Int64) = 0› am_z1000)
              all_goals exact h _ r_sc.rf hR
            · skip
              have q3 : ¬ ((if 0 ≤ y ∧ y < 40 then (1 : Int32) else 0) = 0) := by rw [if_pos y3]; decide
              by_cases y4 : 0 ≤ p ∧ p < M.1 201 0
              rotate_left
              · skip
                have e : r_bestV M pl w f y p a = -2 := by unfold r_bestV; rw [if_pos y0, if_pos y1, if_pos y2, if_pos y3, if_neg y4]
                rw [e] at h
                have q4 : (if 0 ≤ p ∧ p < M.1 201 0 then (1 : Int32) else 0) = 0 := if_neg y4
                repeat' (first | (with_reducible exact hmn) | (with_reducible exact n030) | (with_reducible exact n1) | apply And.intro | exact rfl | (intro hx; with_reducible exact absurd hx q0) | (intro hx; with_reducible exact absurd hx q1) | (intro hx; with_reducible exact absurd hx q2) | (intro hx; with_reducible exact absurd hx q3) | (intro hx; with_reducible exact absurd q4 hx) | (intro hx; exact absurd hx (by decide)) | (intro hx; exact absurd (by decide) hx) | decide | intro hx | (refine Exists.intro _ (And.intro rfl ?_)))
                all_goals try first | (with_reducible change am_tI _ _) | (change Ret _ _) | (change Ret _ _ _) | (change Exists _)
                all_goals try dsimp only at *
                all_goals try (with_reducible exact absurd ‹(1000 : Int64) = 0› am_z1000)
                all_goals exact h _ r_sc.rf hR
              · skip
                have q4 : ¬ ((if 0 ≤ p ∧ p < M.1 201 0 then (1 : Int32) else 0) = 0) := by rw [if_pos y4]; decide
                have e : r_bestV M pl w f y p a = r_bsx M pl w f y p a (M.1 201 5).toNatClampNeg := by unfold r_bestV; rw [if_pos y0, if_pos y1, if_pos y2, if_pos y3, if_pos y4]
                have hpl : am_in pl 5 := ⟨by have q := y0.1; simp only [i_le, Int32.reduceToInt, Int32.toInt_zero] at q; omega, by have q := y0.2; simp only [i_lt, Int32.reduceToInt] at q; omega⟩
                have hw : am_in w 6 := ⟨by have q := y1.1; simp only [i_le, Int32.reduceToInt, Int32.toInt_zero] at q; omega, by have q := y1.2; simp only [i_lt, Int32.reduceToInt] at q; omega⟩
                have hf : am_in f 40 := ⟨by have q := y2.1; simp only [i_le, Int32.reduceToInt, Int32.toInt_zero] at q; omega, by have q := y2.2; simp only [i_lt, Int32.reduceToInt] at q; omega⟩
                have hy : am_in y 40 := ⟨by have q := y3.1; simp only [i_le, Int32.reduceToInt, Int32.toInt_zero] at q; omega, by have q := y3.2; simp only [i_lt, Int32.reduceToInt] at q; omega⟩
                have hp : am_in p 12 := ⟨by have q := y4.1; simp only [i_le, Int32.reduceToInt, Int32.toInt_zero] at q; omega, by have q := y4.2; simp only [i_lt] at q; have := hX.li.n0.2; omega⟩
                have n5 := hX.li.n5
                repeat' (first | (with_reducible exact hmn) | (with_reducible exact n030) | (with_reducible exact n1) | (with_reducible exact hR) | (with_reducible exact hp) | (with_reducible exact hw) | apply And.intro | exact rfl | (intro hx; with_reducible exact absurd hx q0) | (intro hx; with_reducible exact absurd hx q1) | (intro hx; with_reducible exact absurd hx q2) | (intro hx; with_reducible exact absurd hx q3) | (intro hx; with_reducible exact absurd hx q4) | ((with_reducible change r_I _); (with_reducible assumption)) | (intro hx; exact absurd hx (by decide)) | (intro hx; exact absurd (by decide) hx) | decide | intro hx | (refine Exists.intro _ (And.intro rfl ?_)))
                all_goals try first | (with_reducible change am_tI _ _) | (change Ret _ _) | (change Ret _ _ _) | (change Exists _)
                all_goals try dsimp only at *
                all_goals try (with_reducible exact absurd ‹(1000 : Int64) = 0› am_z1000)
                all_goals exact ⟨_, _, _, _, rfl, rfl, rfl, ⟨by decide, n5.1⟩, ⟨hpl, hw, hf, hy⟩, e, rfl, rfl, r_sc.rf, hR⟩
    · exact h.elim
  · intro live as M0 Ret h k pc I hI L st M hi
    unfold TE8_best at h
    split at h
    · next n pl w f y p a =>
      obtain ⟨hmn, rfl, ⟨j1, j2, hX⟩, h⟩ := h
      have hmn2 := hmn
      obtain ⟨i1, i2, rfl⟩ := hmn2
      have l201 : am_len 201 = 3760 := rfl
      have x5l : (5 : Int32).toInt < (am_len 201 : Int) := by rw [l201]; decide
      have n55 := hX.li.n5
      have c5 := i_clamp n55.1
      change (match pc with | 59 => _ | 162 => _ | _ => none) = _ at hI
      split at hI
      · cases hI
        obtain ⟨o, b, i, rfl, rfl, rfl, ⟨e1, e4⟩, ⟨hpl, hw, hf, hy⟩, eV, eo, eb, e2, e3⟩ := hi
        have hX2 := hX.rc e2
        have ci := i_clamp e1
        have c201 : M.1 201 = M0.1 201 := funext fun k => e2.i k
        have n5 : 0 ≤ (M.1 201 (Int32.toNatClampNeg 5)).toInt ∧ (M.1 201 (Int32.toNatClampNeg 5)).toInt ≤ 9 := e3.n5
        by_cases hz : M.1 201 (Int32.toNatClampNeg 5) ≤ i
        · have hz2 := hz
          rw [c201] at hz2
          simp only [i_le] at hz2
          have hz3 : (M0.1 201 5).toInt ≤ i.toInt := hz2
          have hh := h M e2 e3
          rw [eV, show (M0.1 201 5).toNatClampNeg = i.toNatClampNeg by omega, ← eb] at hh
          repeat' (first | (with_reducible exact x5l) | apply And.intro | exact rfl | (intro hx; with_reducible exact absurd hz hx) | (intro hx; exact absurd hx (by decide)) | (intro hx; exact absurd (by decide) hx) | decide | intro hx | (refine Exists.intro _ (And.intro rfl ?_)))
          all_goals try first | (with_reducible change am_tI _ _) | (change Ret _ _) | (change Ret _ _ _) | (change Exists _)
          all_goals try dsimp only at *
          all_goals try (with_reducible exact absurd ‹(1000 : Int64) = 0› am_z1000)
          all_goals exact hh
        · have hz2 := hz
          rw [c201] at hz2
          simp only [i_le] at hz2
          have hz3 : ¬ (M0.1 201 5).toInt ≤ i.toInt := hz2
          have hi := i_inc (x := i) (by omega) (by omega)
          have ci1 := i_clamp (x := i + 1) (by omega)
          have ea := r_off (c := 3745) (x := i) ⟨by decide, by decide⟩ ⟨by omega, by omega⟩
          simp only [Int32.reduceToInt] at ea
          have ca := i_clamp (x := 3745 + i) (by omega)
          have x1 : 0 ≤ (3745 + i).toInt := by omega
          have x2 : (3745 + i).toInt < (am_len 201 : Int) := by rw [l201]; omega
          have w1 : 0 ≤ w := by rw [i_le, Int32.toInt_zero]; exact hw.1
          have w2 : w < 6 := by rw [i_lt]; exact hw.2
          have ev : M.1 201 (3745 + i).toNatClampNeg = M0.1 201 (3745 + i.toNatClampNeg) := by rw [c201, show (3745 + i).toNatClampNeg = 3745 + i.toNatClampNeg by omega]
          have now := hX.li.now (p := p) (y := y) hpl hw
          have bb := r_bsx_b (M := M0) (pl := pl) (w := w) (f := f) (y := y) (p := p) (a := a) i.toNatClampNeg
          rw [← eb] at bb
          rw [← eo] at now
          have eT : ∀ v, r_triV M pl w v f y = r_triV M0 pl w v f y := fun v => r_triV_cg c201 hX2.li.n7 hX.li.n7
          have nx : (i + 1).toNatClampNeg = i.toNatClampNeg + 1 := by omega
          have nb := neg1 bb.1
          generalize hv : M.1 201 (3745 + i).toNatClampNeg = v at ev
          by_cases zn : am_isNum w v
          · have vb := z_num_b zn
            have zn2 := zn
            rw [ev] at zn2
            have f1 := r_far_i (v := v) (c := o) ⟨by omega, vb.2⟩ now
            have f2 := r_far_i (v := b) (c := o) ⟨bb.1, bb.2.1⟩ now
            by_cases zt : lg_cmp (r_triV M pl w v f y) a < 0
            · have zt2 := zt
              rw [lc_lt, eT, ev] at zt2
              have en : b = r_bsx M0 pl w f y p a (i + 1).toNatClampNeg := by
                rw [nx, r_bsx_n (fun q => absurd q.2.1 (Int64.not_le.mpr zt2)), eb]
              rw [← hv] at zn zt
              repeat' (first | (with_reducible exact x5l) | (with_reducible exact x1) | (with_reducible exact x2) | (with_reducible exact hmn) | (with_reducible exact w1) | (with_reducible exact w2) | (with_reducible exact hpl) | (with_reducible exact hw) | (with_reducible exact hf) | (with_reducible exact hy) | (with_reducible exact e3) | apply And.intro | exact rfl | (intro hx; with_reducible exact absurd hx hz) | (intro hx; with_reducible exact absurd zn hx) | (intro hx; with_reducible exact absurd zt hx) | ((with_reducible change r_I _); (with_reducible assumption)) | (intro hx; exact absurd hx (by decide)) | (intro hx; exact absurd (by decide) hx) | decide | intro hx | (refine Exists.intro _ (And.intro rfl ?_)))
              all_goals try first | (with_reducible change am_tI _ _) | (change Ret _ _) | (change Ret _ _ _) | (change Exists _)
              all_goals try dsimp only at *
              all_goals try (with_reducible exact absurd ‹(1000 : Int64) = 0› am_z1000)
              all_goals first
                | (with_reducible exact zn)
                | (with_reducible exact zn.1.1)
                | (with_reducible exact zn.1.2)
                | (with_reducible exact zn.2.1)
                | (with_reducible exact zn.2.2)
                | exact zn
                | exact zn.1.1
                | exact zn.1.2
                | exact zn.2.1
                | exact zn.2.2
                | exact ⟨_, _, hX2⟩
                | exact ⟨_, am_lt_l (by omega), _, _, _, rfl, rfl, rfl, ⟨by omega, by omega⟩, ⟨hpl, hw, hf, hy⟩, eV, eo, en, e2.tr (by with_reducible assumption), by with_reducible assumption⟩
                | skip
            · have zt2 := zt
              rw [lc_lt, eT, ev] at zt2
              have ny : z_near v b o → v = r_bsx M0 pl w f y p a (i + 1).toNatClampNeg := fun q => by
                rw [ev, eb, eo] at q
                rw [nx, r_bsx_y zn2 (Int64.not_lt.mp zt2) q, ev]
              have nn : ¬ z_near v b o → b = r_bsx M0 pl w f y p a (i + 1).toNatClampNeg := fun q => by
                rw [ev, eb, eo] at q
                rw [nx, r_bsx_n (fun z => q z.2.2), eb]
              have fin : ∀ z : Int32, (z = if z_near v b o then 1 else 0) → (if z = 0 then b else v) = r_bsx M0 pl w f y p a (i + 1).toNatClampNeg := fun z ez => by
                by_cases q : z_near v b o
                · rw [if_pos q] at ez
                  rw [ez, if_neg (by decide)]
                  exact ny q
                · rw [if_neg q] at ez
                  rw [ez, if_pos rfl]
                  exact nn q
              have fin1 := fun q => fin 1 (if_pos q).symm
              have fin0 := fun q => fin 0 (if_neg q).symm
              subst hv
              repeat' (first | (with_reducible exact x5l) | (with_reducible exact x1) | (with_reducible exact x2) | (with_reducible exact hmn) | (with_reducible exact w1) | (with_reducible exact w2) | (with_reducible exact hpl) | (with_reducible exact hw) | (with_reducible exact hf) | (with_reducible exact hy) | (with_reducible exact e3) | apply And.intro | exact rfl | (intro hx; with_reducible exact absurd hx hz) | (intro hx; with_reducible exact absurd hx zt) | (intro hx; with_reducible exact absurd zn hx) | ((with_reducible change r_I _); (with_reducible assumption)) | (intro hx; exact absurd hx (by decide)) | (intro hx; exact absurd (by decide) hx) | decide | intro hx | (refine Exists.intro _ (And.intro rfl ?_)))
              all_goals try first | (with_reducible change am_tI _ _) | (change Ret _ _) | (change Ret _ _ _) | (change Exists _)
              all_goals try dsimp only at *
              all_goals try (with_reducible exact absurd ‹(1000 : Int64) = 0› am_z1000)
              all_goals first
                | (with_reducible exact zn)
                | (with_reducible exact zn.1.1)
                | (with_reducible exact zn.1.2)
                | (with_reducible exact zn.2.1)
                | (with_reducible exact zn.2.2)
                | exact zn
                | exact zn.1.1
                | exact zn.1.2
                | exact zn.2.1
                | exact zn.2.2
                | exact ⟨_, _, hX2⟩
                | skip
              all_goals
                refine ⟨_, am_lt_r (by omega), _, _, _, _, _, rfl, rfl, rfl, ⟨e1, by omega⟩, ⟨hpl, hw, hf, hy⟩, eV, eo, ?_, e2.tr (by with_reducible assumption), by with_reducible assumption⟩
                first
                  | exact fin1 (Or.inl (nb.mpr ‹b < 0›))
                  | (have q := ‹r_far (M.1 201 (3745 + i).toNatClampNeg) o < r_far b o›; rw [i_lt, f1, f2] at q; exact fin1 (Or.inr (Or.inl (by omega))))
                  | (have q := ‹r_far (M.1 201 (3745 + i).toNatClampNeg) o = r_far b o›; have q2 := ‹¬ b ≤ M.1 201 (3745 + i).toNatClampNeg›; rw [i_eq, f1, f2] at q; rw [i_le] at q2; exact fin1 (Or.inr (Or.inr ⟨by omega, by omega⟩)))
                  | (have q0 := ‹¬ b < 0›; have q := ‹¬ r_far (M.1 201 (3745 + i).toNatClampNeg) o < r_far b o›; have q2 := ‹¬ r_far (M.1 201 (3745 + i).toNatClampNeg) o = r_far b o›; rw [i_lt, f1, f2] at q; rw [i_eq, f1, f2] at q2; exact fin0 (fun z => z.elim (fun z => q0 (nb.mp z)) (fun z => z.elim (fun z => by omega) (fun z => q2 (by omega)))))
                  | (have q0 := ‹¬ b < 0›; have q := ‹¬ r_far (M.1 201 (3745 + i).toNatClampNeg) o < r_far b o›; have q2 := ‹b ≤ M.1 201 (3745 + i).toNatClampNeg›; rw [i_lt, f1, f2] at q; rw [i_le] at q2; exact fin0 (fun z => z.elim (fun z => q0 (nb.mp z)) (fun z => z.elim (fun z => by omega) (fun z => absurd z.2 (by omega)))))
          · have en : b = r_bsx M0 pl w f y p a (i + 1).toNatClampNeg := by
              rw [nx, r_bsx_n (fun q => zn (by rw [ev]; exact q.1)), eb]
            rw [← hv] at zn
            repeat' (first | (with_reducible exact x5l) | (with_reducible exact x1) | (with_reducible exact x2) | (with_reducible exact hmn) | (with_reducible exact w1) | (with_reducible exact w2) | (with_reducible exact e3) | apply And.intro | exact rfl | (intro hx; with_reducible exact absurd hx hz) | (intro hx; with_reducible exact absurd hx zn) | ((with_reducible change r_I _); (with_reducible assumption)) | (intro hx; exact absurd hx (by decide)) | (intro hx; exact absurd (by decide) hx) | decide | intro hx | (refine Exists.intro _ (And.intro rfl ?_)))
            all_goals try first | (with_reducible change am_tI _ _) | (change Ret _ _) | (change Ret _ _ _) | (change Exists _)
            all_goals try dsimp only at *
            all_goals try (with_reducible exact absurd ‹(1000 : Int64) = 0› am_z1000)
            all_goals first
              | exact ⟨_, am_lt_l (by omega), _, _, _, rfl, rfl, rfl, ⟨by omega, by omega⟩, ⟨hpl, hw, hf, hy⟩, eV, eo, en, e2, e3⟩
              | skip
      · cases hI
        obtain ⟨o, b, i, v, z, rfl, rfl, rfl, ⟨e1, e4⟩, ⟨hpl, hw, hf, hy⟩, eV, eo, ez, e2, e3⟩ := hi
        have hi := i_inc (x := i) (by omega) (by omega)
        by_cases q : z = 0
        · rw [if_pos q] at ez
          repeat' (first | apply And.intro | exact rfl | (intro hx; with_reducible exact absurd q hx) | intro hx | (refine Exists.intro _ (And.intro rfl ?_)))
          all_goals try first | (with_reducible change am_tI _ _) | (change Ret _ _) | (change Ret _ _ _) | (change Exists _)
          all_goals try dsimp only at *
          all_goals try (with_reducible exact absurd ‹(1000 : Int64) = 0› am_z1000)
          all_goals exact ⟨_, am_lt_l (by omega), _, _, _, rfl, rfl, rfl, ⟨by omega, by omega⟩, ⟨hpl, hw, hf, hy⟩, eV, eo, ez, e2, e3⟩
        · rw [if_neg q] at ez
          repeat' (first | apply And.intro | exact rfl | (intro hx; with_reducible exact absurd hx q) | intro hx | (refine Exists.intro _ (And.intro rfl ?_)))
          all_goals try first | (with_reducible change am_tI _ _) | (change Ret _ _) | (change Ret _ _ _) | (change Exists _)
          all_goals try dsimp only at *
          all_goals try (with_reducible exact absurd ‹(1000 : Int64) = 0› am_z1000)
          all_goals exact ⟨_, am_lt_l (by omega), _, _, _, rfl, rfl, rfl, ⟨by omega, by omega⟩, ⟨hpl, hw, hf, hy⟩, eV, eo, ez, e2, e3⟩
      · cases hI
    · exact h.elim
end
-- part 80.law.lean.txt
section
/-! the law: the calls as the law sees them -/
theorem am_Met.imp {y : MethodName} {cc : ByteArray} {nL : Nat} {rt : Option FieldType} {rf rl : Nat} {T T' : am_T} (h : am_Met y cc nL rt rf rl T) (e : ∀ live as M R, T' live as M R → T live as M R) : am_Met y cc nL rt rf rl T' := fun l D cA al B live as M R q => h l D cA al B live as M R (e _ _ _ _ q)
theorem an_Met.imp {y : MethodName} {cc : ByteArray} {nL : Nat} {rt : Option FieldType} {rf rl mc ms : Nat} {T T' : an_T} (h : an_Met y cc nL rt rf rl mc ms T) (e : ∀ live as M R, T' live as M R → T live as M R) : an_Met y cc nL rt rf rl mc ms T' := fun l D cA al B live as M R hc q => h l D cA al B live as M R hc (e _ _ _ _ q)
def TW_person : am_T := fun live as M R => match as with
  | [.ref n, .int a] => ∃ i1 i2, live = (am_lv i1 i2, am_q i1 i2) ∧ n = 0 ∧ LX i1 i2 M ∧ ∀ v N, v = (r_person N a).1 → LX i1 i2 (r_person N a).2 → r_I N → R (some (.int v)) N
  | _ => False
theorem metW_person : am_Met yX7_person cX7_person 3 (some .int) (1) (20) TW_person := metX7_person.imp (fun live as M R q => by
  unfold TW_person at q
  split at q
  · next n a =>
    obtain ⟨i1, i2, rfl, rfl, h, q⟩ := q
    have hs := st_person h.li a
    exact ⟨⟨_, _, rfl⟩, rfl, ⟨h.li.h, h.li.g⟩, q _ _ hs.e (h.mv hs.l ((kc_person _ a).tr (kr_person _ a))) (h.li.ri hs.c)⟩
  · exact q.elim)
def TW_land : am_T := fun live as M R => match as with
  | [.ref n, .int a, .int b, .int c, .int d] => ∃ i1 i2, live = (am_lv i1 i2, am_q i1 i2) ∧ n = 0 ∧ LX i1 i2 M ∧ ∀ v N, v = (r_land N a b c d).1 → LX i1 i2 (r_land N a b c d).2 → r_I N → R (some (.int v)) N
  | _ => False
theorem metW_land : am_Met yX7_land cX7_land 5 (some .int) (2) (47) TW_land := metX7_land.imp (fun live as M R q => by
  unfold TW_land at q
  split at q
  · next n a b c d =>
    obtain ⟨i1, i2, rfl, rfl, h, q⟩ := q
    have hs := st_land h.li a b c d
    exact ⟨⟨_, _, rfl⟩, rfl, ⟨h.li.h, h.li.g⟩, q _ _ hs.e (h.mv hs.l ((kc_land _ a b c d).tr (kr_land _ a b c d))) (h.li.ri hs.c)⟩
  · exact q.elim)
def TW_scale : am_T := fun live as M R => match as with
  | [.ref n, .int a, .int b] => ∃ i1 i2, live = (am_lv i1 i2, am_q i1 i2) ∧ n = 0 ∧ LX i1 i2 M ∧ ∀ v N, v = (r_scale N a b).1 → LX i1 i2 (r_scale N a b).2 → r_I N → R (some (.int v)) N
  | _ => False
theorem metW_scale : am_Met yX7_scale cX7_scale 4 (some .int) (1) (22) TW_scale := metX7_scale.imp (fun live as M R q => by
  unfold TW_scale at q
  split at q
  · next n a b =>
    obtain ⟨i1, i2, rfl, rfl, h, q⟩ := q
    have hs := st_scale h.li a b
    exact ⟨⟨_, _, rfl⟩, rfl, ⟨h.li.h, h.li.g⟩, q _ _ hs.e (h.mv hs.l ((kc_scale _ a b).tr (kr_scale _ a b))) (h.li.ri hs.c)⟩
  · exact q.elim)
def TW_prices : am_T := fun live as M R => match as with
  | [.ref n, .int a, .int b] => ∃ i1 i2, live = (am_lv i1 i2, am_q i1 i2) ∧ n = 0 ∧ LX i1 i2 M ∧ ∀ v N, v = (r_prices N a b).1 → LX i1 i2 (r_prices N a b).2 → r_I N → R (some (.int v)) N
  | _ => False
theorem metW_prices : am_Met yX7_prices cX7_prices 4 (some .int) (1) (22) TW_prices := metX7_prices.imp (fun live as M R q => by
  unfold TW_prices at q
  split at q
  · next n a b =>
    obtain ⟨i1, i2, rfl, rfl, h, q⟩ := q
    have hs := st_prices h.li a b
    exact ⟨⟨_, _, rfl⟩, rfl, ⟨h.li.h, h.li.g⟩, q _ _ hs.e (h.mv hs.l ((kc_prices _ a b).tr (kr_prices _ a b))) (h.li.ri hs.c)⟩
  · exact q.elim)
def TW_dies : am_T := fun live as M R => match as with
  | [.ref n, .int a, .int b] => ∃ i1 i2, live = (am_lv i1 i2, am_q i1 i2) ∧ n = 0 ∧ LX i1 i2 M ∧ ∀ v N, v = (r_dies N a b).1 → LX i1 i2 (r_dies N a b).2 → r_I N → R (some (.int v)) N
  | _ => False
theorem metW_dies : am_Met yX7_dies cX7_dies 3 (some .int) (1) (21) TW_dies := metX7_dies.imp (fun live as M R q => by
  unfold TW_dies at q
  split at q
  · next n a b =>
    obtain ⟨i1, i2, rfl, rfl, h, q⟩ := q
    have hs := st_dies h.li a b
    exact ⟨⟨_, _, rfl⟩, rfl, ⟨h.li.h, h.li.g⟩, q _ _ hs.e (h.mv hs.l ((kc_dies _ a b).tr (kr_dies _ a b))) (h.li.ri hs.c)⟩
  · exact q.elim)
def TW_earn : am_T := fun live as M R => match as with
  | [.ref n, .int a, .int b, .int c, .int d] => ∃ i1 i2, live = (am_lv i1 i2, am_q i1 i2) ∧ n = 0 ∧ LX i1 i2 M ∧ ∀ v N, v = (r_earn N a b c d).1 → LX i1 i2 (r_earn N a b c d).2 → r_I N → R (some (.int v)) N
  | _ => False
theorem metW_earn : am_Met yX7_earn cX7_earn 7 (some .int) (1) (21) TW_earn := metX7_earn.imp (fun live as M R q => by
  unfold TW_earn at q
  split at q
  · next n a b c d =>
    obtain ⟨i1, i2, rfl, rfl, h, q⟩ := q
    have hs := st_earn h.li a b c d
    exact ⟨⟨_, _, rfl⟩, rfl, ⟨h.li.h, h.li.g⟩, q _ _ hs.e (h.mv hs.l ((kc_earn _ a b c d).tr (kr_earn _ a b c d))) (h.li.ri hs.c)⟩
  · exact q.elim)
def TW_right : am_T := fun live as M R => match as with
  | [.ref n, .int a, .int b, .int c, .int d] => ∃ i1 i2, live = (am_lv i1 i2, am_q i1 i2) ∧ n = 0 ∧ LX i1 i2 M ∧ ∀ v N, v = (r_right N a b c d).1 → LX i1 i2 (r_right N a b c d).2 → r_I N → R (some (.int v)) N
  | _ => False
theorem metW_right : am_Met yX7_right cX7_right 7 (some .int) (1) (21) TW_right := metX7_right.imp (fun live as M R q => by
  unfold TW_right at q
  split at q
  · next n a b c d =>
    obtain ⟨i1, i2, rfl, rfl, h, q⟩ := q
    have hs := st_right h.li a b c d
    exact ⟨⟨_, _, rfl⟩, rfl, ⟨h.li.h, h.li.g⟩, q _ _ hs.e (h.mv hs.l ((kc_right _ a b c d).tr (kr_right _ a b c d))) (h.li.ri hs.c)⟩
  · exact q.elim)
def TW_earnings : am_T := fun live as M R => match as with
  | [.ref n, .int a, .int b, .int c] => ∃ i1 i2, live = (am_lv i1 i2, am_q i1 i2) ∧ n = 0 ∧ LX i1 i2 M ∧ ∀ v N, v = (r_earnings N a b c).1 → LX i1 i2 (r_earnings N a b c).2 → r_I N → R (some (.int v)) N
  | _ => False
theorem metW_earnings : am_Met yX7_earnings cX7_earnings 4 (some .int) (1) (24) TW_earnings := metX7_earnings.imp (fun live as M R q => by
  unfold TW_earnings at q
  split at q
  · next n a b c =>
    obtain ⟨i1, i2, rfl, rfl, h, q⟩ := q
    have hs := st_earnings h.li a b c
    exact ⟨⟨_, _, rfl⟩, rfl, ⟨h.li.h, h.li.g⟩, q _ _ hs.e (h.mv hs.l ((kc_earnings _ a b c).tr (kr_earnings _ a b c))) (h.li.ri hs.c)⟩
  · exact q.elim)
def TW_act : am_T := fun live as M R => match as with
  | [.ref n, .int a, .int b, .int c, .int d, .int e, .int f] => ∃ i1 i2, live = (am_lv i1 i2, am_q i1 i2) ∧ n = 0 ∧ LX i1 i2 M ∧ ∀ v N, v = (r_act N a b c d e f).1 → LX i1 i2 (r_act N a b c d e f).2 → r_I N → R (some (.int v)) N
  | _ => False
theorem metW_act : am_Met yX7_act cX7_act 7 (some .int) (3) (74) TW_act := metX7_act.imp (fun live as M R q => by
  unfold TW_act at q
  split at q
  · next n a b c d e f =>
    obtain ⟨i1, i2, rfl, rfl, h, q⟩ := q
    have hs := st_act h.li a b c d e f
    exact ⟨⟨_, _, rfl⟩, rfl, ⟨h.li.h, h.li.g⟩, q _ _ hs.e (h.mv hs.l ((kc_act _ a b c d e f).tr (kr_act _ a b c d e f))) (h.li.ri hs.c)⟩
  · exact q.elim)
def TW_force : am_T := fun live as M R => match as with
  | [.ref n, .int a, .int b, .int c, .int d] => ∃ i1 i2, live = (am_lv i1 i2, am_q i1 i2) ∧ n = 0 ∧ LX i1 i2 M ∧ ∀ v N, v = (r_force N a b c d).1 → LX i1 i2 N → r_I N → R (some (.int v)) N
  | _ => False
theorem metW_force : am_Met yX7_force cX7_force 5 (some .int) (3) (72) TW_force := metX7_forceE.imp (fun live as M R q => by
  unfold TW_force at q
  split at q
  · next n a b c d =>
    obtain ⟨i1, i2, rfl, rfl, h, q⟩ := q
    refine ⟨⟨_, _, rfl⟩, rfl, ⟨h.li.h, h.li.g⟩, h.li.cA, fun N e hg => ?_⟩
    have l := h.sc e.sc hg
    exact q _ _ (by rw [← c_forceV_cg e]; exact (l.li.force a b c d).1) l l.li.i
  · exact q.elim)
def TV_force : am_T := fun live as M R => match as with
  | [.ref n, .int a, .int b, .int c, .int d] => ∃ i1 i2, live = (am_lv i1 i2, am_q i1 i2) ∧ n = 200 ∧ LX i1 i2 M ∧ R (some (.int (r_force M a b c d).1)) M
  | _ => False
theorem metV_force : am_Met yX8_force cX8_force 5 (some .int) (2) (53) TV_force := metX8_forceE.imp (fun live as M R q => by
  unfold TV_force at q
  split at q
  · next n a b c d =>
    obtain ⟨i1, i2, rfl, rfl, h, q⟩ := q
    refine ⟨⟨_, _, rfl⟩, rfl, h.li.i, ?_⟩
    rw [(h.li.force a b c d).2]
    exact q
  · exact q.elim)
def TW_loan : am_T := fun live as M R => match as with
  | [.ref n, .int a, .int b, .int c, .int d, .int e] => ∃ i1 i2, live = (am_lv i1 i2, am_q i1 i2) ∧ n = 0 ∧ LX i1 i2 M ∧ (e = 0 ∨ e = 1) ∧ ∀ v N, v = (r_loan N a b c d e).1 → LX i1 i2 (r_loan N a b c d e).2 → r_I N → R (some (.int v)) N
  | _ => False
theorem metW_loan : am_Met yX7_loan cX7_loan 8 (some .int) (2) (47) TW_loan := metX7_loan.imp (fun live as M R q => by
  unfold TW_loan at q
  split at q
  · next n a b c d e =>
    obtain ⟨i1, i2, rfl, rfl, h, hfe, q⟩ := q
    have hs := st_loan h.li a b c d e hfe
    exact ⟨⟨_, _, rfl⟩, rfl, ⟨h.li.h, h.li.g⟩, hfe, q _ _ hs.e (h.mv hs.l ((kc_loan _ a b c d e).tr (kr_loan _ a b c d e))) (h.li.ri hs.c)⟩
  · exact q.elim)
def TW_leave : am_T := fun live as M R => match as with
  | [.ref n, .int a, .int b] => ∃ i1 i2, live = (am_lv i1 i2, am_q i1 i2) ∧ n = 0 ∧ LX i1 i2 M ∧ ∀ v N, v = (r_leave N a b).1 → LX i1 i2 (r_leave N a b).2 → r_I N → R (some (.int v)) N
  | _ => False
theorem metW_leave : am_Met yX7_leave cX7_leave 4 (some .int) (2) (47) TW_leave := metX7_leave.imp (fun live as M R q => by
  unfold TW_leave at q
  split at q
  · next n a b =>
    obtain ⟨i1, i2, rfl, rfl, h, q⟩ := q
    have hs := st_leave h.li a b
    exact ⟨⟨_, _, rfl⟩, rfl, ⟨h.li.h, h.li.g⟩, q _ _ hs.e (h.mv hs.l ((kc_leave _ a b).tr (kr_leave _ a b))) (h.li.ri hs.c)⟩
  · exact q.elim)
def TW_move : am_T := fun live as M R => match as with
  | [.ref n, .int a, .int b, .int c] => ∃ i1 i2, live = (am_lv i1 i2, am_q i1 i2) ∧ n = 0 ∧ LX i1 i2 M ∧ ∀ v N, v = (r_move N a b c).1 → LX i1 i2 (r_move N a b c).2 → r_I N → R (some (.int v)) N
  | _ => False
theorem metW_move : am_Met yX7_move cX7_move 4 (some .int) (2) (47) TW_move := metX7_move.imp (fun live as M R q => by
  unfold TW_move at q
  split at q
  · next n a b c =>
    obtain ⟨i1, i2, rfl, rfl, h, q⟩ := q
    have hs := st_move h.li a b c
    exact ⟨⟨_, _, rfl⟩, rfl, ⟨h.li.h, h.li.g⟩, q _ _ hs.e (h.mv hs.l ((kc_move _ a b c).tr (kr_move _ a b c))) (h.li.ri hs.c)⟩
  · exact q.elim)
def TW_planOf : am_T := fun live as M R => match as with
  | [.ref n, .int a, .int b] => ∃ i1 i2, live = (am_lv i1 i2, am_q i1 i2) ∧ n = 0 ∧ LX i1 i2 M ∧ ∀ v N, v = (r_planOf N a b).1 → LX i1 i2 N → r_I N → R (some (.int v)) N
  | _ => False
theorem metW_planOf : am_Met yX7_planOf cX7_planOf 3 (some .int) (1) (21) TW_planOf := metX7_planOf.imp (fun live as M R q => by
  unfold TW_planOf at q
  split at q
  · next n a b =>
    obtain ⟨i1, i2, rfl, rfl, h, q⟩ := q
    refine ⟨⟨_, _, rfl⟩, rfl, ⟨h.li.h, h.li.g⟩, ?_⟩
    rw [(h.li.planOf a b).2.1]
    exact q _ _ (h.li.planOf a b).1 h h.li.i
  · exact q.elim)
def TV_planOf : am_T := fun live as M R => match as with
  | [.ref n, .int a, .int b] => ∃ i1 i2, live = (am_lv i1 i2, am_q i1 i2) ∧ n = 200 ∧ LX i1 i2 M ∧ R (some (.int (r_planOf M a b).1)) M
  | _ => False
theorem metV_planOf : am_Met yX8_planOf cX8_planOf 3 (some .int) (2) (46) TV_planOf := metX8_planOfE.imp (fun live as M R q => by
  unfold TV_planOf at q
  split at q
  · next n a b =>
    obtain ⟨i1, i2, rfl, rfl, h, q⟩ := q
    refine ⟨⟨_, _, rfl⟩, rfl, h.li.i, ?_⟩
    rw [(h.li.planOf a b).2.2]
    exact q
  · exact q.elim)
def TW_owes : am_T := fun live as M R => match as with
  | [.ref n, .int a, .int b, .int c, .int d] => ∃ i1 i2, live = (am_lv i1 i2, am_q i1 i2) ∧ n = 0 ∧ LX i1 i2 M ∧ ∀ v N, LX i1 i2 N → R (some (.long v)) N
  | _ => False
theorem metW_owes : am_Met yX7_owes cX7_owes 5 (some .long) (5) (124) TW_owes := metX7_owes.imp (fun live as M R q => by
  unfold TW_owes at q
  split at q
  · next n a b c d =>
    obtain ⟨i1, i2, rfl, rfl, h, q⟩ := q
    exact ⟨⟨_, _, rfl⟩, rfl, ⟨h.li.h, h.li.g⟩, fun v N c hg => q v N (h.sc c hg)⟩
  · exact q.elim)
def TV_owes : am_T := fun live as M R => match as with
  | [.ref n, .int a, .int b, .int c, .int d] => ∃ i1 i2, live = (am_lv i1 i2, am_q i1 i2) ∧ n = 200 ∧ LX i1 i2 M ∧ ∀ v N, LX i1 i2 N → R (some (.long v)) N
  | _ => False
theorem metV_owes : am_Met yX8_owes cX8_owes 5 (some .long) (10) (253) TV_owes := metX8_owes.imp (fun live as M R q => by
  unfold TV_owes at q
  split at q
  · next n a b c d =>
    obtain ⟨i1, i2, rfl, rfl, h, q⟩ := q
    exact ⟨⟨_, _, rfl⟩, rfl, h.li.i, fun v N c _ => q v N (h.rc c)⟩
  · exact q.elim)
def TW_all : am_T := fun live as M R => match as with
  | [.ref n, .int a, .int b, .int c, .int d] => ∃ i1 i2, live = (am_lv i1 i2, am_q i1 i2) ∧ n = 0 ∧ LX i1 i2 M ∧ ∀ v N, LX i1 i2 N → R (some (.long v)) N
  | _ => False
theorem metW_all : am_Met yX7_all cX7_all 5 (some .long) (6) (148) TW_all := metX7_all.imp (fun live as M R q => by
  unfold TW_all at q
  split at q
  · next n a b c d =>
    obtain ⟨i1, i2, rfl, rfl, h, q⟩ := q
    exact ⟨⟨_, _, rfl⟩, rfl, ⟨h.li.h, h.li.g⟩, fun v N c hg => q v N (h.sc c hg)⟩
  · exact q.elim)
def TV_all : am_T := fun live as M R => match as with
  | [.ref n, .int a, .int b, .int c, .int d] => ∃ i1 i2, live = (am_lv i1 i2, am_q i1 i2) ∧ n = 200 ∧ LX i1 i2 M ∧ ∀ v N, LX i1 i2 N → R (some (.long v)) N
  | _ => False
theorem metV_all : am_Met yX8_all cX8_all 5 (some .long) (10) (253) TV_all := metX8_all.imp (fun live as M R q => by
  unfold TV_all at q
  split at q
  · next n a b c d =>
    obtain ⟨i1, i2, rfl, rfl, h, q⟩ := q
    exact ⟨⟨_, _, rfl⟩, rfl, h.li.i, fun v N c _ => q v N (h.rc c)⟩
  · exact q.elim)
def TW_rate : am_T := fun live as M R => match as with
  | [.ref n, .int a, .int b, .int c] => ∃ i1 i2, live = (am_lv i1 i2, am_q i1 i2) ∧ n = 0 ∧ LX i1 i2 M ∧ ∀ v N, LX i1 i2 N → R (some (.int v)) N
  | _ => False
theorem metW_rate : am_Met yX7_rate cX7_rate 4 (some .int) (5) (124) TW_rate := metX7_rate.imp (fun live as M R q => by
  unfold TW_rate at q
  split at q
  · next n a b c =>
    obtain ⟨i1, i2, rfl, rfl, h, q⟩ := q
    exact ⟨⟨_, _, rfl⟩, rfl, ⟨h.li.h, h.li.g⟩, fun v N c hg => q v N (h.sc c hg)⟩
  · exact q.elim)
def TV_rate : am_T := fun live as M R => match as with
  | [.ref n, .int a, .int b, .int c] => ∃ i1 i2, live = (am_lv i1 i2, am_q i1 i2) ∧ n = 200 ∧ LX i1 i2 M ∧ ∀ v N, LX i1 i2 N → R (some (.int v)) N
  | _ => False
theorem metV_rate : am_Met yX8_rate cX8_rate 5 (some .int) (10) (253) TV_rate := metX8_rate.imp (fun live as M R q => by
  unfold TV_rate at q
  split at q
  · next n a b c =>
    obtain ⟨i1, i2, rfl, rfl, h, q⟩ := q
    exact ⟨⟨_, _, rfl⟩, rfl, h.li.i, fun v N c _ => q v N (h.rc c)⟩
  · exact q.elim)
def TW_over : am_T := fun live as M R => match as with
  | [.ref n, .int a, .int b, .int c] => ∃ i1 i2, live = (am_lv i1 i2, am_q i1 i2) ∧ n = 0 ∧ LX i1 i2 M ∧ ∀ v N, LX i1 i2 N → R (some (.long v)) N
  | _ => False
theorem metW_over : am_Met yX7_over cX7_over 4 (some .long) (6) (148) TW_over := metX7_over.imp (fun live as M R q => by
  unfold TW_over at q
  split at q
  · next n a b c =>
    obtain ⟨i1, i2, rfl, rfl, h, q⟩ := q
    exact ⟨⟨_, _, rfl⟩, rfl, ⟨h.li.h, h.li.g⟩, fun v N c hg => q v N (h.sc c hg)⟩
  · exact q.elim)
def TV_over : am_T := fun live as M R => match as with
  | [.ref n, .int a, .int b, .int c] => ∃ i1 i2, live = (am_lv i1 i2, am_q i1 i2) ∧ n = 200 ∧ LX i1 i2 M ∧ ∀ v N, LX i1 i2 N → R (some (.long v)) N
  | _ => False
theorem metV_over : am_Met yX8_over cX8_over 6 (some .long) (10) (253) TV_over := metX8_over.imp (fun live as M R q => by
  unfold TV_over at q
  split at q
  · next n a b c =>
    obtain ⟨i1, i2, rfl, rfl, h, q⟩ := q
    exact ⟨⟨_, _, rfl⟩, rfl, h.li.i, fun v N c _ => q v N (h.rc c)⟩
  · exact q.elim)
def TW_write : am_T := fun live as M R => match as with
  | [.ref n, .int a, .int b] => ∃ i1 i2, live = (am_lv i1 i2, am_q i1 i2) ∧ n = 0 ∧ LX i1 i2 M ∧ ∀ v N, v = (r_write N a b).1 → LX i1 i2 (r_write N a b).2 → r_I N → R (some (.int v)) N
  | _ => False
theorem metW_write : am_Met yX7_write cX7_write 4 (some .int) (334) (8442) TW_write := metX7_writeE.imp (fun live as M R q => by
  unfold TW_write at q
  split at q
  · next n a b =>
    obtain ⟨i1, i2, rfl, rfl, h, q⟩ := q
    refine ⟨⟨_, _, rfl⟩, rfl, ⟨h.li.h, h.li.g⟩, fun t ht => h.li.sg ht, fun hz => ?_, fun hz t ht => ?_⟩
    · have e := wr_no h.li hz
      exact q _ _ (by rw [e]) (by rw [e]; exact h) h.li.i
    · subst ht
      refine ⟨fun hf => ?_, fun hf N c h0 hx => ?_⟩
      · have e := wr_fu h.li hz hf
        exact q _ _ (by rw [e]) (by rw [e]; exact h) h.li.i
      · obtain ⟨e, l, far⟩ := wr_yes h.li hz hf c h0
        exact q _ _ e (h.write hz hf c h0 hx) (h.li.ri far)
  · exact q.elim)
def TW_erase : am_T := fun live as M R => match as with
  | [.ref n, .int a] => ∃ i1 i2, live = (am_lv i1 i2, am_q i1 i2) ∧ n = 0 ∧ LX i1 i2 M ∧ ∀ v N, v = (r_erase N a).1 → LX i1 i2 (r_erase N a).2 → r_I N → R (some (.int v)) N
  | _ => False
theorem metW_erase : am_Met yX7_erase cX7_erase 4 (some .int) (1) (20) TW_erase := metX7_erase.imp (fun live as M R q => by
  unfold TW_erase at q
  split at q
  · next n a =>
    obtain ⟨i1, i2, rfl, rfl, h, q⟩ := q
    have hs := st_erase h.li a
    exact ⟨⟨_, _, rfl⟩, rfl, ⟨h.li.h, h.li.g⟩, q _ _ hs.e (h.erase a) (h.li.ri hs.c)⟩
  · exact q.elim)
def TW_fault : am_T := fun live as M R => match as with
  | [.ref n, .int a] => ∃ i1 i2, live = (am_lv i1 i2, am_q i1 i2) ∧ n = 0 ∧ LX i1 i2 M ∧ ∀ v, v = (c_fault M a).1 → R (some (.int v)) M
  | _ => False
theorem c_fault_2 (M : am_M) (a : Int32) : (c_fault M a).2 = M := by
  unfold c_fault
  split <;> rfl
theorem metW_fault : am_Met yX7_fault cX7_fault 2 (some .int) (1) (20) TW_fault := metX7_fault.imp (fun live as M R q => by
  unfold TW_fault at q
  split at q
  · next n a =>
    obtain ⟨i1, i2, rfl, rfl, h, q⟩ := q
    refine ⟨⟨_, _, rfl⟩, rfl, ⟨h.li.h, h.li.g⟩, ?_⟩
    rw [c_fault_2]
    exact q _ rfl
  · exact q.elim)
def TV_fault : am_T := fun live as M R => match as with
  | [.ref n, .int a] => ∃ i1 i2, live = (am_lv i1 i2, am_q i1 i2) ∧ n = 200 ∧ LX i1 i2 M ∧ ∀ N, LX i1 i2 N → R (some (.int (c_fault M a).1)) N
  | _ => False
theorem metV_fault : am_Met yX8_fault cX8_fault 2 (some .int) (6) (135) TV_fault := metX8_faultE.imp (fun live as M R q => by
  unfold TV_fault at q
  split at q
  · next n a =>
    obtain ⟨i1, i2, rfl, rfl, h, q⟩ := q
    refine ⟨⟨_, _, rfl⟩, rfl, h.li.i, fun z => ?_, fun z => ?_⟩
    · have e : (c_fault M a).1 = -2 := by unfold c_fault; rw [if_neg z]
      rw [← e]
      exact q M h
    · have e : (c_fault M a).1 = M.1 (39 + 3 * a.toNatClampNeg) 6 := by unfold c_fault; rw [if_pos z]
      obtain ⟨f1, f2, -⟩ := h.fault z
      rw [e] at q
      refine ⟨fun x hx N c => ?_, fun v hv N c => ?_⟩
      · by_cases w : M.1 (39 + 3 * a.toNatClampNeg) 6 = -1
        · rw [w] at q
          exact q N (h.rc c.sc)
        · rw [f2 w] at hx
          cases hx
      · by_cases w : M.1 (39 + 3 * a.toNatClampNeg) 6 = -1
        · obtain ⟨x, hx⟩ := f1 w
          rw [hx] at hv
          cases hv
        · rw [f2 w] at hv
          have e2 : M.1 (39 + 3 * a.toNatClampNeg) 6 = v := by rw [i_eq]; exact Sum.inr.inj hv
          rw [e2] at q
          exact q N (h.rc c.sc)
  · exact q.elim)
def TW_sell : am_T := fun live as M R => match as with
  | [.ref n, .int a, .int b, .int c] => ∃ i1 i2, live = (am_lv i1 i2, am_q i1 i2) ∧ n = 0 ∧ LX i1 i2 M ∧ ∀ v N, v = (r_sell N a b c).1 → LX i1 i2 (r_sell N a b c).2 → r_I N → R (some (.int v)) N
  | _ => False
theorem metW_sell : am_Met yX7_sell cX7_sell 4 (some .int) (1) (24) TW_sell := metX7_sell.imp (fun live as M R q => by
  unfold TW_sell at q
  split at q
  · next n a b c =>
    obtain ⟨i1, i2, rfl, rfl, h, q⟩ := q
    have hs := st_sell h.li a b c
    exact ⟨⟨_, _, rfl⟩, rfl, ⟨h.li.h, h.li.g⟩, q _ _ hs.e (h.mv hs.l ((kc_sell _ a b c).tr (kr_sell _ a b c))) (h.li.ri hs.c)⟩
  · exact q.elim)
def TW_promise : am_T := fun live as M R => match as with
  | [.ref n, .int a, .int b, .int c] => ∃ i1 i2, live = (am_lv i1 i2, am_q i1 i2) ∧ n = 0 ∧ LX i1 i2 M ∧ ∀ v N, v = (r_promise N a b c).1 → LX i1 i2 (r_promise N a b c).2 → r_I N → R (some (.int v)) N
  | _ => False
theorem metW_promise : am_Met yX7_promise cX7_promise 4 (some .int) (2) (47) TW_promise := metX7_promise.imp (fun live as M R q => by
  unfold TW_promise at q
  split at q
  · next n a b c =>
    obtain ⟨i1, i2, rfl, rfl, h, q⟩ := q
    have hs := st_promise h.li a b c
    exact ⟨⟨_, _, rfl⟩, rfl, ⟨h.li.h, h.li.g⟩, q _ _ hs.e (h.mv hs.l ((kc_promise _ a b c).tr (kr_promise _ a b c))) (h.li.ri hs.c)⟩
  · exact q.elim)
def TW_book : am_T := fun live as M R => match as with
  | [.ref n, .int a, .int b, .int c, .int d] => ∃ i1 i2, live = (am_lv i1 i2, am_q i1 i2) ∧ n = 0 ∧ LX i1 i2 M ∧ ∀ v N, LX i1 i2 N → R (some (.long v)) N
  | _ => False
theorem metW_book : am_Met yX7_book cX7_book 8 (some .long) (6) (147) TW_book := metX7_book.imp (fun live as M R q => by
  unfold TW_book at q
  split at q
  · next n a b c d =>
    obtain ⟨i1, i2, rfl, rfl, h, q⟩ := q
    exact ⟨⟨_, _, rfl⟩, rfl, ⟨h.li.h, h.li.g⟩, fun v N c hg => q v N (h.sc c hg)⟩
  · exact q.elim)
def TV_book : am_T := fun live as M R => match as with
  | [.ref n, .int a, .int b, .int c, .int d] => ∃ i1 i2, live = (am_lv i1 i2, am_q i1 i2) ∧ n = 200 ∧ LX i1 i2 M ∧ ∀ v N, LX i1 i2 N → R (some (.long v)) N
  | _ => False
theorem metV_book : am_Met yX8_book cX8_book 10 (some .long) (10) (253) TV_book := metX8_book.imp (fun live as M R q => by
  unfold TV_book at q
  split at q
  · next n a b c d =>
    obtain ⟨i1, i2, rfl, rfl, h, q⟩ := q
    exact ⟨⟨_, _, rfl⟩, rfl, h.li.i, fun v N c _ => q v N (h.rc c)⟩
  · exact q.elim)
def TW_live : am_T := fun live as M R => match as with
  | [.ref n, .int a, .int b, .int c, .int d] => ∃ i1 i2, live = (am_lv i1 i2, am_q i1 i2) ∧ n = 0 ∧ LX i1 i2 M ∧ ∀ v N, v = (r_live N a b c d).1 → LX i1 i2 (r_live N a b c d).2 → r_I N → R (some (.int v)) N
  | _ => False
theorem metW_live : am_Met yX7_live cX7_live 5 (some .int) (2) (47) TW_live := metX7_live.imp (fun live as M R q => by
  unfold TW_live at q
  split at q
  · next n a b c d =>
    obtain ⟨i1, i2, rfl, rfl, h, q⟩ := q
    have hs := st_live h.li a b c d
    exact ⟨⟨_, _, rfl⟩, rfl, ⟨h.li.h, h.li.g⟩, q _ _ hs.e (h.mv hs.l ((kc_live _ a b c d).tr (kr_live _ a b c d))) (h.li.ri hs.c)⟩
  · exact q.elim)
def TW_early : am_T := fun live as M R => match as with
  | [.ref n, .int a, .int b, .int c, .int d] => ∃ i1 i2, live = (am_lv i1 i2, am_q i1 i2) ∧ n = 0 ∧ LX i1 i2 M ∧ ∀ v N, LX i1 i2 N → R (some (.int v)) N
  | _ => False
theorem metW_early : am_Met yX7_early cX7_early 11 (some .int) (6) (152) TW_early := metX7_early.imp (fun live as M R q => by
  unfold TW_early at q
  split at q
  · next n a b c d =>
    obtain ⟨i1, i2, rfl, rfl, h, q⟩ := q
    exact ⟨⟨_, _, rfl⟩, rfl, ⟨h.li.h, h.li.g⟩, fun v N c hg => q v N (h.sc c hg)⟩
  · exact q.elim)
def TV_early : am_T := fun live as M R => match as with
  | [.ref n, .int a, .int b, .int c, .int d] => ∃ i1 i2, live = (am_lv i1 i2, am_q i1 i2) ∧ n = 200 ∧ LX i1 i2 M ∧ ∀ v N, LX i1 i2 N → R (some (.int v)) N
  | _ => False
theorem metV_early : am_Met yX8_early cX8_early 7 (some .int) (11) (282) TV_early := metX8_early.imp (fun live as M R q => by
  unfold TV_early at q
  split at q
  · next n a b c d =>
    obtain ⟨i1, i2, rfl, rfl, h, q⟩ := q
    exact ⟨⟨_, _, rfl⟩, rfl, h.li.i, fun v N c _ => q v N (h.rc c)⟩
  · exact q.elim)
theorem r_choiceV_cg {M N : am_M} (h1 : N.1 201 = M.1 201) (h2 : N.1 200 = M.1 200) (a b c d e : Int32) : r_choiceV N a b c d e = r_choiceV M a b c d e := by
  unfold r_choiceV
  rw [r_liv_ld h1 h2, h1]
def TW_choice : am_T := fun live as M R => match as with
  | [.ref n, .int a, .int b, .int c, .int d, .int e] => ∃ i1 i2, live = (am_lv i1 i2, am_q i1 i2) ∧ n = 0 ∧ LX i1 i2 M ∧ ∀ v N, v = r_choiceV N a b c d e → LX i1 i2 N → r_I N → R (some (.long v)) N
  | _ => False
theorem metW_choice : am_Met yX7_choice cX7_choice 6 (some .long) (6) (152) TW_choice := metX7_choiceE.imp (fun live as M R q => by
  unfold TW_choice at q
  split at q
  · next n a b c d e =>
    obtain ⟨i1, i2, rfl, rfl, h, q⟩ := q
    exact ⟨⟨_, _, rfl⟩, rfl, ⟨_, _, h⟩, fun N cc hg => q _ N (r_choiceV_cg (cc.r1 (by decide)) (cc.r1 (by decide)) a b c d e).symm (h.sc cc hg) (h.sc cc hg).li.i⟩
  · exact q.elim)
def TV_choice : am_T := fun live as M R => match as with
  | [.ref n, .int a, .int b, .int c, .int d, .int e] => ∃ i1 i2, live = (am_lv i1 i2, am_q i1 i2) ∧ n = 200 ∧ LX i1 i2 M ∧ ∀ N, LX i1 i2 N → R (some (.long (r_choiceV M a b c d e))) N
  | _ => False
theorem metV_choice : am_Met yX8_choice cX8_choice 8 (some .long) (11) (282) TV_choice := metX8_choiceE.imp (fun live as M R q => by
  unfold TV_choice at q
  split at q
  · next n a b c d e =>
    obtain ⟨i1, i2, rfl, rfl, h, q⟩ := q
    exact ⟨⟨_, _, rfl⟩, rfl, ⟨_, _, h⟩, fun N c _ => q N (h.rc c)⟩
  · exact q.elim)
def TW_chances : am_T := fun live as M R => match as with
  | [.ref n, .int a, .int b, .int c, .int d, .int e] => ∃ i1 i2, live = (am_lv i1 i2, am_q i1 i2) ∧ n = 0 ∧ LX i1 i2 M ∧ ∀ v N, v = (r_chances N a b c d e).1 → LX i1 i2 (r_chances N a b c d e).2 → r_I N → R (some (.int v)) N
  | _ => False
theorem metW_chances : am_Met yX7_chances cX7_chances 7 (some .int) (1) (22) TW_chances := metX7_chances.imp (fun live as M R q => by
  unfold TW_chances at q
  split at q
  · next n a b c d e =>
    obtain ⟨i1, i2, rfl, rfl, h, q⟩ := q
    have hs := st_chances h.li a b c d e
    exact ⟨⟨_, _, rfl⟩, rfl, ⟨h.li.h, h.li.g⟩, q _ _ hs.e (h.mv hs.l ((kc_chances _ a b c d e).tr (kr_chances _ a b c d e))) (h.li.ri hs.c)⟩
  · exact q.elim)
def TW_foretold : am_T := fun live as M R => match as with
  | [.ref n, .int a, .int b, .int c, .int d, .int e, .int f] => ∃ i1 i2, live = (am_lv i1 i2, am_q i1 i2) ∧ n = 0 ∧ LX i1 i2 M ∧ ∀ v N, LX i1 i2 N → R (some (.long v)) N
  | _ => False
theorem metW_foretold : am_Met yX7_foretold cX7_foretold 7 (some .long) (11) (368) TW_foretold := metX7_foretold.imp (fun live as M R q => by
  unfold TW_foretold at q
  split at q
  · next n a b c d e f =>
    obtain ⟨i1, i2, rfl, rfl, h, q⟩ := q
    exact ⟨⟨_, _, rfl⟩, rfl, ⟨h.li.h, h.li.g⟩, fun v N c hg => q v N (h.gv c hg)⟩
  · exact q.elim)
def TV_foretold : am_T := fun live as M R => match as with
  | [.ref n, .int a, .int b, .int c, .int d, .int e, .int f] => ∃ i1 i2, live = (am_lv i1 i2, am_q i1 i2) ∧ n = 200 ∧ LX i1 i2 M ∧ ∀ v N, LX i1 i2 N → R (some (.long v)) N
  | _ => False
theorem metV_foretold : am_Met yX8_foretold cX8_foretold 18 (some .long) (10) (259) TV_foretold := metX8_foretold.imp (fun live as M R q => by
  unfold TV_foretold at q
  split at q
  · next n a b c d e f =>
    obtain ⟨i1, i2, rfl, rfl, h, q⟩ := q
    exact ⟨⟨_, _, rfl⟩, rfl, h.li.i, fun v N c _ => q v N (h.rc c)⟩
  · exact q.elim)
def TW_tried : am_T := fun live as M R => match as with
  | [.ref n, .int a, .int b, .int c, .int d, .int e] => ∃ i1 i2, live = (am_lv i1 i2, am_q i1 i2) ∧ n = 0 ∧ LX i1 i2 M ∧ ∀ v N, LX i1 i2 N → R (some (.long v)) N
  | _ => False
theorem metW_tried : am_Met yX7_tried cX7_tried 6 (some .long) (6) (152) TW_tried := metX7_tried.imp (fun live as M R q => by
  unfold TW_tried at q
  split at q
  · next n a b c d e =>
    obtain ⟨i1, i2, rfl, rfl, h, q⟩ := q
    exact ⟨⟨_, _, rfl⟩, rfl, ⟨h.li.h, h.li.g⟩, fun v N c hg => q v N (h.sa c hg)⟩
  · exact q.elim)
def TV_tried : am_T := fun live as M R => match as with
  | [.ref n, .int a, .int b, .int c, .int d, .int e] => ∃ i1 i2, live = (am_lv i1 i2, am_q i1 i2) ∧ n = 200 ∧ LX i1 i2 M ∧ ∀ v N, LX i1 i2 N → R (some (.long v)) N
  | _ => False
theorem metV_tried : am_Met yX8_tried cX8_tried 6 (some .long) (11) (281) TV_tried := metX8_tried.imp (fun live as M R q => by
  unfold TV_tried at q
  split at q
  · next n a b c d e =>
    obtain ⟨i1, i2, rfl, rfl, h, q⟩ := q
    exact ⟨⟨_, _, rfl⟩, rfl, h.li.i, h.li.n3t, fun v N c _ => q v N (h.rc c)⟩
  · exact q.elim)
def TW_tell : am_T := fun live as M R => match as with
  | [.ref n, .int a] => ∃ i1 i2, live = (am_lv i1 i2, am_q i1 i2) ∧ n = 0 ∧ LX i1 i2 M ∧ ∀ v N, v = (r_tell N a).1 → LX i1 i2 (r_tell N a).2 → r_I N → R (some (.int v)) N
  | _ => False
theorem metW_tell : am_Met yX7_tell cX7_tell 2 (some .int) (1) (20) TW_tell := metX7_tell.imp (fun live as M R q => by
  unfold TW_tell at q
  split at q
  · next n a =>
    obtain ⟨i1, i2, rfl, rfl, h, q⟩ := q
    have hs := st_tell h.li a
    exact ⟨⟨_, _, rfl⟩, rfl, ⟨h.li.h, h.li.g⟩, q _ _ hs.e (h.mv hs.l ((kc_tell _ a).tr (kr_tell _ a))) (h.li.ri hs.c)⟩
  · exact q.elim)
def TW_untell : am_T := fun live as M R => match as with
  | [.ref n] => ∃ i1 i2, live = (am_lv i1 i2, am_q i1 i2) ∧ n = 0 ∧ LX i1 i2 M ∧ ∀ v N, v = (r_untell N).1 → LX i1 i2 (r_untell N).2 → r_I N → R (some (.int v)) N
  | _ => False
theorem metW_untell : am_Met yX7_untell cX7_untell 2 (some .int) (0) (0) TW_untell := metX7_untell.imp (fun live as M R q => by
  unfold TW_untell at q
  split at q
  · next n =>
    obtain ⟨i1, i2, rfl, rfl, h, q⟩ := q
    have hs := st_untell h.li
    exact ⟨⟨_, _, rfl⟩, rfl, ⟨h.li.h, h.li.g⟩, q _ _ hs.e (h.mv hs.l ((kc_untell _).tr (kr_untell _))) (h.li.ri hs.c)⟩
  · exact q.elim)
def TW_best : am_T := fun live as M R => match as with
  | [.ref n, .int a, .int b, .int c, .int d, .int e, .long f] => ∃ i1 i2, live = (am_lv i1 i2, am_q i1 i2) ∧ n = 0 ∧ LX i1 i2 M ∧ ∀ v N, LX i1 i2 N → R (some (.int v)) N
  | _ => False
theorem metW_best : am_Met yX7_best cX7_best 12 (some .int) (6) (152) TW_best := metX7_best.imp (fun live as M R q => by
  unfold TW_best at q
  split at q
  · next n a b c d e f =>
    obtain ⟨i1, i2, rfl, rfl, h, q⟩ := q
    exact ⟨⟨_, _, rfl⟩, rfl, ⟨h.li.h, h.li.g⟩, fun v N c hg => q v N (h.sa c hg)⟩
  · exact q.elim)
def TV_best : am_T := fun live as M R => match as with
  | [.ref n, .int a, .int b, .int c, .int d, .int e, .long f] => ∃ i1 i2, live = (am_lv i1 i2, am_q i1 i2) ∧ n = 200 ∧ LX i1 i2 M ∧ ∀ v N, LX i1 i2 N → R (some (.int v)) N
  | _ => False
theorem metV_best : am_Met yX8_best cX8_best 13 (some .int) (11) (281) TV_best := metX8_best.imp (fun live as M R q => by
  unfold TV_best at q
  split at q
  · next n a b c d e f =>
    obtain ⟨i1, i2, rfl, rfl, h, q⟩ := q
    exact ⟨⟨_, _, rfl⟩, rfl, h.li.i, h.li.n3t, fun v N c _ => q v N (h.rc c)⟩
  · exact q.elim)
def TW_image : an_T := fun E as M R => match as with
  | [.ref n, .int a] => ∃ i1 i2, E = (am_lv i1 i2, am_q i1 i2) ∧ n = 0 ∧ LX i1 i2 M ∧ ∀ v j1 j2 N, v = (r_image N a).1 → LX j1 j2 (r_image N a).2 → r_I N → R (some (.int v)) (am_lv j1 j2, am_q j1 j2) N
  | _ => False
theorem metW_image : an_Met yX7_image cX7_image 2 (some .int) (3) (74) 39 5272 TW_image := metX7_image.imp (fun E as M R q => by
  unfold TW_image at q
  split at q
  · next n a =>
    obtain ⟨i1, i2, rfl, rfl, h, q⟩ := q
    refine ⟨i1, i2, rfl, rfl, fun e N c => ?_, fun e N c => ?_, fun hn => ?_⟩
    · subst e
      obtain ⟨l, e, r⟩ := im_0 h.li c
      exact q _ _ _ N e.symm (h.im0 c) r
    · subst e
      obtain ⟨l, e, r⟩ := im_1 h.li c
      exact q _ _ _ N e.symm (h.im1 c) r
    · have e := (im_no (M := M) hn).1
      exact q _ _ _ M (by rw [e]) (by rw [e]; exact h) h.li.i
  · exact q.elim)
def TW_from : an_T := fun E as M R => match as with
  | [.ref n, .int a] => ∃ i1 i2, E = (am_lv i1 i2, am_q i1 i2) ∧ n = 0 ∧ LX i1 i2 M ∧ ∀ v j1 j2 N, v = (r_from N a).1 → LX j1 j2 (r_from N a).2 → r_I N → R (some (.int v)) (am_lv j1 j2, am_q j1 j2) N
  | _ => False
theorem metW_from : an_Met yX7_from cX7_from 2 (some .int) (3) (74) 0 0 TW_from := metX7_from.imp (fun E as M R q => by
  unfold TW_from at q
  split at q
  · next n a =>
    obtain ⟨i1, i2, rfl, rfl, h, q⟩ := q
    refine ⟨i1, i2, rfl, rfl, fun hn => ?_, fun e z => ?_, fun e z => ?_, fun e z N c => ?_, fun e z N c => ?_⟩
    · have e := (im_no (M := M) hn).2
      exact q _ _ _ M (by rw [e]) (by rw [e]; exact h) h.li.i
    · subst e
      subst z
      have e := fr_no0 h.li
      exact q _ _ _ M (by rw [e]) (by rw [e]; exact h) h.li.i
    · subst e
      subst z
      have e := fr_no1 h.li
      exact q _ _ _ M (by rw [e]) (by rw [e]; exact h) h.li.i
    · subst e
      subst z
      obtain ⟨l, e, r⟩ := fr_0 h.li c
      exact q _ _ _ N e.symm (h.fr0 c) r
    · subst e
      subst z
      obtain ⟨l, e, r⟩ := fr_1 h.li c
      exact q _ _ _ N e.symm (h.fr1 c) r
  · exact q.elim)
def TW_count : am_T := fun live as M R => match as with
  | [.ref n, .int a] => ∃ i1 i2, live = (am_lv i1 i2, am_q i1 i2) ∧ n = 0 ∧ LX i1 i2 M ∧ R (some (.int (r_count M a))) M
  | _ => False
theorem metW_count : am_Met yX7_count cX7_count 2 (some .int) (0) (0) TW_count := metX7_count.imp (fun live as M R q => by
  unfold TW_count at q
  split at q
  · next n a =>
    obtain ⟨i1, i2, rfl, rfl, h, q⟩ := q
    refine ⟨⟨_, _, rfl⟩, rfl, ?_⟩
    rw [ct_eq h.li a]
    exact q
  · exact q.elim)
def TW_digest : am_T := fun live as M R => match as with
  | [.ref n] => ∃ i1 i2, live = (am_lv i1 i2, am_q i1 i2) ∧ n = 0 ∧ LX i1 i2 M ∧ ∀ v N, LX i1 i2 N → R (some (.long v)) N
  | _ => False
theorem metW_digest : am_Met yX7_digest cX7_digest 4 (some .long) (6) (147) TW_digest := metX7_digest.imp (fun live as M R q => by
  unfold TW_digest at q
  split at q
  · next n =>
    obtain ⟨i1, i2, rfl, rfl, h, q⟩ := q
    exact ⟨⟨_, _, rfl⟩, rfl, ⟨h.li.h, h.li.g⟩, fun v N c hg => q v N (h.sc c hg)⟩
  · exact q.elim)
def TV_digest : am_T := fun live as M R => match as with
  | [.ref n] => ∃ i1 i2, live = (am_lv i1 i2, am_q i1 i2) ∧ n = 200 ∧ LX i1 i2 M ∧ ∀ v N, LX i1 i2 N → R (some (.long v)) N
  | _ => False
theorem metV_digest : am_Met yX8_digest cX8_digest 5 (some .long) (10) (253) TV_digest := metX8_digest.imp (fun live as M R q => by
  unfold TV_digest at q
  split at q
  · next n =>
    obtain ⟨i1, i2, rfl, rfl, h, q⟩ := q
    exact ⟨⟨_, _, rfl⟩, rfl, h.li.i, fun v N c _ => q v N (h.rc c)⟩
  · exact q.elim)
end
