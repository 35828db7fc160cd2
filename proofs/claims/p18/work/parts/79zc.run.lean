/-! runs: between calls: a run of the class is one of the reference -/
theorem w_ev_fa {fa fa' : Int32 → Int64} {cd : Nat → Int32} {b : Nat} (h : ∀ c, am_ops c = 0 → fa c = fa' c) : ∀ {k : Nat} {st : List Int64}, w_ev fa cd b k st = w_ev fa' cd b k st
  | 0, _ => rfl
  | k + 1, st => by
    show w_ex fa (cd (b + k)) (w_ev fa cd b k st) = w_ex fa' (cd (b + k)) (w_ev fa' cd b k st)
    rw [w_ev_fa h]
    unfold w_ex
    by_cases z : am_ops (-cd (b + k)) = 0
    · simp only [if_pos z, h _ z]
    · simp only [if_neg z]
theorem tx_ok.fa {t s c : Nat} {M : am_M} (h : tx_ok t s c M) {fa fa' : Int32 → Int64} (hf : ∀ c, am_ops c = 0 → fa c = fa' c) : w_res fa (M.1 s) (t_n M t) 0 true [] [] = w_res fa' (M.1 s) (t_n M t) 0 true [] [] := by
  obtain ⟨-, h1, h2⟩ := h
  by_cases w : M.1 t 6 = -1
  · obtain ⟨v, a1, a2⟩ := h1 w fa
    obtain ⟨v', b1, b2⟩ := h1 w fa'
    have q1 := a2 []
    have q2 := b2 []
    rw [w_ev_fa hf, q2] at q1
    have e : v' = v := (List.cons.inj q1).1
    rw [a1, b1, e]
  · rw [h2 w, h2 w]
section LXR
variable {i1 i2 : Bool} {M N : am_M} {p k : Int32}
theorem LX.txs (h : LX i1 i2 M) {pl : Int32} (hp : am_in pl 5) : (∀ fa, w_res fa (M.1 (40 + 3 * pl.toNatClampNeg)) (t_n M (39 + 3 * pl.toNatClampNeg)) 0 true [] [] = w_res fa (r_sg M pl) (r_sn M pl) 0 true [] []) ∧ ∀ fa fa' : Int32 → Int64, (∀ c, am_ops c = 0 → fa c = fa' c) → w_res fa (r_sg M pl) (r_sn M pl) 0 true [] [] = w_res fa' (r_sg M pl) (r_sn M pl) 0 true [] [] := by
  have hp1 := hp.1
  have hp2 := hp.2
  obtain ⟨-, -, key⟩ := h.fault (pl := pl) ⟨by rw [i_le, Int32.toInt_zero]; exact hp1, by rw [i_lt]; simp only [Int32.reduceToInt]; omega⟩
  rw [show 39 + 3 * pl.toNatClampNeg + 1 = 40 + 3 * pl.toNatClampNeg by omega] at key
  refine ⟨key, fun fa fa' hf => ?_⟩
  rw [← key, ← key]
  have t := h.t0.v (g_cl hp)
  rw [show 20 + (19 + 3 * pl.toNatClampNeg) = 39 + 3 * pl.toNatClampNeg by omega, show 20 + (20 + 3 * pl.toNatClampNeg) = 40 + 3 * pl.toNatClampNeg by omega] at t
  exact t.fa hf
theorem LI.erk (h : LI i1 i2 M) (hp : am_in p 12) (hp2 : p.toInt < (M.1 201 0).toInt) {y : Int32} (hy : am_in y 40) (hk : am_in k 40) : am_earn M (p * 40 + y) k = r_known M p y k := by
  have q := (st_earnings h p y k).e
  have z0 : 0 ≤ p ∧ p < M.1 201 0 := ⟨by rw [i_le, Int32.toInt_zero]; exact hp.1, by rw [i_lt]; exact hp2⟩
  have z1 : 0 ≤ y ∧ y < 40 := ⟨by rw [i_le, Int32.toInt_zero]; exact hy.1, by rw [i_lt]; exact hy.2⟩
  have z2 : 0 ≤ k ∧ k < 40 := ⟨by rw [i_le, Int32.toInt_zero]; exact hk.1, by rw [i_lt]; exact hk.2⟩
  have ec : c_earnings M p y k = (am_earn M (p * 40 + y) k, M) := by
    unfold c_earnings
    rw [h.e0, if_pos z0, if_pos z1, if_pos z2]
  have er : r_earnings M p y k = (r_known M p y k, M) := by
    unfold r_earnings
    rw [if_pos z0, if_pos z1, if_pos z2]
  rw [ec] at q
  dsimp only at q
  rw [er] at q
  exact q
theorem LI.kr (h : LI i1 i2 M) (hp : am_in p 12) {y : Int32} (hy : am_in y 40) : -1 ≤ (r_known M p y k).toInt ∧ (r_known M p y k).toInt ≤ 10000000 := by
  have f := x_40 (p := p) (y := y) ⟨hp.1, by have := hp.2; omega⟩ ⟨hy.1, by have := hy.2; omega⟩
  have p1 := hp.1
  have p2 := hp.2
  have y1 := hy.1
  have y2 := hy.2
  have g2 := r_off (c := 1518) (x := 40 * p + y) ⟨by decide, by decide⟩ ⟨by omega, by omega⟩
  have g1 := r_off (c := 558) (x := 40 * p + y) ⟨by decide, by decide⟩ ⟨by omega, by omega⟩
  simp only [Int32.reduceToInt] at g1 g2
  have c1 := i_clamp (x := 558 + (40 * p + y)) (by omega)
  have c2 := i_clamp (x := 1518 + (40 * p + y)) (by omega)
  unfold r_known
  split
  · have q := (h.v (k := (1518 + (40 * p + y)).toNatClampNeg) (by omega)).a11 (by omega)
    omega
  · split
    · have q := (h.v (k := (558 + (40 * p + y)).toNatClampNeg) (by omega)).a11 (by omega)
      omega
    · decide
theorem LI.nums (h : LI i1 i2 M) {pl w y : Int32} (hpl : am_in pl 5) (hw : am_in w 6) : am_isNum w (r_inF M pl w p y) := by
  rw [h.inF hpl.1]
  unfold q_F
  have n2 := h.n2
  have c2 := i_clamp n2.1
  split
  · have hc : w = 0 ∨ w = 1 ∨ w = 2 ∨ w = 3 ∨ w = 4 ∨ w = 5 := by
      have h1 := hw.1
      have h2 := hw.2
      simp only [i_eq, Int32.reduceToInt, Int32.toInt_zero]
      omega
    rcases hc with rfl | rfl | rfl | rfl | rfl | rfl <;> exact ⟨by decide, by decide⟩
  · next a ea =>
    obtain ⟨l1, l2, -⟩ := q_R_lt ea
    have m := of_decide_eq_true l2
    obtain ⟨-, -, -, h3, -⟩ := h.b.l
    have q := h3 a (by omega)
    (try dsimp only at q)
    rw [Nat.zero_add, Nat.zero_add] at q
    have e1 : M.1 201 (2479 + 6 * a) = w := by
      rw [← m.2.1]
      unfold r_A
      rw [show 2478 + (6 * a + 1) = 2479 + 6 * a by omega]
    have e2 : r_A M (6 * a + 2) = M.1 201 (2480 + 6 * a) := by
      unfold r_A
      rw [show 2478 + (6 * a + 2) = 2480 + 6 * a by omega]
    rw [e1] at q
    rw [e2]
    exact q
theorem LI.tok (h : LI i1 i2 M) : t_ok (M.1 201) := by
  have q := h.b.t
  rw [show (fun k => M.1 201 (0 + k)) = M.1 201 from funext fun k => by rw [Nat.zero_add]] at q
  exact q
/-- what a begun run keeps of what is told -/
theorem c_bg.o (h : c_bg M p k N) {a : Nat} (h4 : a ≠ 4) (h5 : a ≠ 5) (h7 : a ≠ 7) : N.1 a = M.1 a := by obtain ⟨-, h, -⟩ := h; exact h a h4 h5 h7
theorem c_bg.oj (h : c_bg M p k N) {a : Nat} (h4 : a ≠ 4) (h6 : a ≠ 6) : N.2 a = M.2 a := by obtain ⟨-, -, h, -⟩ := h; exact h a h4 h6
theorem c_bg.f (h : c_bg M p k N) : (N.1 4 8 = p ∧ N.1 4 9 = k) ∧ N.1 4 10 = 0 ∧ N.1 4 11 = -1 ∧ N.1 4 12 = -1 ∧ N.2 4 14 = 0 ∧ N.2 4 15 = 0 := by obtain ⟨-, -, -, h, -⟩ := h; exact h
theorem c_bg.ms (h : c_bg M p k N) : c_ms N (c_sz N) = c_mine M p (M.1 33 2).toNatClampNeg := by obtain ⟨-, -, -, -, h, -⟩ := h; exact h
theorem c_bg.z0 (h : c_bg M p k N) : z_00 (N.2 6) (c_mine M p (M.1 33 2).toNatClampNeg) := by obtain ⟨-, -, -, -, -, h, -⟩ := h; exact h
theorem c_bg.nm (h : c_bg M p k N) (hn : c_mine M p (M.1 33 2).toNatClampNeg ≠ []) : c_rw M p 40 N := by obtain ⟨-, -, -, -, -, -, h, -⟩ := h; exact h hn
theorem c_bg.ot (h : c_bg M p k N) : c_ot M p N := by obtain ⟨-, -, -, -, -, -, -, h⟩ := h; exact h
theorem c_bg.sc (h : c_bg M p k N) : g_sc M N := ⟨(), fun a b z => ⟨by rw [h.o (by omega) (by omega) (by omega)], by rw [h.oj (by omega) (by omega)]⟩⟩
theorem z_mine_cg {f g : Int32 → Bool} {n : Nat} (hn : n ≤ 100) (h : ∀ l, am_in l n → f l = g l) : z_mine f n = z_mine g n := by
  unfold z_mine
  refine List.filter_congr (fun l hl => ?_)
  obtain ⟨i, hi, rfl⟩ := List.mem_map.mp hl
  have hi := List.mem_range.mp hi
  have e := (o_nat (n := i) (by omega)).1
  exact h _ ⟨by omega, by omega⟩
theorem LI.lo (h : LI i1 i2 M) {l w : Int32} {n : Nat} (hl : am_in l 30) (hw : w.toInt = (n : Int)) (hn : n < 8) : am_loanAt M l w = r_lo M l w := by
  have l1 := hl.1
  have l2 := hl.2
  have e1 := i_mul (x := l) (y := 8) (by simp only [Int32.reduceToInt]; omega) (by simp only [Int32.reduceToInt]; omega)
  simp only [Int32.reduceToInt] at e1
  have e2 := i_add (x := l * 8) (y := w) (by omega) (by omega)
  have c1 := i_clamp (x := l * 8 + w) (by omega)
  have c2 := i_clamp l1
  have r1 := r_lcol hl (w := w) ⟨by omega, by omega⟩
  have c3 := i_clamp (x := 2838 + 8 * l + w) (by omega)
  have g := g_cl hl
  have e := h.e (o := 14) (k0 := 0) (b0 := 2838) (n := 240) (by decide) (k := 8 * l.toNatClampNeg + n) (by omega)
  rw [Nat.zero_add] at e
  unfold am_loanAt r_lo
  rw [h.w.2.1, am_at_in (show am_in (l * 8 + w) 240 from ⟨by omega, by omega⟩), show (l * 8 + w).toNatClampNeg = 8 * l.toNatClampNeg + n by omega, show (2838 + 8 * l + w).toNatClampNeg = 2838 + (8 * l.toNatClampNeg + n) by omega]
  exact e
/-- the loans of a run are the same -/
theorem LI.mine (h : LI i1 i2 M) : c_mine M p (M.1 33 2).toNatClampNeg = r_mine M p (r_n M) := by
  have n1 := h.n1
  have c := i_clamp n1.1
  rw [h.e1]
  refine z_mine_cg (by omega) (fun l hl => ?_)
  have hl30 : am_in l 30 := ⟨hl.1, by have := hl.2; omega⟩
  unfold c_own r_own
  rw [h.lo hl30 (w := 0) (n := 0) rfl (by decide)]
theorem r_mine_z {l : Int32} (n1 : 0 ≤ (M.1 201 1).toInt ∧ (M.1 201 1).toInt ≤ 30) (hl : l ∈ r_mine M p (r_n M)) : z_in M p l := by
  have c : (r_n M : Int) = (M.1 201 1).toInt := i_clamp n1.1
  obtain ⟨h1, h2⟩ := z_mine_in (by omega) hl
  exact ⟨⟨h1.1, by have := h1.2; omega⟩, by have := h1.2; omega, r_own_iff.mp h2⟩
theorem z_mine_nd {own : Int32 → Bool} {n : Nat} (hn : n ≤ 100) : z_nd (z_mine own n) := by
  unfold z_mine z_nd
  refine List.Pairwise.filter _ ?_
  refine List.pairwise_map.mpr ?_
  refine List.Pairwise.imp_of_mem (fun {a b} ha hb hab => ?_) (List.nodup_range (n := n))
  have ha := List.mem_range.mp ha
  have hb := List.mem_range.mp hb
  rw [(o_nat (n := a) (by omega)).2, (o_nat (n := b) (by omega)).2]
  exact hab
/-- a year of a begun run, as it is -/
theorem LX.lk (h : LX i1 i2 M) (hp : am_in p 12) (hp2 : p.toInt < (M.1 201 0).toInt) (hk : am_in k 40) (hb : c_bg M p k N) (hn : c_mine M p (M.1 33 2).toNatClampNeg ≠ []) {y : Int32} (hy : am_in y 40) : z_lk M (c_look N y) p y (r_known M p y k) (r_la M p y) ∧ (c_look N y).1 4 18 = r_dd M p y := by
  have li := h.li
  obtain ⟨⟨f8, f9⟩, f10, f11, f12, -, -⟩ := hb.f
  have p1 := hp.1
  have p2 := hp.2
  have y1 := hy.1
  have y2 := hy.2
  have cp := i_clamp p1
  have cy := i_clamp y1
  have xx := x_40 (p := p) (y := y) ⟨p1, by omega⟩ ⟨y1, by omega⟩
  have cxx := i_clamp (x := p * 40 + y) (by omega)
  have lo : ∀ {a : Nat}, a ≠ 4 → a ≠ 5 → a ≠ 7 → (c_look N y).1 a = M.1 a := fun h4 h5 h7 => (funext fun j => c_look_1 (fun q => h4 q.1)).trans (hb.o h4 h5 h7)
  have e : c_look N y = am_wI (am_wI (am_wI N 4 16 (am_earn N (p * 40 + y) k)) 4 17 (N.1 24 (p * 40 + y).toNatClampNeg)) 4 18 (if N.1 23 p.toNatClampNeg ≠ -1 ∧ N.1 23 p.toNatClampNeg ≤ y then 1 else 0) := by
    unfold c_look
    rw [if_pos f11, f8, f9]
  have ear : am_earn N (p * 40 + y) k = am_earn M (p * 40 + y) k := by
    unfold am_earn
    rw [hb.o (show (28 : Nat) ≠ 4 by decide) (by decide) (by decide), hb.o (show (27 : Nat) ≠ 4 by decide) (by decide) (by decide), hb.o (show (26 : Nat) ≠ 4 by decide) (by decide) (by decide), hb.o (show (25 : Nat) ≠ 4 by decide) (by decide) (by decide)]
  have lnd : M.1 24 (p * 40 + y).toNatClampNeg = r_la M p y := by
    have q := li.e (o := 4) (k0 := 0) (b0 := 34) (n := 480) (by decide) (k := (p * 40 + y).toNatClampNeg) (by omega)
    rw [Nat.zero_add] at q
    have e40 := r_mul (c := 40) (x := p) ⟨by decide, by decide⟩ ⟨by omega, by omega⟩
    simp only [Int32.reduceToInt] at e40
    have ea := r_off (c := 34) (x := 40 * p) ⟨by decide, by decide⟩ ⟨by omega, by omega⟩
    simp only [e40, Int32.reduceToInt] at ea
    have eb := r_off (c := 34 + 40 * p) (x := y) ⟨by omega, by omega⟩ ⟨by omega, by omega⟩
    have cb := i_clamp (x := 34 + 40 * p + y) (by omega)
    unfold r_la
    rw [show (34 + 40 * p + y).toNatClampNeg = 34 + (p * 40 + y).toNatClampNeg by omega]
    exact q
  have rla : am_in (r_la M p y) 4 := by
    rw [← lnd]
    exact li.g.t.ld (by omega)
  have died : M.1 23 p.toNatClampNeg = M.1 201 (22 + p).toNatClampNeg := by
    have q := li.e (o := 3) (k0 := 0) (b0 := 22) (n := 12) (by decide) (k := p.toNatClampNeg) (by omega)
    rw [Nat.zero_add] at q
    rw [x_off (c := 22) (cn := 22) rfl (x := p) ⟨p1, by omega⟩ (by decide)]
    exact q
  have dr := (li.v (k := (22 + p).toNatClampNeg) (by rw [x_off (c := 22) (cn := 22) rfl (x := p) ⟨p1, by omega⟩ (by decide)]; omega)).a7 (by rw [x_off (c := 22) (cn := 22) rfl (x := p) ⟨p1, by omega⟩ (by decide)]; omega)
  refine ⟨⟨(), ⟨?_, fun l w hl hw => ?_, fun j hj => ?_, fun j hj => ?_⟩, ⟨?_, ?_⟩, fun l hl hl2 => ?_, fun pl w hpl hw => ?_, fun pl hpl => ?_, fun pl w hpl hw => li.nums hpl hw, li.tok, li.kr hp hy, rla, hy, li.i⟩, ?_⟩
  · rw [lo (by decide) (by decide) (by decide)]; exact li.w.2.1
  · rw [lo (by decide) (by decide) (by decide)]
    have q := li.e (o := 14) (k0 := 0) (b0 := 2838) (n := 240) (by decide) (k := 8 * l + w) (by omega)
    rw [Nat.zero_add, ← Nat.add_assoc] at q
    exact q
  · rw [lo (by decide) (by decide) (by decide)]
    have q := li.e (o := 9) (k0 := 0) (b0 := 514) (n := 4) (by decide) (k := j) hj
    rw [Nat.zero_add] at q
    exact q
  · rw [lo (by decide) (by decide) (by decide)]
    have q := li.e (o := 10) (k0 := 0) (b0 := 518) (n := 40) (by decide) (k := j) hj
    rw [Nat.zero_add] at q
    exact q
  · rw [e]
    show am_earn N (p * 40 + y) k = _
    rw [ear]
    exact li.erk hp hp2 hy hk
  · rw [e]
    show N.1 24 (p * 40 + y).toNatClampNeg = _
    rw [hb.o (show (24 : Nat) ≠ 4 by decide) (by decide) (by decide)]
    exact lnd
  · unfold am_pln
    rw [c_look_1 (fun q => absurd q.2 (by decide)), f12, if_pos rfl, lo (by decide) (by decide) (by decide)]
    exact li.pl hl hl2 hy
  · rw [c_look_1 (fun q => absurd q.1 (by decide))]
    have cc := c_cell hy hpl hw
    have v := (hb.nm hn).v (y' := y.toNatClampNeg) (pl := pl.toNatClampNeg) (w := w.toNatClampNeg) (g_cl hy) (g_cl hpl) (g_cl hw)
    rw [← cc.2, q_Fn, o_cl hpl (by decide), o_cl hw (by decide), i_clamp y1] at v
    rw [v, li.inF hpl.1]
    exact li.F hp _
  · have q := h.txs hpl
    have e5 : t_n (c_look N y) (39 + 3 * pl.toNatClampNeg) = t_n M (39 + 3 * pl.toNatClampNeg) := by
      unfold t_n
      rw [lo (by omega) (by omega) (by omega)]
    rw [lo (by omega) (by omega) (by omega), e5]
    exact q
  · rw [e]
    show (if N.1 23 p.toNatClampNeg ≠ -1 ∧ N.1 23 p.toNatClampNeg ≤ y then (1 : Int32) else 0) = _
    rw [hb.o (show (23 : Nat) ≠ 4 by decide) (by decide) (by decide), died]
    unfold r_dd
    have n1 := neg1 dr.1
    by_cases z : M.1 201 (22 + p).toNatClampNeg < 0
    · rw [if_pos z, if_neg (fun q => q.1 (n1.mpr z))]
    · rw [if_neg z]
      by_cases w : y < M.1 201 (22 + p).toNatClampNeg
      · rw [if_pos w, if_neg (fun q => by have q2 := q.2; rw [i_le] at q2; rw [i_lt] at w; omega)]
      · rw [if_neg w, if_pos ⟨fun q => z (n1.mp q), by rw [i_le]; rw [i_lt] at w; omega⟩]
/-- dead ahead of a year -/
def r_da (M : am_M) (p : Int32) (y : Int) : Prop := ¬ M.1 201 (22 + p).toNatClampNeg < 0 ∧ (M.1 201 (22 + p).toNatClampNeg).toInt < y
/-- nothing counted, nothing struck -/
def z_00s : (Nat → Int64) × (Nat → Int32) := (fun _ => 0, fun _ => 0)
/-- years of both in step -/
def z_RR (M : am_M) (p : Int32) (y : Int) (s s' : Nat → Int64) (b : Nat → Int32) : Prop := ∀ l ∈ r_mine M p (r_n M), z_L s s' b l ∧ (r_da M p y → ¬ b l.toNatClampNeg = 0) ∧ (¬ b l.toNatClampNeg = 0 → r_da M p y ∨ (r_lo M l 2).toInt < y)
theorem LX.run (h : LX i1 i2 M) (hp : am_in p 12) (hp2 : p.toInt < (M.1 201 0).toInt) (hk : am_in k 40) (hb : c_bg M p k N) : ∀ n : Nat, n ≤ 40 →
    z_RR M p n (z_it (fun y => c_yr N (Int32.ofNat y)) 0 n (c_st N)).1 (z_it (r_yr M p k) 0 n z_00s).1 (z_it (r_yr M p k) 0 n z_00s).2 ∧ (z_it (fun y => c_yr N (Int32.ofNat y)) 0 n (c_st N)).2 = (0, 0)
  | 0, _ => by
    refine ⟨fun l hl => ⟨⟨fun w hw => ?_, ?_, fun q => absurd rfl q⟩, fun q => ?_, fun q => absurd rfl q⟩, ?_⟩
    · rw [← h.li.mine] at hl
      exact hb.z0.v hl hw
    · rw [← h.li.mine] at hl
      have q := hb.z0.v hl (w := 0) (by decide)
      rw [Nat.mul_zero, Nat.zero_add] at q
      show z_ok (N.2 6 l.toNatClampNeg)
      rw [q]
      have k0 : (0 : Int64).toInt = 0 := rfl
      exact ⟨by rw [k0]; omega, by rw [k0]; omega⟩
    · have q1 := q.1
      have q2 := q.2
      rw [i_lt, Int32.toInt_zero] at q1
      omega
    · obtain ⟨-, -, -, -, f14, f15⟩ := hb.f
      exact Prod.ext f14 f15
  | n + 1, hn => by
    obtain ⟨ih, ih2⟩ := LX.run h hp hp2 hk hb n (by omega)
    have n1 := h.li.n1
    have cn : (r_n M : Int) = (M.1 201 1).toInt := i_clamp n1.1
    have oy := o_nat (n := n) (by omega)
    have hy : am_in (Int32.ofNat n) 40 := ⟨by omega, by omega⟩
    show z_RR M p (n + 1 : Nat) (c_yr N (Int32.ofNat (0 + n)) (z_it (fun y => c_yr N (Int32.ofNat y)) 0 n (c_st N))).1 (r_yr M p k (0 + n) (z_it (r_yr M p k) 0 n z_00s)).1 (r_yr M p k (0 + n) (z_it (r_yr M p k) 0 n z_00s)).2 ∧ (c_yr N (Int32.ofNat (0 + n)) (z_it (fun y => c_yr N (Int32.ofNat y)) 0 n (c_st N))).2 = (0, 0)
    rw [Nat.zero_add]
    generalize z_it (fun y => c_yr N (Int32.ofNat y)) 0 n (c_st N) = C at ih ih2 ⊢
    generalize z_it (r_yr M p k) 0 n z_00s = S at ih ⊢
    obtain ⟨s, due, paid⟩ := C
    obtain ⟨s', b⟩ := S
    have ih2 : (due, paid) = (0, 0) := ih2
    have d0 : due = 0 := congrArg Prod.fst ih2
    have p0 : paid = 0 := congrArg Prod.snd ih2
    subst d0 p0
    by_cases hne : c_mine M p (M.1 33 2).toNatClampNeg = []
    · refine ⟨fun l hl => ?_, ?_⟩
      · rw [← h.li.mine, hne] at hl
        exact absurd hl List.not_mem_nil
      · unfold c_yr c_T z_T
        dsimp only
        rw [if_neg (show ¬ (0 : Int64) < 0 by decide), if_neg (show ¬ (0 : Int64) < 0 by decide)]
    · obtain ⟨lk, dd⟩ := h.lk hp hp2 hk hb hne hy
      have msL : c_ms (c_look N (Int32.ofNat n)) (c_sz (c_look N (Int32.ofNat n))) = r_mine M p (r_n M) := by
        rw [← h.li.mine, ← hb.ms]
        unfold c_ms c_sz
        rw [c_look_1 (fun q => absurd q.2 (by decide))]
        refine List.map_congr_left (fun j _ => ?_)
        rw [c_look_1 (fun q => absurd q.1 (by decide))]
      have zin : ∀ l ∈ r_mine M p (r_n M), z_in M p l := fun l hl => r_mine_z n1 hl
      have dn : ¬ (c_look N (Int32.ofNat n)).1 4 18 = 0 ↔ ¬ r_dd M p (Int32.ofNat n) = 0 := by rw [dd]
      have dv : ¬ r_dd M p (Int32.ofNat n) = 0 ↔ r_da M p ((n + 1 : Nat) : Int) := by
        unfold r_dd r_da
        by_cases z : M.1 201 (22 + p).toNatClampNeg < 0
        · rw [if_pos z]
          exact ⟨fun q => absurd rfl q, fun q => absurd z q.1⟩
        · rw [if_neg z]
          by_cases w : Int32.ofNat n < M.1 201 (22 + p).toNatClampNeg
          · rw [if_pos w]
            rw [i_lt] at w
            exact ⟨fun q => absurd rfl q, fun q => by have := q.2; omega⟩
          · rw [if_neg w]
            rw [i_lt] at w
            exact ⟨fun _ => ⟨z, by omega⟩, fun _ => by decide⟩
      have dm : r_da M p (n : Int) → r_da M p ((n + 1 : Nat) : Int) := fun q => ⟨q.1, by have := q.2; omega⟩
      have Q0 : 0 < r_n M := by
        refine Nat.pos_of_ne_zero (fun q => hne ?_)
        rw [h.li.mine]
        unfold r_mine
        rw [q]
        rfl
      have Y := z_year (ms := r_mine M p (r_n M)) (Q := z_pf (r_own M p) (r_of M p (Int32.ofNat n)) (r_n M) (10 * r_n M)) (stk := c_stk (c_look N (Int32.ofNat n)) (Int32.ofNat n)) (en := r_ends M (Int32.ofNat n) (r_dd M p (Int32.ofNat n))) (gr := c_gr (c_look N (Int32.ofNat n)) (Int32.ofNat n)) (cap := fun l o => r_cap o (r_rt M l (Int32.ofNat n) (r_known M p (Int32.ofNat n) k) (r_la M p (Int32.ofNat n)) o)) (dr := fun l o => c_dr (c_look N (Int32.ofNat n)) l (Int32.ofNat n) o) (o1 := r_o1 M (Int32.ofNat n)) (dr' := r_dr M (Int32.ofNat n)) (f := c_of (c_look N (Int32.ofNat n)) (Int32.ofNat n)) (ask := c_ask (c_look N (Int32.ofNat n)) (Int32.ofNat n)) (ask' := r_due M (Int32.ofNat n) (r_known M p (Int32.ofNat n) k) (r_la M p (Int32.ofNat n))) (sd := c_sd (c_look N (Int32.ofNat n)) (Int32.ofNat n)) (sd' := r_sd M (Int32.ofNat n)) (s := s) (s' := s') (b := b) (due := 0) (paid := 0)
        (fun l hl => (zin l hl).1) (z_mine_nd (by omega)) (fun l hl => (ih l hl).1)
        (fun l hl => lk.H (zin l hl) (fun q => by
          rcases (ih l hl).2.2 q with w | w
          · exact Or.inl (dn.mpr (dv.mpr (dm w)))
          · exact Or.inr (by rw [oy.1]; exact w)) (fun _ => dn))
        (fun l hl => lk.ask (zin l hl)) (fun l hl => lk.sd (zin l hl).1) (fun l hl => (lk.of (zin l hl)).2)
        (by rw [z_pf_e Q0]; exact z_q_cg (fun l hl => (lk.of (zin l hl)).1.symm) 10) (by decide)
      obtain ⟨Y1, Y2, Y3, Y4⟩ := Y
      have ec : c_yr N (Int32.ofNat n) = z_T (c_b (c_look N (Int32.ofNat n)) (Int32.ofNat n)) (c_of (c_look N (Int32.ofNat n)) (Int32.ofNat n)) (c_ask (c_look N (Int32.ofNat n)) (Int32.ofNat n)) (c_sd (c_look N (Int32.ofNat n)) (Int32.ofNat n)) (r_mine M p (r_n M)) := by
        unfold c_yr c_T
        rw [msL]
      rw [ec]
      refine ⟨fun l hl => ⟨Y1 l hl, fun q => (Y4 l hl).mpr ?_, fun q => ?_⟩, ?_⟩
      · exact Or.inr (decide_eq_true (Or.inl (dv.mpr q)))
      · rcases (Y4 l hl).mp q with w | w
        · rcases (ih l hl).2.2 w with w2 | w2
          · exact Or.inl (dm w2)
          · exact Or.inr (by omega)
        · rcases of_decide_eq_true w with w2 | w2
          · exact Or.inl (dv.mp w2)
          · have q2 := (lk.ye (zin l hl)).2 w2
            exact Or.inr (by omega)
      · unfold z_T
        dsimp only
        rw [if_neg (show ¬ (0 : Int64) < 0 by decide), if_neg (show ¬ (0 : Int64) < 0 by decide)]
end LXR
