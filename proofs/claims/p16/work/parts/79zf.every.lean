/-! runs exact: everybody's -/
theorem z_fold_o {σ : Type} (F : σ → Int32 → σ) (v : σ → Int64) : ∀ (ms : List Int32) (s : σ), (∀ l ∈ ms, ∀ s, v (F s l) = v s) → v (ms.foldl F s) = v s
  | [], _, _ => rfl
  | a :: ms, s, h => (z_fold_o F v ms (F s a) (fun l hl => h l (List.mem_cons_of_mem _ hl))).trans (h a List.mem_cons_self s)
theorem z_T_o {stk : Int32 → Bool} {gr dr : Int32 → Int64 → Int64} {f : Int32 → Nat} {ask : Int32 → Int64} {sd : Int32 → Bool} {ms : List Int32} {p : z_S} {x : Int32} {w : Nat} (hx : am_in x 30) (hm : ∀ l ∈ ms, am_in l 30 ∧ l.toNatClampNeg ≠ x.toNatClampNeg) : (z_T (z_b stk gr dr) f ask sd ms p).1 (30 * w + x.toNatClampNeg) = p.1 (30 * w + x.toNatClampNeg) := by
  have hq : ∀ l ∈ z_q f ms 10, am_in l 30 ∧ l.toNatClampNeg ≠ x.toNatClampNeg := fun l hl => hm l (z_q_in hl)
  have tk : ∀ s : (Nat → Int64) × Int64, ((z_q f ms 10).foldl (z_tk ask sd) s).1 (30 * w + x.toNatClampNeg) = s.1 (30 * w + x.toNatClampNeg) := fun s => z_fold_o (z_tk ask sd) (fun s => s.1 (30 * w + x.toNatClampNeg)) _ s (fun l hl s => by
    obtain ⟨f0, f1, f2, f3, f4, f5⟩ := z_far (w := w) (hq l hl).1 hx (hq l hl).2
    obtain ⟨-, -, -, -, -, t6⟩ := z_tk_v (ask := ask) (sd := sd) (s := s.1) (v := s.2) (x := l)
    exact t6 _ f0 f1 f3 f5)
  have py : ∀ s : z_S, ((z_q f ms 10).foldl z_pay s).1 (30 * w + x.toNatClampNeg) = s.1 (30 * w + x.toNatClampNeg) := fun s => z_fold_o z_pay (fun s => s.1 (30 * w + x.toNatClampNeg)) _ s (fun l hl s => by
    show z_u _ _ _ _ = _
    exact z_u_n (z_far (w := w) (hq l hl).1 hx (hq l hl).2).1)
  have bb : ∀ s : Nat → Int64, (ms.foldl (z_b stk gr dr) s) (30 * w + x.toNatClampNeg) = s (30 * w + x.toNatClampNeg) := fun s => z_fold_o (z_b stk gr dr) (fun s => s (30 * w + x.toNatClampNeg)) ms s (fun l hl s => by
    obtain ⟨f0, f1, f2, f3, f4, f5⟩ := z_far (w := w) (hm l hl).1 hx (hm l hl).2
    exact z_b_o f0 f2 f4)
  unfold z_T
  dsimp only
  refine (tk _).trans ?_
  dsimp only
  by_cases z : 0 < p.2.1
  · rw [if_pos z]
    exact (py _).trans (bb _)
  · rw [if_neg z]
    exact bb _
theorem z_it_o {F : Nat → z_S → z_S} {k : Nat} (h : ∀ y s, (F y s).1 k = s.1 k) (a : Nat) : ∀ (n : Nat) (s : z_S), (z_it F a n s).1 k = s.1 k
  | 0, _ => rfl
  | n + 1, s => (h (a + n) (z_it F a n s)).trans (z_it_o h a n s)
theorem c_look_ms {N : am_M} {y : Int32} : c_ms (c_look N y) (c_sz (c_look N y)) = c_ms N (c_sz N) := by
  unfold c_ms c_sz
  rw [c_look_1 (fun q => absurd q.2 (by decide))]
  refine List.map_congr_left (fun j _ => ?_)
  rw [c_look_1 (fun q => absurd q.1 (by decide))]
/-- a run leaves the others' loans alone -/
theorem c_go_o {N N2 : am_M} {a n : Nat} (hs : c_st N2 = z_it (fun y => c_yr N (Int32.ofNat y)) a n (c_st N)) {x : Int32} (hx : am_in x 30) (w : Nat) (ho : ∀ l ∈ c_ms N (c_sz N), am_in l 30 ∧ l.toNatClampNeg ≠ x.toNatClampNeg) : N2.2 6 (30 * w + x.toNatClampNeg) = N.2 6 (30 * w + x.toNatClampNeg) := by
  have e : (c_st N2).1 (30 * w + x.toNatClampNeg) = (z_it (fun y => c_yr N (Int32.ofNat y)) a n (c_st N)).1 (30 * w + x.toNatClampNeg) := by rw [hs]
  refine e.trans (z_it_o (fun y s => ?_) a n (c_st N))
  unfold c_yr c_T
  rw [c_look_ms]
  exact z_T_o hx ho
/-- what is booked grows by no more than is owed -/
theorem z_tn_p {a v o : Int64} (ho : z_ok o) : 0 ≤ (z_tn a v o).toInt ∧ (z_tn a v o).toInt ≤ 1000010000000 := by
  unfold z_tn
  have h0 : 0 ≤ (if a - v < 0 then 0 else a - v : Int64).toInt := by
    split
    · decide
    · next q =>
      rw [Int64.lt_iff_toInt_lt] at q
      have k0 : (0 : Int64).toInt = 0 := rfl
      omega
  obtain ⟨m1, -, m3, -, -⟩ := z_mn_b h0 ho
  have := ho.2
  omega
theorem z_tk_5 {ask : Int32 → Int64} {sd : Int32 → Bool} {s : Nat → Int64} {v : Int64} {x l : Int32} (hx : am_in x 30) (hl : am_in l 30) (ok : z_ok (s x.toNatClampNeg)) {B : Int} (h0 : 0 ≤ (s (150 + l.toNatClampNeg)).toInt) (h1 : (s (150 + l.toNatClampNeg)).toInt ≤ B) (hB : B ≤ 1000000000000000000) : 0 ≤ ((z_tk ask sd (s, v) x).1 (150 + l.toNatClampNeg)).toInt ∧ ((z_tk ask sd (s, v) x).1 (150 + l.toNatClampNeg)).toInt ≤ B + 1000010000000 := by
  obtain ⟨-, -, -, -, t5, t6⟩ := z_tk_v (ask := ask) (sd := sd) (s := s) (v := v) (x := x)
  have gx := g_cl hx
  have gl := g_cl hl
  obtain ⟨p0, p1⟩ := z_tn_p (a := ask x) (v := v) ok
  by_cases z : l.toNatClampNeg = x.toNatClampNeg
  · rw [z] at h0 h1 ⊢
    rw [t5]
    have k0 : (0 : Int64).toInt = 0 := rfl
    have b : 0 ≤ (if sd x = true then z_tn (ask x) v (s x.toNatClampNeg) else 0).toInt ∧ (if sd x = true then z_tn (ask x) v (s x.toNatClampNeg) else 0).toInt ≤ 1000010000000 := by
      split
      · exact ⟨p0, p1⟩
      · rw [k0]
        omega
    rw [l_add (by omega) (by omega)]
    omega
  · rw [t6 _ (by omega) (by omega) (by omega) (by omega)]
    omega
theorem z_tk_ok {ask : Int32 → Int64} {sd : Int32 → Bool} {s : Nat → Int64} {v : Int64} {x l : Int32} (hx : am_in x 30) (hl : am_in l 30) (ok : z_ok (s x.toNatClampNeg)) (h : z_ok (s l.toNatClampNeg)) : z_ok ((z_tk ask sd (s, v) x).1 l.toNatClampNeg) := by
  obtain ⟨-, t2, -, -, -, t6⟩ := z_tk_v (ask := ask) (sd := sd) (s := s) (v := v) (x := x)
  have gx := g_cl hx
  have gl := g_cl hl
  by_cases z : l.toNatClampNeg = x.toNatClampNeg
  · rw [z, t2]
    exact (z_tn_b ok).1
  · rw [t6 _ (by omega) (by omega) (by omega) (by omega)]
    exact h
theorem z_tks_5 {ask : Int32 → Int64} {sd : Int32 → Bool} {l : Int32} (hl : am_in l 30) : ∀ (Q : List Int32) (s : Nat → Int64) (v : Int64) (B : Int), (∀ x ∈ Q, am_in x 30 ∧ z_ok (s x.toNatClampNeg)) → 0 ≤ (s (150 + l.toNatClampNeg)).toInt → (s (150 + l.toNatClampNeg)).toInt ≤ B → B + Q.length * 1000010000000 ≤ 1000000000000000000 → 0 ≤ ((Q.foldl (z_tk ask sd) (s, v)).1 (150 + l.toNatClampNeg)).toInt ∧ ((Q.foldl (z_tk ask sd) (s, v)).1 (150 + l.toNatClampNeg)).toInt ≤ B + Q.length * 1000010000000
  | [], s, v, B, _, h0, h1, _ => by
    show 0 ≤ (s (150 + l.toNatClampNeg)).toInt ∧ (s (150 + l.toNatClampNeg)).toInt ≤ B + ((0 : Nat) : Int) * 1000010000000
    omega
  | x :: Q, s, v, B, h, h0, h1, hB => by
    obtain ⟨hx, ok⟩ := h x List.mem_cons_self
    have el : (((x :: Q).length : Nat) : Int) = Q.length + 1 := by rw [List.length_cons]; omega
    rw [el] at hB ⊢
    obtain ⟨a0, a1⟩ := z_tk_5 (ask := ask) (sd := sd) (v := v) hx hl ok h0 h1 (by omega)
    have ih := z_tks_5 (ask := ask) (sd := sd) hl Q (z_tk ask sd (s, v) x).1 (z_tk ask sd (s, v) x).2 (B + 1000010000000) (fun y hy => ⟨(h y (List.mem_cons_of_mem _ hy)).1, z_tk_ok hx (h y (List.mem_cons_of_mem _ hy)).1 ok (h y (List.mem_cons_of_mem _ hy)).2⟩) a0 a1 (by omega)
    show 0 ≤ ((Q.foldl (z_tk ask sd) (z_tk ask sd (s, v) x)).1 (150 + l.toNatClampNeg)).toInt ∧ ((Q.foldl (z_tk ask sd) (z_tk ask sd (s, v) x)).1 (150 + l.toNatClampNeg)).toInt ≤ _
    have e : z_tk ask sd (s, v) x = ((z_tk ask sd (s, v) x).1, (z_tk ask sd (s, v) x).2) := rfl
    rw [e]
    exact ⟨ih.1, by have := ih.2; omega⟩
/-- a year with nothing due: what is booked -/
theorem z_T_5 {stk : Int32 → Bool} {gr dr : Int32 → Int64 → Int64} {f : Int32 → Nat} {ask : Int32 → Int64} {sd : Int32 → Bool} {ms : List Int32} {s : Nat → Int64} {paid : Int64} {l : Int32} {B : Int} (hl : am_in l 30) (hm : ∀ x ∈ ms, am_in x 30 ∧ z_ok ((ms.foldl (z_b stk gr dr) s) x.toNatClampNeg)) (hn : ms.length ≤ 30) (h0 : 0 ≤ (s (150 + l.toNatClampNeg)).toInt) (h1 : (s (150 + l.toNatClampNeg)).toInt ≤ B) (hB : B ≤ 900000000000000000) : 0 ≤ ((z_T (z_b stk gr dr) f ask sd ms (s, 0, paid)).1 (150 + l.toNatClampNeg)).toInt ∧ ((z_T (z_b stk gr dr) f ask sd ms (s, 0, paid)).1 (150 + l.toNatClampNeg)).toInt ≤ B + 30000300000000 := by
  have bb : (ms.foldl (z_b stk gr dr) s) (150 + l.toNatClampNeg) = s (150 + l.toNatClampNeg) := z_fold_o (z_b stk gr dr) (fun s => s (150 + l.toNatClampNeg)) ms s (fun x hx s => by
    have gx := g_cl (hm x hx).1
    have gl := g_cl hl
    exact z_b_o (by omega) (by omega) (by omega))
  have hq := z_q_le f ms 10
  have q := z_tks_5 (ask := ask) (sd := sd) hl (z_q f ms 10) (ms.foldl (z_b stk gr dr) s) 0 B (fun x hx => hm x (z_q_in hx)) (by rw [bb]; exact h0) (by rw [bb]; exact h1) (by omega)
  unfold z_T
  dsimp only
  rw [if_neg (show ¬ (0 : Int64) < 0 by decide)]
  exact ⟨q.1, Int.le_trans q.2 (by omega)⟩
theorem z_mine_len {own : Int32 → Bool} {n : Nat} : (z_mine own n).length ≤ n := by
  unfold z_mine
  refine Nat.le_trans (List.length_filter_le _ _) ?_
  rw [List.length_map, List.length_range]
  exact Nat.le_refl _
section LXB
variable {i1 i2 : Bool} {M N : am_M} {p k : Int32}
/-- what is booked in a run -/
theorem LX.run5 (h : LX i1 i2 M) (hp : am_in p 12) (hp2 : p.toInt < (M.1 201 0).toInt) (hk : am_in k 40) (hb : c_bg M p k N) : ∀ n : Nat, n ≤ 40 → ∀ l ∈ r_mine M p (r_n M), 0 ≤ ((z_it (fun y => c_yr N (Int32.ofNat y)) 0 n (c_st N)).1 (150 + l.toNatClampNeg)).toInt ∧ ((z_it (fun y => c_yr N (Int32.ofNat y)) 0 n (c_st N)).1 (150 + l.toNatClampNeg)).toInt ≤ (n : Int) * 30000300000000
  | 0, _ => fun l hl => by
    rw [← h.li.mine] at hl
    have q := hb.z0.v hl (w := 5) (by decide)
    have q : N.2 6 (150 + l.toNatClampNeg) = 0 := q
    show 0 ≤ (N.2 6 (150 + l.toNatClampNeg)).toInt ∧ (N.2 6 (150 + l.toNatClampNeg)).toInt ≤ ((0 : Nat) : Int) * 30000300000000
    rw [q, show (0 : Int64).toInt = 0 from rfl]
    omega
  | n + 1, hn => fun l hl => by
    obtain ⟨ih, ih2⟩ := LX.run h hp hp2 hk hb n (by omega)
    have ih5 := LX.run5 h hp hp2 hk hb n (by omega)
    have n1 := h.li.n1
    have cn : (r_n M : Int) = (M.1 201 1).toInt := i_clamp n1.1
    have oy := o_nat (n := n) (by omega)
    have hy : am_in (Int32.ofNat n) 40 := ⟨by omega, by omega⟩
    show 0 ≤ ((c_yr N (Int32.ofNat (0 + n)) (z_it (fun y => c_yr N (Int32.ofNat y)) 0 n (c_st N))).1 (150 + l.toNatClampNeg)).toInt ∧ ((c_yr N (Int32.ofNat (0 + n)) (z_it (fun y => c_yr N (Int32.ofNat y)) 0 n (c_st N))).1 (150 + l.toNatClampNeg)).toInt ≤ ((n + 1 : Nat) : Int) * 30000300000000
    rw [Nat.zero_add]
    generalize z_it (fun y => c_yr N (Int32.ofNat y)) 0 n (c_st N) = C at ih ih2 ih5 ⊢
    generalize z_it (r_yr M p k) 0 n z_00s = S at ih
    obtain ⟨s, due, paid⟩ := C
    obtain ⟨s', b⟩ := S
    have ih2 : (due, paid) = (0, 0) := ih2
    have d0 : due = 0 := congrArg Prod.fst ih2
    have p0 : paid = 0 := congrArg Prod.snd ih2
    subst d0 p0
    have hne : c_mine M p (M.1 33 2).toNatClampNeg ≠ [] := fun q => by
      rw [← h.li.mine, q] at hl
      exact absurd hl List.not_mem_nil
    obtain ⟨lk, dd⟩ := h.lk hp hp2 hk hb hne hy
    have msL : c_ms (c_look N (Int32.ofNat n)) (c_sz (c_look N (Int32.ofNat n))) = r_mine M p (r_n M) := by
      rw [c_look_ms, ← h.li.mine, ← hb.ms]
    have zin : ∀ l ∈ r_mine M p (r_n M), z_in M p l := fun l hl => r_mine_z n1 hl
    have dn : ¬ (c_look N (Int32.ofNat n)).1 4 18 = 0 ↔ ¬ r_dd M p (Int32.ofNat n) = 0 := by rw [dd]
    have dv : r_da M p (n : Int) → ¬ r_dd M p (Int32.ofNat n) = 0 := fun q => by
      obtain ⟨q1, q2⟩ := q
      unfold r_dd
      rw [if_neg q1, if_neg (fun w => by rw [i_lt] at w; omega)]
      decide
    have BG := z_beg (stk := c_stk (c_look N (Int32.ofNat n)) (Int32.ofNat n)) (en := r_ends M (Int32.ofNat n) (r_dd M p (Int32.ofNat n))) (gr := c_gr (c_look N (Int32.ofNat n)) (Int32.ofNat n)) (cap := fun l o => r_cap o (r_rt M l (Int32.ofNat n) (r_known M p (Int32.ofNat n) k) (r_la M p (Int32.ofNat n)) o)) (dr := fun l o => c_dr (c_look N (Int32.ofNat n)) l (Int32.ofNat n) o) (o1 := r_o1 M (Int32.ofNat n)) (dr' := r_dr M (Int32.ofNat n)) (r_mine M p (r_n M)) s s' b (fun l hl => (zin l hl).1) (z_mine_nd (by omega)) (fun l hl => ⟨(ih l hl).1, lk.H (zin l hl) (fun q => by
      rcases (ih l hl).2.2 q with w | w
      · exact Or.inl (dn.mpr (dv w))
      · exact Or.inr (by rw [oy.1]; exact w)) (fun _ => dn)⟩)
    have ec : c_yr N (Int32.ofNat n) = z_T (c_b (c_look N (Int32.ofNat n)) (Int32.ofNat n)) (c_of (c_look N (Int32.ofNat n)) (Int32.ofNat n)) (c_ask (c_look N (Int32.ofNat n)) (Int32.ofNat n)) (c_sd (c_look N (Int32.ofNat n)) (Int32.ofNat n)) (r_mine M p (r_n M)) := by
      unfold c_yr c_T
      rw [msL]
    have len : (r_mine M p (r_n M)).length ≤ 30 := Nat.le_trans z_mine_len (by omega)
    rw [ec, show ((n + 1 : Nat) : Int) * 30000300000000 = (n : Int) * 30000300000000 + 30000300000000 by omega]
    exact z_T_5 (zin l hl).1 (fun x hx => ⟨(zin x hx).1, (BG.1 x hx).1.2.1⟩) len (ih5 l hl).1 (ih5 l hl).2 (by omega)
end LXB
/-- everybody's loans of persons ahead of i are run -/
def c_ev (M : am_M) (y k : Int32) (i : Int) (N : am_M) : Prop := ∃ _ : Unit, ∀ l, am_in l 30 → l.toInt < (M.1 201 1).toInt → (r_lo M l 0).toInt < i → (∀ w, w < 6 → N.2 6 (30 * w + l.toNatClampNeg) = (r_R M (r_lo M l 0) k (y.toNatClampNeg + 1)).1 (30 * w + l.toNatClampNeg)) ∧ 0 ≤ (N.2 6 (150 + l.toNatClampNeg)).toInt ∧ (N.2 6 (150 + l.toNatClampNeg)).toInt ≤ 1200012000000000
theorem c_ev.v {M N : am_M} {y k : Int32} {i : Int} (h : c_ev M y k i N) {l : Int32} (hl : am_in l 30) (hl2 : l.toInt < (M.1 201 1).toInt) (hi : (r_lo M l 0).toInt < i) : (∀ w, w < 6 → N.2 6 (30 * w + l.toNatClampNeg) = (r_R M (r_lo M l 0) k (y.toNatClampNeg + 1)).1 (30 * w + l.toNatClampNeg)) ∧ 0 ≤ (N.2 6 (150 + l.toNatClampNeg)).toInt ∧ (N.2 6 (150 + l.toNatClampNeg)).toInt ≤ 1200012000000000 := by obtain ⟨-, h⟩ := h; exact h l hl hl2 hi
theorem c_ev.le {M N : am_M} {y k : Int32} {i j : Int} (h : c_ev M y k i N) (e : j ≤ i) : c_ev M y k j N := ⟨(), fun l hl hl2 hi => h.v hl hl2 (by omega)⟩
theorem LX.ev {i1 i2 : Bool} {M0 M N N2 : am_M} {y k i : Int32} (hX : LX i1 i2 M) (c201 : M.1 201 = M0.1 201) (c200 : M.1 200 = M0.1 200) (hy : am_in y 40) (hk : am_in k 40) (hp : am_in i 12) (hp2 : i.toInt < (M.1 201 0).toInt) (b1 : c_bg M i k N) (s2 : c_st N2 = z_it (fun y => c_yr N (Int32.ofNat y)) (N.1 4 10).toNatClampNeg (c_nn (N.1 4 10) y) (c_st N)) (ev : c_ev M0 y k i.toInt M) : c_ev M0 y k (i.toInt + 1) N2 := by
  have n1 := hX.li.n1
  have cy := i_clamp hy.1
  have y39 : -1 ≤ y.toInt ∧ y.toInt ≤ 39 := ⟨by have := hy.1; omega, by have := hy.2; omega⟩
  refine ⟨(), fun l hl hl2 hlo => ?_⟩
  have rl : r_lo M l 0 = r_lo M0 l 0 := by unfold r_lo; rw [c201]
  have lo := hX.li.lo hl (w := 0) (n := 0) rfl (by decide)
  obtain ⟨-, -, pm⟩ := hX.li.pe hl (by rw [c201]; exact hl2)
  by_cases z : r_lo M0 l 0 = i
  · have pm2 : l ∈ r_mine M i (r_n M) := by
      have q := pm
      rw [rl, z] at q
      exact q
    refine ⟨fun w hw => ?_, ?_⟩
    · rw [hX.at hp hp2 hk b1 y39 s2 pm2 hw, show (y.toInt + 1).toNat = y.toNatClampNeg + 1 by omega, r_R_cg c201 c200, z]
    · have q := hX.run5 hp hp2 hk b1 (y.toNatClampNeg + 1) (by have := hy.2; omega) l pm2
      obtain ⟨-, f10, -⟩ := b1.f
      have en : c_nn (N.1 4 10) y = y.toNatClampNeg + 1 := by
        rw [f10]
        unfold c_nn
        rw [if_pos y39.2, Int32.toInt_zero, Int.sub_zero]
        omega
      have e0 : (N.1 4 10).toNatClampNeg = 0 := by rw [f10]; rfl
      have s3 : (c_st N2).1 (150 + l.toNatClampNeg) = (z_it (fun y => c_yr N (Int32.ofNat y)) 0 (y.toNatClampNeg + 1) (c_st N)).1 (150 + l.toNatClampNeg) := by rw [s2, en, e0]
      have s3 : N2.2 6 (150 + l.toNatClampNeg) = _ := s3
      rw [s3]
      have y2 := hy.2
      exact ⟨q.1, Int.le_trans q.2 (by omega)⟩
  · have no : ¬ c_own M i l = true := fun q => z (by rw [← rl, ← lo]; exact c_own_iff.mp q)
    have ms : c_ms N (c_sz N) = r_mine M i (r_n M) := b1.ms.trans hX.li.mine
    have far : ∀ x ∈ c_ms N (c_sz N), am_in x 30 ∧ x.toNatClampNeg ≠ l.toNatClampNeg := fun x hx => by
      rw [ms] at hx
      have zi := r_mine_z n1 hx
      refine ⟨zi.1, fun q => z ?_⟩
      have e : x = l := by rw [← o_cl zi.1 (by decide), q, o_cl hl (by decide)]
      rw [← rl, ← e]
      exact zi.2.2
    have stay : ∀ w, w < 6 → N2.2 6 (30 * w + l.toNatClampNeg) = M.2 6 (30 * w + l.toNatClampNeg) := fun w hw => (c_go_o s2 hl w far).trans (b1.ot.v hl no hw)
    have ne : (r_lo M0 l 0).toInt ≠ i.toInt := fun q => z (by rw [i_eq]; exact q)
    obtain ⟨v1, v2⟩ := ev.v hl hl2 (by omega)
    refine ⟨fun w hw => (stay w hw).trans (v1 w hw), ?_⟩
    have s5 := stay 5 (by decide)
    have s5 : N2.2 6 (150 + l.toNatClampNeg) = M.2 6 (150 + l.toNatClampNeg) := s5
    rw [s5]
    exact v2
def kX7_runEverybodyE (live : am_E) (Ret : am_R) : am_code := [(0, am_const (.int 0) 1), (1, am_istore 3 4 2), (2, am_iload 3 3), (3, am_aload 0 4), (4, am_getR live 7 0 7), (7, am_getR live 0 0 10), (10, am_getI live 2 7 13), (13, am_if2 (fun x y => y ≤ x) 39 16), (16, am_aload 0 17), (17, am_getR live 7 2 20), (20, am_iload 3 21), (21, am_iload 2 22), (22, am_callV live 4 2 TE4_begin 25), (25, am_aload 0 26), (26, am_getR live 7 2 29), (29, am_iload 1 30), (30, am_callV live 4 1 TE4_go 33), (33, am_iinc 3 4 1 36), (36, am_goto 2), (39, am_retV Ret)]
theorem koX7_runEverybodyE (live : am_E) (Ret : am_R) : ∀ q ∈ kX7_runEverybodyE live Ret, am_ok RX7 cX7_runEverybody 4 none 5 124 live Ret q.1 q.2 :=
  am_kc (ak_iconst dX7_runEverybody_0 (by decide +kernel) rfl) <|
  am_kc (ak_istore_n dX7_runEverybody_1 rfl rfl) <|
  am_kc (ak_iload_n dX7_runEverybody_2 rfl rfl) <|
  am_kc (ak_aload_n dX7_runEverybody_3 rfl rfl) <|
  am_kc (ak_getR (C := RX7) (T := TX7) (N := 4) rfl inX7w (by decide) rfl rfl rfl wd_390 dX7_runEverybody_4 rfl) <|
  am_kc (ak_getR (C := RX0) (T := TX0) (N := 13) rfl inX0w (by decide) rfl rfl rfl wd_194 dX7_runEverybody_7 rfl) <|
  am_kc (ak_getI (C := RX2) (T := TX2) (N := 8) rfl inX2w (by decide) rfl rfl rfl wd_121 dX7_runEverybody_10 rfl) <|
  am_kc (ak_icmp_ge dX7_runEverybody_13 (by decide +kernel) rfl) <|
  am_kc (ak_aload_n dX7_runEverybody_16 rfl rfl) <|
  am_kc (ak_getR (C := RX7) (T := TX7) (N := 4) rfl inX7w (by decide) rfl rfl rfl wd_392 dX7_runEverybody_17 rfl) <|
  am_kc (ak_iload_n dX7_runEverybody_20 rfl rfl) <|
  am_kc (ak_iload_n dX7_runEverybody_21 rfl rfl) <|
  am_kc (ak_callV (C := RX4) (F := TX4) (N := 19) metX4_beginE rfl ⟨rfl, by decide +kernel, by decide +kernel, by decide +kernel⟩ (am_w5 wd_546 wd_547 wd_548 wd_60 wd_549) (by decide) dX7_runEverybody_22 rfl) <|
  am_kc (ak_aload_n dX7_runEverybody_25 rfl rfl) <|
  am_kc (ak_getR (C := RX7) (T := TX7) (N := 4) rfl inX7w (by decide) rfl rfl rfl wd_392 dX7_runEverybody_26 rfl) <|
  am_kc (ak_iload_n dX7_runEverybody_29 rfl rfl) <|
  am_kc (ak_callV (C := RX4) (F := TX4) (N := 19) metX4_goE rfl ⟨rfl, by decide +kernel, by decide +kernel, by decide +kernel⟩ (am_w5 wd_559 wd_560 wd_561 wd_60 wd_562) (by decide) dX7_runEverybody_30 rfl) <|
  am_kc (ak_iinc dX7_runEverybody_33 (by decide +kernel) rfl) <|
  am_kc (ak_goto dX7_runEverybody_36 (by decide +kernel)) <|
  am_kc (ak_retV dX7_runEverybody_39) <| am_kn
def TE7_runEverybody : am_T := fun live as M R => match as with
  | [.ref n, .int y, .int k] => am_mn live ∧ n = 0 ∧ (am_in y 40 ∧ am_in k 40) ∧ (∃ i1 i2, LX i1 i2 M) ∧ ∀ M', g_sc M M' → g_rI M' → c_ev M y k (M.1 201 0).toInt M' → R none M'
  | _ => False
def JE7_runEverybody : am_E → List Value → am_M → am_R → am_inv := fun live as M0 _ pc => match as with
  | [.ref n, .int y, .int w] => (match pc with
    | 2 => some ([0, 1, 2, 3], fun k L st M => ∃ i : Int32, L = [(0, .ref 0), (1, .int y), (2, .int w), (3, .int i)] ∧ st = [] ∧ k = ((13 - i.toInt).toNat, 0) ∧ 0 ≤ i.toInt ∧ g_sc M0 M ∧ g_rI M ∧ c_ev M0 y w i.toInt M)
    | _ => none)
  | _ => none
set_option maxRecDepth 100000 in
set_option maxHeartbeats 4000000 in
theorem metX7_runEverybodyE : am_Met yX7_runEverybody cX7_runEverybody 4 none (5) (124) TE7_runEverybody := by
  refine am_met (own := RX7) (by decide +kernel) rfl kX7_runEverybodyE koX7_runEverybodyE 100 JE7_runEverybody ?_ ?_
  · intro live as M Ret h
    unfold TE7_runEverybody at h
    split at h
    · next n y w =>
      refine ⟨Nat.le_of_ble_eq_true rfl, ?_⟩
      change am_wp _ _ _ _ [(0, Value.ref n), (1, Value.int y), (2, Value.int w)] _ _
      obtain ⟨hmn, rfl, ⟨hy, hk⟩, ⟨j1, j2, hX⟩, h⟩ := h
      repeat' (first | apply And.intro | exact rfl | intro hx | (refine Exists.intro _ (And.intro rfl ?_)))
      all_goals try first | (with_reducible change am_tI _ _) | (change Ret _ _) | (change Ret _ _ _) | (change Exists _)
      all_goals try dsimp only at *
      all_goals try exact absurd ‹(1000 : Int64) = 0› (by decide)
      exact ⟨_, _, rfl, rfl, rfl, by decide, g_sc.rf, hX.li.g, ⟨(), fun l hl hl2 hlo => absurd (hX.li.pe hl hl2).1.1 (by rw [Int32.toInt_zero] at hlo; omega)⟩⟩
    · exact h.elim
  · intro live as M0 Ret h k pc I hI L st M hi
    unfold TE7_runEverybody at h
    split at h
    · next n y w =>
      obtain ⟨hmn, rfl, ⟨hy, hk⟩, ⟨j1, j2, hX⟩, h⟩ := h
      have hmn2 := hmn
      obtain ⟨i1, i2, rfl⟩ := hmn2
      change (match pc with | 2 => _ | _ => none) = _ at hI
      split at hI
      · cases hI
        obtain ⟨i, rfl, rfl, rfl, e1, e2, e3, ev⟩ := hi
        have hX2 := hX.sc e2 e3
        have c201 : M.1 201 = M0.1 201 := e2.r1 (by decide)
        have c200 : M.1 200 = M0.1 200 := e2.r1 (by decide)
        have le0 := hX2.li.e0
        have n0 := hX2.li.n0
        by_cases hz : M.1 21 7 ≤ i
        · have hz2 := hz
          rw [le0, c201] at hz2
          simp only [i_le] at hz2
          have ev2 := ev.le hz2
          repeat' (first | apply And.intro | exact rfl | (intro hx; with_reducible exact absurd hz hx) | intro hx | (refine Exists.intro _ (And.intro rfl ?_)))
          all_goals try first | (with_reducible change am_tI _ _) | (change Ret _ _) | (change Ret _ _ _) | (change Exists _)
          all_goals try dsimp only at *
          all_goals try exact absurd ‹(1000 : Int64) = 0› (by decide)
          exact h _ e2 e3 ev2
        · have hz2 := hz
          rw [le0] at hz2
          simp only [i_le] at hz2
          have hp : am_in i 12 := ⟨e1, by omega⟩
          have hp2 : i.toInt < (M.1 201 0).toInt := by omega
          have hi := i_inc (x := i) (by omega) (by omega)
          have hA := hX2.li.cA
          have hn : 0 ≤ (M.1 33 2).toInt ∧ (M.1 33 2).toInt ≤ 30 := by rw [hX2.li.e1]; exact hX2.li.n1
          repeat' (first | (with_reducible exact hmn) | (with_reducible exact hp) | (with_reducible exact hA) | (with_reducible exact hn) | (with_reducible exact e3) | apply And.intro | exact rfl | (intro hx; with_reducible exact absurd hx hz) | ((with_reducible change g_rI _); (with_reducible assumption)) | intro hx | (refine Exists.intro _ (And.intro rfl ?_)))
          all_goals try first | (with_reducible change am_tI _ _) | (change Ret _ _) | (change Ret _ _ _) | (change Exists _)
          all_goals try dsimp only at *
          all_goals try exact absurd ‹(1000 : Int64) = 0› (by decide)
          all_goals first
            | exact hX2.t0.g (c_bg.sc (by with_reducible assumption))
            | exact hX2.coa hp hp2 hk (by with_reducible assumption) (by with_reducible assumption)
            | (rw [(c_bg.f (by with_reducible assumption)).2.1]; decide)
            | skip
          rename_i N b1 r1 N2 g2 r2 s2
          refine ⟨_, am_lt_l (by omega), _, rfl, rfl, rfl, by omega, e2.tr ((c_bg.sc b1).tr (c_gn.sc g2)), r2, ?_⟩
          rw [show (i + 1).toInt = i.toInt + 1 by omega]
          exact hX2.ev c201 c200 hy hk hp hp2 b1 s2 ev
      · cases hI
    · exact h.elim
