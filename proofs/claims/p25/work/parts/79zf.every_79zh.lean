-- part 79zf.every.lean.txt
section
/-! runs exact: everybody's -/
theorem z_fold_o {σ : Type} (F : σ → Int32 → σ) (v : σ → Int64) : ∀ (ms : List Int32) (s : σ), (∀ l ∈ ms, ∀ s, v (F s l) = v s) → v (ms.foldl F s) = v s
  | [], _, _ => rfl
  | a :: ms, s, h => (z_fold_o F v ms (F s a) (fun l hl => h l (List.mem_cons_of_mem _ hl))).trans (h a List.mem_cons_self s)
theorem z_T_o {stk : Int32 → Bool} {gr dr : Int32 → Int64 → Int64} {f : Int32 → Nat} {ask : Int32 → Int64} {sd : Int32 → Bool} {ms : List Int32} {p : z_S} {x : Int32} {w : Nat} (hx : am_in x 30) (hm : ∀ l ∈ ms, am_in l 30 ∧ l.toNatClampNeg ≠ x.toNatClampNeg) : (z_T (z_b stk gr dr) f ask sd ms p).1 (30 * w + x.toNatClampNeg) = p.1 (30 * w + x.toNatClampNeg) := by
  have hq : ∀ l ∈ z_q f ms 10, am_in l 30 ∧ l.toNatClampNeg ≠ x.toNatClampNeg := fun l hl => hm l (z_q_in hl)
  have tk : ∀ s : (Nat → Int64) × Int64, ((z_q f ms 10).foldl (z_tk ask sd) s).1 (30 * w + x.toNatClampNeg) = s.1 (30 * w + x.toNatClampNeg) := fun s => z_fold_o (z_tk ask sd) (fun s => s.1 (30 * w + x.toNatClampNeg)) _ s (fun l hl s => by
    obtain ⟨f0, f1, f2, f3, f4, f5⟩ := z_far (w := w) (hq l hl).1 hx (hq l hl).2
    obtain ⟨-, -, -, -, -, t6⟩ := z_tk_v (ask := ask) (sd := sd) (s := s.1) (v := s.2) (x := l)
    exact t6 _ f0 f1 f3 f5)
  have py : ∀ s : z_S, ((z_q f ms 10).foldl z_pay s).1 (30 * w + x.toNatClampNeg) = s.1 (30 * w + x.toNatClampNeg) := fun s => z_fold_o z_pay (fun s => s.1 (30 * w + x.toNatClampNeg)) _ s (fun l hl s => by
    show z_u _ _ _ _ = _
    exact z_u_n (z_far (w := w) (hq l hl).1 hx (hq l hl).2).1)
  have bb : ∀ s : Nat → Int64, (ms.foldl (z_b stk gr dr) s) (30 * w + x.toNatClampNeg) = s (30 * w + x.toNatClampNeg) := fun s => z_fold_o (z_b stk gr dr) (fun s => s (30 * w + x.toNatClampNeg)) ms s (fun l hl s => by
    obtain ⟨f0, f1, f2, f3, f4, f5⟩ := z_far (w := w) (hm l hl).1 hx (hm l hl).2
    exact z_b_o f0 f2 f4)
  unfold z_T
  dsimp only
  refine (tk _).trans ?_
  dsimp only
  by_cases z : 0 < p.2.1
  · rw [if_pos z]
    exact (py _).trans (bb _)
  · rw [if_neg z]
    exact bb _
theorem z_it_o {F : Nat → z_S → z_S} {k : Nat} (h : ∀ y s, (F y s).1 k = s.1 k) (a : Nat) : ∀ (n : Nat) (s : z_S), (z_it F a n s).1 k = s.1 k
  | 0, _ => rfl
  | n + 1, s => (h (a + n) (z_it F a n s)).trans (z_it_o h a n s)
theorem c_look_ms {N : am_M} {y : Int32} : c_ms (c_look N y) (c_sz (c_look N y)) = c_ms N (c_sz N) := by
  unfold c_ms c_sz
  rw [c_look_1 (fun q => absurd q.2 (by decide))]
  refine List.map_congr_left (fun j _ => ?_)
  rw [c_look_1 (fun q => absurd q.1 (by decide))]
/-- a run leaves the others' loans alone -/
theorem c_go_o {N N2 : am_M} {a n : Nat} (hs : c_st N2 = z_it (fun y => c_yr N (Int32.ofNat y)) a n (c_st N)) {x : Int32} (hx : am_in x 30) (w : Nat) (ho : ∀ l ∈ c_ms N (c_sz N), am_in l 30 ∧ l.toNatClampNeg ≠ x.toNatClampNeg) : N2.2 6 (30 * w + x.toNatClampNeg) = N.2 6 (30 * w + x.toNatClampNeg) := by
  have e : (c_st N2).1 (30 * w + x.toNatClampNeg) = (z_it (fun y => c_yr N (Int32.ofNat y)) a n (c_st N)).1 (30 * w + x.toNatClampNeg) := by rw [hs]
  refine e.trans (z_it_o (fun y s => ?_) a n (c_st N))
  unfold c_yr c_T
  rw [c_look_ms]
  exact z_T_o hx ho
/-- what is booked grows by no more than is owed -/
theorem z_tn_p {a v o : Int64} (ho : z_ok o) : 0 ≤ (z_tn a v o).toInt ∧ (z_tn a v o).toInt ≤ 1000010000000 := by
  unfold z_tn
  have h0 : 0 ≤ (if a - v < 0 then 0 else a - v : Int64).toInt := by
    split
    · decide
    · next q =>
      rw [Int64.lt_iff_toInt_lt] at q
      have k0 : (0 : Int64).toInt = 0 := rfl
      omega
  obtain ⟨m1, -, m3, -, -⟩ := z_mn_b h0 ho
  have := ho.2
  omega
theorem z_tk_5 {ask : Int32 → Int64} {sd : Int32 → Bool} {s : Nat → Int64} {v : Int64} {x l : Int32} (hx : am_in x 30) (hl : am_in l 30) (ok : z_ok (s x.toNatClampNeg)) {B : Int} (h0 : 0 ≤ (s (150 + l.toNatClampNeg)).toInt) (h1 : (s (150 + l.toNatClampNeg)).toInt ≤ B) (hB : B ≤ 1000000000000000000) : 0 ≤ ((z_tk ask sd (s, v) x).1 (150 + l.toNatClampNeg)).toInt ∧ ((z_tk ask sd (s, v) x).1 (150 + l.toNatClampNeg)).toInt ≤ B + 1000010000000 := by
  obtain ⟨-, -, -, -, t5, t6⟩ := z_tk_v (ask := ask) (sd := sd) (s := s) (v := v) (x := x)
  have gx := g_cl hx
  have gl := g_cl hl
  obtain ⟨p0, p1⟩ := z_tn_p (a := ask x) (v := v) ok
  by_cases z : l.toNatClampNeg = x.toNatClampNeg
  · rw [z] at h0 h1 ⊢
    rw [t5]
    have k0 : (0 : Int64).toInt = 0 := rfl
    have b : 0 ≤ (if sd x = true then z_tn (ask x) v (s x.toNatClampNeg) else 0).toInt ∧ (if sd x = true then z_tn (ask x) v (s x.toNatClampNeg) else 0).toInt ≤ 1000010000000 := by
      split
      · exact ⟨p0, p1⟩
      · rw [k0]
        omega
    rw [l_add (by omega) (by omega)]
    omega
  · rw [t6 _ (by omega) (by omega) (by omega) (by omega)]
    omega
theorem z_tk_ok {ask : Int32 → Int64} {sd : Int32 → Bool} {s : Nat → Int64} {v : Int64} {x l : Int32} (hx : am_in x 30) (hl : am_in l 30) (ok : z_ok (s x.toNatClampNeg)) (h : z_ok (s l.toNatClampNeg)) : z_ok ((z_tk ask sd (s, v) x).1 l.toNatClampNeg) := by
  obtain ⟨-, t2, -, -, -, t6⟩ := z_tk_v (ask := ask) (sd := sd) (s := s) (v := v) (x := x)
  have gx := g_cl hx
  have gl := g_cl hl
  by_cases z : l.toNatClampNeg = x.toNatClampNeg
  · rw [z, t2]
    exact (z_tn_b ok).1
  · rw [t6 _ (by omega) (by omega) (by omega) (by omega)]
    exact h
theorem z_tks_5 {ask : Int32 → Int64} {sd : Int32 → Bool} {l : Int32} (hl : am_in l 30) : ∀ (Q : List Int32) (s : Nat → Int64) (v : Int64) (B : Int), (∀ x ∈ Q, am_in x 30 ∧ z_ok (s x.toNatClampNeg)) → 0 ≤ (s (150 + l.toNatClampNeg)).toInt → (s (150 + l.toNatClampNeg)).toInt ≤ B → B + Q.length * 1000010000000 ≤ 1000000000000000000 → 0 ≤ ((Q.foldl (z_tk ask sd) (s, v)).1 (150 + l.toNatClampNeg)).toInt ∧ ((Q.foldl (z_tk ask sd) (s, v)).1 (150 + l.toNatClampNeg)).toInt ≤ B + Q.length * 1000010000000
  | [], s, v, B, _, h0, h1, _ => by
    show 0 ≤ (s (150 + l.toNatClampNeg)).toInt ∧ (s (150 + l.toNatClampNeg)).toInt ≤ B + ((0 : Nat) : Int) * 1000010000000
    omega
  | x :: Q, s, v, B, h, h0, h1, hB => by
    obtain ⟨hx, ok⟩ := h x List.mem_cons_self
    have el : (((x :: Q).length : Nat) : Int) = Q.length + 1 := by rw [List.length_cons]; omega
    rw [el] at hB ⊢
    obtain ⟨a0, a1⟩ := z_tk_5 (ask := ask) (sd := sd) (v := v) hx hl ok h0 h1 (by omega)
    have ih := z_tks_5 (ask := ask) (sd := sd) hl Q (z_tk ask sd (s, v) x).1 (z_tk ask sd (s, v) x).2 (B + 1000010000000) (fun y hy => ⟨(h y (List.mem_cons_of_mem _ hy)).1, z_tk_ok hx (h y (List.mem_cons_of_mem _ hy)).1 ok (h y (List.mem_cons_of_mem _ hy)).2⟩) a0 a1 (by omega)
    show 0 ≤ ((Q.foldl (z_tk ask sd) (z_tk ask sd (s, v) x)).1 (150 + l.toNatClampNeg)).toInt ∧ ((Q.foldl (z_tk ask sd) (z_tk ask sd (s, v) x)).1 (150 + l.toNatClampNeg)).toInt ≤ _
    have e : z_tk ask sd (s, v) x = ((z_tk ask sd (s, v) x).1, (z_tk ask sd (s, v) x).2) := rfl
    rw [e]
    exact ⟨ih.1, by have := ih.2; omega⟩
/-- a year with nothing due: what is booked -/
theorem z_T_5 {stk : Int32 → Bool} {gr dr : Int32 → Int64 → Int64} {f : Int32 → Nat} {ask : Int32 → Int64} {sd : Int32 → Bool} {ms : List Int32} {s : Nat → Int64} {paid : Int64} {l : Int32} {B : Int} (hl : am_in l 30) (hm : ∀ x ∈ ms, am_in x 30 ∧ z_ok ((ms.foldl (z_b stk gr dr) s) x.toNatClampNeg)) (hn : ms.length ≤ 30) (h0 : 0 ≤ (s (150 + l.toNatClampNeg)).toInt) (h1 : (s (150 + l.toNatClampNeg)).toInt ≤ B) (hB : B ≤ 900000000000000000) : 0 ≤ ((z_T (z_b stk gr dr) f ask sd ms (s, 0, paid)).1 (150 + l.toNatClampNeg)).toInt ∧ ((z_T (z_b stk gr dr) f ask sd ms (s, 0, paid)).1 (150 + l.toNatClampNeg)).toInt ≤ B + 30000300000000 := by
  have bb : (ms.foldl (z_b stk gr dr) s) (150 + l.toNatClampNeg) = s (150 + l.toNatClampNeg) := z_fold_o (z_b stk gr dr) (fun s => s (150 + l.toNatClampNeg)) ms s (fun x hx s => by
    have gx := g_cl (hm x hx).1
    have gl := g_cl hl
    exact z_b_o (by omega) (by omega) (by omega))
  have hq := z_q_le f ms 10
  have q := z_tks_5 (ask := ask) (sd := sd) hl (z_q f ms 10) (ms.foldl (z_b stk gr dr) s) 0 B (fun x hx => hm x (z_q_in hx)) (by rw [bb]; exact h0) (by rw [bb]; exact h1) (by omega)
  unfold z_T
  dsimp only
  rw [if_neg (show ¬ (0 : Int64) < 0 by decide)]
  exact ⟨q.1, Int.le_trans q.2 (by omega)⟩
theorem z_mine_len {own : Int32 → Bool} {n : Nat} : (z_mine own n).length ≤ n := by
  unfold z_mine
  refine Nat.le_trans (List.length_filter_le _ _) ?_
  rw [List.length_map, List.length_range]
  exact Nat.le_refl _
section LXB
variable {i1 i2 : Bool} {M N : am_M} {p k : Int32}
/-- what is booked in a run -/
theorem LX.run5 (h : LX i1 i2 M) (hp : am_in p 12) (hp2 : p.toInt < (M.1 201 0).toInt) (hk : am_in k 40) (hb : c_bg M p k N) : ∀ n : Nat, n ≤ 40 → ∀ l ∈ r_mine M p (r_n M), 0 ≤ ((z_it (fun y => c_yr N (Int32.ofNat y)) 0 n (c_st N)).1 (150 + l.toNatClampNeg)).toInt ∧ ((z_it (fun y => c_yr N (Int32.ofNat y)) 0 n (c_st N)).1 (150 + l.toNatClampNeg)).toInt ≤ (n : Int) * 30000300000000
  | 0, _ => fun l hl => by
    rw [← h.li.mine] at hl
    have q := hb.z0.v hl (w := 5) (by decide)
    have q : N.2 6 (150 + l.toNatClampNeg) = 0 := q
    show 0 ≤ (N.2 6 (150 + l.toNatClampNeg)).toInt ∧ (N.2 6 (150 + l.toNatClampNeg)).toInt ≤ ((0 : Nat) : Int) * 30000300000000
    rw [q, show (0 : Int64).toInt = 0 from rfl]
    omega
  | n + 1, hn => fun l hl => by
    obtain ⟨ih, ih2⟩ := LX.run h hp hp2 hk hb n (by omega)
    have ih5 := LX.run5 h hp hp2 hk hb n (by omega)
    have n1 := h.li.n1
    have cn : (r_n M : Int) = (M.1 201 1).toInt := i_clamp n1.1
    have oy := o_nat (n := n) (by omega)
    have hy : am_in (Int32.ofNat n) 40 := ⟨by omega, by omega⟩
    show 0 ≤ ((c_yr N (Int32.ofNat (0 + n)) (z_it (fun y => c_yr N (Int32.ofNat y)) 0 n (c_st N))).1 (150 + l.toNatClampNeg)).toInt ∧ ((c_yr N (Int32.ofNat (0 + n)) (z_it (fun y => c_yr N (Int32.ofNat y)) 0 n (c_st N))).1 (150 + l.toNatClampNeg)).toInt ≤ ((n + 1 : Nat) : Int) * 30000300000000
    rw [Nat.zero_add]
    generalize z_it (fun y => c_yr N (Int32.ofNat y)) 0 n (c_st N) = C at ih ih2 ih5 ⊢
    generalize z_it (r_yr M p k) 0 n z_00s = S at ih
    obtain ⟨s, due, paid⟩ := C
    obtain ⟨s', b⟩ := S
    have ih2 : (due, paid) = (0, 0) := ih2
    have d0 : due = 0 := congrArg Prod.fst ih2
    have p0 : paid = 0 := congrArg Prod.snd ih2
    subst d0 p0
    have hne : c_mine M p (M.1 33 2).toNatClampNeg ≠ [] := fun q => by
      rw [← h.li.mine, q] at hl
      exact absurd hl List.not_mem_nil
    obtain ⟨lk, dd⟩ := h.lk hp hp2 hk hb hne hy
    have msL : c_ms (c_look N (Int32.ofNat n)) (c_sz (c_look N (Int32.ofNat n))) = r_mine M p (r_n M) := by
      rw [c_look_ms, ← h.li.mine, ← hb.ms]
    have zin : ∀ l ∈ r_mine M p (r_n M), z_in M p l := fun l hl => r_mine_z n1 hl
    have dn : ¬ (c_look N (Int32.ofNat n)).1 4 18 = 0 ↔ ¬ r_dd M p (Int32.ofNat n) = 0 := by rw [dd]
    have dv : r_da M p (n : Int) → ¬ r_dd M p (Int32.ofNat n) = 0 := fun q => by
      obtain ⟨q1, q2⟩ := q
      unfold r_dd
      rw [if_neg q1, if_neg (fun w => by rw [i_lt] at w; omega)]
      decide
    have BG := z_beg (stk := c_stk (c_look N (Int32.ofNat n)) (Int32.ofNat n)) (en := r_ends M (Int32.ofNat n) (r_dd M p (Int32.ofNat n))) (gr := c_gr (c_look N (Int32.ofNat n)) (Int32.ofNat n)) (cap := fun l o => r_cap o (r_rt M l (Int32.ofNat n) (r_known M p (Int32.ofNat n) k) (r_la M p (Int32.ofNat n)) o)) (dr := fun l o => c_dr (c_look N (Int32.ofNat n)) l (Int32.ofNat n) o) (o1 := r_o1 M (Int32.ofNat n)) (dr' := r_dr M (Int32.ofNat n)) (r_mine M p (r_n M)) s s' b (fun l hl => (zin l hl).1) (z_mine_nd (by omega)) (fun l hl => ⟨(ih l hl).1, lk.H (zin l hl) (fun q => by
      rcases (ih l hl).2.2 q with w | w
      · exact Or.inl (dn.mpr (dv w))
      · exact Or.inr (by rw [oy.1]; exact w)) (fun _ => dn)⟩)
    have ec : c_yr N (Int32.ofNat n) = z_T (c_b (c_look N (Int32.ofNat n)) (Int32.ofNat n)) (c_of (c_look N (Int32.ofNat n)) (Int32.ofNat n)) (c_ask (c_look N (Int32.ofNat n)) (Int32.ofNat n)) (c_sd (c_look N (Int32.ofNat n)) (Int32.ofNat n)) (r_mine M p (r_n M)) := by
      unfold c_yr c_T
      rw [msL]
    have len : (r_mine M p (r_n M)).length ≤ 30 := Nat.le_trans z_mine_len (by omega)
    rw [ec, show ((n + 1 : Nat) : Int) * 30000300000000 = (n : Int) * 30000300000000 + 30000300000000 by omega]
    exact z_T_5 (zin l hl).1 (fun x hx => ⟨(zin x hx).1, (BG.1 x hx).1.2.1⟩) len (ih5 l hl).1 (ih5 l hl).2 (by omega)
end LXB
/-- everybody's loans of persons ahead of i are run -/
def c_ev (M : am_M) (y k : Int32) (i : Int) (N : am_M) : Prop := ∃ _ : Unit, ∀ l, am_in l 30 → l.toInt < (M.1 201 1).toInt → (r_lo M l 0).toInt < i → (∀ w, w < 6 → N.2 6 (30 * w + l.toNatClampNeg) = (r_R M (r_lo M l 0) k (y.toNatClampNeg + 1)).1 (30 * w + l.toNatClampNeg)) ∧ 0 ≤ (N.2 6 (150 + l.toNatClampNeg)).toInt ∧ (N.2 6 (150 + l.toNatClampNeg)).toInt ≤ 1200012000000000
theorem c_ev.v {M N : am_M} {y k : Int32} {i : Int} (h : c_ev M y k i N) {l : Int32} (hl : am_in l 30) (hl2 : l.toInt < (M.1 201 1).toInt) (hi : (r_lo M l 0).toInt < i) : (∀ w, w < 6 → N.2 6 (30 * w + l.toNatClampNeg) = (r_R M (r_lo M l 0) k (y.toNatClampNeg + 1)).1 (30 * w + l.toNatClampNeg)) ∧ 0 ≤ (N.2 6 (150 + l.toNatClampNeg)).toInt ∧ (N.2 6 (150 + l.toNatClampNeg)).toInt ≤ 1200012000000000 := by obtain ⟨-, h⟩ := h; exact h l hl hl2 hi
theorem c_ev.le {M N : am_M} {y k : Int32} {i j : Int} (h : c_ev M y k i N) (e : j ≤ i) : c_ev M y k j N := ⟨(), fun l hl hl2 hi => h.v hl hl2 (by omega)⟩
theorem LX.ev {i1 i2 : Bool} {M0 M N N2 : am_M} {y k i : Int32} (hX : LX i1 i2 M) (c201 : M.1 201 = M0.1 201) (c200 : M.1 200 = M0.1 200) (hy : am_in y 40) (hk : am_in k 40) (hp : am_in i 12) (hp2 : i.toInt < (M.1 201 0).toInt) (b1 : c_bg M i k N) (s2 : c_st N2 = z_it (fun y => c_yr N (Int32.ofNat y)) (N.1 4 10).toNatClampNeg (c_nn (N.1 4 10) y) (c_st N)) (ev : c_ev M0 y k i.toInt M) : c_ev M0 y k (i.toInt + 1) N2 := by
  have n1 := hX.li.n1
  have cy := i_clamp hy.1
  have y39 : -1 ≤ y.toInt ∧ y.toInt ≤ 39 := ⟨by have := hy.1; omega, by have := hy.2; omega⟩
  refine ⟨(), fun l hl hl2 hlo => ?_⟩
  have rl : r_lo M l 0 = r_lo M0 l 0 := by unfold r_lo; rw [c201]
  have lo := hX.li.lo hl (w := 0) (n := 0) rfl (by decide)
  obtain ⟨-, -, pm⟩ := hX.li.pe hl (by rw [c201]; exact hl2)
  by_cases z : r_lo M0 l 0 = i
  · have pm2 : l ∈ r_mine M i (r_n M) := by
      have q := pm
      rw [rl, z] at q
      exact q
    refine ⟨fun w hw => ?_, ?_⟩
    · rw [hX.at hp hp2 hk b1 y39 s2 pm2 hw, show (y.toInt + 1).toNat = y.toNatClampNeg + 1 by omega, r_R_cg c201 c200, z]
    · have q := hX.run5 hp hp2 hk b1 (y.toNatClampNeg + 1) (by have := hy.2; omega) l pm2
      obtain ⟨-, f10, -⟩ := b1.f
      have en : c_nn (N.1 4 10) y = y.toNatClampNeg + 1 := by
        rw [f10]
        unfold c_nn
        rw [if_pos y39.2, Int32.toInt_zero, Int.sub_zero]
        omega
      have e0 : (N.1 4 10).toNatClampNeg = 0 := by rw [f10]; rfl
      have s3 : (c_st N2).1 (150 + l.toNatClampNeg) = (z_it (fun y => c_yr N (Int32.ofNat y)) 0 (y.toNatClampNeg + 1) (c_st N)).1 (150 + l.toNatClampNeg) := by rw [s2, en, e0]
      have s3 : N2.2 6 (150 + l.toNatClampNeg) = _ := s3
      rw [s3]
      have y2 := hy.2
      exact ⟨q.1, Int.le_trans q.2 (by omega)⟩
  · have no : ¬ c_own M i l = true := fun q => z (by rw [← rl, ← lo]; exact c_own_iff.mp q)
    have ms : c_ms N (c_sz N) = r_mine M i (r_n M) := b1.ms.trans hX.li.mine
    have far : ∀ x ∈ c_ms N (c_sz N), am_in x 30 ∧ x.toNatClampNeg ≠ l.toNatClampNeg := fun x hx => by
      rw [ms] at hx
      have zi := r_mine_z n1 hx
      refine ⟨zi.1, fun q => z ?_⟩
      have e : x = l := by rw [← o_cl zi.1 (by decide), q, o_cl hl (by decide)]
      rw [← rl, ← e]
      exact zi.2.2
    have stay : ∀ w, w < 6 → N2.2 6 (30 * w + l.toNatClampNeg) = M.2 6 (30 * w + l.toNatClampNeg) := fun w hw => (c_go_o s2 hl w far).trans (b1.ot.v hl no hw)
    have ne : (r_lo M0 l 0).toInt ≠ i.toInt := fun q => z (by rw [i_eq]; exact q)
    obtain ⟨v1, v2⟩ := ev.v hl hl2 (by omega)
    refine ⟨fun w hw => (stay w hw).trans (v1 w hw), ?_⟩
    have s5 := stay 5 (by decide)
    have s5 : N2.2 6 (150 + l.toNatClampNeg) = M.2 6 (150 + l.toNatClampNeg) := s5
    rw [s5]
    exact v2
def kX7_runEverybodyE (live : am_E) (Ret : am_R) : am_code := [(0, am_const (.int 0) 1), (1, am_istore 3 4 2), (2, am_iload 3 3), (3, am_aload 0 4), (4, am_getR live 7 0 7), (7, am_getR live 0 0 10), (10, am_getI live 2 7 13), (13, am_if2 (fun x y => y ≤ x) 39 16), (16, am_aload 0 17), (17, am_getR live 7 2 20), (20, am_iload 3 21), (21, am_iload 2 22), (22, am_callV live 4 2 TE4_begin 25), (25, am_aload 0 26), (26, am_getR live 7 2 29), (29, am_iload 1 30), (30, am_callV live 4 1 TE4_go 33), (33, am_iinc 3 4 1 36), (36, am_goto 2), (39, am_retV Ret)]
theorem koX7_runEverybodyE (live : am_E) (Ret : am_R) : ∀ q ∈ kX7_runEverybodyE live Ret, am_ok RX7 cX7_runEverybody 4 none 5 124 live Ret q.1 q.2 :=
  am_kz dzX7_runEverybody <|
  am_kd (fun d => ak_iconst d (by decide +kernel) rfl) <|
  am_kd (fun d => ak_istore_n d rfl rfl) <|
  am_kd (fun d => ak_iload_n d rfl rfl) <|
  am_kd (fun d => ak_aload_n d rfl rfl) <|
  am_kd (fun d => ak_getR (C := RX7) (T := TX7) (N := 4) rfl inX7w (by decide) rfl rfl rfl wd_390 d rfl) <|
  am_kd (fun d => ak_getR (C := RX0) (T := TX0) (N := 13) rfl inX0w (by decide) rfl rfl rfl wd_194 d rfl) <|
  am_kd (fun d => ak_getI (C := RX2) (T := TX2) (N := 8) rfl inX2w (by decide) rfl rfl rfl wd_121 d rfl) <|
  am_kd (fun d => ak_icmp_ge d (by decide +kernel) rfl) <|
  am_kd (fun d => ak_aload_n d rfl rfl) <|
  am_kd (fun d => ak_getR (C := RX7) (T := TX7) (N := 4) rfl inX7w (by decide) rfl rfl rfl wd_392 d rfl) <|
  am_kd (fun d => ak_iload_n d rfl rfl) <|
  am_kd (fun d => ak_iload_n d rfl rfl) <|
  am_kd (fun d => ak_callV (C := RX4) (F := TX4) (N := 19) metX4_beginE rfl ⟨rfl, hy_X4_begin⟩ (am_w5 wd_546 wd_547 wd_548 wd_60 wd_549) (by decide) d rfl) <|
  am_kd (fun d => ak_aload_n d rfl rfl) <|
  am_kd (fun d => ak_getR (C := RX7) (T := TX7) (N := 4) rfl inX7w (by decide) rfl rfl rfl wd_392 d rfl) <|
  am_kd (fun d => ak_iload_n d rfl rfl) <|
  am_kd (fun d => ak_callV (C := RX4) (F := TX4) (N := 19) metX4_goE rfl ⟨rfl, hy_X4_go⟩ (am_w5 wd_559 wd_560 wd_561 wd_60 wd_562) (by decide) d rfl) <|
  am_kd (fun d => ak_iinc d (by decide +kernel) rfl) <|
  am_kd (fun d => ak_goto d (by decide +kernel)) <|
  am_kd (fun d => ak_retV d) <| am_kdn
def TE7_runEverybody : am_T := fun live as M R => match as with
  | [.ref n, .int y, .int k] => am_mn live ∧ n = 0 ∧ (am_in y 40 ∧ am_in k 40) ∧ (∃ i1 i2, LX i1 i2 M) ∧ ∀ M', g_sc M M' → g_rI M' → c_ev M y k (M.1 201 0).toInt M' → R none M'
  | _ => False
def JE7_runEverybody : am_E → List Value → am_M → am_R → am_inv := fun live as M0 _ pc => match as with
  | [.ref n, .int y, .int w] => (match pc with
    | 2 => some ([0, 1, 2, 3], fun k L st M => ∃ i : Int32, L = [(0, .ref 0), (1, .int y), (2, .int w), (3, .int i)] ∧ st = [] ∧ k = ((13 - i.toInt).toNat, 0) ∧ 0 ≤ i.toInt ∧ g_sc M0 M ∧ g_rI M ∧ c_ev M0 y w i.toInt M)
    | _ => none)
  | _ => none
set_option maxRecDepth 100000 in
set_option maxHeartbeats 4000000 in
theorem metX7_runEverybodyE : am_Met yX7_runEverybody cX7_runEverybody 4 none (5) (124) TE7_runEverybody := by
  refine am_met (own := RX7) (by decide +kernel) rfl kX7_runEverybodyE koX7_runEverybodyE 100 JE7_runEverybody ?_ ?_
  · intro live as M Ret h
    unfold TE7_runEverybody at h
    split at h
    · next n y w =>
      refine ⟨Nat.le_of_ble_eq_true rfl, ?_⟩
      change am_wp _ _ _ _ [(0, Value.ref n), (1, Value.int y), (2, Value.int w)] _ _
      obtain ⟨hmn, rfl, ⟨hy, hk⟩, ⟨j1, j2, hX⟩, h⟩ := h
      repeat' (first | apply And.intro | exact rfl | intro hx | (refine Exists.intro _ (And.intro rfl ?_)))
      all_goals try first | (with_reducible change am_tI _ _) | (change Ret _ _) | (change Ret _ _ _) | (change Exists _)
      all_goals try dsimp only at *
      all_goals try (with_reducible exact absurd ‹(1000 : Int64) = 0› am_z1000)
      exact ⟨_, _, rfl, rfl, rfl, by decide, g_sc.rf, hX.li.g, ⟨(), fun l hl hl2 hlo => absurd (hX.li.pe hl hl2).1.1 (by rw [Int32.toInt_zero] at hlo; omega)⟩⟩
    · exact h.elim
  · intro live as M0 Ret h k pc I hI L st M hi
    unfold TE7_runEverybody at h
    split at h
    · next n y w =>
      obtain ⟨hmn, rfl, ⟨hy, hk⟩, ⟨j1, j2, hX⟩, h⟩ := h
      have hmn2 := hmn
      obtain ⟨i1, i2, rfl⟩ := hmn2
      change (match pc with | 2 => _ | _ => none) = _ at hI
      split at hI
      · cases hI
        obtain ⟨i, rfl, rfl, rfl, e1, e2, e3, ev⟩ := hi
        have hX2 := hX.sc e2 e3
        have c201 : M.1 201 = M0.1 201 := e2.r1 (by decide)
        have c200 : M.1 200 = M0.1 200 := e2.r1 (by decide)
        have le0 := hX2.li.e0
        have n0 := hX2.li.n0
        by_cases hz : M.1 21 7 ≤ i
        · have hz2 := hz
          rw [le0, c201] at hz2
          simp only [i_le] at hz2
          have ev2 := ev.le hz2
          repeat' (first | apply And.intro | exact rfl | (intro hx; with_reducible exact absurd hz hx) | intro hx | (refine Exists.intro _ (And.intro rfl ?_)))
          all_goals try first | (with_reducible change am_tI _ _) | (change Ret _ _) | (change Ret _ _ _) | (change Exists _)
          all_goals try dsimp only at *
          all_goals try (with_reducible exact absurd ‹(1000 : Int64) = 0› am_z1000)
          exact h _ e2 e3 ev2
        · have hz2 := hz
          rw [le0] at hz2
          simp only [i_le] at hz2
          have hp : am_in i 12 := ⟨e1, by omega⟩
          have hp2 : i.toInt < (M.1 201 0).toInt := by omega
          have hi := i_inc (x := i) (by omega) (by omega)
          have hA := hX2.li.cA
          have hn : 0 ≤ (M.1 33 2).toInt ∧ (M.1 33 2).toInt ≤ 30 := by rw [hX2.li.e1]; exact hX2.li.n1
          repeat' (first | (with_reducible exact hmn) | (with_reducible exact hp) | (with_reducible exact hA) | (with_reducible exact hn) | (with_reducible exact e3) | apply And.intro | exact rfl | (intro hx; with_reducible exact absurd hx hz) | ((with_reducible change g_rI _); (with_reducible assumption)) | intro hx | (refine Exists.intro _ (And.intro rfl ?_)))
          all_goals try first | (with_reducible change am_tI _ _) | (change Ret _ _) | (change Ret _ _ _) | (change Exists _)
          all_goals try dsimp only at *
          all_goals try (with_reducible exact absurd ‹(1000 : Int64) = 0› am_z1000)
          all_goals first
            | exact hX2.t0.g (c_bg.sc (by with_reducible assumption))
            | exact hX2.coa hp hp2 hk (by with_reducible assumption) (by with_reducible assumption)
            | (rw [(c_bg.f (by with_reducible assumption)).2.1]; decide)
            | skip
          rename_i N b1 r1 N2 g2 r2 s2
          refine ⟨_, am_lt_l (by omega), _, rfl, rfl, rfl, by omega, e2.tr ((c_bg.sc b1).tr (c_gn.sc g2)), r2, ?_⟩
          rw [show (i + 1).toInt = i.toInt + 1 by omega]
          exact hX2.ev c201 c200 hy hk hp hp2 b1 s2 ev
      · cases hI
    · exact h.elim
end
-- part 79zg.book.lean.txt
section
/-! runs exact: book -/
def z_sum (f : Nat → Int64) : Nat → Int64
  | 0 => 0
  | n + 1 => z_sum f n + f n
theorem z_sum_cg {f g : Nat → Int64} : ∀ {n : Nat}, (∀ i, i < n → f i = g i) → z_sum f n = z_sum g n
  | 0, _ => rfl
  | n + 1, h => by
    show z_sum f n + f n = z_sum g n + g n
    rw [z_sum_cg (fun i hi => h i (by omega)), h n (by omega)]
theorem z_add4 (a b c d : Int64) : a + b + (c + d) = a + c + (b + d) := by
  rw [Int64.add_assoc, Int64.add_assoc, ← Int64.add_assoc b, ← Int64.add_assoc c, Int64.add_comm b c]
theorem z_sum_add {f g : Nat → Int64} : ∀ {n : Nat}, z_sum (fun i => f i + g i) n = z_sum f n + z_sum g n
  | 0 => by show (0 : Int64) = 0 + 0; rw [Int64.add_zero]
  | n + 1 => by
    show z_sum (fun i => f i + g i) n + (f n + g n) = z_sum f n + f n + (z_sum g n + g n)
    rw [z_sum_add, z_add4]
theorem z_sum_z : ∀ {n : Nat}, z_sum (fun _ => 0) n = 0
  | 0 => rfl
  | n + 1 => by
    show z_sum (fun _ => 0) n + 0 = 0
    rw [z_sum_z, Int64.add_zero]
theorem z_sum_sw {F : Nat → Nat → Int64} {n : Nat} : ∀ {m : Nat}, z_sum (fun p => z_sum (fun l => F p l) n) m = z_sum (fun l => z_sum (fun p => F p l) m) n
  | 0 => z_sum_z.symm
  | m + 1 => by
    show z_sum (fun p => z_sum (fun l => F p l) n) m + z_sum (fun l => F m l) n = z_sum (fun l => z_sum (fun p => F p l) m + F m l) n
    rw [z_sum_add, z_sum_sw]
theorem z_sum_no {f : Nat → Int64} {n : Nat} (h : ∀ i, i < n → f i = 0) : z_sum f n = 0 := (z_sum_cg h).trans z_sum_z
theorem z_sum_one {f : Nat → Int64} {a : Nat} : ∀ {n : Nat}, a < n → (∀ i, i < n → i ≠ a → f i = 0) → z_sum f n = f a
  | 0, h, _ => absurd h (by omega)
  | n + 1, h, h2 => by
    show z_sum f n + f n = f a
    by_cases z : n = a
    · rw [z_sum_no (fun i hi => h2 i (by omega) (by omega)), Int64.zero_add, z]
    · rw [z_sum_one (by omega) (fun i hi hne => h2 i (by omega) hne), h2 n (by omega) z, Int64.add_zero]
theorem z_sum_b {f : Nat → Int64} {B : Int} (hB : 0 ≤ B) (hB2 : B ≤ 10000000000000000) : ∀ {n : Nat}, n ≤ 90 → (∀ i, i < n → -B ≤ (f i).toInt ∧ (f i).toInt ≤ B) → -(n * B) ≤ (z_sum f n).toInt ∧ (z_sum f n).toInt ≤ n * B
  | 0, _, _ => by
    show -((0 : Nat) * B) ≤ (0 : Int64).toInt ∧ (0 : Int64).toInt ≤ (0 : Nat) * B
    rw [show (0 : Int64).toInt = 0 from rfl]
    omega
  | n + 1, hn, h => by
    obtain ⟨h1, h2⟩ := z_sum_b hB hB2 (n := n) (by omega) (fun i hi => h i (by omega))
    obtain ⟨h3, h4⟩ := h n (by omega)
    have e : ((n + 1 : Nat) : Int) * B = n * B + B := by rw [Int.natCast_add, Int.add_mul]; omega
    have e2 : (n : Int) * B ≤ 90 * B := Int.mul_le_mul_of_nonneg_right (by omega) hB
    have ea : (z_sum f n + f n).toInt = (z_sum f n).toInt + (f n).toInt := by
      rw [Int64.toInt_add]
      exact Int.bmod_eq_of_le (by omega) (by omega)
    show -(((n + 1 : Nat) : Int) * B) ≤ (z_sum f n + f n).toInt ∧ (z_sum f n + f n).toInt ≤ ((n + 1 : Nat) : Int) * B
    rw [e, ea]
    omega
theorem z_bk {a b : Int64} (h1 : -1000000000000000000 ≤ a.toInt ∧ a.toInt ≤ 1000000000000000000) (h2 : -1000000000000000000 ≤ b.toInt ∧ b.toInt ≤ 1000000000000000000) : (if b < a then a - b else 0) = (if a - b < 0 then 0 else a - b) := by
  have e := l_sub (x := a) (y := b) (by omega) (by omega)
  have k0 : (0 : Int64).toInt = 0 := rfl
  by_cases z : b < a
  · rw [if_pos z, if_neg (fun q => by rw [Int64.lt_iff_toInt_lt] at z q; omega)]
  · rw [if_neg z]
    by_cases y : a - b < 0
    · rw [if_pos y]
    · rw [if_neg y]
      apply Int64.toInt_inj.mp
      rw [Int64.lt_iff_toInt_lt] at z y
      omega
/-- what a row of promises adds -/
def r_pf (M : am_M) (b y : Int32) (i : Nat) : Int64 := if M.1 201 (3513 + (3 * i + 0)) = b then (if M.1 201 (3513 + (3 * i + 1)) ≤ y then (M.1 201 (3513 + (3 * i + 2))).toInt64 else 0) else 0
theorem LI.pm {i1 i2 : Bool} {M : am_M} (h : LI i1 i2 M) {i j : Int32} {n : Nat} (hi : am_in i 20) (hj : j.toInt = (n : Int)) (hn : n < 3) : am_at (M.1 55) (am_len 55) (i * M.1 54 1 + j) = M.1 201 (3513 + (3 * i.toNatClampNeg + n)) := by
  have l1 := hi.1
  have l2 := hi.2
  have e1 := i_mul (x := i) (y := 3) (by simp only [Int32.reduceToInt]; omega) (by simp only [Int32.reduceToInt]; omega)
  simp only [Int32.reduceToInt] at e1
  have e2 := i_add (x := i * 3) (y := j) (by omega) (by omega)
  have c1 := i_clamp (x := i * 3 + j) (by omega)
  have c2 := i_clamp l1
  have g := g_cl hi
  have l55 : am_len 55 = 60 := rfl
  have e := h.e (o := 35) (k0 := 0) (b0 := 3513) (n := 60) (by decide) (k := 3 * i.toNatClampNeg + n) (by omega)
  rw [Nat.zero_add] at e
  rw [h.w.2.2.2, am_at_in (show am_in (i * 3 + j) (am_len 55) from ⟨by omega, by rw [l55]; omega⟩), show (i * 3 + j).toNatClampNeg = 3 * i.toNatClampNeg + n by omega]
  exact e
def kX0_promisedE (live : am_E) (Ret : am_R) : am_code := [(0, am_const (.long 0) 1), (1, am_lstore 3 6 2), (2, am_const (.int 0) 3), (3, am_istore 5 6 5), (5, am_iload 5 7), (7, am_aload 0 8), (8, am_getR live 0 8 11), (11, am_getI live 3 2 14), (14, am_if2 (fun x y => y ≤ x) 65 17), (17, am_aload 0 18), (18, am_getR live 0 8 21), (21, am_iload 5 23), (23, am_const (.int 0) 24), (24, am_callV live 3 2 TX3_at 27), (27, am_iload 1 28), (28, am_if2 (fun x y => x = y) 31 59), (31, am_aload 0 32), (32, am_getR live 0 8 35), (35, am_iload 5 37), (37, am_const (.int 1) 38), (38, am_callV live 3 2 TX3_at 41), (41, am_iload 2 42), (42, am_if2 (fun x y => y < x) 59 45), (45, am_lload 3 46), (46, am_aload 0 47), (47, am_getR live 0 8 50), (50, am_iload 5 52), (52, am_const (.int 2) 53), (53, am_callV live 3 2 TX3_at 56), (56, am_i2l 57), (57, am_l2 (fun x y => x + y) 58), (58, am_lstore 3 6 59), (59, am_iinc 5 6 1 62), (62, am_goto 5), (65, am_lload 3 66), (66, am_retL Ret)]
theorem koX0_promisedE (live : am_E) (Ret : am_R) : ∀ q ∈ kX0_promisedE live Ret, am_ok RX0 cX0_promised 6 (some .long) 1 23 live Ret q.1 q.2 :=
  am_kz dzX0_promised <|
  am_kd (fun d => ak_lconst d (by decide +kernel) rfl) <|
  am_kd (fun d => ak_lstore_n d rfl rfl) <|
  am_kd (fun d => ak_iconst d (by decide +kernel) rfl) <|
  am_kd (fun d => ak_istore d rfl) <|
  am_kd (fun d => ak_iload d rfl) <|
  am_kd (fun d => ak_aload_n d rfl rfl) <|
  am_kd (fun d => ak_getR (C := RX0) (T := TX0) (N := 13) rfl inX0w (by decide) rfl rfl rfl wd_216 d rfl) <|
  am_kd (fun d => ak_getI (C := RX3) (T := TX3) (N := 3) rfl inX3w (by decide) rfl rfl rfl wd_151 d rfl) <|
  am_kd (fun d => ak_icmp_ge d (by decide +kernel) rfl) <|
  am_kd (fun d => ak_aload_n d rfl rfl) <|
  am_kd (fun d => ak_getR (C := RX0) (T := TX0) (N := 13) rfl inX0w (by decide) rfl rfl rfl wd_216 d rfl) <|
  am_kd (fun d => ak_iload d rfl) <|
  am_kd (fun d => ak_iconst d (by decide +kernel) rfl) <|
  am_kd (fun d => ak_callV (C := RX3) (F := TX3) (N := 3) metX3_at rfl ⟨rfl, hy_X3_at⟩ (am_w5 wd_529 wd_503 wd_504 wd_64 wd_505) (by decide) d rfl) <|
  am_kd (fun d => ak_iload_n d rfl rfl) <|
  am_kd (fun d => ak_icmp_ne d (by decide +kernel) rfl) <|
  am_kd (fun d => ak_aload_n d rfl rfl) <|
  am_kd (fun d => ak_getR (C := RX0) (T := TX0) (N := 13) rfl inX0w (by decide) rfl rfl rfl wd_216 d rfl) <|
  am_kd (fun d => ak_iload d rfl) <|
  am_kd (fun d => ak_iconst d (by decide +kernel) rfl) <|
  am_kd (fun d => ak_callV (C := RX3) (F := TX3) (N := 3) metX3_at rfl ⟨rfl, hy_X3_at⟩ (am_w5 wd_529 wd_503 wd_504 wd_64 wd_505) (by decide) d rfl) <|
  am_kd (fun d => ak_iload_n d rfl rfl) <|
  am_kd (fun d => ak_icmp_gt d (by decide +kernel) rfl) <|
  am_kd (fun d => ak_lload_n d rfl rfl) <|
  am_kd (fun d => ak_aload_n d rfl rfl) <|
  am_kd (fun d => ak_getR (C := RX0) (T := TX0) (N := 13) rfl inX0w (by decide) rfl rfl rfl wd_216 d rfl) <|
  am_kd (fun d => ak_iload d rfl) <|
  am_kd (fun d => ak_iconst d (by decide +kernel) rfl) <|
  am_kd (fun d => ak_callV (C := RX3) (F := TX3) (N := 3) metX3_at rfl ⟨rfl, hy_X3_at⟩ (am_w5 wd_529 wd_503 wd_504 wd_64 wd_505) (by decide) d rfl) <|
  am_kd (fun d => ak_i2l d rfl) <|
  am_kd (fun d => ak_ladd d rfl) <|
  am_kd (fun d => ak_lstore_n d rfl rfl) <|
  am_kd (fun d => ak_iinc d (by decide +kernel) rfl) <|
  am_kd (fun d => ak_goto d (by decide +kernel)) <|
  am_kd (fun d => ak_lload_n d rfl rfl) <|
  am_kd (fun d => ak_retL d) <| am_kdn
def TE0_promised : am_T := fun live as M R => match as with
  | [.ref n, .int b, .int y] => am_mn live ∧ n = 20 ∧ (∃ i1 i2, LX i1 i2 M) ∧ R (some (.long (z_sum (r_pf M b y) (M.1 201 4).toNatClampNeg))) M
  | _ => False
def JE0_promised : am_E → List Value → am_M → am_R → am_inv := fun live as M0 _ pc => match as with
  | [.ref n, .int b, .int y] => (match pc with
    | 5 => some ([0, 1, 2, 3, 5], fun k L st M => ∃ (v : Int64) (i : Int32), L = [(0, .ref 20), (1, .int b), (2, .int y), (3, .long v), (5, .int i)] ∧ st = [] ∧ k = ((100001 - i.toInt).toNat, 0) ∧ (0 ≤ i.toInt ∧ i.toInt ≤ (M0.1 201 4).toInt) ∧ M = M0 ∧ v = z_sum (r_pf M0 b y) i.toNatClampNeg)
    | _ => none)
  | _ => none
set_option maxRecDepth 100000 in
set_option maxHeartbeats 4000000 in
theorem metX0_promisedE : am_Met yX0_promised cX0_promised 6 (some .long) (1) (23) TE0_promised := by
  refine am_met (own := RX0) (by decide +kernel) rfl kX0_promisedE koX0_promisedE 60 JE0_promised ?_ ?_
  · intro live as M Ret h
    unfold TE0_promised at h
    split at h
    · next n b y =>
      refine ⟨Nat.le_of_ble_eq_true rfl, ?_⟩
      change am_wp _ _ _ _ [(0, Value.ref n), (1, Value.int b), (2, Value.int y)] _ _
      obtain ⟨⟨i1, i2, rfl⟩, rfl, ⟨j1, j2, hX⟩, h⟩ := h
      have n4 := hX.li.n4
      repeat' (first | apply And.intro | exact rfl | intro hx | (refine Exists.intro _ (And.intro rfl ?_)))
      all_goals try first | (with_reducible change am_tI _ _) | (change Ret _ _) | (change Ret _ _ _) | (change Exists _)
      all_goals try dsimp only at *
      all_goals try (with_reducible exact absurd ‹(1000 : Int64) = 0› am_z1000)
      exact ⟨_, _, _, rfl, rfl, rfl, ⟨by decide, n4.1⟩, rfl, rfl⟩
    · exact h.elim
  · intro live as M0 Ret h k pc I hI L st M hi
    unfold TE0_promised at h
    split at h
    · next n b y =>
      obtain ⟨⟨i1, i2, rfl⟩, rfl, ⟨j1, j2, hX⟩, h⟩ := h
      change (match pc with | 5 => _ | _ => none) = _ at hI
      split at hI
      · cases hI
        obtain ⟨v, i, rfl, rfl, rfl, ⟨e1, e2⟩, rfl, rfl⟩ := hi
        have n4 := hX.li.n4
        have ci := i_clamp e1
        have e4 := hX.li.e4
        have hi := i_inc (x := i) (by omega) (by omega)
        have ci1 := i_clamp (x := i + 1) (by omega)
        have nx : (i + 1).toNatClampNeg = i.toNatClampNeg + 1 := by omega
        by_cases hz : M.1 54 2 ≤ i
        · have hz2 := hz
          rw [e4] at hz2
          simp only [i_le] at hz2
          have en : i.toNatClampNeg = (M.1 201 4).toNatClampNeg := by
            have := i_clamp n4.1
            omega
          rw [← en] at h
          repeat' (first | apply And.intro | exact rfl | (intro hx; with_reducible exact absurd hz hx) | intro hx | (refine Exists.intro _ (And.intro rfl ?_)))
          all_goals try first | (with_reducible change am_tI _ _) | (change Ret _ _) | (change Ret _ _ _) | (change Exists _)
          all_goals try dsimp only at *
          all_goals try (with_reducible exact absurd ‹(1000 : Int64) = 0› am_z1000)
          all_goals exact h
        · have hz2 := hz
          rw [e4] at hz2
          simp only [i_le] at hz2
          have hin : am_in i 20 := ⟨e1, by omega⟩
          have p0 := hX.li.pm hin (j := 0) (n := 0) rfl (by decide)
          have p1 := hX.li.pm hin (j := 1) (n := 1) rfl (by decide)
          have p2 := hX.li.pm hin (j := 2) (n := 2) rfl (by decide)
          by_cases y0 : am_at (M.1 55) (am_len 55) (i * M.1 54 1 + 0) = b
          · by_cases y1 : y < am_at (M.1 55) (am_len 55) (i * M.1 54 1 + 1)
            · have y2 : ¬ am_at (M.1 55) (am_len 55) (i * M.1 54 1 + 1) ≤ y := fun q => by rw [i_le] at q; rw [i_lt] at y1; omega
              have s : z_sum (r_pf M b y) (i + 1).toNatClampNeg = z_sum (r_pf M b y) i.toNatClampNeg := by
                rw [nx]
                show _ + r_pf M b y i.toNatClampNeg = _
                unfold r_pf
                rw [← p0, ← p1, if_pos y0, if_neg y2, Int64.add_zero]
              repeat' (first | apply And.intro | exact rfl | (intro hx; with_reducible exact absurd hx hz) | (intro hx; with_reducible exact absurd y0 hx) | (intro hx; with_reducible exact absurd y1 hx) | intro hx | (refine Exists.intro _ (And.intro rfl ?_)))
              all_goals try first | (with_reducible change am_tI _ _) | (change Ret _ _) | (change Ret _ _ _) | (change Exists _)
              all_goals try dsimp only at *
              all_goals try (with_reducible exact absurd ‹(1000 : Int64) = 0› am_z1000)
              all_goals exact ⟨_, am_lt_l (by omega), _, _, rfl, rfl, rfl, ⟨by omega, by omega⟩, rfl, s.symm⟩
            · have y2 : am_at (M.1 55) (am_len 55) (i * M.1 54 1 + 1) ≤ y := by rw [i_le]; rw [i_lt] at y1; omega
              have s : z_sum (r_pf M b y) (i + 1).toNatClampNeg = z_sum (r_pf M b y) i.toNatClampNeg + (am_at (M.1 55) (am_len 55) (i * M.1 54 1 + 2)).toInt64 := by
                rw [nx]
                show _ + r_pf M b y i.toNatClampNeg = _
                unfold r_pf
                rw [← p0, ← p1, ← p2, if_pos y0, if_pos y2]
              repeat' (first | apply And.intro | exact rfl | (intro hx; with_reducible exact absurd hx hz) | (intro hx; with_reducible exact absurd hx y1) | (intro hx; with_reducible exact absurd y0 hx) | intro hx | (refine Exists.intro _ (And.intro rfl ?_)))
              all_goals try first | (with_reducible change am_tI _ _) | (change Ret _ _) | (change Ret _ _ _) | (change Exists _)
              all_goals try dsimp only at *
              all_goals try (with_reducible exact absurd ‹(1000 : Int64) = 0› am_z1000)
              all_goals exact ⟨_, am_lt_l (by omega), _, _, rfl, rfl, rfl, ⟨by omega, by omega⟩, rfl, s.symm⟩
          · have s : z_sum (r_pf M b y) (i + 1).toNatClampNeg = z_sum (r_pf M b y) i.toNatClampNeg := by
              rw [nx]
              show _ + r_pf M b y i.toNatClampNeg = _
              unfold r_pf
              rw [← p0, if_neg y0, Int64.add_zero]
            repeat' (first | apply And.intro | exact rfl | (intro hx; with_reducible exact absurd hx hz) | (intro hx; with_reducible exact absurd hx y0) | intro hx | (refine Exists.intro _ (And.intro rfl ?_)))
            all_goals try first | (with_reducible change am_tI _ _) | (change Ret _ _) | (change Ret _ _ _) | (change Exists _)
            all_goals try dsimp only at *
            all_goals try (with_reducible exact absurd ‹(1000 : Int64) = 0› am_z1000)
            all_goals exact ⟨_, am_lt_l (by omega), _, _, rfl, rfl, rfl, ⟨by omega, by omega⟩, rfl, s.symm⟩
      · cases hI
    · exact h.elim
end
-- part 79zh.book2.lean.txt
section
/-! exact: book, the class -/
def r_prV (M : am_M) (b y : Int32) : Int64 := z_sum (r_pf M b y) (M.1 201 4).toNatClampNeg
/-- what a loan adds to what a book has -/
def r_hf (M : am_M) (b y k : Int32) (l : Nat) : Int64 := if r_lo M (Int32.ofNat l) 6 = b then (r_R M (r_lo M (Int32.ofNat l) 0) k (y.toNatClampNeg + 1)).1 (150 + l) else 0
def r_hasV (M : am_M) (b y k : Int32) : Int64 := z_sum (r_hf M b y k) (r_n M)
def r_bookV (M : am_M) (b y k w : Int32) : Int64 := if 0 ≤ b ∧ b ≤ 3 then (if 0 ≤ y ∧ y < 40 then (if 0 ≤ k ∧ k < 40 then (if 0 ≤ w ∧ w ≤ 1 then (if w = 0 then r_hasV M b y k else if r_hasV M b y k < r_prV M b y then r_prV M b y - r_hasV M b y k else 0) else -2) else -2) else -2) else -2
theorem r_pf_cg {M N : am_M} (h1 : N.1 201 = M.1 201) {b y : Int32} : r_pf N b y = r_pf M b y := by
  funext i
  unfold r_pf
  rw [h1]
theorem LX.bkb {i1 i2 : Bool} {M N : am_M} {b y k : Int32} (h : LX i1 i2 M) (ev : c_ev M y k (M.1 201 0).toInt N) : -1000000000000000000 ≤ (r_hasV M b y k).toInt ∧ (r_hasV M b y k).toInt ≤ 1000000000000000000 := by
  have n1 := h.li.n1
  have cn : (r_n M : Int) = (M.1 201 1).toInt := i_clamp n1.1
  have q := z_sum_b (f := r_hf M b y k) (B := 1200012000000000) (by omega) (by omega) (n := r_n M) (by omega) (fun l hl => by
    have ol := o_nat (n := l) (by omega)
    have hl30 : am_in (Int32.ofNat l) 30 := ⟨by omega, by omega⟩
    obtain ⟨pp, pp2, -⟩ := h.li.pe hl30 (by omega)
    obtain ⟨v, v0, v1⟩ := ev.v hl30 (by omega) pp2
    have v5 := v 5 (by decide)
    rw [ol.2] at v5 v0 v1
    have v5 : N.2 6 (150 + l) = (r_R M (r_lo M (Int32.ofNat l) 0) k (y.toNatClampNeg + 1)).1 (150 + l) := v5
    unfold r_hf
    by_cases z : r_lo M (Int32.ofNat l) 6 = b
    · rw [if_pos z, ← v5]
      omega
    · rw [if_neg z, show (0 : Int64).toInt = 0 from rfl]
      omega)
  unfold r_hasV
  have e : ((r_n M : Nat) : Int) * 1200012000000000 ≤ 30 * 1200012000000000 := Int.mul_le_mul_of_nonneg_right (by omega) (by omega)
  omega
theorem LX.bkp {i1 i2 : Bool} {M : am_M} {b y : Int32} (h : LX i1 i2 M) : -1000000000000000000 ≤ (r_prV M b y).toInt ∧ (r_prV M b y).toInt ≤ 1000000000000000000 := by
  have n4 := h.li.n4
  have c4 := i_clamp n4.1
  have q := z_sum_b (f := r_pf M b y) (B := 4294967296) (by omega) (by omega) (n := (M.1 201 4).toNatClampNeg) (by omega) (fun i hi => by
    unfold r_pf
    split
    · split
      · rw [Int32.toInt_toInt64]
        have a1 := Int32.le_toInt (M.1 201 (3513 + (3 * i + 2)))
        have a2 := Int32.toInt_lt (M.1 201 (3513 + (3 * i + 2)))
        omega
      · rw [show (0 : Int64).toInt = 0 from rfl]
        omega
    · rw [show (0 : Int64).toInt = 0 from rfl]
      omega)
  unfold r_prV
  have e : (((M.1 201 4).toNatClampNeg : Nat) : Int) * 4294967296 ≤ 30 * 4294967296 := Int.mul_le_mul_of_nonneg_right (by omega) (by omega)
  omega
def kX7_bookE (live : am_E) (Ret : am_R) : am_code := [(0, am_iload 1 1), (1, am_const (.int 0) 2), (2, am_const (.int 3) 3), (3, am_callS live 3 TX7_within 6), (6, am_if1 (fun x => x = 0) 33 9), (9, am_iload 2 10), (10, am_callS live 1 TX7_isYear 13), (13, am_if1 (fun x => x = 0) 33 16), (16, am_iload 3 17), (17, am_callS live 1 TX7_isYear 20), (20, am_if1 (fun x => x = 0) 33 23), (23, am_iload 4 25), (25, am_const (.int 0) 26), (26, am_const (.int 1) 27), (27, am_callS live 3 TX7_within 30), (30, am_if1 (fun x => x = 0) 33 37), (33, am_const (.long (-2)) 36), (36, am_retL Ret), (37, am_aload 0 38), (38, am_iload 2 39), (39, am_iload 3 40), (40, am_callV live 7 2 TE7_runEverybody 43), (43, am_const (.long 0) 44), (44, am_lstore 5 8 46), (46, am_const (.int 0) 47), (47, am_istore 7 8 49), (49, am_iload 7 51), (51, am_aload 0 52), (52, am_getR live 7 0 55), (55, am_getR live 0 4 58), (58, am_getI live 3 2 61), (61, am_if2 (fun x y => y ≤ x) 107 64), (64, am_aload 0 65), (65, am_getR live 7 0 68), (68, am_getR live 0 4 71), (71, am_iload 7 73), (73, am_const (.int 6) 75), (75, am_callV live 3 2 TX3_at 78), (78, am_iload 1 79), (79, am_if2 (fun x y => x = y) 82 101), (82, am_lload 5 84), (84, am_aload 0 85), (85, am_getR live 7 2 88), (88, am_getR live 4 2 91), (91, am_const (.int 150) 94), (94, am_iload 7 96), (96, am_i2 (fun x y => x + y) 97), (97, am_lald live 1 98), (98, am_l2 (fun x y => x + y) 99), (99, am_lstore 5 8 101), (101, am_iinc 7 8 1 104), (104, am_goto 49), (107, am_iload 4 109), (109, am_if1 (fun x => x = 0) 112 117), (112, am_lload 5 114), (114, am_goto 133), (117, am_const (.long 0) 118), (118, am_aload 0 119), (119, am_getR live 7 0 122), (122, am_iload 1 123), (123, am_iload 2 124), (124, am_callV live 0 2 TE0_promised 127), (127, am_lload 5 129), (129, am_l2 (fun x y => x - y) 130), (130, am_mathl (fun x y => if y < x then x else y) 147 133), (133, am_retL Ret)]
theorem koX7_bookE (live : am_E) (Ret : am_R) : ∀ q ∈ kX7_bookE live Ret, am_ok RX7 cX7_book 8 (some .long) 6 147 live Ret q.1 q.2 :=
  am_kz dzX7_book <|
  am_kd (fun d => ak_iload_n d rfl rfl) <|
  am_kd (fun d => ak_iconst d (by decide +kernel) rfl) <|
  am_kd (fun d => ak_iconst d (by decide +kernel) rfl) <|
  am_kd (fun d => ak_callS metX7_within ⟨rfl, hy_X7_within⟩ (am_w4 wd_418 wd_419 wd_58 wd_420) (by decide) d rfl) <|
  am_kd (fun d => ak_if_eq d (by decide +kernel) rfl) <|
  am_kd (fun d => ak_iload_n d rfl rfl) <|
  am_kd (fun d => ak_callS metX7_isYear ⟨rfl, hy_X7_isYear⟩ (am_w4 wd_407 wd_408 wd_58 wd_409) (by decide) d rfl) <|
  am_kd (fun d => ak_if_eq d (by decide +kernel) rfl) <|
  am_kd (fun d => ak_iload_n d rfl rfl) <|
  am_kd (fun d => ak_callS metX7_isYear ⟨rfl, hy_X7_isYear⟩ (am_w4 wd_407 wd_408 wd_58 wd_409) (by decide) d rfl) <|
  am_kd (fun d => ak_if_eq d (by decide +kernel) rfl) <|
  am_kd (fun d => ak_iload d rfl) <|
  am_kd (fun d => ak_iconst d (by decide +kernel) rfl) <|
  am_kd (fun d => ak_iconst d (by decide +kernel) rfl) <|
  am_kd (fun d => ak_callS metX7_within ⟨rfl, hy_X7_within⟩ (am_w4 wd_418 wd_419 wd_58 wd_420) (by decide) d rfl) <|
  am_kd (fun d => ak_if_ne d (by decide +kernel) rfl) <|
  am_kd (fun d => ak_ldc2 wd_545 d rfl) <|
  am_kd (fun d => ak_retL d) <|
  am_kd (fun d => ak_aload_n d rfl rfl) <|
  am_kd (fun d => ak_iload_n d rfl rfl) <|
  am_kd (fun d => ak_iload_n d rfl rfl) <|
  am_kd (fun d => ak_callV (C := RX7) (F := TX7) (N := 4) metX7_runEverybodyE rfl ⟨rfl, hy_X7_runEverybody⟩ (am_w5 wd_743 wd_745 wd_23 wd_58 wd_746) (by decide) d rfl) <|
  am_kd (fun d => ak_lconst d (by decide +kernel) rfl) <|
  am_kd (fun d => ak_lstore d rfl) <|
  am_kd (fun d => ak_iconst d (by decide +kernel) rfl) <|
  am_kd (fun d => ak_istore d rfl) <|
  am_kd (fun d => ak_iload d rfl) <|
  am_kd (fun d => ak_aload_n d rfl rfl) <|
  am_kd (fun d => ak_getR (C := RX7) (T := TX7) (N := 4) rfl inX7w (by decide) rfl rfl rfl wd_390 d rfl) <|
  am_kd (fun d => ak_getR (C := RX0) (T := TX0) (N := 13) rfl inX0w (by decide) rfl rfl rfl wd_207 d rfl) <|
  am_kd (fun d => ak_getI (C := RX3) (T := TX3) (N := 3) rfl inX3w (by decide) rfl rfl rfl wd_152 d rfl) <|
  am_kd (fun d => ak_icmp_ge d (by decide +kernel) rfl) <|
  am_kd (fun d => ak_aload_n d rfl rfl) <|
  am_kd (fun d => ak_getR (C := RX7) (T := TX7) (N := 4) rfl inX7w (by decide) rfl rfl rfl wd_390 d rfl) <|
  am_kd (fun d => ak_getR (C := RX0) (T := TX0) (N := 13) rfl inX0w (by decide) rfl rfl rfl wd_207 d rfl) <|
  am_kd (fun d => ak_iload d rfl) <|
  am_kd (fun d => ak_bipush d (by decide +kernel) rfl) <|
  am_kd (fun d => ak_callV (C := RX3) (F := TX3) (N := 3) metX3_at rfl ⟨rfl, hy_X3_at⟩ (am_w5 wd_524 wd_503 wd_504 wd_64 wd_505) (by decide) d rfl) <|
  am_kd (fun d => ak_iload_n d rfl rfl) <|
  am_kd (fun d => ak_icmp_ne d (by decide +kernel) rfl) <|
  am_kd (fun d => ak_lload d rfl) <|
  am_kd (fun d => ak_aload_n d rfl rfl) <|
  am_kd (fun d => ak_getR (C := RX7) (T := TX7) (N := 4) rfl inX7w (by decide) rfl rfl rfl wd_392 d rfl) <|
  am_kd (fun d => ak_getR (C := RX4) (T := TX4) (N := 19) rfl inX4w (by decide) rfl rfl rfl wd_298 d rfl) <|
  am_kd (fun d => ak_sipush d (by decide +kernel) rfl) <|
  am_kd (fun d => ak_iload d rfl) <|
  am_kd (fun d => ak_iadd d rfl) <|
  am_kd (fun d => ak_lald (t := 1) (fun _ => rfl) rfl d rfl) <|
  am_kd (fun d => ak_ladd d rfl) <|
  am_kd (fun d => ak_lstore d rfl) <|
  am_kd (fun d => ak_iinc d (by decide +kernel) rfl) <|
  am_kd (fun d => ak_goto d (by decide +kernel)) <|
  am_kd (fun d => ak_iload d rfl) <|
  am_kd (fun d => ak_if_ne d (by decide +kernel) rfl) <|
  am_kd (fun d => ak_lload d rfl) <|
  am_kd (fun d => ak_goto d (by decide +kernel)) <|
  am_kd (fun d => ak_lconst d (by decide +kernel) rfl) <|
  am_kd (fun d => ak_aload_n d rfl rfl) <|
  am_kd (fun d => ak_getR (C := RX7) (T := TX7) (N := 4) rfl inX7w (by decide) rfl rfl rfl wd_390 d rfl) <|
  am_kd (fun d => ak_iload_n d rfl rfl) <|
  am_kd (fun d => ak_iload_n d rfl rfl) <|
  am_kd (fun d => ak_callV (C := RX0) (F := TX0) (N := 13) metX0_promisedE rfl ⟨rfl, hy_X0_promised⟩ (am_w5 wd_747 wd_748 wd_749 wd_61 wd_750) (by decide) d rfl) <|
  am_kd (fun d => ak_lload d rfl) <|
  am_kd (fun d => ak_lsub d rfl) <|
  am_kd (fun d => ak_lmax (am_w4 wd_751 wd_611 wd_68 wd_612) (by decide) d rfl) <|
  am_kd (fun d => ak_retL d) <| am_kdn
def TE7_book : am_T := fun live as M R => match as with
  | [.ref n, .int b, .int y, .int k, .int w] => am_mn live ∧ n = 0 ∧ (∃ i1 i2, LX i1 i2 M) ∧ ∀ M', g_sc M M' → g_rI M' → R (some (.long (r_bookV M b y k w))) M'
  | _ => False
def JE7_book : am_E → List Value → am_M → am_R → am_inv := fun live as M0 _ pc => match as with
  | [.ref n, .int b, .int y, .int k, .int w] => (match pc with
    | 49 => some ([0, 1, 2, 4, 5, 7], fun u L st M => ∃ (v : Int64) (i : Int32), L = [(0, .ref 0), (1, .int b), (2, .int y), (4, .int w), (5, .long v), (7, .int i)] ∧ st = [] ∧ u = ((31 - i.toInt).toNat, 0) ∧ (0 ≤ i.toInt ∧ i.toInt ≤ (M0.1 201 1).toInt) ∧ g_sc M0 M ∧ g_rI M ∧ c_ev M0 y k (M0.1 201 0).toInt M ∧ v = z_sum (r_hf M0 b y k) i.toNatClampNeg ∧ r_bookV M0 b y k w = (if w = 0 then r_hasV M0 b y k else if r_hasV M0 b y k < r_prV M0 b y then r_prV M0 b y - r_hasV M0 b y k else 0))
    | _ => none)
  | _ => none
set_option maxRecDepth 100000 in
set_option maxHeartbeats 4000000 in
theorem metX7_bookE : am_Met yX7_book cX7_book 8 (some .long) (6) (147) TE7_book := by
  refine am_met (own := RX7) (by decide +kernel) rfl kX7_bookE koX7_bookE 150 JE7_book ?_ ?_
  · intro live as M Ret h
    unfold TE7_book at h
    split at h
    · next n b y k w =>
      refine ⟨Nat.le_of_ble_eq_true rfl, ?_⟩
      change am_wp _ _ _ _ [(0, Value.ref n), (1, Value.int b), (2, Value.int y), (3, Value.int k), (4, Value.int w)] _ _
      obtain ⟨hmn, rfl, ⟨j1, j2, hX⟩, h⟩ := h
      have hmn2 := hmn
      obtain ⟨i1, i2, rfl⟩ := hmn2
      have hR := hX.li.g
      have n1 := hX.li.n1
      by_cases z0 : 0 ≤ b ∧ b ≤ 3
      rotate_left
      · skip
        have q0 : (if 0 ≤ b ∧ b ≤ 3 then (1 : Int32) else 0) = 0 := if_neg z0
        have e : r_bookV M b y k w = -2 := by unfold r_bookV; rw [if_neg (fun q => z0 (by first | exact q | (rw [le1]; exact q) | (rw [le0]; exact q)))]
        rw [e] at h
        repeat' (first | (with_reducible exact hmn) | apply And.intro | exact rfl | (intro hx; with_reducible exact absurd q0 hx) | (intro hx; exact absurd hx (by decide)) | (intro hx; exact absurd (by decide) hx) | decide | intro hx | (refine Exists.intro _ (And.intro rfl ?_)))
        all_goals try first | (with_reducible change am_tI _ _) | (change Ret _ _) | (change Ret _ _ _) | (change Exists _)
        all_goals try dsimp only at *
        all_goals try (with_reducible exact absurd ‹(1000 : Int64) = 0› am_z1000)
        all_goals exact h _ g_sc.rf hR
      · skip
        have q0 : ¬ ((if 0 ≤ b ∧ b ≤ 3 then (1 : Int32) else 0) = 0) := by rw [if_pos z0]; decide
        have y0 : 0 ≤ b ∧ b ≤ 3 := by first | exact z0 | (rw [← le1]; exact z0) | (rw [← le0]; exact z0)
        by_cases z1 : 0 ≤ y ∧ y < 40
        rotate_left
        · skip
          have q1 : (if 0 ≤ y ∧ y < 40 then (1 : Int32) else 0) = 0 := if_neg z1
          have e : r_bookV M b y k w = -2 := by unfold r_bookV; rw [if_pos y0, if_neg (fun q => z1 (by first | exact q | (rw [le1]; exact q) | (rw [le0]; exact q)))]
          rw [e] at h
          repeat' (first | (with_reducible exact hmn) | apply And.intro | exact rfl | (intro hx; with_reducible exact absurd hx q0) | (intro hx; with_reducible exact absurd q1 hx) | (intro hx; exact absurd hx (by decide)) | (intro hx; exact absurd (by decide) hx) | decide | intro hx | (refine Exists.intro _ (And.intro rfl ?_)))
          all_goals try first | (with_reducible change am_tI _ _) | (change Ret _ _) | (change Ret _ _ _) | (change Exists _)
          all_goals try dsimp only at *
          all_goals try (with_reducible exact absurd ‹(1000 : Int64) = 0› am_z1000)
          all_goals exact h _ g_sc.rf hR
        · skip
          have q1 : ¬ ((if 0 ≤ y ∧ y < 40 then (1 : Int32) else 0) = 0) := by rw [if_pos z1]; decide
          have y1 : 0 ≤ y ∧ y < 40 := by first | exact z1 | (rw [← le1]; exact z1) | (rw [← le0]; exact z1)
          by_cases z2 : 0 ≤ k ∧ k < 40
          rotate_left
          · skip
            have q2 : (if 0 ≤ k ∧ k < 40 then (1 : Int32) else 0) = 0 := if_neg z2
            have e : r_bookV M b y k w = -2 := by unfold r_bookV; rw [if_pos y0, if_pos y1, if_neg (fun q => z2 (by first | exact q | (rw [le1]; exact q) | (rw [le0]; exact q)))]
            rw [e] at h
            repeat' (first | (with_reducible exact hmn) | apply And.intro | exact rfl | (intro hx; with_reducible exact absurd hx q0) | (intro hx; with_reducible exact absurd hx q1) | (intro hx; with_reducible exact absurd q2 hx) | (intro hx; exact absurd hx (by decide)) | (intro hx; exact absurd (by decide) hx) | decide | intro hx | (refine Exists.intro _ (And.intro rfl ?_)))
            all_goals try first | (with_reducible change am_tI _ _) | (change Ret _ _) | (change Ret _ _ _) | (change Exists _)
            all_goals try dsimp only at *
            all_goals try (with_reducible exact absurd ‹(1000 : Int64) = 0› am_z1000)
            all_goals exact h _ g_sc.rf hR
          · skip
            have q2 : ¬ ((if 0 ≤ k ∧ k < 40 then (1 : Int32) else 0) = 0) := by rw [if_pos z2]; decide
            have y2 : 0 ≤ k ∧ k < 40 := by first | exact z2 | (rw [← le1]; exact z2) | (rw [← le0]; exact z2)
            by_cases z3 : 0 ≤ w ∧ w ≤ 1
            rotate_left
            · skip
              have q3 : (if 0 ≤ w ∧ w ≤ 1 then (1 : Int32) else 0) = 0 := if_neg z3
              have e : r_bookV M b y k w = -2 := by unfold r_bookV; rw [if_pos y0, if_pos y1, if_pos y2, if_neg (fun q => z3 (by first | exact q | (rw [le1]; exact q) | (rw [le0]; exact q)))]
              rw [e] at h
              repeat' (first | (with_reducible exact hmn) | apply And.intro | exact rfl | (intro hx; with_reducible exact absurd hx q0) | (intro hx; with_reducible exact absurd hx q1) | (intro hx; with_reducible exact absurd hx q2) | (intro hx; with_reducible exact absurd q3 hx) | (intro hx; exact absurd hx (by decide)) | (intro hx; exact absurd (by decide) hx) | decide | intro hx | (refine Exists.intro _ (And.intro rfl ?_)))
              all_goals try first | (with_reducible change am_tI _ _) | (change Ret _ _) | (change Ret _ _ _) | (change Exists _)
              all_goals try dsimp only at *
              all_goals try (with_reducible exact absurd ‹(1000 : Int64) = 0› am_z1000)
              all_goals exact h _ g_sc.rf hR
            · skip
              have q3 : ¬ ((if 0 ≤ w ∧ w ≤ 1 then (1 : Int32) else 0) = 0) := by rw [if_pos z3]; decide
              have y3 : 0 ≤ w ∧ w ≤ 1 := by first | exact z3 | (rw [← le1]; exact z3) | (rw [← le0]; exact z3)
              have e : r_bookV M b y k w = (if w = 0 then r_hasV M b y k else if r_hasV M b y k < r_prV M b y then r_prV M b y - r_hasV M b y k else 0) := by unfold r_bookV; rw [if_pos y0, if_pos y1, if_pos y2, if_pos y3]
              have hy : am_in y 40 := ⟨by have q := y1.1; simp only [i_le, Int32.reduceToInt, Int32.toInt_zero] at q; omega, by have q := y1.2; simp only [i_lt, Int32.reduceToInt] at q; omega⟩
              have hk : am_in k 40 := ⟨by have q := y2.1; simp only [i_le, Int32.reduceToInt, Int32.toInt_zero] at q; omega, by have q := y2.2; simp only [i_lt, Int32.reduceToInt] at q; omega⟩
              repeat' (first | (with_reducible exact hmn) | (with_reducible exact hy) | (with_reducible exact hk) | apply And.intro | exact rfl | (intro hx; with_reducible exact absurd hx q0) | (intro hx; with_reducible exact absurd hx q1) | (intro hx; with_reducible exact absurd hx q2) | (intro hx; with_reducible exact absurd hx q3) | (intro hx; exact absurd hx (by decide)) | (intro hx; exact absurd (by decide) hx) | decide | intro hx | (refine Exists.intro _ (And.intro rfl ?_)))
              all_goals try first | (with_reducible change am_tI _ _) | (change Ret _ _) | (change Ret _ _ _) | (change Exists _)
              all_goals try dsimp only at *
              all_goals try (with_reducible exact absurd ‹(1000 : Int64) = 0› am_z1000)
              all_goals first
                | exact ⟨_, _, hX⟩
                | exact ⟨hy, hk⟩
                | skip
              rename_i N c1 r1
              have ev := hx
              exact ⟨_, _, _, rfl, rfl, rfl, ⟨by decide, n1.1⟩, c1, r1, ev, rfl, e⟩
    · exact h.elim
  · intro live as M0 Ret h k pc I hI L st M hi
    unfold TE7_book at h
    split at h
    · next n b y k w =>
      obtain ⟨hmn, rfl, ⟨j1, j2, hX⟩, h⟩ := h
      have hmn2 := hmn
      obtain ⟨i1, i2, rfl⟩ := hmn2
      change (match pc with | 49 => _ | _ => none) = _ at hI
      split at hI
      · cases hI
        obtain ⟨v, i, rfl, rfl, rfl, ⟨e1, e5⟩, e2, e3, ev, rfl, eb⟩ := hi
        rw [eb] at h
        have hX2 := hX.sc e2 e3
        have c201 : M.1 201 = M0.1 201 := e2.r1 (by decide)
        have n1 := hX.li.n1
        have le1 : M.1 33 2 = M0.1 201 1 := by rw [hX2.li.e1, c201]
        have ci := i_clamp e1
        have cn : (r_n M0 : Int) = (M0.1 201 1).toInt := i_clamp n1.1
        have hi := i_inc (x := i) (by omega) (by omega)
        have ci1 := i_clamp (x := i + 1) (by omega)
        have nx : (i + 1).toNatClampNeg = i.toNatClampNeg + 1 := by omega
        by_cases hz : M.1 33 2 ≤ i
        · have hz2 := hz
          rw [le1] at hz2
          simp only [i_le] at hz2
          have en : r_hasV M0 b y k = z_sum (r_hf M0 b y k) i.toNatClampNeg := by
            unfold r_hasV
            rw [show r_n M0 = i.toNatClampNeg by omega]
          have pm : r_prV M0 b y = z_sum (r_pf M b y) (M.1 201 4).toNatClampNeg := by
            unfold r_prV
            rw [r_pf_cg c201, c201]
          have hLX : ∃ i1 i2, LX i1 i2 M := ⟨_, _, hX2⟩
          by_cases zw : w = 0
          · rw [if_pos zw, en] at h
            repeat' (first | (with_reducible exact hmn) | (with_reducible exact hLX) | apply And.intro | exact rfl | (intro hx; with_reducible exact absurd hz hx) | (intro hx; with_reducible exact absurd zw hx) | intro hx | (refine Exists.intro _ (And.intro rfl ?_)))
            all_goals try first | (with_reducible change am_tI _ _) | (change Ret _ _) | (change Ret _ _ _) | (change Exists _)
            all_goals try dsimp only at *
            all_goals try (with_reducible exact absurd ‹(1000 : Int64) = 0› am_z1000)
            all_goals exact h _ e2 e3
          · rw [if_neg zw, z_bk hX.bkp (hX.bkb ev), en, pm] at h
            repeat' (first | (with_reducible exact hmn) | (with_reducible exact hLX) | apply And.intro | exact rfl | (intro hx; with_reducible exact absurd hx zw) | (intro hx; with_reducible exact absurd hz hx) | intro hx | (refine Exists.intro _ (And.intro rfl ?_)))
            all_goals try first | (with_reducible change am_tI _ _) | (change Ret _ _) | (change Ret _ _ _) | (change Exists _)
            all_goals try dsimp only at *
            all_goals try (with_reducible exact absurd ‹(1000 : Int64) = 0› am_z1000)
            all_goals exact h _ e2 e3
        · have hz2 := hz
          rw [le1] at hz2
          simp only [i_le] at hz2
          have hl : am_in i 30 := ⟨e1, by omega⟩
          have f150 := g_ix hl 150 150 rfl (by decide)
          have l6 : am_len 6 = 180 := rfl
          have lo6 : am_at (M.1 34) (am_len 34) (i * M.1 33 1 + 6) = r_lo M i 6 := hX2.li.lo hl (w := 6) (n := 6) rfl (by decide)
          have r6 : r_lo M i 6 = r_lo M0 i 6 := by unfold r_lo; rw [c201]
          have ee := (ev.v hl (by omega) (hX.li.pe hl (by omega)).2.1).1 5 (by decide)
          have ee : M.2 6 (150 + i.toNatClampNeg) = (r_R M0 (r_lo M0 i 0) k (y.toNatClampNeg + 1)).1 (150 + i.toNatClampNeg) := ee
          by_cases y6 : am_at (M.1 34) (am_len 34) (i * M.1 33 1 + 6) = b
          · have s : z_sum (r_hf M0 b y k) (i + 1).toNatClampNeg = z_sum (r_hf M0 b y k) i.toNatClampNeg + M.2 6 (150 + i).toNatClampNeg := by
              rw [nx]
              show _ + r_hf M0 b y k i.toNatClampNeg = _
              unfold r_hf
              rw [o_cl hl (by decide), if_pos (by rw [← r6, ← lo6]; exact y6), f150.2.2, ee]
            repeat' (first | (with_reducible exact hmn) | apply And.intro | exact rfl | (intro hx; with_reducible exact absurd hx hz) | (intro hx; with_reducible exact absurd y6 hx) | intro hx | (refine Exists.intro _ (And.intro rfl ?_)))
            all_goals try first | (with_reducible change am_tI _ _) | (change Ret _ _) | (change Ret _ _ _) | (change Exists _)
            all_goals try dsimp only at *
            all_goals try (with_reducible exact absurd ‹(1000 : Int64) = 0› am_z1000)
            all_goals first
              | (with_reducible exact f150.1)
              | (rw [l6]; exact f150.2.1)
              | exact f150.1
              | exact ⟨_, am_lt_l (by omega), _, _, rfl, rfl, rfl, ⟨by omega, by omega⟩, e2, e3, ev, s.symm, eb⟩
              | skip
          · have s : z_sum (r_hf M0 b y k) (i + 1).toNatClampNeg = z_sum (r_hf M0 b y k) i.toNatClampNeg := by
              rw [nx]
              show _ + r_hf M0 b y k i.toNatClampNeg = _
              unfold r_hf
              rw [o_cl hl (by decide), if_neg (by rw [← r6, ← lo6]; exact y6), Int64.add_zero]
            repeat' (first | (with_reducible exact hmn) | apply And.intro | exact rfl | (intro hx; with_reducible exact absurd hx hz) | (intro hx; with_reducible exact absurd hx y6) | intro hx | (refine Exists.intro _ (And.intro rfl ?_)))
            all_goals try first | (with_reducible change am_tI _ _) | (change Ret _ _) | (change Ret _ _ _) | (change Exists _)
            all_goals try dsimp only at *
            all_goals try (with_reducible exact absurd ‹(1000 : Int64) = 0› am_z1000)
            all_goals first
              | exact ⟨_, am_lt_l (by omega), _, _, rfl, rfl, rfl, ⟨by omega, by omega⟩, e2, e3, ev, s.symm, eb⟩
              | skip
      · cases hI
    · exact h.elim
end
