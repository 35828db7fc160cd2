/-! runs, pure: a year of the class's is one of the reference's -/
theorem l_div {x y : Int64} (hx : 0 ≤ x.toInt) (hy : 0 < y.toInt) : (x / y).toInt = x.toInt / y.toInt := by
  have h1 := Int.ediv_nonneg hx (Int.le_of_lt hy)
  have h2 := Int.ediv_le_self y.toInt hx
  have h3 := Int64.toInt_lt x
  rw [Int64.toInt_div, Int.tdiv_eq_ediv_of_nonneg hx]
  exact Int.bmod_eq_of_le (by omega) (by omega)
/-- what may be owed -/
def z_ok (v : Int64) : Prop := 0 ≤ v.toInt ∧ v.toInt ≤ 1000010000000
theorem z_gr0 {M k z v : Int64} {r : Int32} (kM : M.toInt = 1000000000000) (k1 : k.toInt = 1000) (k0 : z.toInt = 0) (v0 : 0 ≤ v.toInt) (v1 : v.toInt ≤ 1000010000000) (hr : 0 ≤ r.toInt ∧ r.toInt ≤ 500) : (if M < v + v * r.toInt64 / k then M else v + v * r.toInt64 / k) = v + (if M - v < v * r.toInt64 / k then M - v else v * r.toInt64 / k) ∧ (¬ z < v → (if M < v + v * r.toInt64 / k then M else v + v * r.toInt64 / k) = v) ∧ 0 ≤ (if M < v + v * r.toInt64 / k then M else v + v * r.toInt64 / k).toInt ∧ (if M < v + v * r.toInt64 / k then M else v + v * r.toInt64 / k).toInt ≤ 1000000000000 := by
  have er : r.toInt64.toInt = r.toInt := Int32.toInt_toInt64 r
  have m0 : 0 ≤ v.toInt * r.toInt := Int.mul_nonneg v0 hr.1
  have m1 : v.toInt * r.toInt ≤ 1000010000000 * 500 := Int.mul_le_mul v1 hr.2 hr.1 (by omega)
  have em := l_mul (x := v) (y := r.toInt64) (by rw [er]; omega) (by rw [er]; omega)
  rw [er] at em
  have ed := l_div (x := v * r.toInt64) (y := k) (by omega) (by omega)
  rw [em, k1] at ed
  have d0 := Int.ediv_nonneg m0 (show (0 : Int) ≤ 1000 by omega)
  have d1 : v.toInt * r.toInt / 1000 ≤ 500005000000 := by omega
  have ea := l_add (x := v) (y := v * r.toInt64 / k) (by omega) (by omega)
  have es := l_sub (x := M) (y := v) (by omega) (by omega)
  have hh : M = v + (M - v) := by
    have q := l_add (x := v) (y := M - v) (by omega) (by omega)
    exact Int64.toInt_inj.mp (by omega)
  have lt : (M - v < v * r.toInt64 / k) ↔ (M < v + v * r.toInt64 / k) := by
    rw [Int64.lt_iff_toInt_lt, Int64.lt_iff_toInt_lt]
    omega
  refine ⟨?_, fun hn => ?_, ?_⟩
  · by_cases y : M < v + v * r.toInt64 / k
    · rw [if_pos y, if_pos (lt.mpr y)]
      exact hh
    · rw [if_neg y, if_neg (fun q => y (lt.mp q))]
  · have e0 : v.toInt = 0 := by
      rw [Int64.lt_iff_toInt_lt] at hn
      omega
    have ex : v.toInt * r.toInt = 0 := by rw [e0, Int.zero_mul]
    rw [if_neg (fun q => by rw [Int64.lt_iff_toInt_lt] at q; omega)]
    exact Int64.toInt_inj.mp (by omega)
  · by_cases y : M < v + v * r.toInt64 / k
    · rw [if_pos y]
      exact ⟨by omega, by omega⟩
    · rw [if_neg y]
      rw [Int64.lt_iff_toInt_lt] at y
      exact ⟨by omega, by omega⟩
theorem z_gr {v : Int64} {r : Int32} (hv : z_ok v) (hr : 0 ≤ r.toInt ∧ r.toInt ≤ 500) : r_cap v r = v + am_grown v r ∧ (¬ 0 < v → r_cap v r = v) ∧ 0 ≤ (r_cap v r).toInt ∧ (r_cap v r).toInt ≤ 1000000000000 := by
  unfold r_cap am_grown
  exact z_gr0 rfl rfl rfl hv.1 hv.2 hr
/-- a loan's own rows -/
theorem z_b_o {stk : Int32 → Bool} {gr dr : Int32 → Int64 → Int64} {s : Nat → Int64} {l : Int32} {k : Nat} (h0 : k ≠ l.toNatClampNeg) (h2 : k ≠ 60 + l.toNatClampNeg) (h4 : k ≠ 120 + l.toNatClampNeg) : z_b stk gr dr s l k = s k := by
  unfold z_b
  split
  · rw [z_u_n h0, z_u_n h4, z_u_n h2]
  · dsimp only
    rw [z_u_n h0]
    split
    · rw [z_u_n h0, z_u_n h4, z_u_n h4, z_u_n h2]
    · rw [z_u_n h4, z_u_n h2]
def z_o2 (gr : Int32 → Int64 → Int64) (l : Int32) (v : Int64) : Int64 := if 0 < v then v + gr l v else v
theorem z_b_v {stk : Int32 → Bool} {gr dr : Int32 → Int64 → Int64} {s : Nat → Int64} {l : Int32} : z_b stk gr dr s l l.toNatClampNeg = (if stk l = true then 0 else dr l (z_o2 gr l (s l.toNatClampNeg))) ∧ z_b stk gr dr s l (60 + l.toNatClampNeg) = (if stk l = true then s l.toNatClampNeg else 0) ∧ z_b stk gr dr s l (120 + l.toNatClampNeg) = (if stk l = true then 0 else if 0 < s l.toNatClampNeg then gr l (s l.toNatClampNeg) else 0) := by
  unfold z_b z_o2
  by_cases z : stk l = true
  · simp only [if_pos z]
    refine ⟨z_u_e, ?_, ?_⟩
    · rw [z_u_n (by omega), z_u_n (by omega), z_u_e]
    · rw [z_u_n (by omega), z_u_e]
  · simp only [if_neg z]
    by_cases y : 0 < s l.toNatClampNeg
    · simp only [if_pos y]
      refine ⟨?_, ?_, ?_⟩
      · rw [z_u_e, z_u_e]
      · rw [z_u_n (by omega), z_u_n (by omega), z_u_n (by omega), z_u_n (by omega), z_u_e]
      · rw [z_u_n (by omega), z_u_n (by omega), z_u_e]
    · simp only [if_neg y]
      refine ⟨?_, ?_, ?_⟩
      · rw [z_u_e, z_u_n (by omega), z_u_n (by omega)]
      · rw [z_u_n (by omega), z_u_n (by omega), z_u_e]
      · rw [z_u_n (by omega), z_u_e]
theorem z_rb_o {en : Int32 → Bool} {cap o1 dr : Int32 → Int64 → Int64} {p : (Nat → Int64) × (Nat → Int32)} {l : Int32} {k : Nat} (h0 : k ≠ l.toNatClampNeg) (h1 : k ≠ 30 + l.toNatClampNeg) (h2 : k ≠ 60 + l.toNatClampNeg) (h4 : k ≠ 120 + l.toNatClampNeg) : (z_rb en cap o1 dr p l).1 k = p.1 k := by
  unfold z_rb z_r0
  split
  · show z_u _ _ _ k = _
    rw [z_u_n h1, z_u_n h4, z_u_n h2]
  · split
    · show z_u _ _ _ k = _
      rw [z_u_n h0, z_u_n h2, z_u_n h1, z_u_n h4, z_u_n h2]
    · show z_u _ _ _ k = _
      rw [z_u_n h0, z_u_n h4, z_u_n h1, z_u_n h4, z_u_n h2]
theorem z_rb_ob {en : Int32 → Bool} {cap o1 dr : Int32 → Int64 → Int64} {p : (Nat → Int64) × (Nat → Int32)} {l : Int32} {k : Nat} (h0 : k ≠ l.toNatClampNeg) : (z_rb en cap o1 dr p l).2 k = p.2 k := by
  unfold z_rb
  split
  · rfl
  · split
    · exact if_neg h0
    · rfl
/-- in step: a loan's rows of both, what is struck -/
def z_L (s s' : Nat → Int64) (b : Nat → Int32) (l : Int32) : Prop := (∀ w, w < 6 → s (30 * w + l.toNatClampNeg) = s' (30 * w + l.toNatClampNeg)) ∧ z_ok (s l.toNatClampNeg) ∧ (¬ b l.toNatClampNeg = 0 → s l.toNatClampNeg = 0)
/-- begun: the row of what is taken stands apart -/
def z_M (s s' : Nat → Int64) (b : Nat → Int32) (l : Int32) : Prop := (∀ w, w < 6 → w ≠ 1 → s (30 * w + l.toNatClampNeg) = s' (30 * w + l.toNatClampNeg)) ∧ z_ok (s l.toNatClampNeg) ∧ (¬ b l.toNatClampNeg = 0 → s l.toNatClampNeg = 0 ∧ s' (30 + l.toNatClampNeg) = 0)
/-- what a year asks of a loan: as class and reference work it -/
def z_H (stk en : Int32 → Bool) (gr cap dr o1 dr' : Int32 → Int64 → Int64) (v : Int64) (bv : Int32) (l : Int32) : Prop := (¬ bv = 0 → stk l = true ∨ dr l 0 = 0) ∧ (bv = 0 → en l = stk l) ∧ (∃ r : Int32, (0 ≤ r.toInt ∧ r.toInt ≤ 500) ∧ gr l v = am_grown v r ∧ cap l v = r_cap v r) ∧ (∀ o, dr l o = dr' l (o1 l o)) ∧ ∀ o : Int64, 0 ≤ o.toInt → o.toInt ≤ 1000000000000 → z_ok (dr l o)
theorem z_w6 {w : Nat} (hw : w < 6) : w = 0 ∨ w = 1 ∨ w = 2 ∨ w = 3 ∨ w = 4 ∨ w = 5 := by omega
theorem z_beg1 {stk en : Int32 → Bool} {gr cap dr o1 dr' : Int32 → Int64 → Int64} {s s' : Nat → Int64} {b : Nat → Int32} {l : Int32} (hL : z_L s s' b l) (hH : z_H stk en gr cap dr o1 dr' (s l.toNatClampNeg) (b l.toNatClampNeg) l) : z_M (z_b stk gr dr s l) (z_rb en cap o1 dr' (s', b) l).1 (z_rb en cap o1 dr' (s', b) l).2 l ∧ (¬ (z_rb en cap o1 dr' (s', b) l).2 l.toNatClampNeg = 0 ↔ ¬ b l.toNatClampNeg = 0 ∨ en l = true) := by
  obtain ⟨e, ok, z0⟩ := hL
  obtain ⟨h1, h2, ⟨r, hr, hg, hc⟩, h4, h5⟩ := hH
  obtain ⟨c0, c2, c4⟩ := z_b_v (stk := stk) (gr := gr) (dr := dr) (s := s) (l := l)
  have e0 : s l.toNatClampNeg = s' l.toNatClampNeg := by
    have q := e 0 (by decide)
    rwa [Nat.mul_zero, Nat.zero_add] at q
  have e3 := e 3 (by decide)
  have e5 := e 5 (by decide)
  have d3 : z_b stk gr dr s l (30 * 3 + l.toNatClampNeg) = s (30 * 3 + l.toNatClampNeg) := z_b_o (by omega) (by omega) (by omega)
  have d5 : z_b stk gr dr s l (30 * 5 + l.toNatClampNeg) = s (30 * 5 + l.toNatClampNeg) := z_b_o (by omega) (by omega) (by omega)
  have f3 : (z_rb en cap o1 dr' (s', b) l).1 (30 * 3 + l.toNatClampNeg) = s' (30 * 3 + l.toNatClampNeg) := z_rb_o (by omega) (by omega) (by omega) (by omega)
  have f5 : (z_rb en cap o1 dr' (s', b) l).1 (30 * 5 + l.toNatClampNeg) = s' (30 * 5 + l.toNatClampNeg) := z_rb_o (by omega) (by omega) (by omega) (by omega)
  have k0 : (0 : Int64).toInt = 0 := rfl
  have ok0 : z_ok 0 := ⟨by rw [k0]; omega, by rw [k0]; omega⟩
  have key : ∀ (t' : Nat → Int64) (b' : Nat → Int32), z_rb en cap o1 dr' (s', b) l = (t', b') → z_b stk gr dr s l l.toNatClampNeg = t' l.toNatClampNeg → z_b stk gr dr s l (60 + l.toNatClampNeg) = t' (60 + l.toNatClampNeg) → z_b stk gr dr s l (120 + l.toNatClampNeg) = t' (120 + l.toNatClampNeg) → t' (30 + l.toNatClampNeg) = 0 → z_ok (z_b stk gr dr s l l.toNatClampNeg) → (¬ b' l.toNatClampNeg = 0 → z_b stk gr dr s l l.toNatClampNeg = 0) → z_M (z_b stk gr dr s l) (z_rb en cap o1 dr' (s', b) l).1 (z_rb en cap o1 dr' (s', b) l).2 l := fun t' b' et k1 k2 k3 k4 k5 k6 => by
    rw [et] at f3 f5 ⊢
    refine ⟨fun w hw h1 => ?_, k5, fun q => ⟨k6 q, k4⟩⟩
    rcases z_w6 hw with rfl | rfl | rfl | rfl | rfl | rfl
    · rw [Nat.mul_zero, Nat.zero_add]; exact k1
    · exact absurd rfl h1
    · exact k2
    · rw [d3, f3, e3]
    · exact k3
    · rw [d5, f5, e5]
  have r30 : ∀ (x : Nat → Int64), z_r0 x l (30 + l.toNatClampNeg) = 0 := fun x => by unfold z_r0; rw [z_u_e]
  have r60 : ∀ (x : Nat → Int64), z_r0 x l (60 + l.toNatClampNeg) = 0 := fun x => by unfold z_r0; rw [z_u_n (by omega), z_u_n (by omega), z_u_e]
  have r120 : ∀ (x : Nat → Int64), z_r0 x l (120 + l.toNatClampNeg) = 0 := fun x => by unfold z_r0; rw [z_u_n (by omega), z_u_e]
  have r0 : ∀ (x : Nat → Int64), z_r0 x l l.toNatClampNeg = x l.toNatClampNeg := fun x => by unfold z_r0; rw [z_u_n (by omega), z_u_n (by omega), z_u_n (by omega)]
  by_cases zb : b l.toNatClampNeg = 0
  · have es := h2 zb
    cases hs : stk l with
    | true =>
      rw [hs] at es
      have et : z_rb en cap o1 dr' (s', b) l = (z_u (z_u (z_r0 s' l) (60 + l.toNatClampNeg) (s' l.toNatClampNeg)) l.toNatClampNeg 0, z_ui b l.toNatClampNeg 1) := by
        unfold z_rb
        rw [if_neg (fun q => q zb), if_pos es]
      rw [if_pos hs] at c0 c2 c4
      refine ⟨key _ _ et (by rw [c0, z_u_e]) (by rw [c2, z_u_n (by omega), z_u_e, e0]) (by rw [c4, z_u_n (by omega), z_u_n (by omega), r120]) (by rw [z_u_n (by omega), z_u_n (by omega), r30]) (by rw [c0]; exact ok0) (fun _ => c0), ?_⟩
      rw [et]
      exact ⟨fun _ => Or.inr es, fun _ q => absurd (show z_ui b l.toNatClampNeg 1 l.toNatClampNeg = 0 from q) (by unfold z_ui; rw [if_pos rfl]; decide)⟩
    | false =>
      rw [hs] at es
      have ns : ¬ stk l = true := by rw [hs]; decide
      have ne : ¬ en l = true := by rw [es]; decide
      have et : z_rb en cap o1 dr' (s', b) l = (z_u (z_u (z_r0 s' l) (120 + l.toNatClampNeg) (cap l (s' l.toNatClampNeg) - s' l.toNatClampNeg)) l.toNatClampNeg (dr' l (o1 l (cap l (s' l.toNatClampNeg)))), b) := by
        unfold z_rb
        rw [if_neg (fun q => q zb), if_neg ne]
      rw [if_neg ns] at c0 c2 c4
      obtain ⟨g1, g2, g3, g4⟩ := z_gr ok hr
      have o2 : z_o2 gr l (s l.toNatClampNeg) = r_cap (s l.toNatClampNeg) r := by
        unfold z_o2
        by_cases q : 0 < s l.toNatClampNeg
        · rw [if_pos q, hg, g1]
        · rw [if_neg q, g2 q]
      rw [o2] at c0
      refine ⟨key _ _ et (by rw [c0, z_u_e, ← e0, hc, h4]) (by rw [c2, z_u_n (by omega), z_u_n (by omega), r60]) ?_ (by rw [z_u_n (by omega), z_u_n (by omega), r30]) (by rw [c0]; exact h5 _ g3 g4) (fun q => absurd zb q), ?_⟩
      · rw [c4, z_u_n (by omega), z_u_e, ← e0, hc]
        by_cases q : 0 < s l.toNatClampNeg
        · rw [if_pos q, hg, g1, Int64.add_comm, Int64.add_sub_cancel]
        · rw [if_neg q, g2 q, Int64.sub_self]
      · rw [et]
        exact ⟨fun q => absurd zb q, fun q => q.elim (fun q => q) (fun q => absurd q ne)⟩
  · have et : z_rb en cap o1 dr' (s', b) l = (z_r0 s' l, b) := by
      unfold z_rb
      rw [if_pos zb]
    have v0 := z0 zb
    have c00 : z_b stk gr dr s l l.toNatClampNeg = 0 := by
      rw [c0]
      split
      · rfl
      · next q =>
        unfold z_o2
        rw [v0, if_neg (by decide)]
        exact (h1 zb).resolve_left q
    refine ⟨key _ _ et (by rw [c00, r0, ← e0, v0]) (by rw [c2, r60, v0]; split <;> rfl) (by rw [c4, r120, v0, if_neg (show ¬ (0 : Int64) < 0 by decide)]; split <;> rfl) (r30 _) (by rw [c00]; exact ok0) (fun _ => c00), ?_⟩
    rw [et]
    exact ⟨fun q => Or.inl q, fun _ => zb⟩
/-- loans are apart -/
def z_nd (ms : List Int32) : Prop := ms.Pairwise (fun a b => a.toNatClampNeg ≠ b.toNatClampNeg)
theorem z_far {a l : Int32} {w : Nat} (ha : am_in a 30) (hl : am_in l 30) (h : a.toNatClampNeg ≠ l.toNatClampNeg) : 30 * w + l.toNatClampNeg ≠ a.toNatClampNeg ∧ 30 * w + l.toNatClampNeg ≠ 30 + a.toNatClampNeg ∧ 30 * w + l.toNatClampNeg ≠ 60 + a.toNatClampNeg ∧ 30 * w + l.toNatClampNeg ≠ 90 + a.toNatClampNeg ∧ 30 * w + l.toNatClampNeg ≠ 120 + a.toNatClampNeg ∧ 30 * w + l.toNatClampNeg ≠ 150 + a.toNatClampNeg := by
  have h1 := g_cl ha
  have h2 := g_cl hl
  refine ⟨?_, ?_, ?_, ?_, ?_, ?_⟩ <;> omega
/-- the loans that are not yet begun stay as they were, the others have begun -/
theorem z_beg {stk en : Int32 → Bool} {gr cap dr o1 dr' : Int32 → Int64 → Int64} : ∀ (ms : List Int32) (s s' : Nat → Int64) (b : Nat → Int32), (∀ l ∈ ms, am_in l 30) → z_nd ms → (∀ l ∈ ms, z_L s s' b l ∧ z_H stk en gr cap dr o1 dr' (s l.toNatClampNeg) (b l.toNatClampNeg) l) →
    (∀ l ∈ ms, z_M (ms.foldl (z_b stk gr dr) s) (ms.foldl (z_rb en cap o1 dr') (s', b)).1 (ms.foldl (z_rb en cap o1 dr') (s', b)).2 l ∧ (¬ (ms.foldl (z_rb en cap o1 dr') (s', b)).2 l.toNatClampNeg = 0 ↔ ¬ b l.toNatClampNeg = 0 ∨ en l = true)) ∧ ∀ x : Int32, am_in x 30 → (∀ l ∈ ms, l.toNatClampNeg ≠ x.toNatClampNeg) → (∀ w, (ms.foldl (z_b stk gr dr) s) (30 * w + x.toNatClampNeg) = s (30 * w + x.toNatClampNeg) ∧ (ms.foldl (z_rb en cap o1 dr') (s', b)).1 (30 * w + x.toNatClampNeg) = s' (30 * w + x.toNatClampNeg)) ∧ (ms.foldl (z_rb en cap o1 dr') (s', b)).2 x.toNatClampNeg = b x.toNatClampNeg
  | [], s, s', b, _, _, _ => ⟨fun l hl => absurd hl List.not_mem_nil, fun _ _ _ => ⟨fun _ => ⟨rfl, rfl⟩, rfl⟩⟩
  | a :: ms, s, s', b, hin, hnd, h => by
    have ha := hin a List.mem_cons_self
    have hap := (List.pairwise_cons.mp hnd).1
    have off : ∀ x : Int32, am_in x 30 → a.toNatClampNeg ≠ x.toNatClampNeg → (∀ w, z_b stk gr dr s a (30 * w + x.toNatClampNeg) = s (30 * w + x.toNatClampNeg) ∧ (z_rb en cap o1 dr' (s', b) a).1 (30 * w + x.toNatClampNeg) = s' (30 * w + x.toNatClampNeg)) ∧ (z_rb en cap o1 dr' (s', b) a).2 x.toNatClampNeg = b x.toNatClampNeg := fun x hx hne => ⟨fun w => by
      obtain ⟨f0, f1, f2, f3, f4, f5⟩ := z_far (w := w) ha hx hne
      exact ⟨z_b_o f0 f2 f4, z_rb_o f0 f1 f2 f4⟩, z_rb_ob (fun q => hne q.symm)⟩
    have at0 : ∀ x : Int32, s x.toNatClampNeg = s (30 * 0 + x.toNatClampNeg) := fun x => by rw [Nat.mul_zero, Nat.zero_add]
    have ih := z_beg (stk := stk) (en := en) (gr := gr) (cap := cap) (dr := dr) (o1 := o1) (dr' := dr') ms (z_b stk gr dr s a) (z_rb en cap o1 dr' (s', b) a).1 (z_rb en cap o1 dr' (s', b) a).2 (fun l hl => hin l (List.mem_cons_of_mem _ hl)) (List.pairwise_cons.mp hnd).2 (fun l hl => by
      have hlin := hin l (List.mem_cons_of_mem _ hl)
      obtain ⟨o1', o2'⟩ := off l hlin (hap l hl)
      obtain ⟨⟨q1, q2, q3⟩, q4⟩ := h l (List.mem_cons_of_mem _ hl)
      have ev : z_b stk gr dr s a l.toNatClampNeg = s l.toNatClampNeg := by
        have q := (o1' 0).1
        rwa [Nat.mul_zero, Nat.zero_add] at q
      refine ⟨⟨fun w hw => by rw [(o1' w).1, (o1' w).2]; exact q1 w hw, by rw [ev]; exact q2, fun z => by rw [o2'] at z; rw [ev]; exact q3 z⟩, ?_⟩
      rw [ev, o2']
      exact q4)
    obtain ⟨ih1, ih2⟩ := ih
    have fa := z_beg1 (h a List.mem_cons_self).1 (h a List.mem_cons_self).2
    show (∀ l ∈ a :: ms, z_M (ms.foldl (z_b stk gr dr) (z_b stk gr dr s a)) (ms.foldl (z_rb en cap o1 dr') (z_rb en cap o1 dr' (s', b) a)).1 (ms.foldl (z_rb en cap o1 dr') (z_rb en cap o1 dr' (s', b) a)).2 l ∧ _) ∧ ∀ x : Int32, am_in x 30 → (∀ l ∈ a :: ms, l.toNatClampNeg ≠ x.toNatClampNeg) → (∀ w, (ms.foldl (z_b stk gr dr) (z_b stk gr dr s a)) (30 * w + x.toNatClampNeg) = _ ∧ (ms.foldl (z_rb en cap o1 dr') (z_rb en cap o1 dr' (s', b) a)).1 (30 * w + x.toNatClampNeg) = _) ∧ (ms.foldl (z_rb en cap o1 dr') (z_rb en cap o1 dr' (s', b) a)).2 x.toNatClampNeg = _
    refine ⟨fun l hl => ?_, fun x hx hne => ?_⟩
    · rcases List.mem_cons.mp hl with rfl | hl2
      · obtain ⟨j1, j2⟩ := ih2 l ha (fun y hy q => hap y hy q.symm)
        obtain ⟨⟨m1, m2, m3⟩, m4⟩ := fa
        have ev := (j1 0).1
        rw [Nat.mul_zero, Nat.zero_add] at ev
        have ev1 := (j1 1).2
        rw [Nat.mul_one] at ev1
        refine ⟨⟨fun w hw h1 => by rw [(j1 w).1, (j1 w).2]; exact m1 w hw h1, by rw [ev]; exact m2, fun z => by rw [j2] at z; rw [ev, ev1]; exact m3 z⟩, (iff_of_eq (congrArg (fun q : Int32 => ¬ q = 0) j2)).trans m4⟩
      · have q := ih1 l hl2
        have hlin := hin l hl
        obtain ⟨o1', o2'⟩ := off l hlin (hap l hl2)
        rw [o2'] at q
        exact q
    · obtain ⟨j1, j2⟩ := ih2 x hx (fun l hl => hne l (List.mem_cons_of_mem _ hl))
      obtain ⟨o1', o2'⟩ := off x hx (hne a List.mem_cons_self)
      exact ⟨fun w => ⟨(j1 w).1.trans (o1' w).1, (j1 w).2.trans (o1' w).2⟩, j2.trans o2'⟩
