/-! runs: what both runs say -/
/-- cut to what is a loan's -/
def z_ct (s : Nat → Int64) : Nat → Int64 := fun k => if k < 180 then s k else 0
def z_cb (b : Nat → Int32) : Nat → Int32 := fun k => if k < 30 then b k else 0
theorem z_ct_u {s : Nat → Int64} {k : Nat} {v : Int64} (hk : k < 180) : z_ct (z_u s k v) = z_u (z_ct s) k v := by
  funext j
  unfold z_ct z_u
  by_cases z : j = k
  · rw [if_pos (by omega), if_pos z, if_pos z]
  · rw [if_neg z, if_neg z]
theorem z_ct_v {s : Nat → Int64} {k : Nat} (hk : k < 180) : z_ct s k = s k := if_pos hk
theorem z_cb_v {b : Nat → Int32} {k : Nat} (hk : k < 30) : z_cb b k = b k := if_pos hk
theorem z_cb_u {b : Nat → Int32} {k : Nat} {v : Int32} (hk : k < 30) : z_cb (z_ui b k v) = z_ui (z_cb b) k v := by
  funext j
  unfold z_cb z_ui
  by_cases z : j = k
  · rw [if_pos (by omega), if_pos z, if_pos z]
  · rw [if_neg z, if_neg z]
theorem z_ct_r0 {s : Nat → Int64} {l : Int32} (hl : am_in l 30) : z_ct (z_r0 s l) = z_r0 (z_ct s) l := by
  have g := g_cl hl
  unfold z_r0
  rw [z_ct_u (by omega), z_ct_u (by omega), z_ct_u (by omega)]
theorem z_ct_rb {en : Int32 → Bool} {cap o1 dr : Int32 → Int64 → Int64} {p : (Nat → Int64) × (Nat → Int32)} {l : Int32} (hl : am_in l 30) : (z_ct (z_rb en cap o1 dr p l).1, z_cb (z_rb en cap o1 dr p l).2) = z_rb en cap o1 dr (z_ct p.1, z_cb p.2) l := by
  have g := g_cl hl
  have zb : z_cb p.2 l.toNatClampNeg = p.2 l.toNatClampNeg := z_cb_v g
  have zs : z_ct p.1 l.toNatClampNeg = p.1 l.toNatClampNeg := z_ct_v (by omega)
  unfold z_rb
  dsimp only
  by_cases z : p.2 l.toNatClampNeg = 0
  · rw [if_neg (show ¬ ¬ p.2 l.toNatClampNeg = 0 from fun q => q z), if_neg (show ¬ ¬ z_cb p.2 l.toNatClampNeg = 0 from fun q => q (zb.trans z))]
    by_cases y : en l = true
    · rw [if_pos y, if_pos y, zs]
      refine Prod.ext ?_ ?_
      · show z_ct (z_u _ _ _) = z_u _ _ _
        rw [z_ct_u (by omega), z_ct_u (by omega), z_ct_r0 hl]
      · exact z_cb_u g
    · rw [if_neg y, if_neg y, zs]
      refine Prod.ext ?_ rfl
      show z_ct (z_u _ _ _) = z_u _ _ _
      rw [z_ct_u (by omega), z_ct_u (by omega), z_ct_r0 hl]
  · rw [if_pos z, if_pos (show ¬ z_cb p.2 l.toNatClampNeg = 0 from fun q => z (zb.symm.trans q))]
    exact Prod.ext (z_ct_r0 hl) rfl
theorem z_ct_rbs {en : Int32 → Bool} {cap o1 dr : Int32 → Int64 → Int64} : ∀ {ms : List Int32} {p : (Nat → Int64) × (Nat → Int32)}, (∀ l ∈ ms, am_in l 30) → (z_ct (ms.foldl (z_rb en cap o1 dr) p).1, z_cb (ms.foldl (z_rb en cap o1 dr) p).2) = ms.foldl (z_rb en cap o1 dr) (z_ct p.1, z_cb p.2)
  | [], _, _ => rfl
  | a :: ms, p, h => by
    show (z_ct (ms.foldl (z_rb en cap o1 dr) (z_rb en cap o1 dr p a)).1, z_cb (ms.foldl (z_rb en cap o1 dr) (z_rb en cap o1 dr p a)).2) = ms.foldl (z_rb en cap o1 dr) (z_rb en cap o1 dr (z_ct p.1, z_cb p.2) a)
    rw [z_ct_rbs (fun l hl => h l (List.mem_cons_of_mem _ hl)), z_ct_rb (h a List.mem_cons_self)]
theorem z_ct_rp {b : Nat → Int32} {p : (Nat → Int64) × Int64} {l : Int32} (hl : am_in l 30) : (z_ct (z_rp b p l).1, (z_rp b p l).2) = z_rp (z_cb b) (z_ct p.1, p.2) l := by
  have g := g_cl hl
  unfold z_rp
  dsimp only
  rw [z_cb_v g, z_ct_v (by omega)]
  by_cases z : 0 < p.2 ∧ b l.toNatClampNeg = 0
  · rw [if_pos z, if_pos z, ← z_ct_u (by omega)]
  · rw [if_neg z, if_neg z]
theorem z_ct_rps {b : Nat → Int32} : ∀ {Q : List Int32} {p : (Nat → Int64) × Int64}, (∀ l ∈ Q, am_in l 30) → (z_ct (Q.foldl (z_rp b) p).1, (Q.foldl (z_rp b) p).2) = Q.foldl (z_rp (z_cb b)) (z_ct p.1, p.2)
  | [], _, _ => rfl
  | a :: Q, p, h => by
    show (z_ct (Q.foldl (z_rp b) (z_rp b p a)).1, (Q.foldl (z_rp b) (z_rp b p a)).2) = Q.foldl (z_rp (z_cb b)) (z_rp (z_cb b) (z_ct p.1, p.2) a)
    rw [z_ct_rps (fun l hl => h l (List.mem_cons_of_mem _ hl)), z_ct_rp (h a List.mem_cons_self)]
theorem z_ct_tk {ask : Int32 → Int64} {sd : Int32 → Bool} {p : (Nat → Int64) × Int64} {l : Int32} (hl : am_in l 30) : (z_ct (z_tk ask sd p l).1, (z_tk ask sd p l).2) = z_tk ask sd (z_ct p.1, p.2) l := by
  have g := g_cl hl
  unfold z_tk
  dsimp only
  rw [z_ct_v (by omega)]
  refine Prod.ext ?_ rfl
  dsimp only
  by_cases z : sd l = true
  · simp only [if_pos z]
    rw [z_ct_u (by omega), z_ct_u (by omega), z_ct_u (by omega), z_ct_u (by omega)]
    have e3 : z_u (z_u (z_ct p.1) l.toNatClampNeg (p.1 l.toNatClampNeg - z_tn (ask l) p.2 (p.1 l.toNatClampNeg))) (30 + l.toNatClampNeg) (z_tn (ask l) p.2 (p.1 l.toNatClampNeg)) (90 + l.toNatClampNeg) = z_u (z_u p.1 l.toNatClampNeg (p.1 l.toNatClampNeg - z_tn (ask l) p.2 (p.1 l.toNatClampNeg))) (30 + l.toNatClampNeg) (z_tn (ask l) p.2 (p.1 l.toNatClampNeg)) (90 + l.toNatClampNeg) := by
      rw [z_u_n (by omega), z_u_n (by omega), z_u_n (by omega), z_u_n (by omega), z_ct_v (by omega)]
    rw [e3]
    congr 1
    rw [z_u_n (by omega), z_u_n (by omega), z_u_n (by omega), z_u_n (by omega), z_u_n (by omega), z_u_n (by omega), z_ct_v (by omega)]
  · simp only [if_neg z]
    rw [z_ct_u (by omega), z_ct_u (by omega), z_ct_u (by omega)]
    congr 1
    rw [z_u_n (by omega), z_u_n (by omega), z_u_n (by omega), z_u_n (by omega), z_ct_v (by omega)]
theorem z_ct_rk {ask : Int32 → Int64} {sd : Int32 → Bool} {b : Nat → Int32} {p : (Nat → Int64) × Int64} {l : Int32} (hl : am_in l 30) : (z_ct (z_rk ask sd b p l).1, (z_rk ask sd b p l).2) = z_rk ask sd (z_cb b) (z_ct p.1, p.2) l := by
  unfold z_rk
  rw [z_cb_v (g_cl hl)]
  by_cases z : b l.toNatClampNeg = 0
  · rw [if_pos z, if_pos z]
    exact z_ct_tk hl
  · rw [if_neg z, if_neg z]
theorem z_ct_rks {ask : Int32 → Int64} {sd : Int32 → Bool} {b : Nat → Int32} : ∀ {Q : List Int32} {p : (Nat → Int64) × Int64}, (∀ l ∈ Q, am_in l 30) → (z_ct (Q.foldl (z_rk ask sd b) p).1, (Q.foldl (z_rk ask sd b) p).2) = Q.foldl (z_rk ask sd (z_cb b)) (z_ct p.1, p.2)
  | [], _, _ => rfl
  | a :: Q, p, h => by
    show (z_ct (Q.foldl (z_rk ask sd b) (z_rk ask sd b p a)).1, (Q.foldl (z_rk ask sd b) (z_rk ask sd b p a)).2) = Q.foldl (z_rk ask sd (z_cb b)) (z_rk ask sd (z_cb b) (z_ct p.1, p.2) a)
    rw [z_ct_rks (fun l hl => h l (List.mem_cons_of_mem _ hl)), z_ct_rk (h a List.mem_cons_self)]
theorem z_pf_in {own : Int32 → Bool} {f : Int32 → Nat} {n o : Nat} (hn : n ≤ 30) {l : Int32} (h : l ∈ z_pf own f n (o * n)) : am_in l 30 := by
  rcases Nat.eq_zero_or_pos n with z | z
  · subst z
    rw [Nat.mul_zero, z_pf_0] at h
    exact absurd h List.not_mem_nil
  · rw [z_pf_e z] at h
    have w := (z_mine_in (by omega) (z_q_in h)).1
    exact ⟨w.1, by have := w.2; omega⟩
theorem r_Y_ct {M : am_M} {p y e a d : Int32} {q : Int64} {S : (Nat → Int64) × (Nat → Int32)} (hn : r_n M ≤ 30) : (z_ct (r_Y M p y e a d q S).1, z_cb (r_Y M p y e a d q S).2) = r_Y M p y e a d q (z_ct S.1, z_cb S.2) := by
  have hm : ∀ l ∈ r_mine M p (r_n M), am_in l 30 := fun l hl => by
    have w := (z_mine_in (by omega) hl).1
    exact ⟨w.1, by have := w.2; omega⟩
  have hQ : ∀ l ∈ z_pf (r_own M p) (r_of M p y) (r_n M) (10 * r_n M), am_in l 30 := fun l hl => z_pf_in hn hl
  have B := z_ct_rbs (en := r_ends M y d) (cap := fun l o => r_cap o (r_rt M l y e a o)) (o1 := r_o1 M y) (dr := r_dr M y) (p := S) hm
  unfold r_Y
  rw [← B]
  dsimp only
  generalize (r_mine M p (r_n M)).foldl (r_bg M y e a d) S = T
  have P := z_ct_rps (b := T.2) (p := (T.1, q)) hQ
  dsimp only at P
  rw [← P]
  dsimp only
  generalize (z_pf (r_own M p) (r_of M p y) (r_n M) (10 * r_n M)).foldl (z_rp T.2) (T.1, q) = U
  have K := z_ct_rks (ask := r_due M y e a) (sd := r_sd M y) (b := T.2) (p := (U.1, 0)) hQ
  dsimp only at K
  rw [← K]
theorem r_it_ct {M : am_M} {p k : Int32} (hn : r_n M ≤ 30) : ∀ {n : Nat} {S : (Nat → Int64) × (Nat → Int32)}, (z_ct (z_it (r_yr M p k) 0 n S).1, z_cb (z_it (r_yr M p k) 0 n S).2) = z_it (r_yr M p k) 0 n (z_ct S.1, z_cb S.2)
  | 0, _ => rfl
  | n + 1, S => by
    show (z_ct (r_yr M p k (0 + n) (z_it (r_yr M p k) 0 n S)).1, z_cb (r_yr M p k (0 + n) (z_it (r_yr M p k) 0 n S)).2) = r_yr M p k (0 + n) (z_it (r_yr M p k) 0 n (z_ct S.1, z_cb S.2))
    rw [← r_it_ct hn]
    exact r_Y_ct hn
theorem z_zero.ct {S : (Nat → Int64) × (Nat → Int32)} (h : z_zero S) : (z_ct S.1, z_cb S.2) = z_00s := by
  refine Prod.ext (funext fun k => ?_) (funext fun k => ?_)
  · show (if k < 180 then S.1 k else 0) = 0
    split
    · exact h.1 k (by assumption)
    · rfl
  · show (if k < 30 then S.2 k else 0) = 0
    split
    · exact h.2 k (by assumption)
    · rfl
/-- a run of the reference, from nothing on -/
abbrev r_R (M : am_M) (p k : Int32) (n : Nat) : (Nat → Int64) × (Nat → Int32) := z_it (r_yr M p k) 0 n z_00s
theorem r_R_of {M M' : am_M} {p k : Int32} {n : Nat} {S : (Nat → Int64) × (Nat → Int32)} (n1 : 0 ≤ (M.1 201 1).toInt ∧ (M.1 201 1).toInt ≤ 30) (h : r_s2 M' = z_it (r_yr M p k) 0 n S) (z : z_zero S) : (∀ j, j < 180 → r_fl M' j = (r_R M p k n).1 j) ∧ ∀ l, l < 30 → M'.1 213 l = (r_R M p k n).2 l := by
  have c : (r_n M : Int) = (M.1 201 1).toInt := i_clamp n1.1
  have e := r_it_ct (M := M) (p := p) (k := k) (n := n) (S := S) (by omega)
  rw [z.ct, ← h] at e
  refine ⟨fun j hj => ?_, fun l hl => ?_⟩
  · rw [r_R, ← e]
    exact (z_ct_v hj).symm
  · rw [r_R, ← e]
    exact (z_cb_v hl).symm
section LXG
variable {i1 i2 : Bool} {M N : am_M} {p k : Int32}
theorem LX.roa (h : LX i1 i2 M) : r_oa M p := ⟨(), fun y _ => ⟨(), fun pl hpl => (z_isNum (h.li.nums (y := y) hpl ⟨by decide, by decide⟩)).2.2.2.2.1 rfl⟩⟩
theorem LX.coa (h : LX i1 i2 M) (hp : am_in p 12) (hp2 : p.toInt < (M.1 201 0).toInt) (hk : am_in k 40) (hb : c_bg M p k N) (hN : g_rI N) : c_oa N := by
  refine ⟨(), fun y hy => ⟨(), fun i hi => ?_⟩⟩
  have n1 := h.li.n1
  rw [c_look_1 (fun q => absurd q.2 (by decide))] at hi
  have sz := hN.s.sz
  have cs : (c_sz N : Int) = (N.1 4 7).toInt := i_clamp sz.1
  have hm : N.1 7 i ∈ r_mine M p (r_n M) := by
    rw [← h.li.mine, ← hb.ms]
    exact List.mem_map.mpr ⟨i, List.mem_range.mpr (by omega), rfl⟩
  have hne : c_mine M p (M.1 33 2).toNatClampNeg ≠ [] := fun q => by
    rw [← h.li.mine, q] at hm
    exact absurd hm List.not_mem_nil
  obtain ⟨lk, -⟩ := h.lk hp hp2 hk hb hne hy
  have zi := r_mine_z n1 hm
  rw [c_look_1 (fun q => absurd q.1 (by decide)), lk.cell zi ⟨by decide, by decide⟩]
  exact (z_isNum (lk.cr zi (w := 4) ⟨by decide, by decide⟩)).2.2.2.2.1 rfl
/-- the class's run, gone to a year -/
theorem LX.go (h : LX i1 i2 M) (hp : am_in p 12) (hp2 : p.toInt < (M.1 201 0).toInt) (hk : am_in k 40) (hb : c_bg M p k N) {N2 : am_M} {u : Int32} (hu : -1 ≤ u.toInt ∧ u.toInt ≤ 39) (hs : c_st N2 = z_it (fun y => c_yr N (Int32.ofNat y)) (N.1 4 10).toNatClampNeg (c_nn (N.1 4 10) u) (c_st N)) : z_RR M p (u.toInt + 1) (N2.2 6) (r_R M p k (u.toInt + 1).toNat).1 (r_R M p k (u.toInt + 1).toNat).2 ∧ N2.2 4 14 = 0 ∧ N2.2 4 15 = 0 := by
  obtain ⟨-, f10, -⟩ := hb.f
  have en : c_nn (N.1 4 10) u = (u.toInt + 1).toNat := by
    rw [f10]
    unfold c_nn
    rw [if_pos hu.2, Int32.toInt_zero, Int.sub_zero]
  have e0 : (N.1 4 10).toNatClampNeg = 0 := by rw [f10]; rfl
  rw [en, e0] at hs
  obtain ⟨r1, r2⟩ := h.run hp hp2 hk hb (u.toInt + 1).toNat (by omega)
  rw [← hs, show (((u.toInt + 1).toNat : Nat) : Int) = u.toInt + 1 by omega] at r1
  rw [← hs] at r2
  exact ⟨r1, congrArg Prod.fst r2, congrArg Prod.snd r2⟩
/-- a loan's person is one -/
theorem LI.pe (h : LI i1 i2 M) {l : Int32} (hl : am_in l 30) (hl2 : l.toInt < (M.1 201 1).toInt) : am_in (r_lo M l 0) 12 ∧ (r_lo M l 0).toInt < (M.1 201 0).toInt ∧ l ∈ r_mine M (r_lo M l 0) (r_n M) := by
  have c := i_clamp hl.1
  have n1 := h.n1
  have cn : (r_n M : Int) = (M.1 201 1).toInt := i_clamp n1.1
  obtain ⟨-, q, -⟩ := h.b.l
  have q1 := q l.toNatClampNeg (g_cl hl) (by show _ < (M.1 201 (0 + 1)).toInt; rw [Nat.zero_add]; omega)
  (try dsimp only at q1)
  rw [Nat.zero_add, Nat.zero_add] at q1
  have r0 := r_lcol hl (w := 0) ⟨by decide, by decide⟩
  simp only [Int32.reduceToInt, Int32.toInt_zero] at r0
  have l1 := hl.1
  have l2 := hl.2
  have c0 := i_clamp (x := 2838 + 8 * l + 0) (by omega)
  have e0 : r_lo M l 0 = M.1 201 (2838 + 8 * l.toNatClampNeg) := by
    unfold r_lo
    rw [show (2838 + 8 * l + 0).toNatClampNeg = 2838 + 8 * l.toNatClampNeg by omega]
  refine ⟨r_pers h.i hl, by rw [e0]; exact q1, z_mine_mem (by omega) ⟨l1, by omega⟩ (r_own_iff.mpr rfl)⟩
end LXG
