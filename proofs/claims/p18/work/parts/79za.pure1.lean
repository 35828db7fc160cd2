/-! runs, pure: paid ahead, taken; a whole year -/
theorem z_mn_b {a o : Int64} (ha : 0 ≤ a.toInt) (ho : z_ok o) : 0 ≤ (z_mn a o).toInt ∧ (z_mn a o).toInt ≤ a.toInt ∧ (z_mn a o).toInt ≤ o.toInt ∧ z_ok (o - z_mn a o) ∧ (o = 0 → z_mn a o = 0) := by
  obtain ⟨o0, o1⟩ := ho
  have m : 0 ≤ (z_mn a o).toInt ∧ (z_mn a o).toInt ≤ a.toInt ∧ (z_mn a o).toInt ≤ o.toInt := by
    unfold z_mn
    by_cases z : o < a
    · rw [if_pos z]
      rw [Int64.lt_iff_toInt_lt] at z
      omega
    · rw [if_neg z]
      rw [Int64.lt_iff_toInt_lt] at z
      omega
  have es := l_sub (x := o) (y := z_mn a o) (by omega) (by omega)
  refine ⟨m.1, m.2.1, m.2.2, ⟨by omega, by omega⟩, fun q => ?_⟩
  apply Int64.toInt_inj.mp
  rw [q] at m ⊢
  have k0 : (0 : Int64).toInt = 0 := rfl
  omega
theorem z_far2 {a l : Int32} {w : Nat} (ha : am_in a 30) (hl : am_in l 30) (h : a.toNatClampNeg ≠ l.toNatClampNeg) : 30 * w + l.toNatClampNeg ≠ a.toNatClampNeg := (z_far ha hl h).1
theorem z_row {l : Int32} {w : Nat} (hw : w ≠ 0) : 30 * w + l.toNatClampNeg ≠ l.toNatClampNeg := by omega
/-- the loans of a run, begun -/
def z_MM (ms : List Int32) (s s' : Nat → Int64) (b : Nat → Int32) : Prop := ∀ l ∈ ms, z_M s s' b l
/-- one paid ahead of -/
theorem z_M.pay {ms : List Int32} {s s' : Nat → Int64} {b : Nat → Int32} (hin : ∀ l ∈ ms, am_in l 30) (h : z_MM ms s s' b) {x : Int32} (hx : x ∈ ms) {t : Int64} (ht : z_ok (s x.toNatClampNeg - t)) (hb : ¬ b x.toNatClampNeg = 0 → t = 0) : z_MM ms (z_u s x.toNatClampNeg (s x.toNatClampNeg - t)) (z_u s' x.toNatClampNeg (s' x.toNatClampNeg - t)) b := by
  intro l hl
  obtain ⟨q1, q2, q3⟩ := h l hl
  have hxi := hin x hx
  have hli := hin l hl
  have gl := g_cl hli
  have gx := g_cl hxi
  have e0 := (h x hx).1 0 (by decide) (by decide)
  rw [Nat.mul_zero, Nat.zero_add] at e0
  by_cases z : x.toNatClampNeg = l.toNatClampNeg
  · refine ⟨fun w hw h1 => ?_, by rw [z]; rw [z] at ht; rw [z_u_e]; exact ht, fun y => ?_⟩
    · by_cases w0 : w = 0
      · subst w0
        rw [Nat.mul_zero, Nat.zero_add, ← z, z_u_e, z_u_e, e0]
      · rw [z_u_n (by omega), z_u_n (by omega)]
        exact q1 w hw h1
    · obtain ⟨y1, y2⟩ := q3 y
      rw [← z] at y y1 ⊢
      rw [z_u_e, z_u_n (by omega), hb y, y1, Int64.sub_zero, z]
      exact ⟨rfl, y2⟩
  · refine ⟨fun w hw h1 => ?_, by rw [z_u_n (fun q => z q.symm)]; exact q2, fun y => ?_⟩
    · rw [z_u_n (by omega), z_u_n (by omega)]
      exact q1 w hw h1
    · rw [z_u_n (fun q => z q.symm), z_u_n (by omega)]
      exact q3 y
theorem z_pays {ms : List Int32} {b : Nat → Int32} (hin : ∀ l ∈ ms, am_in l 30) : ∀ (Q : List Int32) (s s' : Nat → Int64) (due paid : Int64), (∀ l ∈ Q, l ∈ ms) → z_MM ms s s' b → 0 ≤ due.toInt →
    z_MM ms (Q.foldl z_pay (s, due, paid)).1 (Q.foldl (z_rp b) (s', due)).1 b ∧ (Q.foldl z_pay (s, due, paid)).2.1 = (Q.foldl (z_rp b) (s', due)).2 ∧ (Q.foldl z_pay (s, due, paid)).2.2 = paid + (due - (Q.foldl (z_rp b) (s', due)).2)
  | [], s, s', due, paid, _, h, _ => ⟨h, rfl, by show paid = paid + (due - due); rw [Int64.sub_self, Int64.add_zero]⟩
  | x :: Q, s, s', due, paid, hQ, h, hd => by
    have hx := hQ x List.mem_cons_self
    obtain ⟨q1, q2, q3⟩ := h x hx
    have e0 := q1 0 (by decide) (by decide)
    rw [Nat.mul_zero, Nat.zero_add] at e0
    obtain ⟨m1, m2, m3, m4, m5⟩ := z_mn_b hd q2
    have es := l_sub (x := due) (y := z_mn due (s x.toNatClampNeg)) (by have := q2.2; omega) (by have := Int64.toInt_lt due; omega)
    have step : z_rp b (s', due) x = (z_u s' x.toNatClampNeg (s' x.toNatClampNeg - z_mn due (s x.toNatClampNeg)), due - z_mn due (s x.toNatClampNeg)) := by
      unfold z_rp
      by_cases z : 0 < due ∧ b x.toNatClampNeg = 0
      · rw [if_pos z]
        dsimp only
        rw [← e0]
      · rw [if_neg z]
        have t0 : z_mn due (s x.toNatClampNeg) = 0 := by
          by_cases zb : b x.toNatClampNeg = 0
          · have hd0 : ¬ 0 < due := fun q => z ⟨q, zb⟩
            rw [Int64.lt_iff_toInt_lt] at hd0
            have k0 : (0 : Int64).toInt = 0 := rfl
            apply Int64.toInt_inj.mp
            omega
          · exact m5 (q3 zb).1
        rw [t0, Int64.sub_zero, Int64.sub_zero]
        refine Prod.ext ?_ rfl
        funext j
        show s' j = z_u s' _ _ j
        unfold z_u
        by_cases y : j = x.toNatClampNeg
        · rw [if_pos y, y]
        · rw [if_neg y]
    have ih := z_pays hin Q (z_u s x.toNatClampNeg (s x.toNatClampNeg - z_mn due (s x.toNatClampNeg))) (z_u s' x.toNatClampNeg (s' x.toNatClampNeg - z_mn due (s x.toNatClampNeg))) (due - z_mn due (s x.toNatClampNeg)) (paid + z_mn due (s x.toNatClampNeg)) (fun l hl => hQ l (List.mem_cons_of_mem _ hl)) (z_M.pay hin h hx m4 (fun y => m5 (q3 y).1)) (by omega)
    show z_MM ms (Q.foldl z_pay (z_pay (s, due, paid) x)).1 (Q.foldl (z_rp b) (z_rp b (s', due) x)).1 b ∧ (Q.foldl z_pay (z_pay (s, due, paid) x)).2.1 = (Q.foldl (z_rp b) (z_rp b (s', due) x)).2 ∧ (Q.foldl z_pay (z_pay (s, due, paid) x)).2.2 = paid + (due - (Q.foldl (z_rp b) (z_rp b (s', due) x)).2)
    rw [step]
    refine ⟨ih.1, ih.2.1, ih.2.2.trans ?_⟩
    generalize (Q.foldl (z_rp b) _).2 = r
    generalize z_mn due (s x.toNatClampNeg) = t
    rw [Int64.add_assoc]
    congr 1
    rw [Int64.sub_eq_add_neg, Int64.sub_eq_add_neg, Int64.sub_eq_add_neg, ← Int64.add_assoc, Int64.add_comm t, Int64.add_assoc due, Int64.add_left_neg, Int64.add_zero]
/-- begun, and so far taken -/
def z_TT (ms : List Int32) (s s' : Nat → Int64) (b : Nat → Int32) (pre : List Int32) : Prop := z_MM ms s s' b ∧ ∀ l ∈ pre, s (30 + l.toNatClampNeg) = s' (30 + l.toNatClampNeg)
/-- rows of a loan behind it -/
theorem z_tk_v {ask : Int32 → Int64} {sd : Int32 → Bool} {s : Nat → Int64} {v : Int64} {x : Int32} : (z_tk ask sd (s, v) x).2 = v + z_tn (ask x) v (s x.toNatClampNeg) ∧ (z_tk ask sd (s, v) x).1 x.toNatClampNeg = s x.toNatClampNeg - z_tn (ask x) v (s x.toNatClampNeg) ∧ (z_tk ask sd (s, v) x).1 (30 + x.toNatClampNeg) = z_tn (ask x) v (s x.toNatClampNeg) ∧ (z_tk ask sd (s, v) x).1 (90 + x.toNatClampNeg) = s (90 + x.toNatClampNeg) + z_tn (ask x) v (s x.toNatClampNeg) ∧ (z_tk ask sd (s, v) x).1 (150 + x.toNatClampNeg) = s (150 + x.toNatClampNeg) + (if sd x = true then z_tn (ask x) v (s x.toNatClampNeg) else 0) ∧ ∀ k, k ≠ x.toNatClampNeg → k ≠ 30 + x.toNatClampNeg → k ≠ 90 + x.toNatClampNeg → k ≠ 150 + x.toNatClampNeg → (z_tk ask sd (s, v) x).1 k = s k := by
  unfold z_tk
  dsimp only
  generalize z_tn (ask x) v (s x.toNatClampNeg) = t
  by_cases z : sd x = true
  · simp only [if_pos z]
    refine ⟨trivial, ?_, ?_, ?_, ?_, fun k h0 h1 h3 h5 => ?_⟩
    · rw [z_u_n (by omega), z_u_n (by omega), z_u_n (by omega), z_u_e]
    · rw [z_u_n (by omega), z_u_n (by omega), z_u_e]
    · rw [z_u_n (by omega), z_u_e, z_u_n (by omega), z_u_n (by omega)]
    · rw [z_u_e, z_u_n (by omega), z_u_n (by omega), z_u_n (by omega)]
    · rw [z_u_n h5, z_u_n h3, z_u_n h1, z_u_n h0]
  · simp only [if_neg z]
    refine ⟨trivial, ?_, ?_, ?_, ?_, fun k h0 h1 h3 h5 => ?_⟩
    · rw [z_u_n (by omega), z_u_n (by omega), z_u_e]
    · rw [z_u_n (by omega), z_u_e]
    · rw [z_u_e, z_u_n (by omega), z_u_n (by omega)]
    · rw [z_u_n (by omega), z_u_n (by omega), z_u_n (by omega), Int64.add_zero]
    · rw [z_u_n h3, z_u_n h1, z_u_n h0]
theorem z_tn_b {a v o : Int64} (ho : z_ok o) : z_ok (o - z_tn a v o) ∧ (o = 0 → z_tn a v o = 0) := by
  unfold z_tn
  have h0 : 0 ≤ (if a - v < 0 then 0 else a - v : Int64).toInt := by
    split
    · decide
    · next q =>
      rw [Int64.lt_iff_toInt_lt] at q
      have k0 : (0 : Int64).toInt = 0 := rfl
      omega
  obtain ⟨-, -, -, m4, m5⟩ := z_mn_b h0 ho
  exact ⟨m4, m5⟩
theorem z_takes {ms : List Int32} {b : Nat → Int32} {ask ask' : Int32 → Int64} {sd sd' : Int32 → Bool} (hin : ∀ l ∈ ms, am_in l 30) (ha : ∀ l ∈ ms, ask l = ask' l) (hs : ∀ l ∈ ms, sd l = sd' l) : ∀ (Q pre : List Int32) (s s' : Nat → Int64) (v : Int64), (∀ l ∈ Q, l ∈ ms) → (∀ l ∈ pre, l ∈ ms) → z_TT ms s s' b pre →
    z_TT ms (Q.foldl (z_tk ask sd) (s, v)).1 (Q.foldl (z_rk ask' sd' b) (s', v)).1 b (pre ++ Q)
  | [], pre, s, s', v, _, _, h => by rw [List.append_nil]; exact h
  | x :: Q, pre, s, s', v, hQ, hp, h => by
    have hx := hQ x List.mem_cons_self
    have hxi := hin x hx
    have gx := g_cl hxi
    obtain ⟨hM, hT⟩ := h
    obtain ⟨q1, q2, q3⟩ := hM x hx
    have e0 := q1 0 (by decide) (by decide)
    have e3 := q1 3 (by decide) (by decide)
    have e5 := q1 5 (by decide) (by decide)
    rw [Nat.mul_zero, Nat.zero_add] at e0
    obtain ⟨t1, t2, t3, t4, t5, t6⟩ := z_tk_v (ask := ask) (sd := sd) (s := s) (v := v) (x := x)
    obtain ⟨m4, m5⟩ := z_tn_b (a := ask x) (v := v) q2
    -- the reference's step, by its rows
    have key : ∀ (S : Nat → Int64), S x.toNatClampNeg = s' x.toNatClampNeg - z_tn (ask x) v (s x.toNatClampNeg) → S (30 + x.toNatClampNeg) = z_tn (ask x) v (s x.toNatClampNeg) → S (90 + x.toNatClampNeg) = s' (90 + x.toNatClampNeg) + z_tn (ask x) v (s x.toNatClampNeg) → S (150 + x.toNatClampNeg) = s' (150 + x.toNatClampNeg) + (if sd x = true then z_tn (ask x) v (s x.toNatClampNeg) else 0) → (∀ k, k ≠ x.toNatClampNeg → k ≠ 30 + x.toNatClampNeg → k ≠ 90 + x.toNatClampNeg → k ≠ 150 + x.toNatClampNeg → S k = s' k) → z_TT ms (z_tk ask sd (s, v) x).1 S b (pre ++ [x]) := fun S u0 u1 u3 u5 uo => by
      have row1 : ∀ l ∈ ms, l.toNatClampNeg ≠ x.toNatClampNeg → (z_tk ask sd (s, v) x).1 (30 + l.toNatClampNeg) = s (30 + l.toNatClampNeg) ∧ S (30 + l.toNatClampNeg) = s' (30 + l.toNatClampNeg) := fun l hl hne => by
        have gl := g_cl (hin l hl)
        exact ⟨t6 _ (by omega) (by omega) (by omega) (by omega), uo _ (by omega) (by omega) (by omega) (by omega)⟩
      refine ⟨fun l hl => ?_, fun l hl => ?_⟩
      · obtain ⟨p1, p2, p3⟩ := hM l hl
        have gl := g_cl (hin l hl)
        by_cases z : l.toNatClampNeg = x.toNatClampNeg
        · unfold z_M
          rw [z]
          refine ⟨fun w hw h1 => ?_, by rw [t2]; exact m4, fun y => ?_⟩
          · rcases z_w6 hw with rfl | rfl | rfl | rfl | rfl | rfl
            · rw [Nat.mul_zero, Nat.zero_add, t2, u0, e0]
            · exact absurd rfl h1
            · have := p1 2 (by decide) (by decide)
              rw [z] at this
              rw [t6 _ (by omega) (by omega) (by omega) (by omega), uo _ (by omega) (by omega) (by omega) (by omega)]
              exact this
            · rw [show 30 * 3 + x.toNatClampNeg = 90 + x.toNatClampNeg by omega, t4, u3]
              rw [show 30 * 3 + x.toNatClampNeg = 90 + x.toNatClampNeg by omega] at e3
              rw [e3]
            · have := p1 4 (by decide) (by decide)
              rw [z] at this
              rw [t6 _ (by omega) (by omega) (by omega) (by omega), uo _ (by omega) (by omega) (by omega) (by omega)]
              exact this
            · rw [show 30 * 5 + x.toNatClampNeg = 150 + x.toNatClampNeg by omega, t5, u5]
              rw [show 30 * 5 + x.toNatClampNeg = 150 + x.toNatClampNeg by omega] at e5
              rw [e5]
          · obtain ⟨y1, y2⟩ := q3 y
            rw [t2, u1, m5 y1, y1, Int64.sub_zero]
            exact ⟨rfl, rfl⟩
        · refine ⟨fun w hw h1 => ?_, ?_, fun y => ?_⟩
          · rw [t6 _ (by omega) (by omega) (by omega) (by omega), uo _ (by omega) (by omega) (by omega) (by omega)]
            exact p1 w hw h1
          · rw [t6 _ (by omega) (by omega) (by omega) (by omega)]
            exact p2
          · rw [t6 _ (by omega) (by omega) (by omega) (by omega), (row1 l hl z).2]
            exact p3 y
      · by_cases z : l.toNatClampNeg = x.toNatClampNeg
        · rw [z, t3, u1]
        · rcases List.mem_append.mp hl with q | q
          · obtain ⟨r1, r2⟩ := row1 l (hp l q) z
            rw [r1, r2]
            exact hT l q
          · rw [List.mem_singleton.mp q] at z
            exact absurd rfl z
    have st : z_TT ms (z_tk ask sd (s, v) x).1 (z_rk ask' sd' b (s', v) x).1 b (pre ++ [x]) ∧ (z_rk ask' sd' b (s', v) x).2 = (z_tk ask sd (s, v) x).2 := by
      unfold z_rk
      by_cases zb : b x.toNatClampNeg = 0
      · rw [if_pos zb]
        obtain ⟨w1, w2, w3, w4, w5, w6⟩ := z_tk_v (ask := ask') (sd := sd') (s := s') (v := v) (x := x)
        rw [← ha x hx, ← e0] at w1 w2 w3 w4 w5
        rw [← hs x hx] at w5
        exact ⟨key _ (by rw [w2, e0]) w3 w4 w5 w6, by rw [w1, t1]⟩
      · rw [if_neg zb]
        obtain ⟨y1, y2⟩ := q3 zb
        have t0 := m5 y1
        refine ⟨key s' (by rw [t0, Int64.sub_zero]) (by rw [t0]; exact y2) (by rw [t0, Int64.add_zero]) (by rw [t0]; split <;> rw [Int64.add_zero]) (fun _ _ _ _ _ => rfl), ?_⟩
        rw [t1, t0, Int64.add_zero]
    have ih := z_takes hin ha hs Q (pre ++ [x]) (z_tk ask sd (s, v) x).1 (z_rk ask' sd' b (s', v) x).1 (z_tk ask sd (s, v) x).2 (fun l hl => hQ l (List.mem_cons_of_mem _ hl)) (fun l hl => by
      rcases List.mem_append.mp hl with q | q
      · exact hp l q
      · rw [List.mem_singleton.mp q]; exact hx) st.1
    rw [List.append_assoc] at ih
    show z_TT ms (Q.foldl (z_tk ask sd) (z_tk ask sd (s, v) x)).1 (Q.foldl (z_rk ask' sd' b) (z_rk ask' sd' b (s', v) x)).1 b (pre ++ x :: Q)
    rw [show z_rk ask' sd' b (s', v) x = ((z_rk ask' sd' b (s', v) x).1, (z_tk ask sd (s, v) x).2) from Prod.ext rfl st.2]
    exact ih
theorem z_q_in {f : Int32 → Nat} {ms : List Int32} : ∀ {o : Nat} {l : Int32}, l ∈ z_q f ms o → l ∈ ms
  | 0, _, h => absurd h List.not_mem_nil
  | o + 1, l, h => by
    rcases List.mem_append.mp h with q | q
    · exact z_q_in q
    · exact (List.mem_filter.mp q).1
theorem z_q_all {f : Int32 → Nat} {ms : List Int32} : ∀ {o : Nat} {l : Int32}, l ∈ ms → f l < o → l ∈ z_q f ms o
  | 0, _, _, h => absurd h (Nat.not_lt_zero _)
  | o + 1, l, hl, h => by
    show l ∈ z_q f ms o ++ _
    by_cases z : f l = o
    · exact List.mem_append_right _ (List.mem_filter.mpr ⟨hl, decide_eq_true z⟩)
    · exact List.mem_append_left _ (z_q_all hl (by omega))
theorem z_q_cg {f g : Int32 → Nat} {ms : List Int32} (h : ∀ l ∈ ms, f l = g l) : ∀ o, z_q f ms o = z_q g ms o
  | 0 => rfl
  | o + 1 => by
    show z_q f ms o ++ _ = z_q g ms o ++ _
    rw [z_q_cg h o]
    congr 1
    refine List.filter_congr (fun l hl => ?_)
    rw [h l hl]
/-- a year: class and reference in step -/
def z_Z (ms : List Int32) (s s' : Nat → Int64) (b : Nat → Int32) : Prop := ∀ l ∈ ms, z_L s s' b l
theorem z_year {ms Q : List Int32} {stk en : Int32 → Bool} {gr cap dr o1 dr' : Int32 → Int64 → Int64} {f : Int32 → Nat} {ask ask' : Int32 → Int64} {sd sd' : Int32 → Bool} {s s' : Nat → Int64} {b : Nat → Int32} {due paid : Int64} (hin : ∀ l ∈ ms, am_in l 30) (hnd : z_nd ms) (hZ : z_Z ms s s' b) (hH : ∀ l ∈ ms, z_H stk en gr cap dr o1 dr' (s l.toNatClampNeg) (b l.toNatClampNeg) l) (ha : ∀ l ∈ ms, ask l = ask' l) (hs : ∀ l ∈ ms, sd l = sd' l) (hf : ∀ l ∈ ms, f l < 10) (hQ : Q = z_q f ms 10) (hd : 0 ≤ due.toInt) :
    z_Z ms (z_T (z_b stk gr dr) f ask sd ms (s, due, paid)).1 (Q.foldl (z_rk ask' sd' (ms.foldl (z_rb en cap o1 dr') (s', b)).2) ((Q.foldl (z_rp (ms.foldl (z_rb en cap o1 dr') (s', b)).2) ((ms.foldl (z_rb en cap o1 dr') (s', b)).1, due)).1, 0)).1 (ms.foldl (z_rb en cap o1 dr') (s', b)).2 ∧ (z_T (z_b stk gr dr) f ask sd ms (s, due, paid)).2.1 = 0 ∧ (z_T (z_b stk gr dr) f ask sd ms (s, due, paid)).2.2 = paid + (due - (Q.foldl (z_rp (ms.foldl (z_rb en cap o1 dr') (s', b)).2) ((ms.foldl (z_rb en cap o1 dr') (s', b)).1, due)).2) ∧ ∀ l ∈ ms, (¬ (ms.foldl (z_rb en cap o1 dr') (s', b)).2 l.toNatClampNeg = 0 ↔ ¬ b l.toNatClampNeg = 0 ∨ en l = true) := by
  obtain ⟨B, -⟩ := z_beg ms s s' b hin hnd (fun l hl => ⟨hZ l hl, hH l hl⟩)
  have k0 : (0 : Int64).toInt = 0 := rfl
  generalize ms.foldl (z_rb en cap o1 dr') (s', b) = S at B ⊢
  obtain ⟨s1, b1⟩ := S
  dsimp only at B ⊢
  have hM : z_MM ms (ms.foldl (z_b stk gr dr) s) s1 b1 := fun l hl => (B l hl).1
  have hQm : ∀ l ∈ Q, l ∈ ms := fun l hl => by rw [hQ] at hl; exact z_q_in hl
  have hQa : ∀ l ∈ ms, l ∈ Q := fun l hl => by rw [hQ]; exact z_q_all hl (hf l hl)
  obtain ⟨P1, P2, P3⟩ := z_pays hin Q (ms.foldl (z_b stk gr dr) s) s1 due paid hQm hM hd
  have fin : ∀ (S : Nat → Int64) (S' : Nat → Int64), z_MM ms S S' b1 → z_Z ms (Q.foldl (z_tk ask sd) (S, 0)).1 (Q.foldl (z_rk ask' sd' b1) (S', 0)).1 b1 := fun S S' h => by
    obtain ⟨T1, T2⟩ := z_takes hin ha hs Q [] S S' 0 hQm (fun l hl => absurd hl List.not_mem_nil) ⟨h, fun l hl => absurd hl List.not_mem_nil⟩
    intro l hl
    obtain ⟨q1, q2, q3⟩ := T1 l hl
    refine ⟨fun w hw => ?_, q2, fun y => (q3 y).1⟩
    by_cases h1 : w = 1
    · subst h1
      exact T2 l (hQa l hl)
    · exact q1 w hw h1
  unfold z_T
  dsimp only
  rw [← hQ]
  by_cases z : 0 < due
  · rw [if_pos z, if_pos z]
    exact ⟨fin _ _ P1, rfl, P3, fun l hl => (B l hl).2⟩
  · rw [if_neg z, if_neg z]
    have d0 : due = 0 := by
      rw [Int64.lt_iff_toInt_lt] at z
      apply Int64.toInt_inj.mp
      omega
    have nop : ∀ (Q : List Int32) (S : Nat → Int64), Q.foldl (z_rp b1) (S, due) = (S, due) := fun Q => by
      induction Q with
      | nil => intro S; rfl
      | cons x Q ih =>
        intro S
        show Q.foldl (z_rp b1) (z_rp b1 (S, due) x) = _
        rw [show z_rp b1 (S, due) x = (S, due) from if_neg (fun q => z q.1)]
        exact ih S
    rw [nop]
    exact ⟨fin _ _ hM, d0, by show paid = paid + (due - due); rw [Int64.sub_self, Int64.add_zero], fun l hl => (B l hl).2⟩
