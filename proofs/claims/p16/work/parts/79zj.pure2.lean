/-! runs exact, pure: TOTAL and TAKEN (for early, choice) -/
/-- a loan taken from once: TOTAL grows by TAKEN -/
theorem z_tks_9 {ask : Int32 → Int64} {sd : Int32 → Bool} {l : Int32} (hl : am_in l 30) : ∀ (Q : List Int32) (s : Nat → Int64) (v : Int64), (∀ x ∈ Q, am_in x 30) → z_nd Q →
    (l.toNatClampNeg ∉ Q.map Int32.toNatClampNeg → ∀ w, (Q.foldl (z_tk ask sd) (s, v)).1 (30 * w + l.toNatClampNeg) = s (30 * w + l.toNatClampNeg)) ∧ (l.toNatClampNeg ∈ Q.map Int32.toNatClampNeg → (Q.foldl (z_tk ask sd) (s, v)).1 (90 + l.toNatClampNeg) = s (90 + l.toNatClampNeg) + (Q.foldl (z_tk ask sd) (s, v)).1 (30 + l.toNatClampNeg))
  | [], s, v, _, _ => ⟨fun _ _ => rfl, fun q => absurd q List.not_mem_nil⟩
  | x :: Q, s, v, hin, hnd => by
    have hx := hin x List.mem_cons_self
    have gx := g_cl hx
    have gl := g_cl hl
    obtain ⟨hap, hnd2⟩ := List.pairwise_cons.mp hnd
    obtain ⟨i1, i2⟩ := z_tks_9 (ask := ask) (sd := sd) hl Q (z_tk ask sd (s, v) x).1 (z_tk ask sd (s, v) x).2 (fun y hy => hin y (List.mem_cons_of_mem _ hy)) hnd2
    obtain ⟨-, -, t3, t4, -, t6⟩ := z_tk_v (ask := ask) (sd := sd) (s := s) (v := v) (x := x)
    show (_ → ∀ w, (Q.foldl (z_tk ask sd) (z_tk ask sd (s, v) x)).1 (30 * w + l.toNatClampNeg) = _) ∧ (_ → (Q.foldl (z_tk ask sd) (z_tk ask sd (s, v) x)).1 (90 + l.toNatClampNeg) = s (90 + l.toNatClampNeg) + (Q.foldl (z_tk ask sd) (z_tk ask sd (s, v) x)).1 (30 + l.toNatClampNeg))
    refine ⟨fun no w => ?_, fun yes => ?_⟩
    · have n1 : l.toNatClampNeg ≠ x.toNatClampNeg := fun q => no (by rw [q]; exact List.mem_map.mpr ⟨x, List.mem_cons_self, rfl⟩)
      have n2 : l.toNatClampNeg ∉ Q.map Int32.toNatClampNeg := fun q => no (by rw [List.map_cons]; exact List.mem_cons_of_mem _ q)
      refine (i1 n2 w).trans (t6 _ ?_ ?_ ?_ ?_) <;> omega
    · by_cases z : l.toNatClampNeg = x.toNatClampNeg
      · have n2 : l.toNatClampNeg ∉ Q.map Int32.toNatClampNeg := fun q => by
          obtain ⟨y, hy, e⟩ := List.mem_map.mp q
          exact hap y hy (z.symm.trans e.symm)
        have a3 := i1 n2 3
        have a1 := i1 n2 1
        have a3 : (Q.foldl (z_tk ask sd) (z_tk ask sd (s, v) x)).1 (90 + l.toNatClampNeg) = (z_tk ask sd (s, v) x).1 (90 + l.toNatClampNeg) := a3
        have a1 : (Q.foldl (z_tk ask sd) (z_tk ask sd (s, v) x)).1 (30 + l.toNatClampNeg) = (z_tk ask sd (s, v) x).1 (30 + l.toNatClampNeg) := a1
        rw [a3, a1, z, t3, t4]
      · have yes2 : l.toNatClampNeg ∈ Q.map Int32.toNatClampNeg := by
          rw [List.map_cons] at yes
          rcases List.mem_cons.mp yes with q | q
          · exact absurd q z
          · exact q
        rw [t6 (90 + l.toNatClampNeg) (by omega) (by omega) (by omega) (by omega)] at i2
        exact i2 yes2
theorem z_in_eq {a b : Int32} (ha : am_in a 30) (hb : am_in b 30) (e : a.toNatClampNeg = b.toNatClampNeg) : a = b := by rw [← o_cl ha (by decide), e, o_cl hb (by decide)]
theorem z_q_f {f : Int32 → Nat} {ms : List Int32} : ∀ {o : Nat} {l : Int32}, l ∈ z_q f ms o → f l < o
  | 0, _, h => absurd h List.not_mem_nil
  | o + 1, l, h => by
    rcases List.mem_append.mp h with q | q
    · have := z_q_f q
      omega
    · have := of_decide_eq_true (List.mem_filter.mp q).2
      omega
theorem z_q_nd {f : Int32 → Nat} {ms : List Int32} (hin : ∀ l ∈ ms, am_in l 30) (hnd : z_nd ms) : ∀ o : Nat, z_nd (z_q f ms o)
  | 0 => List.Pairwise.nil
  | o + 1 => by
    show (z_q f ms o ++ ms.filter (fun l => decide (f l = o))).Pairwise _
    refine List.pairwise_append.mpr ⟨z_q_nd hin hnd o, List.Pairwise.filter _ hnd, fun a ha b hb e => ?_⟩
    have fb := of_decide_eq_true (List.mem_filter.mp hb).2
    have fa := z_q_f ha
    rw [z_in_eq (hin a (z_q_in ha)) (hin b (List.mem_filter.mp hb).1) e] at fa
    omega
theorem z_q_mem {f : Int32 → Nat} {ms : List Int32} {l : Int32} (hl : l ∈ ms) : ∀ {o : Nat}, f l < o → l ∈ z_q f ms o
  | 0, h => absurd h (by omega)
  | o + 1, h => by
    show l ∈ z_q f ms o ++ ms.filter (fun l => decide (f l = o))
    by_cases z : f l = o
    · exact List.mem_append_right _ (List.mem_filter.mpr ⟨hl, decide_eq_true z⟩)
    · exact List.mem_append_left _ (z_q_mem hl (by omega))
theorem z_T_9 {stk : Int32 → Bool} {gr dr : Int32 → Int64 → Int64} {f : Int32 → Nat} {ask : Int32 → Int64} {sd : Int32 → Bool} {ms : List Int32} {p : z_S} (hin : ∀ x ∈ ms, am_in x 30) (hnd : z_nd ms) {l : Int32} (hl : l ∈ ms) (hf : f l < 10) : (z_T (z_b stk gr dr) f ask sd ms p).1 (90 + l.toNatClampNeg) = p.1 (90 + l.toNatClampNeg) + (z_T (z_b stk gr dr) f ask sd ms p).1 (30 + l.toNatClampNeg) := by
  have gl := g_cl (hin l hl)
  have bb : ∀ s : Nat → Int64, (ms.foldl (z_b stk gr dr) s) (90 + l.toNatClampNeg) = s (90 + l.toNatClampNeg) := fun s => z_fold_o (z_b stk gr dr) (fun s => s (90 + l.toNatClampNeg)) ms s (fun x hx s => by
    have gx := g_cl (hin x hx)
    exact z_b_o (by omega) (by omega) (by omega))
  have py : ∀ s : z_S, ((z_q f ms 10).foldl z_pay s).1 (90 + l.toNatClampNeg) = s.1 (90 + l.toNatClampNeg) := fun s => z_fold_o z_pay (fun s => s.1 (90 + l.toNatClampNeg)) _ s (fun x hx s => by
    have gx := g_cl (hin x (z_q_in hx))
    show z_u _ _ _ _ = _
    exact z_u_n (by omega))
  have yes : l.toNatClampNeg ∈ (z_q f ms 10).map Int32.toNatClampNeg := List.mem_map.mpr ⟨l, z_q_mem hl hf, rfl⟩
  have key : ∀ s : Nat → Int64, ((z_q f ms 10).foldl (z_tk ask sd) (s, 0)).1 (90 + l.toNatClampNeg) = s (90 + l.toNatClampNeg) + ((z_q f ms 10).foldl (z_tk ask sd) (s, 0)).1 (30 + l.toNatClampNeg) := fun s => (z_tks_9 (ask := ask) (sd := sd) (hin l hl) (z_q f ms 10) s 0 (fun x hx => hin x (z_q_in hx)) (z_q_nd hin hnd 10)).2 yes
  unfold z_T
  dsimp only
  refine (key _).trans ?_
  congr 1
  by_cases z : 0 < p.2.1
  · rw [if_pos z]
    exact (py _).trans (bb _)
  · rw [if_neg z]
    exact bb _
theorem z_tog_add {s s' t : Nat → Int64} {w u x : Nat} : ∀ {ms : List Int32} {a b : Int64}, (∀ l ∈ ms, s' (w + l.toNatClampNeg) = s (x + l.toNatClampNeg) + t (u + l.toNatClampNeg)) → ms.foldl (fun v l => v + s' (w + l.toNatClampNeg)) (a + b) = ms.foldl (fun v l => v + s (x + l.toNatClampNeg)) a + ms.foldl (fun v l => v + t (u + l.toNatClampNeg)) b
  | [], _, _, _ => rfl
  | l :: ms, a, b, h => by
    show ms.foldl _ (a + b + s' (w + l.toNatClampNeg)) = ms.foldl _ (a + s (x + l.toNatClampNeg)) + ms.foldl _ (b + t (u + l.toNatClampNeg))
    rw [h l List.mem_cons_self, z_add4]
    exact z_tog_add (fun y hy => h y (List.mem_cons_of_mem _ hy))
/-- all loans' TOTAL grows by all loans' TAKEN -/
theorem z_T_tog {stk : Int32 → Bool} {gr dr : Int32 → Int64 → Int64} {f : Int32 → Nat} {ask : Int32 → Int64} {sd : Int32 → Bool} {ms : List Int32} {p : z_S} (hin : ∀ x ∈ ms, am_in x 30) (hnd : z_nd ms) (hf : ∀ l ∈ ms, f l < 10) : z_tog (z_T (z_b stk gr dr) f ask sd ms p).1 90 ms = z_tog p.1 90 ms + z_tog (z_T (z_b stk gr dr) f ask sd ms p).1 30 ms := by
  unfold z_tog
  have q := z_tog_add (s := p.1) (s' := (z_T (z_b stk gr dr) f ask sd ms p).1) (t := (z_T (z_b stk gr dr) f ask sd ms p).1) (w := 90) (u := 30) (x := 90) (ms := ms) (a := 0) (b := 0) (fun l hl => z_T_9 hin hnd hl (hf l hl))
  rw [Int64.add_zero] at q
  exact q
theorem z_it_tog {F : Nat → z_S → z_S} {ms : List Int32} (h : ∀ y s, z_tog (F y s).1 90 ms = z_tog s.1 90 ms + z_tog (F y s).1 30 ms) (a : Nat) (s : z_S) : ∀ n : Nat, z_tog (z_it F a n s).1 90 ms = z_tog s.1 90 ms + z_sum (fun i => z_tog (z_it F a (i + 1) s).1 30 ms) n
  | 0 => by
    show z_tog s.1 90 ms = z_tog s.1 90 ms + 0
    rw [Int64.add_zero]
  | n + 1 => by
    show z_tog (F (a + n) (z_it F a n s)).1 90 ms = z_tog s.1 90 ms + (z_sum (fun i => z_tog (z_it F a (i + 1) s).1 30 ms) n + z_tog (z_it F a (n + 1) s).1 30 ms)
    rw [h, z_it_tog h a s n, Int64.add_assoc]
    rfl
