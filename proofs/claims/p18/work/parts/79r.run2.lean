/-! runs, exact: the class: a year's turn -/
theorem t_b.e {M N : am_M} {b : Nat} (h : t_b M b) (e : N.1 = M.1) : t_b N b := by
  obtain ⟨-, h⟩ := h
  refine ⟨(), fun t ht => (h t ht).cg ?_ ?_ ?_ (fun j _ => ?_) (fun j _ => ?_)⟩ <;> rw [e]
/-- a loan's year begins -/
def z_b (stk : Int32 → Bool) (gr : Int32 → Int64 → Int64) (dr : Int32 → Int64 → Int64) (s : Nat → Int64) (l : Int32) : Nat → Int64 :=
  if stk l = true then z_u (z_u (z_u s (60 + l.toNatClampNeg) (s l.toNatClampNeg)) (120 + l.toNatClampNeg) 0) l.toNatClampNeg 0
  else (fun s2 : Nat → Int64 => z_u s2 l.toNatClampNeg (dr l (s2 l.toNatClampNeg))) (if 0 < s l.toNatClampNeg then z_u (z_u (z_u (z_u s (60 + l.toNatClampNeg) 0) (120 + l.toNatClampNeg) 0) (120 + l.toNatClampNeg) (gr l (s l.toNatClampNeg))) l.toNatClampNeg (s l.toNatClampNeg + gr l (s l.toNatClampNeg)) else z_u (z_u s (60 + l.toNatClampNeg) 0) (120 + l.toNatClampNeg) 0)
def c_stk (M : am_M) (y l : Int32) : Bool := decide (¬ M.1 4 18 = 0 ∨ ¬ (y - am_loanAt M l 2 < am_cell M l y 3))
theorem c_stk_iff {M : am_M} {y l : Int32} : c_stk M y l = true ↔ am_isStr M l y := by
  unfold c_stk am_isStr
  exact decide_eq_true_iff
def c_gr (M : am_M) (y l : Int32) (o : Int64) : Int64 := am_grown o (c_rt M l y o)
abbrev c_b (M : am_M) (y : Int32) : (Nat → Int64) → Int32 → Nat → Int64 := z_b (c_stk M y) (c_gr M y) (fun l o => c_dr M l y o)
/-- sums, letters, stack have changed -/
def c_lt (M N : am_M) : Prop := ∃ _ : Unit, N.1 = M.1 ∧ ∀ a, a ≠ 6 → a ≠ 9 → a ≠ 10 → N.2 a = M.2 a
theorem c_lt.rf {M : am_M} : c_lt M M := ⟨(), rfl, fun _ _ _ _ => rfl⟩
theorem c_lt.i {M N : am_M} (h : c_lt M N) : N.1 = M.1 := by obtain ⟨-, h, -⟩ := h; exact h
theorem c_lt.j {M N : am_M} (h : c_lt M N) {a : Nat} (h6 : a ≠ 6) (h9 : a ≠ 9) (h10 : a ≠ 10) : N.2 a = M.2 a := by obtain ⟨-, -, h⟩ := h; exact h a h6 h9 h10
theorem c_lt.w {M N : am_M} {k : Nat} {v : Int64} (h : c_lt M N) : c_lt M (am_wJ N 6 k v) := ⟨(), h.i, fun a z6 z9 z10 => by rw [z_wJo z6]; exact h.j z6 z9 z10⟩
theorem c_lt.lk {M N K : am_M} (h : c_lt M N) (h2 : c_lk N K) : c_lt M K := ⟨(), h2.i.trans h.i, fun a z6 z9 z10 => (h2.j z9 z10).trans (h.j z6 z9 z10)⟩
section CB
variable {M N : am_M} {l y : Int32} {a0 a2 a4 : Nat}
theorem c_b_s (e0 : a0 = l.toNatClampNeg) (e2 : a2 = 60 + l.toNatClampNeg) (e4 : a4 = 120 + l.toNatClampNeg) (hs : am_isStr M l y) : (am_wJ (am_wJ (am_wJ M 6 a2 (M.2 6 a0)) 6 a4 0) 6 a0 0).2 6 = c_b M y (M.2 6) l := by
  subst e0 e2 e4
  unfold c_b z_b
  rw [if_pos (c_stk_iff.mpr hs), z_wJ, z_wJ, z_wJ]
theorem c_b_n (e0 : a0 = l.toNatClampNeg) (e2 : a2 = 60 + l.toNatClampNeg) (e4 : a4 = 120 + l.toNatClampNeg) (hs : ¬ am_isStr M l y) (ho : ¬ 0 < M.2 6 a0) : (am_wJ (am_wJ (am_wJ M 6 a2 0) 6 a4 0) 6 l.toNatClampNeg (c_dr (am_wJ (am_wJ M 6 a2 0) 6 a4 0) l y ((am_wJ (am_wJ M 6 a2 0) 6 a4 0).2 6 l.toNatClampNeg))).2 6 = c_b M y (M.2 6) l := by
  subst e0 e2 e4
  unfold c_b z_b
  rw [if_neg (fun z => hs (c_stk_iff.mp z)), if_neg ho, z_wJ, z_wJ, z_wJ]
  rfl
theorem c_b_g {r : Int32} (e0 : a0 = l.toNatClampNeg) (e2 : a2 = 60 + l.toNatClampNeg) (e4 : a4 = 120 + l.toNatClampNeg) (hs : ¬ am_isStr M l y) (ho : 0 < M.2 6 a0) (hN : c_lk (am_wJ (am_wJ M 6 a2 0) 6 a4 0) N) (hr : r = c_rt (am_wJ (am_wJ M 6 a2 0) 6 a4 0) l y ((am_wJ (am_wJ M 6 a2 0) 6 a4 0).2 6 l.toNatClampNeg)) : (am_wJ (am_wJ (am_wJ N 6 (120 + l.toNatClampNeg) (am_grown (N.2 6 l.toNatClampNeg) r)) 6 l.toNatClampNeg (N.2 6 l.toNatClampNeg + am_grown (N.2 6 l.toNatClampNeg) r)) 6 l.toNatClampNeg (c_dr (am_wJ (am_wJ N 6 (120 + l.toNatClampNeg) (am_grown (N.2 6 l.toNatClampNeg) r)) 6 l.toNatClampNeg (N.2 6 l.toNatClampNeg + am_grown (N.2 6 l.toNatClampNeg) r)) l y ((am_wJ (am_wJ N 6 (120 + l.toNatClampNeg) (am_grown (N.2 6 l.toNatClampNeg) r)) 6 l.toNatClampNeg (N.2 6 l.toNatClampNeg + am_grown (N.2 6 l.toNatClampNeg) r)).2 6 l.toNatClampNeg))).2 6 = c_b M y (M.2 6) l := by
  subst e0 e2 e4
  have n6 : N.2 6 = z_u (z_u (M.2 6) (60 + l.toNatClampNeg) 0) (120 + l.toNatClampNeg) 0 := by
    rw [hN.j (by decide) (by decide), z_wJ, z_wJ]
  have nl : N.2 6 l.toNatClampNeg = M.2 6 l.toNatClampNeg := by
    rw [n6, z_u_n (by omega), z_u_n (by omega)]
  have n1 : N.1 = M.1 := hN.i
  have er : r = c_rt M l y (M.2 6 l.toNatClampNeg) := by
    rw [hr, z_wJ, z_wJ, z_u_n (by omega), z_u_n (by omega)]
    rfl
  have ed : ∀ (K : am_M), K.1 = M.1 → c_dr K l y = c_dr M l y := fun K e => z_cg1 (fun K => c_dr K l y) (fun _ _ _ => rfl) e
  have e1 : ∀ (K : am_M), K.1 = M.1 → (am_wJ K 6 l.toNatClampNeg (c_dr K l y (K.2 6 l.toNatClampNeg))).2 6 = z_u (K.2 6) l.toNatClampNeg (c_dr M l y (K.2 6 l.toNatClampNeg)) := fun K hK => by rw [z_wJ, ed K hK]
  rw [e1]
  rotate_left
  · exact n1
  rw [nl, er, z_wJ, z_wJ, n6]
  unfold c_b z_b
  rw [if_neg (fun z => hs (c_stk_iff.mp z)), if_pos ho]
  rfl
end CB
/-- a year's turn: sums, due, paid -/
abbrev z_S := (Nat → Int64) × Int64 × Int64
def z_T (b : (Nat → Int64) → Int32 → Nat → Int64) (f : Int32 → Nat) (ask : Int32 → Int64) (sd : Int32 → Bool) (ms : List Int32) (p : z_S) : z_S :=
  (fun (q : z_S) => (((z_q f ms 10).foldl (z_tk ask sd) (q.1, 0)).1, (if 0 < p.2.1 then 0 else p.2.1), q.2.2)) (if 0 < p.2.1 then (z_q f ms 10).foldl z_pay (ms.foldl b p.1, p.2.1, p.2.2) else (ms.foldl b p.1, p.2.1, p.2.2))
def c_T (M : am_M) (y : Int32) : z_S → z_S := z_T (c_b M y) (c_of M y) (c_ask M y) (c_sd M y) (c_ms M (c_sz M))
abbrev c_st (M : am_M) : z_S := (M.2 6, M.2 4 14, M.2 4 15)
/-- queue, sums, letters, stack, due, paid have changed -/
def c_tn (M N : am_M) : Prop := ∃ _ : Unit, (∀ a, a ≠ 8 → N.1 a = M.1 a) ∧ ∀ a, a ≠ 4 → a ≠ 6 → a ≠ 9 → a ≠ 10 → N.2 a = M.2 a
theorem c_tn.i {M N : am_M} (h : c_tn M N) {a : Nat} (h8 : a ≠ 8) : N.1 a = M.1 a := by obtain ⟨-, h, -⟩ := h; exact h a h8
theorem c_tn.j {M N : am_M} (h : c_tn M N) {a : Nat} (h4 : a ≠ 4) (h6 : a ≠ 6) (h9 : a ≠ 9) (h10 : a ≠ 10) : N.2 a = M.2 a := by obtain ⟨-, -, h⟩ := h; exact h a h4 h6 h9 h10
/-- lined up -/
def c_x1 (M0 : am_M) (y : Int32) (M : am_M) : Prop := ∃ _ : Unit, (∀ a, a ≠ 8 → M.1 a = M0.1 a) ∧ (∀ a, a ≠ 6 → a ≠ 9 → a ≠ 10 → M.2 a = M0.2 a) ∧ M.2 6 = (c_ms M0 (c_sz M0)).foldl (c_b M0 y) (M0.2 6) ∧ c_qs M (c_sz M0) = z_q (c_of M0 y) (c_ms M0 (c_sz M0)) 10 ∧ g_rI M
/-- paid ahead -/
def c_x2 (M0 : am_M) (y : Int32) (M : am_M) : Prop := ∃ _ : Unit, (∀ a, a ≠ 8 → M.1 a = M0.1 a) ∧ (∀ a, a ≠ 4 → a ≠ 6 → a ≠ 9 → a ≠ 10 → M.2 a = M0.2 a) ∧ (M.2 6, (if 0 < M0.2 4 14 then M0.2 4 14 else M.2 4 14), M.2 4 15) = (fun q : z_S => (q.1, M0.2 4 14, q.2.2)) (if 0 < M0.2 4 14 then (z_q (c_of M0 y) (c_ms M0 (c_sz M0)) 10).foldl z_pay ((c_ms M0 (c_sz M0)).foldl (c_b M0 y) (M0.2 6), M0.2 4 14, M0.2 4 15) else ((c_ms M0 (c_sz M0)).foldl (c_b M0 y) (M0.2 6), M0.2 4 14, M0.2 4 15)) ∧ M.2 4 14 = (if 0 < M0.2 4 14 then 0 else M0.2 4 14) ∧ c_qs M (c_sz M0) = z_q (c_of M0 y) (c_ms M0 (c_sz M0)) 10 ∧ g_rI M
theorem c_oo.e {M N : am_M} {y : Int32} (h : c_oo M y) (e : N.1 = M.1) : c_oo N y := ⟨(), fun i hi => by
  rw [e] at hi
  have q := h.v hi
  rw [← z_cg1 (fun K => am_cell K (K.1 7 i) y 4) (fun _ _ _ => rfl) e] at q
  exact q⟩
def kX4_turnE (live : am_E) (Ret : am_R) : am_code := [(0, am_const (.int 0) 1), (1, am_istore 2 7 2), (2, am_iload 2 3), (3, am_aload 0 4), (4, am_getI live 4 7 7), (7, am_if2 (fun x y => y ≤ x) 112 10), (10, am_aload 0 11), (11, am_getR live 4 3 14), (14, am_iload 2 15), (15, am_ald live 0 16), (16, am_istore 3 7 17), (17, am_aload 0 18), (18, am_getR live 4 2 21), (21, am_const (.int 0) 22), (22, am_iload 3 23), (23, am_i2 (fun x y => x + y) 24), (24, am_lald live 1 25), (25, am_lstore 4 7 27), (27, am_aload 0 28), (28, am_iload 3 29), (29, am_iload 1 30), (30, am_callV live 4 2 TX4_isStruck 33), (33, am_istore 6 7 35), (35, am_aload 0 36), (36, am_getR live 4 2 39), (39, am_const (.int 60) 41), (41, am_iload 3 42), (42, am_i2 (fun x y => x + y) 43), (43, am_iload 6 45), (45, am_if1 (fun x => x = 0) 53 48), (48, am_lload 4 50), (50, am_goto 54), (53, am_const (.long 0) 54), (54, am_last live 1 55), (55, am_aload 0 56), (56, am_getR live 4 2 59), (59, am_const (.int 120) 61), (61, am_iload 3 62), (62, am_i2 (fun x y => x + y) 63), (63, am_const (.long 0) 64), (64, am_last live 1 65), (65, am_iload 6 67), (67, am_if1 (fun x => x = 0) 82 70), (70, am_aload 0 71), (71, am_getR live 4 2 74), (74, am_const (.int 0) 75), (75, am_iload 3 76), (76, am_i2 (fun x y => x + y) 77), (77, am_const (.long 0) 78), (78, am_last live 1 79), (79, am_goto 106), (82, am_lload 4 84), (84, am_const (.long 0) 85), (85, am_lcmp 86), (86, am_if1 (fun x => x ≤ 0) 100 89), (89, am_aload 0 90), (90, am_iload 3 91), (91, am_aload 0 92), (92, am_iload 3 93), (93, am_iload 1 94), (94, am_callV live 4 2 TE4_rateOf 97), (97, am_callV live 4 2 TX4_grow 100), (100, am_aload 0 101), (101, am_iload 3 102), (102, am_iload 1 103), (103, am_callV live 4 2 TE4_draw 106), (106, am_iinc 2 7 1 109), (109, am_goto 2), (112, am_aload 0 113), (113, am_iload 1 114), (114, am_callV live 4 1 TE4_lineUp 117), (117, am_aload 0 118), (118, am_getJ live 4 14 121), (121, am_const (.long 0) 122), (122, am_lcmp 123), (123, am_if1 (fun x => x ≤ 0) 130 126), (126, am_aload 0 127), (127, am_callV live 4 0 TE4_payAhead 130), (130, am_aload 0 131), (131, am_iload 1 132), (132, am_callV live 4 1 TE4_takeAll 135), (135, am_retV Ret)]
theorem koX4_turnE (live : am_E) (Ret : am_R) : ∀ q ∈ kX4_turnE live Ret, am_ok RX4 cX4_turn 7 none 3 76 live Ret q.1 q.2 :=
  am_kc (ak_iconst dX4_turn_0 (by decide +kernel) rfl) <|
  am_kc (ak_istore_n dX4_turn_1 rfl rfl) <|
  am_kc (ak_iload_n dX4_turn_2 rfl rfl) <|
  am_kc (ak_aload_n dX4_turn_3 rfl rfl) <|
  am_kc (ak_getI (C := RX4) (T := TX4) (N := 19) rfl inX4w (by decide) rfl rfl rfl wd_303 dX4_turn_4 rfl) <|
  am_kc (ak_icmp_ge dX4_turn_7 (by decide +kernel) rfl) <|
  am_kc (ak_aload_n dX4_turn_10 rfl rfl) <|
  am_kc (ak_getR (C := RX4) (T := TX4) (N := 19) rfl inX4w (by decide) rfl rfl rfl wd_299 dX4_turn_11 rfl) <|
  am_kc (ak_iload_n dX4_turn_14 rfl rfl) <|
  am_kc (ak_iald (t := 0) (fun _ => rfl) rfl dX4_turn_15 rfl) <|
  am_kc (ak_istore_n dX4_turn_16 rfl rfl) <|
  am_kc (ak_aload_n dX4_turn_17 rfl rfl) <|
  am_kc (ak_getR (C := RX4) (T := TX4) (N := 19) rfl inX4w (by decide) rfl rfl rfl wd_296 dX4_turn_18 rfl) <|
  am_kc (ak_iconst dX4_turn_21 (by decide +kernel) rfl) <|
  am_kc (ak_iload_n dX4_turn_22 rfl rfl) <|
  am_kc (ak_iadd dX4_turn_23 rfl) <|
  am_kc (ak_lald (t := 1) (fun _ => rfl) rfl dX4_turn_24 rfl) <|
  am_kc (ak_lstore dX4_turn_25 rfl) <|
  am_kc (ak_aload_n dX4_turn_27 rfl rfl) <|
  am_kc (ak_iload_n dX4_turn_28 rfl rfl) <|
  am_kc (ak_iload_n dX4_turn_29 rfl rfl) <|
  am_kc (ak_callV (C := RX4) (F := TX4) (N := 19) metX4_isStruck rfl ⟨rfl, by decide +kernel, by decide +kernel, by decide +kernel⟩ (am_w5 wd_576 wd_578 wd_3 wd_60 wd_579) (by decide) dX4_turn_30 rfl) <|
  am_kc (ak_istore dX4_turn_33 rfl) <|
  am_kc (ak_aload_n dX4_turn_35 rfl rfl) <|
  am_kc (ak_getR (C := RX4) (T := TX4) (N := 19) rfl inX4w (by decide) rfl rfl rfl wd_296 dX4_turn_36 rfl) <|
  am_kc (ak_bipush dX4_turn_39 (by decide +kernel) rfl) <|
  am_kc (ak_iload_n dX4_turn_41 rfl rfl) <|
  am_kc (ak_iadd dX4_turn_42 rfl) <|
  am_kc (ak_iload dX4_turn_43 rfl) <|
  am_kc (ak_if_eq dX4_turn_45 (by decide +kernel) rfl) <|
  am_kc (ak_lload dX4_turn_48 rfl) <|
  am_kc (ak_goto dX4_turn_50 (by decide +kernel)) <|
  am_kc (ak_lconst dX4_turn_53 (by decide +kernel) rfl) <|
  am_kc (ak_last (t := 1) (fun _ => rfl) rfl dX4_turn_54 rfl) <|
  am_kc (ak_aload_n dX4_turn_55 rfl rfl) <|
  am_kc (ak_getR (C := RX4) (T := TX4) (N := 19) rfl inX4w (by decide) rfl rfl rfl wd_296 dX4_turn_56 rfl) <|
  am_kc (ak_bipush dX4_turn_59 (by decide +kernel) rfl) <|
  am_kc (ak_iload_n dX4_turn_61 rfl rfl) <|
  am_kc (ak_iadd dX4_turn_62 rfl) <|
  am_kc (ak_lconst dX4_turn_63 (by decide +kernel) rfl) <|
  am_kc (ak_last (t := 1) (fun _ => rfl) rfl dX4_turn_64 rfl) <|
  am_kc (ak_iload dX4_turn_65 rfl) <|
  am_kc (ak_if_eq dX4_turn_67 (by decide +kernel) rfl) <|
  am_kc (ak_aload_n dX4_turn_70 rfl rfl) <|
  am_kc (ak_getR (C := RX4) (T := TX4) (N := 19) rfl inX4w (by decide) rfl rfl rfl wd_296 dX4_turn_71 rfl) <|
  am_kc (ak_iconst dX4_turn_74 (by decide +kernel) rfl) <|
  am_kc (ak_iload_n dX4_turn_75 rfl rfl) <|
  am_kc (ak_iadd dX4_turn_76 rfl) <|
  am_kc (ak_lconst dX4_turn_77 (by decide +kernel) rfl) <|
  am_kc (ak_last (t := 1) (fun _ => rfl) rfl dX4_turn_78 rfl) <|
  am_kc (ak_goto dX4_turn_79 (by decide +kernel)) <|
  am_kc (ak_lload dX4_turn_82 rfl) <|
  am_kc (ak_lconst dX4_turn_84 (by decide +kernel) rfl) <|
  am_kc (ak_lcmp dX4_turn_85 rfl) <|
  am_kc (ak_if_le dX4_turn_86 (by decide +kernel) rfl) <|
  am_kc (ak_aload_n dX4_turn_89 rfl rfl) <|
  am_kc (ak_iload_n dX4_turn_90 rfl rfl) <|
  am_kc (ak_aload_n dX4_turn_91 rfl rfl) <|
  am_kc (ak_iload_n dX4_turn_92 rfl rfl) <|
  am_kc (ak_iload_n dX4_turn_93 rfl rfl) <|
  am_kc (ak_callV (C := RX4) (F := TX4) (N := 19) metX4_rateOfE rfl ⟨rfl, by decide +kernel, by decide +kernel, by decide +kernel⟩ (am_w5 wd_588 wd_589 wd_590 wd_60 wd_591) (by decide) dX4_turn_94 rfl) <|
  am_kc (ak_callV (C := RX4) (F := TX4) (N := 19) metX4_grow rfl ⟨rfl, by decide +kernel, by decide +kernel, by decide +kernel⟩ (am_w5 wd_613 wd_615 wd_6 wd_60 wd_616) (by decide) dX4_turn_97 rfl) <|
  am_kc (ak_aload_n dX4_turn_100 rfl rfl) <|
  am_kc (ak_iload_n dX4_turn_101 rfl rfl) <|
  am_kc (ak_iload_n dX4_turn_102 rfl rfl) <|
  am_kc (ak_callV (C := RX4) (F := TX4) (N := 19) metX4_drawE rfl ⟨rfl, by decide +kernel, by decide +kernel, by decide +kernel⟩ (am_w5 wd_619 wd_621 wd_7 wd_60 wd_622) (by decide) dX4_turn_103 rfl) <|
  am_kc (ak_iinc dX4_turn_106 (by decide +kernel) rfl) <|
  am_kc (ak_goto dX4_turn_109 (by decide +kernel)) <|
  am_kc (ak_aload_n dX4_turn_112 rfl rfl) <|
  am_kc (ak_iload_n dX4_turn_113 rfl rfl) <|
  am_kc (ak_callV (C := RX4) (F := TX4) (N := 19) metX4_lineUpE rfl ⟨rfl, by decide +kernel, by decide +kernel, by decide +kernel⟩ (am_w5 wd_624 wd_626 wd_8 wd_60 wd_627) (by decide) dX4_turn_114 rfl) <|
  am_kc (ak_aload_n dX4_turn_117 rfl rfl) <|
  am_kc (ak_getJ (C := RX4) (T := TX4) (N := 19) rfl inX4w (by decide) rfl rfl rfl wd_310 dX4_turn_118 rfl) <|
  am_kc (ak_lconst dX4_turn_121 (by decide +kernel) rfl) <|
  am_kc (ak_lcmp dX4_turn_122 rfl) <|
  am_kc (ak_if_le dX4_turn_123 (by decide +kernel) rfl) <|
  am_kc (ak_aload_n dX4_turn_126 rfl rfl) <|
  am_kc (ak_callV (C := RX4) (F := TX4) (N := 19) metX4_payAheadE rfl ⟨rfl, by decide +kernel, by decide +kernel, by decide +kernel⟩ (am_w5 wd_629 wd_631 wd_9 wd_60 wd_632) (by decide) dX4_turn_127 rfl) <|
  am_kc (ak_aload_n dX4_turn_130 rfl rfl) <|
  am_kc (ak_iload_n dX4_turn_131 rfl rfl) <|
  am_kc (ak_callV (C := RX4) (F := TX4) (N := 19) metX4_takeAllE rfl ⟨rfl, by decide +kernel, by decide +kernel, by decide +kernel⟩ (am_w5 wd_633 wd_635 wd_10 wd_60 wd_636) (by decide) dX4_turn_132 rfl) <|
  am_kc (ak_retV dX4_turn_135) <| am_kn
def TE4_turn : am_T := fun live as M R => match as with
  | [.ref n, .int y] => am_mn live ∧ n = 4 ∧ am_in y 40 ∧ g_rI M ∧ t_b M 20 ∧ c_oo M y ∧ ∀ M', c_tn M M' → g_rI M' → c_st M' = c_T M y (c_st M) → R none M'
  | _ => False
def JE4_turn : am_E → List Value → am_M → am_R → am_inv := fun live as M0 _ pc => match as with
  | [.ref n, .int y] => (match pc with
    | 2 => some ([0, 1, 2], fun k L st M => ∃ i : Int32, L = [(0, .ref 4), (1, .int y), (2, .int i)] ∧ st = [] ∧ k = (100 + (31 - i.toInt).toNat, 0) ∧ (0 ≤ i.toInt ∧ i.toInt ≤ (M0.1 4 7).toInt) ∧ c_lt M0 M ∧ M.2 6 = (c_ms M0 i.toNatClampNeg).foldl (c_b M0 y) (M0.2 6))
    | 117 => some ([0, 1], fun k L st M => L = [(0, .ref 4), (1, .int y)] ∧ st = [] ∧ k = (50, 0) ∧ c_x1 M0 y M)
    | 130 => some ([0, 1], fun k L st M => L = [(0, .ref 4), (1, .int y)] ∧ st = [] ∧ k = (40, 0) ∧ c_x2 M0 y M)
    | _ => none)
  | _ => none
set_option maxRecDepth 100000 in
set_option maxHeartbeats 4000000 in
theorem metX4_turnE : am_Met yX4_turn cX4_turn 7 none (3) (76) TE4_turn := by
  refine am_met (own := RX4) (by decide +kernel) rfl kX4_turnE koX4_turnE 150 JE4_turn ?_ ?_
  · intro live as M Ret h
    unfold TE4_turn at h
    split at h
    · next n y =>
      refine ⟨Nat.le_of_ble_eq_true rfl, ?_⟩
      change am_wp _ _ _ _ [(0, Value.ref n), (1, Value.int y)] _ _
      obtain ⟨hmn, rfl, hy, hr, htb, hoo, h⟩ := h
      have q := hr.s.sz
      repeat' (first | apply And.intro | exact rfl | intro hx | (refine Exists.intro _ (And.intro rfl ?_)))
      all_goals try first | (with_reducible change am_tI _ _) | (change Ret _ _) | (change Ret _ _ _) | (change Exists _)
      all_goals try dsimp only at *
      all_goals try exact absurd ‹(1000 : Int64) = 0› (by decide)
      exact ⟨_, _, rfl, rfl, rfl, ⟨by decide, q.1⟩, c_lt.rf, rfl⟩
    · exact h.elim
  · intro live as M0 Ret h k pc I hI L st M hi
    unfold TE4_turn at h
    split at h
    · next n y =>
      obtain ⟨hmn, rfl, hy, hr, htb, hoo, h⟩ := h
      have hmn2 := hmn
      obtain ⟨i1, i2, rfl⟩ := hmn2
      have q := hr.s.sz
      have cs : (c_sz M0 : Int) = (M0.1 4 7).toInt := i_clamp q.1
      change (match pc with | 2 => _ | 117 => _ | 130 => _ | _ => none) = _ at hI
      split at hI
      · cases hI
        obtain ⟨i, rfl, rfl, rfl, ⟨e1, e4⟩, e2, e3⟩ := hi
        have em := e2.i
        have ci := i_clamp e1
        have hrM : g_rI M := hr.eI (fun a b => by rw [em])
        have htM : t_b M 20 := htb.e em
        by_cases hz : M.1 4 7 ≤ i
        · have hz2 := hz
          rw [em] at hz2
          simp only [i_le] at hz2
          rw [show i.toNatClampNeg = c_sz M0 by omega] at e3
          have hoM := hoo.e em
          repeat' (first | (with_reducible exact hmn) | (with_reducible exact hy) | (with_reducible exact hrM) | (with_reducible exact hoM) | apply And.intro | exact rfl | (intro hx; with_reducible exact absurd hz hx) | ((with_reducible change g_rI _); (with_reducible assumption)) | intro hx | (refine Exists.intro _ (And.intro rfl ?_)))
          all_goals try first | (with_reducible change am_tI _ _) | (change Ret _ _) | (change Ret _ _ _) | (change Exists _)
          all_goals try dsimp only at *
          all_goals try exact absurd ‹(1000 : Int64) = 0› (by decide)
          all_goals
            rename_i N k8 hrN
            have hq := hx
            refine ⟨_, am_lt_l (by omega), rfl, rfl, rfl, (), fun a z => by rw [k8.i z, em], fun a z6 z9 z10 => ?_, ?_, ?_, hrN⟩
            · obtain ⟨-, -, k82⟩ := k8
              rw [k82]
              exact e2.j z6 z9 z10
            · obtain ⟨-, -, k82⟩ := k8
              rw [k82]
              exact e3
            · rw [show c_sz M = c_sz M0 by unfold c_sz; rw [em], show c_of M y = c_of M0 y from z_cg1 (fun K => c_of K y) (fun _ _ _ => rfl) em, show c_ms M (c_sz M0) = c_ms M0 (c_sz M0) by unfold c_ms; rw [em]] at hq
              exact hq
        · have hz2 := hz
          rw [em] at hz2
          simp only [i_le] at hz2
          have ha : am_in i 30 := ⟨e1, by omega⟩
          have hb := hrM.s.mi (g_cl ha)
          have hp := hrM.pln hb hy
          have hi := i_inc (x := i) (by omega) (by omega)
          have ci1 := i_clamp (x := i + 1) (by omega)
          have f0 := g_ix hb 0 0 rfl (by decide)
          have f60 := g_ix hb 60 60 rfl (by decide)
          have f120 := g_ix hb 120 120 rfl (by decide)
          have l6 : am_len 6 = 180 := rfl
          have l7 : am_len 7 = 30 := rfl
          have nx : c_b M y (M.2 6) (M.1 7 i.toNatClampNeg) = (c_ms M0 (i + 1).toNatClampNeg).foldl (c_b M0 y) (M0.2 6) := by
            rw [show (i + 1).toNatClampNeg = i.toNatClampNeg + 1 by omega, c_ms_s, List.foldl_append, ← e3, z_cg1 (fun K => c_b K y) (fun _ _ _ => rfl) em, em]
            rfl
          have w0 := f0.1
          have w0b : (0 + M.1 7 i.toNatClampNeg).toInt < (am_len 6 : Int) := by rw [l6]; exact f0.2.1
          have w60 := f60.1
          have w60b : (60 + M.1 7 i.toNatClampNeg).toInt < (am_len 6 : Int) := by rw [l6]; exact f60.2.1
          have w120 := f120.1
          have w120b : (120 + M.1 7 i.toNatClampNeg).toInt < (am_len 6 : Int) := by rw [l6]; exact f120.2.1
          have w7 : i.toInt < (am_len 7 : Int) := by rw [l7]; exact ha.2
          by_cases zs : am_isStr M (M.1 7 i.toNatClampNeg) y
          · skip
            repeat' (first | (with_reducible exact e1) | (with_reducible exact w7) | (with_reducible exact w0) | (with_reducible exact w0b) | (with_reducible exact w60) | (with_reducible exact w60b) | (with_reducible exact w120) | (with_reducible exact w120b) | (with_reducible exact hmn) | (with_reducible exact hb) | (with_reducible exact hy) | (with_reducible exact hp) | apply And.intro | exact rfl | (intro hx; with_reducible exact absurd hx hz) | (intro hx; with_reducible exact absurd zs hx) | (intro hx; exact absurd hx (by decide)) | (intro hx; exact absurd (by decide) hx) | decide | intro hx | (refine Exists.intro _ (And.intro rfl ?_)))
            all_goals try first | (with_reducible change am_tI _ _) | (change Ret _ _) | (change Ret _ _ _) | (change Exists _)
            all_goals try dsimp only at *
            all_goals try exact absurd ‹(1000 : Int64) = 0› (by decide)
            all_goals first
              | (left; rfl)
              | (right; rfl)
              | exact ⟨_, am_lt_l (by omega), _, rfl, rfl, rfl, ⟨by omega, by omega⟩, ((e2.w).w).w, (c_b_s am_ix0 f60.2.2 f120.2.2 zs).trans nx⟩
              | skip
          · by_cases zo : lg_cmp (M.2 6 (0 + M.1 7 i.toNatClampNeg).toNatClampNeg) 0 ≤ 0
            · have zo2 : ¬ 0 < M.2 6 (0 + M.1 7 i.toNatClampNeg).toNatClampNeg := by
                rw [lc_le] at zo
                simp only [j_le, Int64.lt_iff_toInt_lt] at zo ⊢
                omega
              repeat' (first | (with_reducible exact e1) | (with_reducible exact w7) | (with_reducible exact w0) | (with_reducible exact w0b) | (with_reducible exact w60) | (with_reducible exact w60b) | (with_reducible exact w120) | (with_reducible exact w120b) | (with_reducible exact hmn) | (with_reducible exact hb) | (with_reducible exact hy) | (with_reducible exact hp) | apply And.intro | exact rfl | (intro hx; with_reducible exact absurd hx hz) | (intro hx; with_reducible exact absurd hx zs) | (intro hx; with_reducible exact absurd zo hx) | (intro hx; exact absurd hx (by decide)) | (intro hx; exact absurd (by decide) hx) | decide | intro hx | (refine Exists.intro _ (And.intro rfl ?_)))
              all_goals try first | (with_reducible change am_tI _ _) | (change Ret _ _) | (change Ret _ _ _) | (change Exists _)
              all_goals try dsimp only at *
              all_goals try exact absurd ‹(1000 : Int64) = 0› (by decide)
              all_goals first
                | (left; rfl)
                | (right; rfl)
                | exact ⟨_, am_lt_l (by omega), _, rfl, rfl, rfl, ⟨by omega, by omega⟩, ((e2.w).w).w, (c_b_n am_ix0 f60.2.2 f120.2.2 zs zo2).trans nx⟩
                | skip
            · have zo2 : 0 < M.2 6 (0 + M.1 7 i.toNatClampNeg).toNatClampNeg := by
                rw [lc_le] at zo
                simp only [j_le, Int64.lt_iff_toInt_lt] at zo ⊢
                omega
              have hrM2 : g_rI (am_wJ (am_wJ M 6 (60 + M.1 7 i.toNatClampNeg).toNatClampNeg 0) 6 (120 + M.1 7 i.toNatClampNeg).toNatClampNeg 0) := (hrM.wJ).wJ
              have htM2 : t_b (am_wJ (am_wJ M 6 (60 + M.1 7 i.toNatClampNeg).toNatClampNeg 0) 6 (120 + M.1 7 i.toNatClampNeg).toNatClampNeg 0) 20 := htM.e rfl
              repeat' (first | (with_reducible exact e1) | (with_reducible exact w7) | (with_reducible exact w0) | (with_reducible exact w0b) | (with_reducible exact w60) | (with_reducible exact w60b) | (with_reducible exact w120) | (with_reducible exact w120b) | (with_reducible exact hmn) | (with_reducible exact hb) | (with_reducible exact hy) | (with_reducible exact hp) | (with_reducible exact hrM2) | (with_reducible exact htM2) | apply And.intro | exact rfl | (intro hx; with_reducible exact absurd hx hz) | (intro hx; with_reducible exact absurd hx zs) | (intro hx; with_reducible exact absurd hx zo) | (intro hx; exact absurd hx (by decide)) | (intro hx; exact absurd (by decide) hx) | decide | intro hx | (refine Exists.intro _ (And.intro rfl ?_)))
              all_goals try first | (with_reducible change am_tI _ _) | (change Ret _ _) | (change Ret _ _ _) | (change Exists _)
              all_goals try dsimp only at *
              all_goals try exact absurd ‹(1000 : Int64) = 0› (by decide)
              all_goals first
                | (left; rfl)
                | (right; rfl)
                | skip
              all_goals
                rename_i N
                have hN := hx
                exact ⟨_, am_lt_l (by omega), _, rfl, rfl, rfl, ⟨by omega, by omega⟩, (((((e2.w).w).lk hN).w).w).w, (c_b_g am_ix0 f60.2.2 f120.2.2 zs zo2 hN rfl).trans nx⟩
      · cases hI
        obtain ⟨rfl, rfl, rfl, x1⟩ := hi
        obtain ⟨-, a1, a2, a3, a4, a5⟩ := x1
        have e14 : M.2 4 = M0.2 4 := a2 4 (by decide) (by decide) (by decide)
        have esz : c_sz M = c_sz M0 := by unfold c_sz; rw [a1 4 (by decide)]
        by_cases zd : lg_cmp (M.2 4 14) 0 ≤ 0
        · have zd2 : ¬ 0 < M0.2 4 14 := by
            rw [lc_le, e14] at zd
            simp only [j_le, Int64.lt_iff_toInt_lt] at zd ⊢
            omega
          repeat' (first | (with_reducible exact hmn) | apply And.intro | exact rfl | (intro hx; with_reducible exact absurd zd hx) | intro hx | (refine Exists.intro _ (And.intro rfl ?_)))
          all_goals try first | (with_reducible change am_tI _ _) | (change Ret _ _) | (change Ret _ _ _) | (change Exists _)
          all_goals try dsimp only at *
          all_goals try exact absurd ‹(1000 : Int64) = 0› (by decide)
          exact ⟨_, am_lt_l (by omega), rfl, rfl, rfl, (), a1, fun a _ z6 z9 z10 => a2 a z6 z9 z10, by rw [if_neg zd2, if_neg zd2, a3, e14], by rw [if_neg zd2, e14], a4, a5⟩
        · have zd2 : 0 < M0.2 4 14 := by
            rw [lc_le, e14] at zd
            simp only [j_le, Int64.lt_iff_toInt_lt] at zd ⊢
            omega
          repeat' (first | (with_reducible exact hmn) | (with_reducible exact a5) | apply And.intro | exact rfl | (intro hx; with_reducible exact absurd hx zd) | ((with_reducible change g_rI _); (with_reducible assumption)) | intro hx | (refine Exists.intro _ (And.intro rfl ?_)))
          all_goals try first | (with_reducible change am_tI _ _) | (change Ret _ _) | (change Ret _ _ _) | (change Exists _)
          all_goals try dsimp only at *
          all_goals try exact absurd ‹(1000 : Int64) = 0› (by decide)
          all_goals
            rename_i N k46 n6 n14
            have n15 := hx
            rw [esz, a4, a3, e14] at n6 n15
            refine ⟨_, am_lt_l (by omega), rfl, rfl, rfl, (), fun a z => by rw [k46.i]; exact a1 a z, fun a z4 z6 z9 z10 => (k46.j z4 z6).trans (a2 a z6 z9 z10), by rw [if_pos zd2, if_pos zd2, n6, n15], by rw [if_pos zd2, n14], ?_, a5.eI (fun a b => by rw [k46.i])⟩
            rw [← a4]
            unfold c_qs
            rw [k46.i]
      · cases hI
        obtain ⟨rfl, rfl, rfl, x2⟩ := hi
        obtain ⟨-, a1, a2, a3, a6, a4, a5⟩ := x2
        have esz : c_sz M = c_sz M0 := by unfold c_sz; rw [a1 4 (by decide)]
        have ea : c_ask M y = c_ask M0 y := z_cg8 (fun K => c_ask K y) (fun _ _ _ => rfl) (fun _ _ => rfl) a1
        have es : c_sd M y = c_sd M0 y := z_cg8 (fun K => c_sd K y) (fun _ _ _ => rfl) (fun _ _ => rfl) a1
        repeat' (first | (with_reducible exact hmn) | (with_reducible exact hy) | (with_reducible exact a5) | apply And.intro | exact rfl | ((with_reducible change g_rI _); (with_reducible assumption)) | intro hx | (refine Exists.intro _ (And.intro rfl ?_)))
        all_goals try first | (with_reducible change am_tI _ _) | (change Ret _ _) | (change Ret _ _ _) | (change Exists _)
        all_goals try dsimp only at *
        all_goals try exact absurd ‹(1000 : Int64) = 0› (by decide)
        all_goals
          rename_i N k6
          have n6 := hx
          rw [esz, a4, ea, es] at n6
          refine h N ⟨(), fun a z => by rw [k6.i]; exact a1 a z, fun a z4 z6 z9 z10 => (k6.j z6).trans (a2 a z4 z6 z9 z10)⟩ (a5.eI (fun a b => by rw [k6.i])) ?_
          have b1 := congrArg (fun q : z_S => q.1) a3
          have b3 := congrArg (fun q : z_S => q.2.2) a3
          dsimp only at b1 b3
          unfold c_T z_T
          refine Prod.ext ?_ (Prod.ext ?_ ?_)
          · show N.2 6 = _
            rw [n6, b1]
          · show N.2 4 14 = _
            rw [k6.j (by decide), a6]
          · show N.2 4 15 = _
            rw [k6.j (by decide), b3]
      · cases hI
    · exact h.elim
