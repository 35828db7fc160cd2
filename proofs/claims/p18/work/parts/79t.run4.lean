/-! runs, exact: the class: a run begins -/
def kX4_beginE (live : am_E) (Ret : am_R) : am_code := [(0, am_aload 0 1), (1, am_iload 1 2), (2, am_putI live 4 8 5), (5, am_aload 0 6), (6, am_iload 2 7), (7, am_putI live 4 9 10), (10, am_aload 0 11), (11, am_const (.int 0) 12), (12, am_putI live 4 10 15), (15, am_aload 0 16), (16, am_const (.int (-1)) 17), (17, am_const (.int (-1)) 18), (18, am_const (.long 0) 19), (19, am_callV live 4 3 TX4_turnTo 22), (22, am_aload 0 23), (23, am_const (.int 0) 24), (24, am_putI live 4 7 27), (27, am_const (.int 0) 28), (28, am_istore 3 5 29), (29, am_iload 3 30), (30, am_aload 0 31), (31, am_getR live 4 0 34), (34, am_getR live 0 4 37), (37, am_getI live 3 2 40), (40, am_if2 (fun x y => y ≤ x) 120 43), (43, am_iload 3 44), (44, am_const (.int 30) 46), (46, am_if2 (fun x y => y ≤ x) 120 49), (49, am_aload 0 50), (50, am_getR live 4 0 53), (53, am_getR live 0 4 56), (56, am_iload 3 57), (57, am_const (.int 0) 58), (58, am_callV live 3 2 TX3_at 61), (61, am_iload 1 62), (62, am_if2 (fun x y => x = y) 65 114), (65, am_aload 0 66), (66, am_getR live 4 3 69), (69, am_aload 0 70), (70, am_getI live 4 7 73), (73, am_iload 3 74), (74, am_ast live 0 75), (75, am_aload 0 76), (76, am_dup 77), (77, am_getI live 4 7 80), (80, am_const (.int 1) 81), (81, am_i2 (fun x y => x + y) 82), (82, am_putI live 4 7 85), (85, am_const (.int 0) 86), (86, am_istore 4 5 88), (88, am_iload 4 90), (90, am_const (.int 6) 92), (92, am_if2 (fun x y => y ≤ x) 114 95), (95, am_aload 0 96), (96, am_getR live 4 2 99), (99, am_iload 4 101), (101, am_const (.int 30) 103), (103, am_i2 (fun x y => x * y) 104), (104, am_iload 3 105), (105, am_i2 (fun x y => x + y) 106), (106, am_const (.long 0) 107), (107, am_last live 1 108), (108, am_iinc 4 5 1 111), (111, am_goto 88), (114, am_iinc 3 5 1 117), (117, am_goto 29), (120, am_aload 0 121), (121, am_getI live 4 7 124), (124, am_if1 (fun x => x ≤ 0) 132 127), (127, am_aload 0 128), (128, am_iload 1 129), (129, am_callV live 4 1 TE4_layNumbers 132), (132, am_retV Ret)]
theorem koX4_beginE (live : am_E) (Ret : am_R) : ∀ q ∈ kX4_beginE live Ret, am_ok RX4 cX4_begin 5 none 3 72 live Ret q.1 q.2 :=
  am_kc (ak_aload_n dX4_begin_0 rfl rfl) <|
  am_kc (ak_iload_n dX4_begin_1 rfl rfl) <|
  am_kc (ak_putI (C := RX4) (T := TX4) (N := 19) rfl inX4w tyX4_ok nmX4 (by decide) rfl rfl rfl rfl (by decide +kernel) wd_304 dX4_begin_2 rfl) <|
  am_kc (ak_aload_n dX4_begin_5 rfl rfl) <|
  am_kc (ak_iload_n dX4_begin_6 rfl rfl) <|
  am_kc (ak_putI (C := RX4) (T := TX4) (N := 19) rfl inX4w tyX4_ok nmX4 (by decide) rfl rfl rfl rfl (by decide +kernel) wd_305 dX4_begin_7 rfl) <|
  am_kc (ak_aload_n dX4_begin_10 rfl rfl) <|
  am_kc (ak_iconst dX4_begin_11 (by decide +kernel) rfl) <|
  am_kc (ak_putI (C := RX4) (T := TX4) (N := 19) rfl inX4w tyX4_ok nmX4 (by decide) rfl rfl rfl rfl (by decide +kernel) wd_306 dX4_begin_12 rfl) <|
  am_kc (ak_aload_n dX4_begin_15 rfl rfl) <|
  am_kc (ak_iconst dX4_begin_16 (by decide +kernel) rfl) <|
  am_kc (ak_iconst dX4_begin_17 (by decide +kernel) rfl) <|
  am_kc (ak_lconst dX4_begin_18 (by decide +kernel) rfl) <|
  am_kc (ak_callV (C := RX4) (F := TX4) (N := 19) metX4_turnTo rfl ⟨rfl, by decide +kernel, by decide +kernel, by decide +kernel⟩ (am_w5 wd_550 wd_551 wd_552 wd_60 wd_553) (by decide) dX4_begin_19 rfl) <|
  am_kc (ak_aload_n dX4_begin_22 rfl rfl) <|
  am_kc (ak_iconst dX4_begin_23 (by decide +kernel) rfl) <|
  am_kc (ak_putI (C := RX4) (T := TX4) (N := 19) rfl inX4w tyX4_ok nmX4 (by decide) rfl rfl rfl rfl (by decide +kernel) wd_303 dX4_begin_24 rfl) <|
  am_kc (ak_iconst dX4_begin_27 (by decide +kernel) rfl) <|
  am_kc (ak_istore_n dX4_begin_28 rfl rfl) <|
  am_kc (ak_iload_n dX4_begin_29 rfl rfl) <|
  am_kc (ak_aload_n dX4_begin_30 rfl rfl) <|
  am_kc (ak_getR (C := RX4) (T := TX4) (N := 19) rfl inX4w (by decide) rfl rfl rfl wd_291 dX4_begin_31 rfl) <|
  am_kc (ak_getR (C := RX0) (T := TX0) (N := 13) rfl inX0w (by decide) rfl rfl rfl wd_206 dX4_begin_34 rfl) <|
  am_kc (ak_getI (C := RX3) (T := TX3) (N := 3) rfl inX3w (by decide) rfl rfl rfl wd_149 dX4_begin_37 rfl) <|
  am_kc (ak_icmp_ge dX4_begin_40 (by decide +kernel) rfl) <|
  am_kc (ak_iload_n dX4_begin_43 rfl rfl) <|
  am_kc (ak_bipush dX4_begin_44 (by decide +kernel) rfl) <|
  am_kc (ak_icmp_ge dX4_begin_46 (by decide +kernel) rfl) <|
  am_kc (ak_aload_n dX4_begin_49 rfl rfl) <|
  am_kc (ak_getR (C := RX4) (T := TX4) (N := 19) rfl inX4w (by decide) rfl rfl rfl wd_291 dX4_begin_50 rfl) <|
  am_kc (ak_getR (C := RX0) (T := TX0) (N := 13) rfl inX0w (by decide) rfl rfl rfl wd_206 dX4_begin_53 rfl) <|
  am_kc (ak_iload_n dX4_begin_56 rfl rfl) <|
  am_kc (ak_iconst dX4_begin_57 (by decide +kernel) rfl) <|
  am_kc (ak_callV (C := RX3) (F := TX3) (N := 3) metX3_at rfl ⟨rfl, by decide +kernel, by decide +kernel, by decide +kernel⟩ (am_w5 wd_502 wd_503 wd_504 wd_64 wd_505) (by decide) dX4_begin_58 rfl) <|
  am_kc (ak_iload_n dX4_begin_61 rfl rfl) <|
  am_kc (ak_icmp_ne dX4_begin_62 (by decide +kernel) rfl) <|
  am_kc (ak_aload_n dX4_begin_65 rfl rfl) <|
  am_kc (ak_getR (C := RX4) (T := TX4) (N := 19) rfl inX4w (by decide) rfl rfl rfl wd_299 dX4_begin_66 rfl) <|
  am_kc (ak_aload_n dX4_begin_69 rfl rfl) <|
  am_kc (ak_getI (C := RX4) (T := TX4) (N := 19) rfl inX4w (by decide) rfl rfl rfl wd_303 dX4_begin_70 rfl) <|
  am_kc (ak_iload_n dX4_begin_73 rfl rfl) <|
  am_kc (ak_iast (t := 0) (fun _ => rfl) rfl dX4_begin_74 rfl) <|
  am_kc (ak_aload_n dX4_begin_75 rfl rfl) <|
  am_kc (ak_dup dX4_begin_76 rfl) <|
  am_kc (ak_getI (C := RX4) (T := TX4) (N := 19) rfl inX4w (by decide) rfl rfl rfl wd_303 dX4_begin_77 rfl) <|
  am_kc (ak_iconst dX4_begin_80 (by decide +kernel) rfl) <|
  am_kc (ak_iadd dX4_begin_81 rfl) <|
  am_kc (ak_putI (C := RX4) (T := TX4) (N := 19) rfl inX4w tyX4_ok nmX4 (by decide) rfl rfl rfl rfl (by decide +kernel) wd_303 dX4_begin_82 rfl) <|
  am_kc (ak_iconst dX4_begin_85 (by decide +kernel) rfl) <|
  am_kc (ak_istore dX4_begin_86 rfl) <|
  am_kc (ak_iload dX4_begin_88 rfl) <|
  am_kc (ak_bipush dX4_begin_90 (by decide +kernel) rfl) <|
  am_kc (ak_icmp_ge dX4_begin_92 (by decide +kernel) rfl) <|
  am_kc (ak_aload_n dX4_begin_95 rfl rfl) <|
  am_kc (ak_getR (C := RX4) (T := TX4) (N := 19) rfl inX4w (by decide) rfl rfl rfl wd_296 dX4_begin_96 rfl) <|
  am_kc (ak_iload dX4_begin_99 rfl) <|
  am_kc (ak_bipush dX4_begin_101 (by decide +kernel) rfl) <|
  am_kc (ak_imul dX4_begin_103 rfl) <|
  am_kc (ak_iload_n dX4_begin_104 rfl rfl) <|
  am_kc (ak_iadd dX4_begin_105 rfl) <|
  am_kc (ak_lconst dX4_begin_106 (by decide +kernel) rfl) <|
  am_kc (ak_last (t := 1) (fun _ => rfl) rfl dX4_begin_107 rfl) <|
  am_kc (ak_iinc dX4_begin_108 (by decide +kernel) rfl) <|
  am_kc (ak_goto dX4_begin_111 (by decide +kernel)) <|
  am_kc (ak_iinc dX4_begin_114 (by decide +kernel) rfl) <|
  am_kc (ak_goto dX4_begin_117 (by decide +kernel)) <|
  am_kc (ak_aload_n dX4_begin_120 rfl rfl) <|
  am_kc (ak_getI (C := RX4) (T := TX4) (N := 19) rfl inX4w (by decide) rfl rfl rfl wd_303 dX4_begin_121 rfl) <|
  am_kc (ak_if_le dX4_begin_124 (by decide +kernel) rfl) <|
  am_kc (ak_aload_n dX4_begin_127 rfl rfl) <|
  am_kc (ak_iload_n dX4_begin_128 rfl rfl) <|
  am_kc (ak_callV (C := RX4) (F := TX4) (N := 19) metX4_layNumbersE rfl ⟨rfl, by decide +kernel, by decide +kernel, by decide +kernel⟩ (am_w5 wd_558 wd_494 wd_495 wd_60 wd_496) (by decide) dX4_begin_129 rfl) <|
  am_kc (ak_retV dX4_begin_132) <| am_kn
theorem z_wIo {M : am_M} {n a k : Nat} {v : Int32} (h : a ≠ n) : (am_wI M n k v).1 a = M.1 a := funext fun b => by rw [am_wI_1, if_neg (fun q => h q.1)]
theorem z_wJ1 {M : am_M} {n k : Nat} {v : Int64} : (am_wJ M n k v).1 = M.1 := rfl
theorem z_wI2 {M : am_M} {n k : Nat} {v : Int32} : (am_wI M n k v).2 = M.2 := rfl
/-- the loans of a person -/
def z_mine (own : Int32 → Bool) (n : Nat) : List Int32 := ((List.range n).map Int32.ofNat).filter own
theorem z_mine_s (own : Int32 → Bool) (n : Nat) : z_mine own (n + 1) = z_mine own n ++ (if own (Int32.ofNat n) = true then [Int32.ofNat n] else []) := by
  unfold z_mine
  rw [List.range_succ, List.map_append, List.filter_append]
  congr 1
  show List.filter own [Int32.ofNat n] = _
  rw [List.filter_cons]
  rfl
theorem z_mine_in {own : Int32 → Bool} {n : Nat} {l : Int32} (hn : n ≤ 100) (h : l ∈ z_mine own n) : am_in l n ∧ own l = true := by
  unfold z_mine at h
  obtain ⟨h1, h2⟩ := List.mem_filter.mp h
  obtain ⟨i, hi, rfl⟩ := List.mem_map.mp h1
  have hi := List.mem_range.mp hi
  have e := (o_nat (n := i) (by omega)).1
  exact ⟨⟨by omega, by omega⟩, h2⟩
theorem z_mine_mem {own : Int32 → Bool} {n : Nat} {l : Int32} (hn : n ≤ 100) (h : am_in l n) (h2 : own l = true) : l ∈ z_mine own n := by
  unfold z_mine
  refine List.mem_filter.mpr ⟨List.mem_map.mpr ⟨l.toNatClampNeg, List.mem_range.mpr (g_cl h), o_cl h hn⟩, h2⟩
def c_own (M : am_M) (p l : Int32) : Bool := decide (am_loanAt M l 0 = p)
theorem c_own_iff {M : am_M} {p l : Int32} : c_own M p l = true ↔ am_loanAt M l 0 = p := by
  unfold c_own
  exact decide_eq_true_iff
abbrev c_mine (M : am_M) (p : Int32) (n : Nat) : List Int32 := z_mine (c_own M p) n
/-- sums of loans are 0 -/
def z_00 (s : Nat → Int64) (ms : List Int32) : Prop := ∃ _ : Unit, ∀ l ∈ ms, ∀ w, w < 6 → s (30 * w + l.toNatClampNeg) = 0
theorem z_00.v {s : Nat → Int64} {ms : List Int32} (h : z_00 s ms) {l : Int32} (hl : l ∈ ms) {w : Nat} (hw : w < 6) : s (30 * w + l.toNatClampNeg) = 0 := by obtain ⟨-, h⟩ := h; exact h l hl w hw
/-- what is another's stays -/
def c_ot (M : am_M) (p : Int32) (N : am_M) : Prop := ∃ _ : Unit, ∀ x w, am_in x 30 → ¬ c_own M p x = true → w < 6 → N.2 6 (30 * w + x.toNatClampNeg) = M.2 6 (30 * w + x.toNatClampNeg)
theorem c_ot.v {M N : am_M} {p x : Int32} {w : Nat} (h : c_ot M p N) (hx : am_in x 30) (ho : ¬ c_own M p x = true) (hw : w < 6) : N.2 6 (30 * w + x.toNatClampNeg) = M.2 6 (30 * w + x.toNatClampNeg) := by obtain ⟨-, h⟩ := h; exact h x w hx ho hw
theorem c_ot.eq {M N N2 : am_M} {p : Int32} (h : c_ot M p N) (e : ∀ j, N2.2 6 j = N.2 6 j) : c_ot M p N2 := ⟨(), fun x w hx ho hw => (e _).trans (h.v hx ho hw)⟩
/-- a run has begun -/
def c_bg (M : am_M) (p k : Int32) (N : am_M) : Prop := ∃ _ : Unit, (∀ a, a ≠ 4 → a ≠ 5 → a ≠ 7 → N.1 a = M.1 a) ∧ (∀ a, a ≠ 4 → a ≠ 6 → N.2 a = M.2 a) ∧ ((N.1 4 8 = p ∧ N.1 4 9 = k) ∧ N.1 4 10 = 0 ∧ N.1 4 11 = -1 ∧ N.1 4 12 = -1 ∧ N.2 4 14 = 0 ∧ N.2 4 15 = 0) ∧ c_ms N (c_sz N) = c_mine M p (M.1 33 2).toNatClampNeg ∧ z_00 (N.2 6) (c_mine M p (M.1 33 2).toNatClampNeg) ∧ (c_mine M p (M.1 33 2).toNatClampNeg ≠ [] → c_rw M p 40 N) ∧ c_ot M p N
/-- as far as a loan -/
def c_bx (M0 : am_M) (p w : Int32) (l : Nat) (M : am_M) : Prop := ∃ _ : Unit, (∀ a, a ≠ 4 → a ≠ 7 → M.1 a = M0.1 a) ∧ (∀ a, a ≠ 4 → a ≠ 6 → M.2 a = M0.2 a) ∧ ((M.1 4 8 = p ∧ M.1 4 9 = w) ∧ M.1 4 10 = 0 ∧ M.1 4 11 = -1 ∧ M.1 4 12 = -1 ∧ M.2 4 14 = 0 ∧ M.2 4 15 = 0) ∧ c_ms M (c_sz M) = c_mine M0 p l ∧ g_rI M ∧ c_ot M0 p M
def TE4_begin : am_T := fun live as M R => match as with
  | [.ref n, .int p, .int k] => am_mn live ∧ n = 4 ∧ am_in p 12 ∧ g_rI M ∧ c_A M ∧ (0 ≤ (M.1 33 2).toInt ∧ (M.1 33 2).toInt ≤ 30) ∧ ∀ M', c_bg M p k M' → g_rI M' → R none M'
  | _ => False
def JE4_begin : am_E → List Value → am_M → am_R → am_inv := fun live as M0 _ pc => match as with
  | [.ref n, .int p, .int w] => (match pc with
    | 29 => some ([0, 1, 3], fun k L st M => ∃ l : Int32, L = [(0, .ref 4), (1, .int p), (3, .int l)] ∧ st = [] ∧ k = ((31 - l.toInt).toNat * 2, 0) ∧ (0 ≤ l.toInt ∧ l.toInt ≤ (M0.1 33 2).toInt) ∧ (M.1 4 7).toInt ≤ l.toInt ∧ c_bx M0 p w l.toNatClampNeg M ∧ z_00 (M.2 6) (c_mine M0 p l.toNatClampNeg))
    | 88 => some ([0, 1, 3, 4], fun k L st M => ∃ l o : Int32, L = [(0, .ref 4), (1, .int p), (3, .int l), (4, .int o)] ∧ st = [] ∧ k = ((31 - l.toInt).toNat * 2 - 1, (6 - o.toInt).toNat) ∧ (0 ≤ l.toInt ∧ l.toInt < (M0.1 33 2).toInt) ∧ (M.1 4 7).toInt ≤ l.toInt + 1 ∧ (0 ≤ o.toInt ∧ o.toInt ≤ 6) ∧ c_own M0 p l = true ∧ c_bx M0 p w (l.toNatClampNeg + 1) M ∧ z_00 (M.2 6) (c_mine M0 p l.toNatClampNeg) ∧ ∀ v : Nat, (v : Int) < o.toInt → M.2 6 (30 * v + l.toNatClampNeg) = 0)
    | _ => none)
  | _ => none
theorem c_ms_w {M : am_M} {d : Nat} {v : Int32} : c_ms (am_wI M 7 d v) (d + 1) = c_ms M d ++ [v] := by
  rw [c_ms_s]
  congr 1
  · unfold c_ms
    refine List.map_congr_left (fun j hj => ?_)
    have := List.mem_range.mp hj
    rw [am_wI_1, if_neg (fun q => by omega)]
  · rw [am_wI_1, if_pos ⟨rfl, rfl⟩]
set_option maxRecDepth 100000 in
set_option maxHeartbeats 4000000 in
theorem metX4_beginE : am_Met yX4_begin cX4_begin 5 none (3) (72) TE4_begin := by
  refine am_met (own := RX4) (by decide +kernel) rfl kX4_beginE koX4_beginE 150 JE4_begin ?_ ?_
  · intro live as M Ret h
    unfold TE4_begin at h
    split at h
    · next n p w =>
      refine ⟨Nat.le_of_ble_eq_true rfl, ?_⟩
      change am_wp _ _ _ _ [(0, Value.ref n), (1, Value.int p), (2, Value.int w)] _ _
      obtain ⟨hmn, rfl, hp, hr, hA, hn, h⟩ := h
      have hmn2 := hmn
      obtain ⟨i1, i2, rfl⟩ := hmn2
      repeat' (first | (with_reducible exact hmn) | (with_reducible exact hp) | apply And.intro | exact rfl | intro hx | (refine Exists.intro _ (And.intro rfl ?_)))
      all_goals try first | (with_reducible change am_tI _ _) | (change Ret _ _) | (change Ret _ _ _) | (change Exists _)
      all_goals try dsimp only at *
      all_goals try exact absurd ‹(1000 : Int64) = 0› (by decide)
      all_goals first | exact hp.1 | exact hp.2 | skip
      refine ⟨_, _, rfl, rfl, rfl, ⟨by decide, hn.1⟩, by rw [am_wI_self]; decide, ⟨(), fun a z4 z7 => ?_, fun a z4 z6 => ?_, ⟨⟨rfl, rfl⟩, rfl, rfl, rfl, rfl, rfl⟩, rfl, ?_, ⟨(), fun x w hx ho hw => by simp only [z_wI2, z_wJo (show (6 : Nat) ≠ 4 by decide)]⟩⟩, ⟨(), fun l hl => absurd hl (List.not_mem_nil)⟩⟩
      · simp only [z_wJ1, z_wIo z4]
      · simp only [z_wI2, z_wJo z4]
      · exact g_rI.w47 (g_rI.wJ (g_rI.wJ (g_rI.w413 (g_rI.w412 (g_rI.w411 (g_rI.w410 (g_rI.wF (g_rI.w48 hr hp) rfl) (by decide)) (Or.inl rfl)) (Or.inl rfl)) (g_i2 _)))) ⟨(), by decide, by decide⟩
    · exact h.elim
  · intro live as M0 Ret h k pc I hI L st M hi
    unfold TE4_begin at h
    split at h
    · next n p w =>
      obtain ⟨hmn, rfl, hp, hr, hA, hn, h⟩ := h
      have hmn2 := hmn
      obtain ⟨i1, i2, rfl⟩ := hmn2
      have cn := i_clamp hn.1
      change (match pc with | 29 => _ | 88 => _ | _ => none) = _ at hI
      split at hI
      · cases hI
        obtain ⟨l, rfl, rfl, rfl, ⟨e1, e5⟩, e4, bx, z0⟩ := hi
        have bx0 := bx
        obtain ⟨-, b1, b2, b3, b4, e3, ot⟩ := bx
        have cl := i_clamp e1
        have hs := e3.s.sz
        have cs : (c_sz M : Int) = (M.1 4 7).toInt := i_clamp hs.1
        have cs2 := i_clamp hs.1
        have em : M.1 33 2 = M0.1 33 2 := by rw [b1 33 (by decide) (by decide)]
        by_cases hq : M.1 33 2 ≤ l
        · have hq2 := hq
          rw [em] at hq2
          simp only [i_le] at hq2
          have el : l.toNatClampNeg = (M0.1 33 2).toNatClampNeg := by omega
          rw [el] at b4 z0
          have hAM : c_A M := hA.cg (b1 31 (by decide) (by decide)) (b1 32 (by decide) (by decide))
          by_cases hz : M.1 4 7 ≤ 0
          · have hz2 := hz
            simp only [i_le, Int32.toInt_zero] at hz2
            have nil : c_mine M0 p (M0.1 33 2).toNatClampNeg = [] := by
              rw [← b4, show c_sz M = 0 by omega]
              rfl
            have hh := h M ⟨(), fun a z4 _ z7 => b1 a z4 z7, b2, b3, b4, z0, fun q => absurd nil q, ot⟩ e3
            repeat' (first | (with_reducible exact hmn) | (with_reducible exact hp) | apply And.intro | exact rfl | (intro hx; with_reducible exact absurd hq hx) | (intro hx; with_reducible exact absurd hz hx) | (intro hx; exact absurd hx (by decide)) | (intro hx; exact absurd (by decide) hx) | decide | intro hx | (refine Exists.intro _ (And.intro rfl ?_)))
            all_goals try first | (with_reducible change am_tI _ _) | (change Ret _ _) | (change Ret _ _ _) | (change Exists _)
            all_goals try dsimp only at *
            all_goals try exact absurd ‹(1000 : Int64) = 0› (by decide)
            all_goals exact hh
          · skip
            repeat' (first | (with_reducible exact hmn) | (with_reducible exact hp) | (with_reducible exact hAM) | apply And.intro | exact rfl | (intro hx; with_reducible exact absurd hx hz) | (intro hx; with_reducible exact absurd hq hx) | (intro hx; exact absurd hx (by decide)) | (intro hx; exact absurd (by decide) hx) | decide | intro hx | (refine Exists.intro _ (And.intro rfl ?_)))
            all_goals try first | (with_reducible change am_tI _ _) | (change Ret _ _) | (change Ret _ _ _) | (change Exists _)
            all_goals try dsimp only at *
            all_goals try exact absurd ‹(1000 : Int64) = 0› (by decide)
            all_goals
              rename_i N n5
              have rw40 := hx
              refine h N ⟨(), fun a z4 z5 z7 => (n5.i z5).trans (b1 a z4 z7), fun a z4 z6 => ?_, ?_, ?_, ?_, fun _ => ?_, ?_⟩ (n5.rI e3)
              · obtain ⟨-, -, n52⟩ := n5
                exact (funext fun b => n52 a b).trans (b2 a z4 z6)
              · have n5a := n5
                obtain ⟨-, -, n52⟩ := n5a
                obtain ⟨⟨c1, c2⟩, c3, c4, c5, c6, c7⟩ := b3
                rw [n5.i (show (4 : Nat) ≠ 5 by decide), n52, n52]
                exact ⟨⟨c1, c2⟩, c3, c4, c5, c6, c7⟩
              · rw [← b4]
                unfold c_ms c_sz
                rw [n5.i (show (4 : Nat) ≠ 5 by decide), n5.i (show (7 : Nat) ≠ 5 by decide)]
              · obtain ⟨-, -, n52⟩ := n5
                exact ⟨(), fun l hl w hw => by rw [n52]; exact z0.v hl hw⟩
              · refine ⟨(), fun y' pl w z1 z2 z3 => ?_⟩
                rw [rw40.v z1 z2 z3]
                unfold q_Fn
                rw [b1 32 (by decide) (by decide), b1 31 (by decide) (by decide), b1 22 (by decide) (by decide)]
              · obtain ⟨-, -, n52⟩ := n5
                exact ot.eq (fun j => n52 6 j)
        · have hq2 := hq
          rw [em] at hq2
          simp only [i_le] at hq2
          have hz : ¬ (30 : Int32) ≤ l := fun q => by simp only [i_le, Int32.reduceToInt] at q; omega
          have hi := i_inc (x := l) (by omega) (by omega)
          have cl1 := i_clamp (x := l + 1) (by omega)
          have hl : am_in l 30 := ⟨e1, by omega⟩
          have hsi := i_inc (x := M.1 4 7) (by omega) (by omega)
          have csi := i_clamp (x := M.1 4 7 + 1) (by omega)
          have e47 : ∀ k v, (am_wI M 7 k v).1 4 7 = M.1 4 7 := fun k v => by rw [am_wI_1, if_neg (fun q => absurd q.1 (by decide))]
          have l7 : am_len 7 = 30 := rfl
          have eo : am_loanAt M l 0 = am_loanAt M0 l 0 := by
            unfold am_loanAt
            rw [b1 34 (by decide) (by decide), b1 33 (by decide) (by decide)]
          have ol := o_cl hl (by decide)
          by_cases hm : am_at (M.1 34) (am_len 34) (l * M.1 33 1 + 0) = p
          · have ho : c_own M0 p l = true := c_own_iff.mpr (by rw [← eo]; exact hm)
            repeat' (first | (with_reducible exact hmn) | (with_reducible exact hp) | (with_reducible exact e3) | apply And.intro | exact rfl | (intro hx; with_reducible exact absurd hx hq) | (intro hx; with_reducible exact absurd hx hz) | (intro hx; with_reducible exact absurd hm hx) | ((with_reducible change g_rI _); (with_reducible assumption)) | intro hx | (refine Exists.intro _ (And.intro rfl ?_)))
            all_goals try first | (with_reducible change am_tI _ _) | (change Ret _ _) | (change Ret _ _ _) | (change Exists _)
            all_goals try dsimp only at *
            all_goals try exact absurd ‹(1000 : Int64) = 0› (by decide)
            all_goals first
              | omega
              | (rw [l7]; omega)
              | skip
            refine ⟨_, am_lt_l (by omega), _, _, rfl, rfl, rfl, ⟨e1, by omega⟩, ?_, ⟨by decide, by decide⟩, ho, ⟨(), fun a z4 z7 => ?_, b2, b3, ?_, g_rI.w47 (g_rI.w7 e3 hl) ?_, ot.eq (fun _ => rfl)⟩, z0, fun v hv => absurd hv (by simp only [Int32.toInt_zero]; omega)⟩
            · rw [am_wI_self, e47]; omega
            · funext b
              rw [am_wI_1, if_neg (fun q => z4 q.1), am_wI_1, if_neg (fun q => z7 q.1), b1 a z4 z7]
            · have b4 : c_ms M (c_sz M) = z_mine (c_own M0 p) l.toNatClampNeg := b4
              show c_ms _ (c_sz _) = z_mine _ (_ + 1)
              rw [z_mine_s, ol, if_pos ho, ← b4, show c_sz (am_wI (am_wI M 7 (M.1 4 7).toNatClampNeg l) 4 7 ((am_wI M 7 (M.1 4 7).toNatClampNeg l).1 4 7 + 1)) = c_sz M + 1 by unfold c_sz; rw [am_wI_self, e47]; omega]
              exact c_ms_w
            · rw [e47]; exact ⟨(), by omega, by omega⟩
          · have ho : ¬ c_own M0 p l = true := fun q => hm (by have q2 := c_own_iff.mp q; rw [← eo] at q2; exact q2)
            have mm : c_mine M0 p (l + 1).toNatClampNeg = c_mine M0 p l.toNatClampNeg := by
              rw [show (l + 1).toNatClampNeg = l.toNatClampNeg + 1 by omega]
              show z_mine _ (_ + 1) = _
              rw [z_mine_s, ol, if_neg ho, List.append_nil]
            repeat' (first | (with_reducible exact hmn) | (with_reducible exact hp) | (with_reducible exact e3) | apply And.intro | exact rfl | (intro hx; with_reducible exact absurd hx hq) | (intro hx; with_reducible exact absurd hx hz) | (intro hx; with_reducible exact absurd hx hm) | ((with_reducible change g_rI _); (with_reducible assumption)) | intro hx | (refine Exists.intro _ (And.intro rfl ?_)))
            all_goals try first | (with_reducible change am_tI _ _) | (change Ret _ _) | (change Ret _ _ _) | (change Exists _)
            all_goals try dsimp only at *
            all_goals try exact absurd ‹(1000 : Int64) = 0› (by decide)
            all_goals first
              | omega
              | (rw [l7]; omega)
              | exact ⟨_, am_lt_l (by omega), _, rfl, rfl, rfl, ⟨by omega, by omega⟩, by omega, by rw [show (l + 1).toNatClampNeg = l.toNatClampNeg + 1 by omega] at mm ⊢; exact ⟨(), b1, b2, b3, b4.trans mm.symm, e3, ot⟩, by rw [mm]; exact z0⟩
              | skip
      · cases hI
        obtain ⟨l, o, rfl, rfl, rfl, ⟨e1, e5⟩, e4, ⟨e6, e7⟩, ho, bx, z0, z1⟩ := hi
        have hi := i_inc (x := l) (by omega) (by omega)
        have cl := i_clamp e1
        have cl1 := i_clamp (x := l + 1) (by omega)
        have hl : am_in l 30 := ⟨e1, by omega⟩
        have ol := o_cl hl (by decide)
        by_cases hz : (6 : Int32) ≤ o
        · have hz2 := hz
          simp only [i_le, Int32.reduceToInt] at hz2
          repeat' (first | apply And.intro | exact rfl | (intro hx; with_reducible exact absurd hz hx) | intro hx | (refine Exists.intro _ (And.intro rfl ?_)))
          all_goals try first | (with_reducible change am_tI _ _) | (change Ret _ _) | (change Ret _ _ _) | (change Exists _)
          all_goals try dsimp only at *
          all_goals try exact absurd ‹(1000 : Int64) = 0› (by decide)
          refine ⟨_, am_lt_l (by omega), _, rfl, rfl, rfl, ⟨by omega, by omega⟩, by omega, by rw [show (l + 1).toNatClampNeg = l.toNatClampNeg + 1 by omega]; exact bx, ⟨(), fun x hx v hv => ?_⟩⟩
          rw [show (l + 1).toNatClampNeg = l.toNatClampNeg + 1 by omega] at hx
          have hx : x ∈ z_mine (c_own M0 p) (l.toNatClampNeg + 1) := hx
          rw [z_mine_s, ol, if_pos ho] at hx
          rcases List.mem_append.mp hx with q | q
          · exact z0.v q hv
          · rw [List.mem_singleton.mp q]
            exact z1 v (by omega)
        · have hz2 := hz
          simp only [i_le, Int32.reduceToInt] at hz2
          have ho2 := i_inc (x := o) (by omega) (by omega)
          have co := i_clamp e6
          have e30 := i_mul (x := o) (y := 30) (by simp only [Int32.reduceToInt]; omega) (by simp only [Int32.reduceToInt]; omega)
          simp only [Int32.reduceToInt] at e30
          have e := i_add (x := o * 30) (y := l) (by rw [e30]; omega) (by rw [e30]; omega)
          have ce := i_clamp (x := o * 30 + l) (by omega)
          have l6 : am_len 6 = 180 := rfl
          obtain ⟨-, b1, b2, b3, b4, e3, ot⟩ := bx
          have zz : ∀ j : Nat, M.2 6 j = 0 → (am_wJ M 6 (o * 30 + l).toNatClampNeg 0).2 6 j = 0 := fun j hj => by
            rw [am_wJ_1]
            split
            · rfl
            · exact hj
          repeat' (first | apply And.intro | exact rfl | (intro hx; with_reducible exact absurd hx hz) | intro hx | (refine Exists.intro _ (And.intro rfl ?_)))
          all_goals try first | (with_reducible change am_tI _ _) | (change Ret _ _) | (change Ret _ _ _) | (change Exists _)
          all_goals try dsimp only at *
          all_goals try exact absurd ‹(1000 : Int64) = 0› (by decide)
          all_goals first
            | omega
            | (rw [l6]; omega)
            | skip
          refine ⟨_, am_lt_r (by omega), _, _, rfl, rfl, rfl, ⟨e1, e5⟩, e4, ⟨by omega, by omega⟩, ho, ⟨(), b1, fun a z4 z6 => by rw [z_wJo z6]; exact b2 a z4 z6, b3, b4, e3.wJ, ⟨(), fun x v hx hno hv => ?_⟩⟩, ⟨(), fun x hx v hv => zz _ (z0.v hx hv)⟩, fun v hv => ?_⟩
          · have gx := g_cl hx
            have gl := g_cl hl
            rw [am_wJ_1, if_neg (fun q => hno ?_)]
            · exact ot.v hx hno hv
            · have q2 := q.2
              rw [← o_cl hx (by decide), show x.toNatClampNeg = l.toNatClampNeg by omega, ol]
              exact ho
          by_cases hvo : (v : Int) < o.toInt
          · exact zz _ (z1 v hvo)
          · rw [am_wJ_1, if_pos ⟨rfl, by omega⟩]
      · cases hI
    · exact h.elim
