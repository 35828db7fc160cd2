/-! exact: what is in force: the class -/
def q_L (A : Nat → Int32) (bg pl w : Int32) (y : Int) : Nat → Option Nat
  | 0 => none
  | i + 1 => if q_mt A bg pl w i = true ∧ (A (6 * i + 3)).toInt = y then some i else q_L A bg pl w y i
theorem q_L_lt {A : Nat → Int32} {bg pl w : Int32} {y : Int} : ∀ {m b}, q_L A bg pl w y m = some b → b < m ∧ (A (6 * b + 3)).toInt = y
  | 0, _, h => by cases h
  | m + 1, b, h => by
    unfold q_L at h
    split at h
    · next z => cases h; exact ⟨by omega, z.2⟩
    · have ih := q_L_lt h
      exact ⟨by omega, ih.2⟩
theorem q_L_R {A : Nat → Int32} {bg pl w : Int32} {y : Int} : ∀ m, q_R A bg pl w y m = (match q_L A bg pl w y m with | some b => some b | none => q_R A bg pl w (y - 1) m)
  | 0 => rfl
  | m + 1 => by
    have ih := q_L_R (A := A) (bg := bg) (pl := pl) (w := w) (y := y) m
    by_cases hm : q_mt A bg pl w m = true
    · by_cases h1 : (A (6 * m + 3)).toInt = y
      · have e1 : q_L A bg pl w y (m + 1) = some m := if_pos ⟨hm, h1⟩
        rw [e1]
        cases ho : q_R A bg pl w y m with
        | none => exact q_R_s2 ⟨hm, by omega⟩ ho
        | some b => exact q_R_s3 ⟨hm, by omega⟩ ho (by have := (q_R_lt ho).2.2; omega)
      · have e1 : q_L A bg pl w y (m + 1) = q_L A bg pl w y m := if_neg (fun z => h1 z.2)
        rw [e1]
        by_cases h2 : (A (6 * m + 3)).toInt ≤ y
        · cases hl : q_L A bg pl w y m with
          | some b =>
            rw [hl] at ih
            exact q_R_s4 ih (by have := (q_L_lt hl).2; omega)
          | none =>
            rw [hl] at ih
            dsimp only at ih ⊢
            cases ho : q_R A bg pl w (y - 1) m with
            | none =>
              rw [ho] at ih
              rw [q_R_s2 ⟨hm, h2⟩ ih, q_R_s2 ⟨hm, by omega⟩ ho]
            | some b =>
              rw [ho] at ih
              by_cases h3 : (A (6 * b + 3)).toInt ≤ (A (6 * m + 3)).toInt
              · rw [q_R_s3 ⟨hm, h2⟩ ih h3, q_R_s3 ⟨hm, by omega⟩ ho h3]
              · rw [q_R_s4 ih h3, q_R_s4 ho h3]
        · rw [q_R_s1 (fun z => h2 z.2), q_R_s1 (y := y - 1) (fun z => by have := z.2; omega)]
          exact ih
    · have e1 : q_L A bg pl w y (m + 1) = q_L A bg pl w y m := if_neg (fun z => hm z.1)
      rw [e1, q_R_s1 (fun z => hm z.1), q_R_s1 (y := y - 1) (fun z => hm z.1)]
      exact ih
theorem q_R_neg {A : Nat → Int32} {bg pl w : Int32} {y : Int} (h : ∀ i, 0 ≤ (A (6 * i + 3)).toInt) (hy : y < 0) : ∀ m, q_R A bg pl w y m = none
  | 0 => rfl
  | m + 1 => by
    rw [q_R_s1 (fun z => by have := z.2; have := h m; omega)]
    exact q_R_neg h hy m
theorem q_R_neg2 {A : Nat → Int32} {bg pl w : Int32} {y : Int} (hy : y < 0) : ∀ m, (∀ i, i < m → 0 ≤ (A (6 * i + 3)).toInt) → q_R A bg pl w y m = none
  | 0, _ => rfl
  | m + 1, h => by
    rw [q_R_s1 (fun z => by have := z.2; have := h m (by omega); omega)]
    exact q_R_neg2 hy m (fun i hi => h i (by omega))
/-- a year's number, the first acts of the year laid -/
def q_V (A : Nat → Int32) (n : Nat) (bg pl w : Int32) (y : Int) (i : Nat) : Int32 := match q_L A bg pl w y i with
  | some a => A (6 * a + 2)
  | none => q_F A n bg pl w (y - 1)
theorem q_V_n (A : Nat → Int32) (n : Nat) (bg pl w : Int32) (y : Int) : q_V A n bg pl w y n = q_F A n bg pl w y := by
  unfold q_V
  conv => rhs; unfold q_F
  rw [q_L_R n]
  cases q_L A bg pl w y n with
  | some a => rfl
  | none => rfl
theorem q_V_0 (A : Nat → Int32) (n : Nat) (bg pl w : Int32) (y : Int) : q_V A n bg pl w y 0 = q_F A n bg pl w (y - 1) := rfl
theorem q_V_y {A : Nat → Int32} {n : Nat} {bg pl w : Int32} {y : Int} {i : Nat} (h : q_mt A bg pl w i = true ∧ (A (6 * i + 3)).toInt = y) : q_V A n bg pl w y (i + 1) = A (6 * i + 2) := by
  unfold q_V
  rw [show q_L A bg pl w y (i + 1) = some i from if_pos h]
theorem q_V_s {A : Nat → Int32} {n : Nat} {bg pl w : Int32} {y : Int} {i : Nat} (h : ¬ (q_mt A bg pl w i = true ∧ (A (6 * i + 3)).toInt = y)) : q_V A n bg pl w y (i + 1) = q_V A n bg pl w y i := by
  unfold q_V
  rw [show q_L A bg pl w y (i + 1) = q_L A bg pl w y i from if_neg h]
theorem q_F_neg {A : Nat → Int32} {n : Nat} {bg pl w : Int32} {y : Int} (hy : y < 0) (h : ∀ i, i < n → 0 ≤ (A (6 * i + 3)).toInt) : q_F A n bg pl w y = am_sf 0 w.toNatClampNeg := by
  unfold q_F
  rw [q_R_neg2 hy n h]
/-- the class's acts: as wide as they must be, their plans and numbers are such -/
def c_A (M : am_M) : Prop := ∃ _ : Unit, M.1 31 1 = 6 ∧ (0 ≤ (M.1 31 2).toInt ∧ (M.1 31 2).toInt ≤ 61) ∧ ∀ i : Nat, (i : Int) < (M.1 31 2).toInt → am_in (M.1 32 (6 * i)) 5 ∧ am_in (M.1 32 (6 * i + 1)) 6 ∧ 0 ≤ (M.1 32 (6 * i + 3)).toInt
theorem c_A.w {M : am_M} (h : c_A M) : M.1 31 1 = 6 := by obtain ⟨-, h, -⟩ := h; exact h
theorem c_A.n {M : am_M} (h : c_A M) : 0 ≤ (M.1 31 2).toInt ∧ (M.1 31 2).toInt ≤ 61 := by obtain ⟨-, -, h, -⟩ := h; exact h
theorem c_A.a {M : am_M} (h : c_A M) {i : Nat} (hi : (i : Int) < (M.1 31 2).toInt) : am_in (M.1 32 (6 * i)) 5 ∧ am_in (M.1 32 (6 * i + 1)) 6 ∧ 0 ≤ (M.1 32 (6 * i + 3)).toInt := by obtain ⟨-, -, -, h⟩ := h; exact h i hi
theorem c_A.cg {M N : am_M} (h : c_A M) (e1 : N.1 31 = M.1 31) (e2 : N.1 32 = M.1 32) : c_A N := by
  obtain ⟨-, a, b, c⟩ := h
  exact ⟨(), by rw [e1]; exact a, by rw [e1]; exact b, fun i hi => by rw [e2]; rw [e1] at hi; exact c i hi⟩
theorem c_at {M : am_M} {a c : Int32} {k : Nat} (hw : M.1 31 1 = 6) (ha : am_in a 61) (hc : c.toInt = (k : Int)) (hk : k < 6) : am_at (M.1 32) (am_len 32) (a * M.1 31 1 + c) = M.1 32 (6 * a.toNatClampNeg + k) := by
  have a1 := ha.1
  have a2 := ha.2
  rw [hw]
  have e := i_mul (x := a) (y := 6) (by simp only [Int32.reduceToInt]; omega) (by simp only [Int32.reduceToInt]; omega)
  simp only [Int32.reduceToInt] at e
  have e2 := i_add (x := a * 6) (y := c) (by omega) (by omega)
  have l32 : am_len 32 = 366 := rfl
  rw [am_at_in (show am_in (a * 6 + c) (am_len 32) from ⟨by omega, by rw [l32]; omega⟩)]
  have c1 := i_clamp (x := a * 6 + c) (by omega)
  have c2 := i_clamp a1
  rw [show (a * 6 + c).toNatClampNeg = 6 * a.toNatClampNeg + k by omega]
theorem c_cell {y p w : Int32} (hy : am_in y 40) (hp : am_in p 5) (hw : am_in w 6) : ((y * 5 + p) * 6 + w).toInt = 30 * y.toInt + 6 * p.toInt + w.toInt ∧ ((y * 5 + p) * 6 + w).toNatClampNeg = 30 * y.toNatClampNeg + 6 * p.toNatClampNeg + w.toNatClampNeg := by
  have y1 := hy.1
  have y2 := hy.2
  have p1 := hp.1
  have p2 := hp.2
  have w1 := hw.1
  have w2 := hw.2
  have e := i_mul (x := y) (y := 5) (by simp only [Int32.reduceToInt]; omega) (by simp only [Int32.reduceToInt]; omega)
  simp only [Int32.reduceToInt] at e
  have e2 := i_add (x := y * 5) (y := p) (by omega) (by omega)
  have e3 := i_mul (x := y * 5 + p) (y := 6) (by simp only [Int32.reduceToInt]; omega) (by simp only [Int32.reduceToInt]; omega)
  simp only [Int32.reduceToInt] at e3
  have e4 := i_add (x := (y * 5 + p) * 6) (y := w) (by omega) (by omega)
  have c1 := i_clamp (x := (y * 5 + p) * 6 + w) (by omega)
  have c2 := i_clamp y1
  have c3 := i_clamp p1
  have c4 := i_clamp w1
  exact ⟨by omega, by omega⟩
def c_lay (M : am_M) (a y b : Int32) : am_M := if (M.1 32 (6 * a.toNatClampNeg + 4)).toInt ≤ b.toInt ∧ b.toInt ≤ (M.1 32 (6 * a.toNatClampNeg + 5)).toInt then am_wI M 5 (30 * y.toNatClampNeg + 6 * (M.1 32 (6 * a.toNatClampNeg)).toNatClampNeg + (M.1 32 (6 * a.toNatClampNeg + 1)).toNatClampNeg) (M.1 32 (6 * a.toNatClampNeg + 2)) else M
def TE4_layAct : am_T := fun live as M R => match as with
  | [.ref n, .int a, .int y, .int b] => am_mn live ∧ n = 4 ∧ M.1 31 1 = 6 ∧ am_in a 61 ∧ am_in y 40 ∧ am_in (M.1 32 (6 * a.toNatClampNeg)) 5 ∧ am_in (M.1 32 (6 * a.toNatClampNeg + 1)) 6 ∧ R none (c_lay M a y b)
  | _ => False
set_option maxRecDepth 100000 in
set_option maxHeartbeats 4000000 in
theorem metX4_layActE : am_Met yX4_layAct cX4_layAct 6 none (1) (23) TE4_layAct := by
  refine am_met (own := RX4) (by decide +kernel) rfl kX4_layAct koX4_layAct 100 (fun _ _ _ _ _ => none) (fun live as M Ret h => ?_) (fun _ _ _ _ _ _ _ _ hI => by cases hI)
  unfold TE4_layAct at h
  split at h
  · next n a y b =>
    refine ⟨Nat.le_of_ble_eq_true rfl, ?_⟩
    change am_wp _ _ _ _ [(0, Value.ref n), (1, Value.int a), (2, Value.int y), (3, Value.int b)] _ _
    obtain ⟨hmn, rfl, hw, ha, hy, hpl, hwh, h⟩ := h
    have hmn2 := hmn
    obtain ⟨i1, i2, rfl⟩ := hmn2
    have l5 : am_len 5 = 1200 := rfl
    have f0 := c_at hw ha (c := 0) (k := 0) rfl (by decide)
    have f1 := c_at hw ha (c := 1) (k := 1) rfl (by decide)
    have f2 := c_at hw ha (c := 2) (k := 2) rfl (by decide)
    have f4 := c_at hw ha (c := 4) (k := 4) rfl (by decide)
    have f5 := c_at hw ha (c := 5) (k := 5) rfl (by decide)
    rw [Nat.add_zero] at f0
    rw [← f0] at hpl
    rw [← f1] at hwh
    have cc := c_cell hy hpl hwh
    have y1 := hy.1
    have y2 := hy.2
    have p1 := hpl.1
    have p2 := hpl.2
    have w1 := hwh.1
    have w2 := hwh.2
    have hc1 : ¬ (y * 5 + am_at (M.1 32) (am_len 32) (a * M.1 31 1 + 0)) * 6 + am_at (M.1 32) (am_len 32) (a * M.1 31 1 + 1) < 0 := fun q => by
      simp only [i_lt, cc.1, Int32.reduceToInt] at q
      omega
    have hc2 : ¬ Int32.ofNat (am_len 5) ≤ (y * 5 + am_at (M.1 32) (am_len 32) (a * M.1 31 1 + 0)) * 6 + am_at (M.1 32) (am_len 32) (a * M.1 31 1 + 1) := fun q => by
      have hn : (Int32.ofNat (am_len 5)).toInt = 1200 := by decide +kernel
      simp only [i_le, cc.1, hn] at q
      omega
    have hc3 : 0 ≤ ((y * 5 + am_at (M.1 32) (am_len 32) (a * M.1 31 1 + 0)) * 6 + am_at (M.1 32) (am_len 32) (a * M.1 31 1 + 1)).toInt := by omega
    have hc4 : ((y * 5 + am_at (M.1 32) (am_len 32) (a * M.1 31 1 + 0)) * 6 + am_at (M.1 32) (am_len 32) (a * M.1 31 1 + 1)).toInt < (am_len 5 : Int) := by rw [l5]; omega
    by_cases z4 : b < am_at (M.1 32) (am_len 32) (a * M.1 31 1 + 4)
    · have e : c_lay M a y b = M := if_neg (fun q => by have q1 := q.1; simp only [i_lt, f4] at z4; omega)
      rw [e] at h
      repeat' (first | (with_reducible exact hmn) | apply And.intro | exact rfl | (intro hx; with_reducible exact absurd z4 hx) | (intro hx; exact absurd hx (by decide)) | (intro hx; exact absurd (by decide) hx) | decide | intro hx | (refine Exists.intro _ (And.intro rfl ?_)))
      all_goals try first | (with_reducible change am_tI _ _) | (change Ret _ _) | (change Ret _ _ _) | (change Exists _)
      all_goals try dsimp only at *
      all_goals try (with_reducible exact absurd ‹(1000 : Int64) = 0› am_z1000)
      all_goals exact h
    · by_cases z5 : am_at (M.1 32) (am_len 32) (a * M.1 31 1 + 5) < b
      · have e : c_lay M a y b = M := if_neg (fun q => by have q1 := q.2; simp only [i_lt, f5] at z5; omega)
        rw [e] at h
        repeat' (first | (with_reducible exact hmn) | apply And.intro | exact rfl | (intro hx; with_reducible exact absurd hx z4) | (intro hx; with_reducible exact absurd z5 hx) | (intro hx; exact absurd hx (by decide)) | (intro hx; exact absurd (by decide) hx) | decide | intro hx | (refine Exists.intro _ (And.intro rfl ?_)))
        all_goals try first | (with_reducible change am_tI _ _) | (change Ret _ _) | (change Ret _ _ _) | (change Exists _)
        all_goals try dsimp only at *
        all_goals try (with_reducible exact absurd ‹(1000 : Int64) = 0› am_z1000)
        all_goals exact h
      · have e : c_lay M a y b = am_wI M 5 ((y * 5 + am_at (M.1 32) (am_len 32) (a * M.1 31 1 + 0)) * 6 + am_at (M.1 32) (am_len 32) (a * M.1 31 1 + 1)).toNatClampNeg (am_at (M.1 32) (am_len 32) (a * M.1 31 1 + 2)) := by
          rw [cc.2, f0, f1, f2]
          exact if_pos ⟨by simp only [i_lt, f4] at z4; omega, by simp only [i_lt, f5] at z5; omega⟩
        rw [e] at h
        repeat' (first | (with_reducible exact hmn) | (with_reducible exact hc3) | (with_reducible exact hc4) | apply And.intro | exact rfl | (intro hx; with_reducible exact absurd hx z4) | (intro hx; with_reducible exact absurd hx z5) | (intro hx; with_reducible exact absurd hx hc1) | (intro hx; with_reducible exact absurd hx hc2) | (intro hx; exact absurd hx (by decide)) | (intro hx; exact absurd (by decide) hx) | decide | intro hx | (refine Exists.intro _ (And.intro rfl ?_)))
        all_goals try first | (with_reducible change am_tI _ _) | (change Ret _ _) | (change Ret _ _ _) | (change Exists _)
        all_goals try dsimp only at *
        all_goals try (with_reducible exact absurd ‹(1000 : Int64) = 0› am_z1000)
        all_goals exact h
  · exact h.elim
def kX4_layNumbersE (live : am_E) (Ret : am_R) : am_code := [(0, am_const (.int 30) 2), (2, am_istore 2 5 3), (3, am_const (.int 0) 4), (4, am_istore 3 5 5), (5, am_iload 3 6), (6, am_iload 2 7), (7, am_if2 (fun x y => y ≤ x) 30 10), (10, am_aload 0 11), (11, am_getR live 4 1 14), (14, am_iload 3 15), (15, am_const (.ref 1000) 18), (18, am_iload 3 19), (19, am_const (.int 6) 21), (21, am_i2z (fun x y => x - x / y * y) 22), (22, am_sld 0 23), (23, am_ast live 0 24), (24, am_iinc 3 5 1 27), (27, am_goto 5), (30, am_const (.int 0) 31), (31, am_istore 3 5 32), (32, am_iload 3 33), (33, am_const (.int 40) 35), (35, am_if2 (fun x y => y ≤ x) 128 38), (38, am_iload 3 39), (39, am_if1 (fun x => x ≤ 0) 62 42), (42, am_aload 0 43), (43, am_getR live 4 1 46), (46, am_iload 3 47), (47, am_const (.int 1) 48), (48, am_i2 (fun x y => x - y) 49), (49, am_iload 2 50), (50, am_i2 (fun x y => x * y) 51), (51, am_aload 0 52), (52, am_getR live 4 1 55), (55, am_iload 3 56), (56, am_iload 2 57), (57, am_i2 (fun x y => x * y) 58), (58, am_iload 2 59), (59, am_copyI live 48 62), (62, am_const (.int 0) 63), (63, am_istore 4 5 65), (65, am_iload 4 67), (67, am_aload 0 68), (68, am_getR live 4 0 71), (71, am_getR live 0 3 74), (74, am_getI live 3 2 77), (77, am_if2 (fun x y => y ≤ x) 122 80), (80, am_aload 0 81), (81, am_getR live 4 0 84), (84, am_getR live 0 3 87), (87, am_iload 4 89), (89, am_const (.int 3) 90), (90, am_callV live 3 2 TX3_at 93), (93, am_iload 3 94), (94, am_if2 (fun x y => x = y) 97 116), (97, am_aload 0 98), (98, am_iload 4 100), (100, am_iload 3 101), (101, am_aload 0 102), (102, am_getR live 4 0 105), (105, am_getR live 0 0 108), (108, am_getR live 2 0 111), (111, am_iload 1 112), (112, am_ald live 0 113), (113, am_callV live 4 3 TE4_layAct 116), (116, am_iinc 4 5 1 119), (119, am_goto 65), (122, am_iinc 3 5 1 125), (125, am_goto 32), (128, am_retV Ret)]
theorem koX4_layNumbersE (live : am_E) (Ret : am_R) : ∀ q ∈ kX4_layNumbersE live Ret, am_ok RX4 cX4_layNumbers 5 none 2 48 live Ret q.1 q.2 :=
  am_kz dzX4_layNumbers <|
  am_kd (fun d => ak_bipush d (by decide +kernel) rfl) <|
  am_kd (fun d => ak_istore_n d rfl rfl) <|
  am_kd (fun d => ak_iconst d (by decide +kernel) rfl) <|
  am_kd (fun d => ak_istore_n d rfl rfl) <|
  am_kd (fun d => ak_iload_n d rfl rfl) <|
  am_kd (fun d => ak_iload_n d rfl rfl) <|
  am_kd (fun d => ak_icmp_ge d (by decide +kernel) rfl) <|
  am_kd (fun d => ak_aload_n d rfl rfl) <|
  am_kd (fun d => ak_getR (C := RX4) (T := TX4) (N := 19) rfl inX4w (by decide) rfl rfl rfl wd_294 d rfl) <|
  am_kd (fun d => ak_iload_n d rfl rfl) <|
  am_kd (fun d => ak_getsN (k := 0) (C := "LearnLoans") (n := "AT_FIRST") (d := "[I") (host := "LearnLoans") (by decide) rfl (by decide +kernel) d rfl) <|
  am_kd (fun d => ak_iload_n d rfl rfl) <|
  am_kd (fun d => ak_bipush d (by decide +kernel) rfl) <|
  am_kd (fun d => ak_irem d rfl) <|
  am_kd (fun d => ak_sld (by decide) d rfl) <|
  am_kd (fun d => ak_iast (t := 0) (fun _ => rfl) rfl d rfl) <|
  am_kd (fun d => ak_iinc d (by decide +kernel) rfl) <|
  am_kd (fun d => ak_goto d (by decide +kernel)) <|
  am_kd (fun d => ak_iconst d (by decide +kernel) rfl) <|
  am_kd (fun d => ak_istore_n d rfl rfl) <|
  am_kd (fun d => ak_iload_n d rfl rfl) <|
  am_kd (fun d => ak_bipush d (by decide +kernel) rfl) <|
  am_kd (fun d => ak_icmp_ge d (by decide +kernel) rfl) <|
  am_kd (fun d => ak_iload_n d rfl rfl) <|
  am_kd (fun d => ak_if_le d (by decide +kernel) rfl) <|
  am_kd (fun d => ak_aload_n d rfl rfl) <|
  am_kd (fun d => ak_getR (C := RX4) (T := TX4) (N := 19) rfl inX4w (by decide) rfl rfl rfl wd_294 d rfl) <|
  am_kd (fun d => ak_iload_n d rfl rfl) <|
  am_kd (fun d => ak_iconst d (by decide +kernel) rfl) <|
  am_kd (fun d => ak_isub d rfl) <|
  am_kd (fun d => ak_iload_n d rfl rfl) <|
  am_kd (fun d => ak_imul d rfl) <|
  am_kd (fun d => ak_aload_n d rfl rfl) <|
  am_kd (fun d => ak_getR (C := RX4) (T := TX4) (N := 19) rfl inX4w (by decide) rfl rfl rfl wd_294 d rfl) <|
  am_kd (fun d => ak_iload_n d rfl rfl) <|
  am_kd (fun d => ak_iload_n d rfl rfl) <|
  am_kd (fun d => ak_imul d rfl) <|
  am_kd (fun d => ak_iload_n d rfl rfl) <|
  am_kd (fun d => ak_copyI (am_w4 wd_499 wd_501 wd_500 wd_69) (by decide) d rfl) <|
  am_kd (fun d => ak_iconst d (by decide +kernel) rfl) <|
  am_kd (fun d => ak_istore d rfl) <|
  am_kd (fun d => ak_iload d rfl) <|
  am_kd (fun d => ak_aload_n d rfl rfl) <|
  am_kd (fun d => ak_getR (C := RX4) (T := TX4) (N := 19) rfl inX4w (by decide) rfl rfl rfl wd_291 d rfl) <|
  am_kd (fun d => ak_getR (C := RX0) (T := TX0) (N := 13) rfl inX0w (by decide) rfl rfl rfl wd_203 d rfl) <|
  am_kd (fun d => ak_getI (C := RX3) (T := TX3) (N := 3) rfl inX3w (by decide) rfl rfl rfl wd_149 d rfl) <|
  am_kd (fun d => ak_icmp_ge d (by decide +kernel) rfl) <|
  am_kd (fun d => ak_aload_n d rfl rfl) <|
  am_kd (fun d => ak_getR (C := RX4) (T := TX4) (N := 19) rfl inX4w (by decide) rfl rfl rfl wd_291 d rfl) <|
  am_kd (fun d => ak_getR (C := RX0) (T := TX0) (N := 13) rfl inX0w (by decide) rfl rfl rfl wd_203 d rfl) <|
  am_kd (fun d => ak_iload d rfl) <|
  am_kd (fun d => ak_iconst d (by decide +kernel) rfl) <|
  am_kd (fun d => ak_callV (C := RX3) (F := TX3) (N := 3) metX3_at rfl ⟨rfl, hy_X3_at⟩ (am_w5 wd_502 wd_503 wd_504 wd_64 wd_505) (by decide) d rfl) <|
  am_kd (fun d => ak_iload_n d rfl rfl) <|
  am_kd (fun d => ak_icmp_ne d (by decide +kernel) rfl) <|
  am_kd (fun d => ak_aload_n d rfl rfl) <|
  am_kd (fun d => ak_iload d rfl) <|
  am_kd (fun d => ak_iload_n d rfl rfl) <|
  am_kd (fun d => ak_aload_n d rfl rfl) <|
  am_kd (fun d => ak_getR (C := RX4) (T := TX4) (N := 19) rfl inX4w (by decide) rfl rfl rfl wd_291 d rfl) <|
  am_kd (fun d => ak_getR (C := RX0) (T := TX0) (N := 13) rfl inX0w (by decide) rfl rfl rfl wd_195 d rfl) <|
  am_kd (fun d => ak_getR (C := RX2) (T := TX2) (N := 8) rfl inX2w (by decide) rfl rfl rfl wd_107 d rfl) <|
  am_kd (fun d => ak_iload_n d rfl rfl) <|
  am_kd (fun d => ak_iald (t := 0) (fun _ => rfl) rfl d rfl) <|
  am_kd (fun d => ak_callV (C := RX4) (F := TX4) (N := 19) metX4_layActE rfl ⟨rfl, hy_X4_layAct⟩ (am_w5 wd_506 wd_508 wd_1 wd_60 wd_509) (by decide) d rfl) <|
  am_kd (fun d => ak_iinc d (by decide +kernel) rfl) <|
  am_kd (fun d => ak_goto d (by decide +kernel)) <|
  am_kd (fun d => ak_iinc d (by decide +kernel) rfl) <|
  am_kd (fun d => ak_goto d (by decide +kernel)) <|
  am_kd (fun d => ak_retV d) <| am_kdn
/-- nothing but the numbers has changed -/
def c_n5 (M N : am_M) : Prop := ∃ _ : Unit, (∀ a b, a ≠ 5 → N.1 a b = M.1 a b) ∧ ∀ a b, N.2 a b = M.2 a b
theorem c_n5.rf {M : am_M} : c_n5 M M := ⟨(), fun _ _ _ => rfl, fun _ _ => rfl⟩
theorem c_n5.i {M N : am_M} (h : c_n5 M N) {a : Nat} (ha : a ≠ 5) : N.1 a = M.1 a := by obtain ⟨-, h, -⟩ := h; exact funext fun b => h a b ha
theorem c_n5.wI {M N : am_M} {k : Nat} {v : Int32} (h : c_n5 M N) : c_n5 M (am_wI N 5 k v) := by
  obtain ⟨-, h1, h2⟩ := h
  exact ⟨(), fun a b z => by rw [am_wI_1, if_neg (fun q => z q.1)]; exact h1 a b z, h2⟩
theorem c_n5.cI {M N : am_M} {f : Nat → Int32} (h : c_n5 M N) : c_n5 M (am_cI N 5 f) := by
  obtain ⟨-, h1, h2⟩ := h
  exact ⟨(), fun a b z => by rw [am_cI_1, if_neg z]; exact h1 a b z, h2⟩
theorem c_n5.sc {M N : am_M} (h : c_n5 M N) : g_sc M N := by
  obtain ⟨-, h1, h2⟩ := h
  exact ⟨(), fun a b z => ⟨h1 a b (by omega), h2 a b⟩⟩
theorem c_n5.rI {M N : am_M} (h : c_n5 M N) (hr : g_rI M) : g_rI N := by
  obtain ⟨-, ⟨-, t1, t2, t3⟩, hs⟩ := hr
  have o := fun {a : Nat} (z : a ≠ 5) => h.i z
  refine ⟨(), ⟨(), fun k hk => by rw [o (by decide)]; exact t1 k hk, fun k hk => by rw [o (by decide)]; exact t2 k hk, ?_⟩, ?_⟩
  · unfold am_t0 at t3 ⊢
    simp only [o (show (39 : Nat) ≠ 5 by decide), o (show (42 : Nat) ≠ 5 by decide), o (show (45 : Nat) ≠ 5 by decide), o (show (48 : Nat) ≠ 5 by decide), o (show (51 : Nat) ≠ 5 by decide)]
    exact t3
  · obtain ⟨-, s1, s2, s3, s4, s5, s6, s7, s8, s9⟩ := hs
    exact ⟨(), by rw [o (by decide)]; exact s1, fun k hk => by rw [o (by decide)]; exact s2 k hk, fun k hk => by rw [o (by decide)]; exact s3 k hk, by rw [o (by decide)]; exact s4, by rw [o (by decide)]; exact s5, by rw [o (by decide)]; exact s6, by rw [o (by decide)]; exact s7, by rw [o (by decide)]; exact s8, by rw [o (by decide)]; exact s9⟩
abbrev q_Fn (M : am_M) (p : Int32) (pl w : Nat) (y : Int) : Int32 := q_F (M.1 32) (M.1 31 2).toNatClampNeg (M.1 22 p.toNatClampNeg) (Int32.ofNat pl) (Int32.ofNat w) y
abbrev q_Vn (M : am_M) (p : Int32) (pl w : Nat) (y : Int) (i : Nat) : Int32 := q_V (M.1 32) (M.1 31 2).toNatClampNeg (M.1 22 p.toNatClampNeg) (Int32.ofNat pl) (Int32.ofNat w) y i
/-- the numbers laid out for a person, for the first years -/
def c_rw (M0 : am_M) (p : Int32) (y : Nat) (M : am_M) : Prop := ∃ _ : Unit, ∀ y' pl w : Nat, y' < y → pl < 5 → w < 6 → M.1 5 (30 * y' + 6 * pl + w) = q_Fn M0 p pl w (y' : Int)
theorem c_rw.v {M0 M : am_M} {p : Int32} {y : Nat} (h : c_rw M0 p y M) {y' pl w : Nat} (h1 : y' < y) (h2 : pl < 5) (h3 : w < 6) : M.1 5 (30 * y' + 6 * pl + w) = q_Fn M0 p pl w (y' : Int) := by obtain ⟨-, h⟩ := h; exact h y' pl w h1 h2 h3
def c_rv (M0 : am_M) (p : Int32) (y i : Nat) (M : am_M) : Prop := ∃ _ : Unit, ∀ pl w : Nat, pl < 5 → w < 6 → M.1 5 (30 * y + 6 * pl + w) = q_Vn M0 p pl w (y : Int) i
theorem c_rv.v {M0 M : am_M} {p : Int32} {y i : Nat} (h : c_rv M0 p y i M) {pl w : Nat} (h2 : pl < 5) (h3 : w < 6) : M.1 5 (30 * y + 6 * pl + w) = q_Vn M0 p pl w (y : Int) i := by obtain ⟨-, h⟩ := h; exact h pl w h2 h3
theorem o_nat {n : Nat} (h : n < 100) : (Int32.ofNat n).toInt = (n : Int) ∧ (Int32.ofNat n).toNatClampNeg = n := by
  have e := i_nat (n := n) (by omega)
  have c := i_clamp (x := Int32.ofNat n) (by omega)
  exact ⟨e, by omega⟩
theorem o_eq {x : Int32} {n : Nat} (h : n < 100) (hx : 0 ≤ x.toInt) : x = Int32.ofNat n ↔ x.toNatClampNeg = n := by
  have e := o_nat h
  have c := i_clamp hx
  rw [i_eq]
  omega
theorem c_rw.n {M0 M : am_M} {p : Int32} {y : Nat} (h : c_rw M0 p y M) (hv : c_rv M0 p y (M0.1 31 2).toNatClampNeg M) : c_rw M0 p (y + 1) M := ⟨(), fun y' pl w h1 h2 h3 => by
  by_cases z : y' = y
  · subst z
    rw [hv.v h2 h3]
    exact q_V_n _ _ _ _ _ _
  · exact h.v (by omega) h2 h3⟩
theorem c_rv.s {M0 M N : am_M} {p : Int32} {y : Int32} {a : Int32} (hy : am_in y 40) (hA : c_A M0) (ha : am_in a 61) (ha2 : a.toInt < (M0.1 31 2).toInt) (e : c_n5 M0 M) (h : c_rv M0 p y.toNatClampNeg a.toNatClampNeg M) (hf : (M0.1 32 (6 * a.toNatClampNeg + 3)).toInt = y.toInt) (hN : N = c_lay M a y (M0.1 22 p.toNatClampNeg)) : c_rv M0 p y.toNatClampNeg (a.toNatClampNeg + 1) N := by
  have cy := i_clamp hy.1
  have ca := i_clamp ha.1
  obtain ⟨a1, a2, -⟩ := hA.a (i := a.toNatClampNeg) (by omega)
  refine ⟨(), fun pl w h2 h3 => ?_⟩
  have op := o_eq (x := M0.1 32 (6 * a.toNatClampNeg)) (n := pl) (by omega) a1.1
  have ow := o_eq (x := M0.1 32 (6 * a.toNatClampNeg + 1)) (n := w) (by omega) a2.1
  have c1 := i_clamp a1.1
  have c2 := i_clamp a2.1
  have b1 := a1.2
  have b2 := a2.2
  rw [hN]
  unfold c_lay
  rw [e.i (show (32 : Nat) ≠ 5 by decide)]
  by_cases z : (M0.1 32 (6 * a.toNatClampNeg + 4)).toInt ≤ (M0.1 22 p.toNatClampNeg).toInt ∧ (M0.1 22 p.toNatClampNeg).toInt ≤ (M0.1 32 (6 * a.toNatClampNeg + 5)).toInt
  · rw [if_pos z, am_wI_1]
    by_cases z2 : (M0.1 32 (6 * a.toNatClampNeg)).toNatClampNeg = pl ∧ (M0.1 32 (6 * a.toNatClampNeg + 1)).toNatClampNeg = w
    · rw [if_pos ⟨rfl, by omega⟩]
      exact (q_V_y ⟨decide_eq_true ⟨op.mpr z2.1, ow.mpr z2.2, z.1, z.2⟩, by omega⟩).symm
    · rw [if_neg (fun q => z2 (by omega)), h.v h2 h3]
      exact (q_V_s (fun q => z2 (by have q1 := of_decide_eq_true q.1; exact ⟨op.mp q1.1, ow.mp q1.2.1⟩))).symm
  · rw [if_neg z, h.v h2 h3]
    exact (q_V_s (fun q => z (by have q1 := of_decide_eq_true q.1; exact q1.2.2))).symm
theorem c_rv.k {M0 M : am_M} {p : Int32} {y i : Nat} (h : c_rv M0 p y i M) (hf : ¬ (M0.1 32 (6 * i + 3)).toInt = (y : Int)) : c_rv M0 p y (i + 1) M := ⟨(), fun pl w h2 h3 => by
  rw [h.v h2 h3]
  exact (q_V_s (fun q => hf q.2)).symm⟩
theorem c_rw.l {M0 M : am_M} {p : Int32} {a y : Int32} (h : c_rw M0 p y.toNatClampNeg M) (h1 : am_in (M.1 32 (6 * a.toNatClampNeg)) 5) (h2 : am_in (M.1 32 (6 * a.toNatClampNeg + 1)) 6) (b : Int32) : c_rw M0 p y.toNatClampNeg (c_lay M a y b) := ⟨(), fun y' pl w z1 z2 z3 => by
  unfold c_lay
  split
  · rw [am_wI_1, if_neg (fun q => by omega)]
    exact h.v z1 z2 z3
  · exact h.v z1 z2 z3⟩
theorem c_n5.l {M0 M : am_M} {a y b : Int32} (h : c_n5 M0 M) : c_n5 M0 (c_lay M a y b) := by
  unfold c_lay
  split
  · exact h.wI
  · exact h
def TE4_layNumbers : am_T := fun live as M R => match as with
  | [.ref n, .int p] => am_mn live ∧ n = 4 ∧ am_in p 12 ∧ c_A M ∧ ∀ M', c_n5 M M' → c_rw M p 40 M' → R none M'
  | _ => False
def JE4_layNumbers : am_E → List Value → am_M → am_R → am_inv := fun live as M0 _ pc => match as with
  | [.ref n, .int p] => (match pc with
    | 5 => some ([0, 1, 2, 3], fun k L st M => ∃ i : Int32, L = [(0, .ref 4), (1, .int p), (2, .int 30), (3, .int i)] ∧ st = [] ∧ k = (1000 + (31 - i.toInt).toNat, 0) ∧ (0 ≤ i.toInt ∧ i.toInt ≤ 30) ∧ c_n5 M0 M ∧ ∀ j : Nat, (j : Int) < i.toInt → M.1 5 j = am_sf 0 (j % 6))
    | 32 => some ([0, 1, 2, 3], fun k L st M => ∃ y : Int32, L = [(0, .ref 4), (1, .int p), (2, .int 30), (3, .int y)] ∧ st = [] ∧ k = ((42 - y.toInt).toNat * 2, 0) ∧ (0 ≤ y.toInt ∧ y.toInt ≤ 40) ∧ c_n5 M0 M ∧ c_rw M0 p y.toNatClampNeg M ∧ (y = 0 → ∀ j : Nat, j < 30 → M.1 5 j = am_sf 0 (j % 6)))
    | 65 => some ([0, 1, 2, 3, 4], fun k L st M => ∃ y i : Int32, L = [(0, .ref 4), (1, .int p), (2, .int 30), (3, .int y), (4, .int i)] ∧ st = [] ∧ k = ((42 - y.toInt).toNat * 2 - 1, (100 - i.toInt).toNat) ∧ (0 ≤ y.toInt ∧ y.toInt < 40) ∧ (0 ≤ i.toInt ∧ i.toInt ≤ (M0.1 31 2).toInt) ∧ c_n5 M0 M ∧ c_rw M0 p y.toNatClampNeg M ∧ c_rv M0 p y.toNatClampNeg i.toNatClampNeg M)
    | _ => none)
  | _ => none
theorem i_rem6e {x : Int32} (h1 : 0 ≤ x.toInt) (h2 : x.toInt < 1000000) : (x - x / 6 * 6).toNatClampNeg = x.toNatClampNeg % 6 := by
  have e := i_div (x := x) (y := 6) h1 (by decide)
  simp only [Int32.reduceToInt] at e
  have e2 := i_mul (x := x / 6) (y := 6) (by simp only [Int32.reduceToInt]; omega) (by simp only [Int32.reduceToInt]; omega)
  simp only [Int32.reduceToInt] at e2
  have e3 := i_sub (x := x) (y := x / 6 * 6) (by omega) (by omega)
  have c1 := i_clamp (x := x - x / 6 * 6) (by omega)
  have c2 := i_clamp h1
  omega
set_option maxRecDepth 100000 in
set_option maxHeartbeats 4000000 in
theorem metX4_layNumbersE : am_Met yX4_layNumbers cX4_layNumbers 5 none (2) (48) TE4_layNumbers := by
  refine am_met (own := RX4) (by decide +kernel) rfl kX4_layNumbersE koX4_layNumbersE 150 JE4_layNumbers ?_ ?_
  · intro live as M Ret h
    unfold TE4_layNumbers at h
    split at h
    · next n p =>
      refine ⟨Nat.le_of_ble_eq_true rfl, ?_⟩
      change am_wp _ _ _ _ [(0, Value.ref n), (1, Value.int p)] _ _
      obtain ⟨hmn, rfl, hp, hA, h⟩ := h
      repeat' (first | apply And.intro | exact rfl | intro hx | (refine Exists.intro _ (And.intro rfl ?_)))
      all_goals try first | (with_reducible change am_tI _ _) | (change Ret _ _) | (change Ret _ _ _) | (change Exists _)
      all_goals try dsimp only at *
      all_goals try (with_reducible exact absurd ‹(1000 : Int64) = 0› am_z1000)
      exact ⟨_, _, rfl, rfl, rfl, ⟨by decide, by decide⟩, c_n5.rf, fun j hj => absurd hj (by simp only [Int32.reduceToInt]; omega)⟩
    · exact h.elim
  · intro live as M0 Ret h k pc I hI L st M hi
    unfold TE4_layNumbers at h
    split at h
    · next n p =>
      obtain ⟨hmn, rfl, hp, hA, h⟩ := h
      have hmn2 := hmn
      obtain ⟨i1, i2, rfl⟩ := hmn2
      have l5 : am_len 5 = 1200 := rfl
      have hn := hA.n
      change (match pc with | 5 => _ | 32 => _ | 65 => _ | _ => none) = _ at hI
      split at hI
      · cases hI
        obtain ⟨i, rfl, rfl, rfl, ⟨e1, e4⟩, e2, e3⟩ := hi
        by_cases hz : (30 : Int32) ≤ i
        · have hz2 := hz
          simp only [i_le, Int32.reduceToInt] at hz2
          repeat' (first | apply And.intro | exact rfl | (intro hx; with_reducible exact absurd hz hx) | intro hx | (refine Exists.intro _ (And.intro rfl ?_)))
          all_goals try first | (with_reducible change am_tI _ _) | (change Ret _ _) | (change Ret _ _ _) | (change Exists _)
          all_goals try dsimp only at *
          all_goals try (with_reducible exact absurd ‹(1000 : Int64) = 0› am_z1000)
          exact ⟨_, am_lt_l (by simp only [Int32.reduceToInt]; omega), _, rfl, rfl, rfl, ⟨by decide, by decide⟩, e2, ⟨(), fun y' pl w z1 _ _ => absurd z1 (by rw [show (0 : Int32).toNatClampNeg = 0 from rfl]; omega)⟩, fun _ j hj => e3 j (by omega)⟩
        · have hz2 := hz
          simp only [i_le, Int32.reduceToInt] at hz2
          have hi := i_inc (x := i) (by omega) (by omega)
          have ci := i_clamp e1
          have hr6 := i_rem6 (x := i) e1 (by omega)
          have hr7 := i_rem6e (x := i) e1 (by omega)
          repeat' (first | apply And.intro | exact rfl | (intro hx; with_reducible exact absurd hx hz) | intro hx | (refine Exists.intro _ (And.intro rfl ?_)))
          all_goals try first | (with_reducible change am_tI _ _) | (change Ret _ _) | (change Ret _ _ _) | (change Exists _)
          all_goals try dsimp only at *
          all_goals try (with_reducible exact absurd ‹(1000 : Int64) = 0› am_z1000)
          all_goals first
            | decide
            | exact absurd hx (by decide)
            | (with_reducible exact hr6.1)
            | (with_reducible exact hr6.2)
            | omega
            | (rw [l5]; omega)
            | exact hr6.1
            | exact hr6.2
            | skip
          refine ⟨_, am_lt_l (by omega), _, rfl, rfl, rfl, ⟨by omega, by omega⟩, e2.wI, fun j hj => ?_⟩
          rw [am_wI_1]
          by_cases z : j = i.toNatClampNeg
          · rw [if_pos ⟨rfl, z⟩, hr7, z]
          · rw [if_neg (fun q => z q.2)]
            exact e3 j (by omega)
      · cases hI
        obtain ⟨y, rfl, rfl, rfl, ⟨e1, e4⟩, e2, e3, e5⟩ := hi
        by_cases hz : (40 : Int32) ≤ y
        · have hz2 := hz
          simp only [i_le, Int32.reduceToInt] at hz2
          have cy := i_clamp e1
          rw [show y.toNatClampNeg = 40 by omega] at e3
          repeat' (first | apply And.intro | exact rfl | (intro hx; with_reducible exact absurd hz hx) | intro hx | (refine Exists.intro _ (And.intro rfl ?_)))
          all_goals try first | (with_reducible change am_tI _ _) | (change Ret _ _) | (change Ret _ _ _) | (change Exists _)
          all_goals try dsimp only at *
          all_goals try (with_reducible exact absurd ‹(1000 : Int64) = 0› am_z1000)
          exact h _ e2 e3
        · have hz2 := hz
          simp only [i_le, Int32.reduceToInt] at hz2
          have cy := i_clamp e1
          have hs := i_sub (x := y) (y := 1) (by simp only [Int32.reduceToInt]; omega) (by simp only [Int32.reduceToInt]; omega)
          simp only [Int32.reduceToInt] at hs
          have ht := i_mul (x := y - 1) (y := 30) (by simp only [Int32.reduceToInt]; omega) (by simp only [Int32.reduceToInt]; omega)
          simp only [Int32.reduceToInt] at ht
          have hu := i_mul (x := y) (y := 30) (by simp only [Int32.reduceToInt]; omega) (by simp only [Int32.reduceToInt]; omega)
          simp only [Int32.reduceToInt] at hu
          have hq : ∀ j : Nat, j < (M0.1 31 2).toNatClampNeg → 0 ≤ (M0.1 32 (6 * j + 3)).toInt := fun j hj => (hA.a (i := j) (by have := i_clamp hn.1; omega)).2.2
          by_cases hw : y ≤ 0
          · have y0 : y = 0 := by
              have hw2 := hw
              simp only [i_le, Int32.reduceToInt] at hw2
              rw [i_eq]
              simp only [Int32.reduceToInt]
              omega
            have e6 : c_rv M0 p y.toNatClampNeg (0 : Int32).toNatClampNeg M := ⟨(), fun pl w h2 h3 => by
              subst y0
              show M.1 5 (30 * 0 + 6 * pl + w) = q_V _ _ _ _ _ _ 0
              rw [q_V_0, q_F_neg (by decide) hq, e5 rfl _ (by omega), (o_nat (n := w) (by omega)).2, show (30 * 0 + 6 * pl + w) % 6 = w by omega]⟩
            repeat' (first | apply And.intro | exact rfl | (intro hx; with_reducible exact absurd hx hz) | (intro hx; with_reducible exact absurd hw hx) | intro hx | (refine Exists.intro _ (And.intro rfl ?_)))
            all_goals try first | (with_reducible change am_tI _ _) | (change Ret _ _) | (change Ret _ _ _) | (change Exists _)
            all_goals try dsimp only at *
            all_goals try (with_reducible exact absurd ‹(1000 : Int64) = 0› am_z1000)
            exact ⟨_, am_lt_l (by omega), _, _, rfl, rfl, rfl, ⟨e1, by omega⟩, ⟨by decide, hn.1⟩, e2, e3, e6⟩
          · have hw2 := hw
            simp only [i_le, Int32.reduceToInt] at hw2
            have c1 := i_clamp (x := (y - 1) * 30) (by omega)
            have c2 := i_clamp (x := y * 30) (by omega)
            repeat' (first | apply And.intro | exact rfl | (intro hx; with_reducible exact absurd hx hz) | (intro hx; with_reducible exact absurd hx hw) | intro hx | (refine Exists.intro _ (And.intro rfl ?_)))
            all_goals try first | (with_reducible change am_tI _ _) | (change Ret _ _) | (change Ret _ _ _) | (change Exists _)
            all_goals try dsimp only at *
            all_goals try (with_reducible exact absurd ‹(1000 : Int64) = 0› am_z1000)
            all_goals first
              | (refine ⟨_, am_lt_l (by omega), _, _, rfl, rfl, rfl, ⟨e1, by omega⟩, ⟨by decide, hn.1⟩, e2.cI, ⟨(), fun y' pl w z1 z2 z3 => ?_⟩, ⟨(), fun pl w h2 h3 => ?_⟩⟩)
              | (simp only [l5, Int32.reduceToInt]; omega)
              | omega
              | skip
            · rw [am_cI_1, if_pos rfl]
              unfold va_cpy
              rw [if_neg (fun q => by omega)]
              exact e3.v z1 z2 z3
            · rw [am_cI_1, if_pos rfl]
              unfold va_cpy
              rw [if_pos ⟨by omega, by rw [show (30 : Int32).toNatClampNeg = 30 from rfl]; omega⟩]
              have e6 := e3.v (y' := y.toNatClampNeg - 1) (by omega) h2 h3
              rw [show ((y - 1) * 30).toNatClampNeg + (30 * y.toNatClampNeg + 6 * pl + w - (y * 30).toNatClampNeg) = 30 * (y.toNatClampNeg - 1) + 6 * pl + w by omega, e6]
              show _ = q_V _ _ _ _ _ _ 0
              rw [q_V_0, show ((y.toNatClampNeg : Nat) : Int) - 1 = ((y.toNatClampNeg - 1 : Nat) : Int) by omega]
      · cases hI
        obtain ⟨y, i, rfl, rfl, rfl, ⟨e0, e4⟩, ⟨e1, e5⟩, e2, e3, e6⟩ := hi
        have hy := i_inc (x := y) (by omega) (by omega)
        have cy := i_clamp e0
        have ci := i_clamp e1
        have cn := i_clamp hn.1
        have cy1 := i_clamp (x := y + 1) (by omega)
        have x31 := e2.i (show (31 : Nat) ≠ 5 by decide)
        have x32 := e2.i (show (32 : Nat) ≠ 5 by decide)
        have x22 := e2.i (show (22 : Nat) ≠ 5 by decide)
        by_cases hz : M.1 31 2 ≤ i
        · have hz2 := hz
          simp only [i_le, x31] at hz2
          have e7 := e3.n (by rw [show (M0.1 31 2).toNatClampNeg = i.toNatClampNeg by omega]; exact e6)
          rw [show y.toNatClampNeg + 1 = (y + 1).toNatClampNeg by omega] at e7
          have y0 : y + 1 = 0 → ∀ j : Nat, j < 30 → M.1 5 j = am_sf 0 (j % 6) := fun q => by
            rw [q] at hy
            simp only [Int32.reduceToInt] at hy
            omega
          repeat' (first | apply And.intro | exact rfl | (intro hx; with_reducible exact absurd hz hx) | intro hx | (refine Exists.intro _ (And.intro rfl ?_)))
          all_goals try first | (with_reducible change am_tI _ _) | (change Ret _ _) | (change Ret _ _ _) | (change Exists _)
          all_goals try dsimp only at *
          all_goals try (with_reducible exact absurd ‹(1000 : Int64) = 0› am_z1000)
          exact ⟨_, am_lt_l (by omega), _, rfl, rfl, rfl, ⟨by omega, by omega⟩, e2, e7, y0⟩
        · have hz2 := hz
          simp only [i_le, x31] at hz2
          have hi := i_add (x := i) (y := 1) (by simp only [Int32.reduceToInt]; omega) (by simp only [Int32.reduceToInt]; omega)
          simp only [Int32.reduceToInt] at hi
          have ci1 := i_clamp (x := i + 1) (by omega)
          have l22 : am_len 22 = 12 := rfl
          have hp1 := hp.1
          have hp2 := hp.2
          have ha : am_in i 61 := ⟨e1, by omega⟩
          have hyi : am_in y 40 := ⟨e0, by omega⟩
          have hw : M.1 31 1 = 6 := by rw [x31]; exact hA.w
          obtain ⟨a1, a2, a3⟩ := hA.a (i := i.toNatClampNeg) (by omega)
          have f3 := c_at hw ha (c := 3) (k := 3) rfl (by decide)
          have b1 : am_in (M.1 32 (6 * i.toNatClampNeg)) 5 := by rw [x32]; exact a1
          have b2 : am_in (M.1 32 (6 * i.toNatClampNeg + 1)) 6 := by rw [x32]; exact a2
          have z22 : p.toInt < (am_len 22 : Int) := by rw [l22]; omega
          by_cases hf : am_at (M.1 32) (am_len 32) (i * M.1 31 1 + 3) = y
          · have g : (M0.1 32 (6 * i.toNatClampNeg + 3)).toInt = y.toInt := by rw [← x32, ← f3, hf]
            have e7 := e6.s hyi hA ha (by omega) e2 g rfl
            rw [show i.toNatClampNeg + 1 = (i + 1).toNatClampNeg by omega, ← x22] at e7
            repeat' (first | (with_reducible exact hmn) | (with_reducible exact hw) | (with_reducible exact ha) | (with_reducible exact hyi) | (with_reducible exact b1) | (with_reducible exact b2) | (with_reducible exact hp1) | (with_reducible exact z22) | apply And.intro | exact rfl | (intro hx; with_reducible exact absurd hx hz) | (intro hx; with_reducible exact absurd hf hx) | (intro hx; exact absurd hx (by decide)) | (intro hx; exact absurd (by decide) hx) | decide | intro hx | (refine Exists.intro _ (And.intro rfl ?_)))
            all_goals try first | (with_reducible change am_tI _ _) | (change Ret _ _) | (change Ret _ _ _) | (change Exists _)
            all_goals try dsimp only at *
            all_goals try (with_reducible exact absurd ‹(1000 : Int64) = 0› am_z1000)
            all_goals exact ⟨_, am_lt_r (by omega), _, _, rfl, rfl, rfl, ⟨e0, e4⟩, ⟨by omega, by omega⟩, e2.l, e3.l b1 b2 _, e7⟩
          · have g : ¬ (M0.1 32 (6 * i.toNatClampNeg + 3)).toInt = ((y.toNatClampNeg : Nat) : Int) := fun q => hf (by rw [f3, x32, i_eq]; omega)
            have e7 := e6.k g
            rw [show i.toNatClampNeg + 1 = (i + 1).toNatClampNeg by omega] at e7
            repeat' (first | (with_reducible exact hmn) | apply And.intro | exact rfl | (intro hx; with_reducible exact absurd hx hz) | (intro hx; with_reducible exact absurd hx hf) | (intro hx; exact absurd hx (by decide)) | (intro hx; exact absurd (by decide) hx) | decide | intro hx | (refine Exists.intro _ (And.intro rfl ?_)))
            all_goals try first | (with_reducible change am_tI _ _) | (change Ret _ _) | (change Ret _ _ _) | (change Exists _)
            all_goals try dsimp only at *
            all_goals try (with_reducible exact absurd ‹(1000 : Int64) = 0› am_z1000)
            all_goals exact ⟨_, am_lt_r (by omega), _, _, rfl, rfl, rfl, ⟨e0, e4⟩, ⟨by omega, by omega⟩, e2, e3, e7⟩
      · cases hI
    · exact h.elim
