-- part 79x.rrun3.lean.txt
section
/-! runs, exact: the reference: a year's step -/
/-- loans in their order, as far as a turn of the reference's loop -/
def z_pf (own : Int32 → Bool) (f : Int32 → Nat) (n k : Nat) : List Int32 := z_q f (z_mine own n) (k / n) ++ (z_mine own (k % n)).filter (fun l => decide (f l = k / n))
theorem z_pf_s {own : Int32 → Bool} {f : Int32 → Nat} {n k : Nat} (hn : 0 < n) : z_pf own f n (k + 1) = z_pf own f n k ++ (if own (Int32.ofNat (k % n)) = true ∧ f (Int32.ofNat (k % n)) = k / n then [Int32.ofNat (k % n)] else []) := by
  have hk := Nat.div_add_mod k n
  have hm := Nat.mod_lt k hn
  have ef : ∀ o, (z_mine own (k % n + 1)).filter (fun l => decide (f l = o)) = (z_mine own (k % n)).filter (fun l => decide (f l = o)) ++ (if own (Int32.ofNat (k % n)) = true ∧ f (Int32.ofNat (k % n)) = o then [Int32.ofNat (k % n)] else []) := fun o => by
    rw [z_mine_s, List.filter_append]
    congr 1
    by_cases z1 : own (Int32.ofNat (k % n)) = true
    · rw [if_pos z1, List.filter_cons]
      by_cases z2 : f (Int32.ofNat (k % n)) = o
      · rw [if_pos (decide_eq_true z2), if_pos ⟨z1, z2⟩]
        rfl
      · rw [if_neg (fun q => z2 (of_decide_eq_true q)), if_neg (fun q => z2 q.2)]
        rfl
    · rw [if_neg z1, if_neg (fun q => z1 q.1)]
      rfl
  by_cases hz : k % n + 1 < n
  · have e0 : k + 1 = n * (k / n) + (k % n + 1) := by omega
    have e1 : (k + 1) / n = k / n := by
      rw [e0, Nat.mul_add_div hn, Nat.div_eq_of_lt hz, Nat.add_zero]
    have e2 : (k + 1) % n = k % n + 1 := by
      rw [e0, Nat.mul_add_mod, Nat.mod_eq_of_lt hz]
    unfold z_pf
    rw [e1, e2, ef, List.append_assoc]
  · have en : k % n + 1 = n := by omega
    have e0 : k + 1 = n * (k / n + 1) := by rw [Nat.mul_add, Nat.mul_one]; omega
    have e1 : (k + 1) / n = k / n + 1 := by
      rw [e0, Nat.mul_div_cancel_left _ hn]
    have e2 : (k + 1) % n = 0 := by
      rw [e0]
      exact Nat.mul_mod_right _ _
    have e3 := ef (k / n)
    rw [en] at e3
    unfold z_pf
    rw [e1, e2]
    show (z_q f (z_mine own n) (k / n) ++ (z_mine own n).filter (fun l => decide (f l = k / n))) ++ [] = _
    rw [List.append_nil, e3, List.append_assoc]
theorem z_pf_0 {own : Int32 → Bool} {f : Int32 → Nat} {n : Nat} : z_pf own f n 0 = [] := by
  unfold z_pf
  rw [Nat.zero_div, Nat.zero_mod]
  rfl
theorem z_pf_e {own : Int32 → Bool} {f : Int32 → Nat} {n o : Nat} (hn : 0 < n) : z_pf own f n (o * n) = z_q f (z_mine own n) o := by
  unfold z_pf
  rw [Nat.mul_div_cancel _ hn, Nat.mul_mod_left]
  exact List.append_nil _
def r_of (M : am_M) (p y l : Int32) : Nat := (r_inF M (r_pl M l y) 4 p y).toNatClampNeg
def r_sd (M : am_M) (y l : Int32) : Bool := decide (¬ r_lo M l 7 < 0 ∧ ¬ y < r_lo M l 7)
/-- paid ahead, as the reference does -/
def z_rp (b : Nat → Int32) (p : (Nat → Int64) × Int64) (l : Int32) : (Nat → Int64) × Int64 := if 0 < p.2 ∧ b l.toNatClampNeg = 0 then (z_u p.1 l.toNatClampNeg (p.1 l.toNatClampNeg - z_mn p.2 (p.1 l.toNatClampNeg)), p.2 - z_mn p.2 (p.1 l.toNatClampNeg)) else p
def z_rk (ask : Int32 → Int64) (sd : Int32 → Bool) (b : Nat → Int32) (p : (Nat → Int64) × Int64) (l : Int32) : (Nat → Int64) × Int64 := if b l.toNatClampNeg = 0 then z_tk ask sd p l else p
theorem z_mn_l {a b : Int64} (h : a < b) : z_mn a b = a := if_neg (fun q => by rw [Int64.lt_iff_toInt_lt] at h q; omega)
theorem z_mn_r {a b : Int64} (h : ¬ a < b) : z_mn a b = b := by
  unfold z_mn
  split
  · rfl
  · next q =>
    apply Int64.toInt_inj.mp
    rw [Int64.lt_iff_toInt_lt] at h q
    omega
theorem r_remx {x y : Int32} (hx : 0 ≤ x.toInt) (hy : 0 < y.toInt) : (x - x / y * y).toInt = x.toInt % y.toInt ∧ (x / y).toInt = x.toInt / y.toInt := by
  have e := i_div hx hy
  have hh := i_hi x
  have h1 := Int.mul_ediv_add_emod x.toInt y.toInt
  have h2 := Int.emod_nonneg x.toInt (show y.toInt ≠ 0 by omega)
  have h3 := Int.emod_lt_of_pos x.toInt hy
  have h4 : (x.toInt / y.toInt) * y.toInt = y.toInt * (x.toInt / y.toInt) := Int.mul_comm _ _
  have h5 := Int.mul_nonneg (Int.le_of_lt hy) (Int.ediv_nonneg hx (Int.le_of_lt hy))
  have e2 := i_mul (x := x / y) (y := y) (by rw [e, h4]; omega) (by rw [e, h4]; omega)
  rw [e, h4] at e2
  have e3 := i_sub (x := x) (y := x / y * y) (by omega) (by omega)
  exact ⟨by omega, e⟩
/-- loan and order of a turn -/
theorem r_lk {i N : Int32} {n : Nat} (hi : 0 ≤ i.toInt) (hN : N.toInt = (n : Int)) (hn : 0 < n) (hn30 : n ≤ 30) : am_in (i - i / N * N) 30 ∧ (i - i / N * N).toNatClampNeg = i.toNatClampNeg % n ∧ i - i / N * N = Int32.ofNat (i.toNatClampNeg % n) ∧ 0 ≤ (i / N).toInt ∧ (i / N).toNatClampNeg = i.toNatClampNeg / n := by
  obtain ⟨e1, e2⟩ := r_remx (x := i) (y := N) hi (by omega)
  have ci := i_clamp hi
  have m1 := Nat.mod_lt i.toNatClampNeg hn
  have m2 : (i - i / N * N).toInt = ((i.toNatClampNeg % n : Nat) : Int) := by rw [e1, hN, ← ci]; rfl
  have m3 : (i / N).toInt = ((i.toNatClampNeg / n : Nat) : Int) := by rw [e2, hN, ← ci]; rfl
  have m2p : 0 ≤ (i - i / N * N).toInt := by rw [m2]; exact Int.natCast_nonneg _
  have m3p : 0 ≤ (i / N).toInt := by rw [m3]; exact Int.natCast_nonneg _
  have c1 : (i - i / N * N).toNatClampNeg = i.toNatClampNeg % n := Int.ofNat.inj ((i_clamp m2p).trans m2)
  have c2 : (i / N).toNatClampNeg = i.toNatClampNeg / n := Int.ofNat.inj ((i_clamp m3p).trans m3)
  have h30 : am_in (i - i / N * N) 30 := ⟨m2p, by rw [m2]; have := Int.ofNat_lt.mpr m1; omega⟩
  exact ⟨h30, c1, by rw [← o_cl h30 (by decide), c1], m3p, c2⟩
abbrev r_S1 (M : am_M) (p y e a d : Int32) : (Nat → Int64) × (Nat → Int32) := (r_mine M p (r_n M)).foldl (r_bg M y e a d) (r_s2 M)
abbrev r_Q (M : am_M) (p y : Int32) (k : Nat) : List Int32 := z_pf (r_own M p) (r_of M p y) (r_n M) k
abbrev r_S2 (M : am_M) (p y e a d : Int32) (q : Int64) (k : Nat) : (Nat → Int64) × Int64 := (r_Q M p y k).foldl (z_rp (r_S1 M p y e a d).2) ((r_S1 M p y e a d).1, q)
abbrev r_S3 (M : am_M) (p y e a d : Int32) (q : Int64) (k : Nat) : (Nat → Int64) × Int64 := (r_Q M p y k).foldl (z_rk (r_due M y e a) (r_sd M y) (r_S1 M p y e a d).2) ((r_S2 M p y e a d q (10 * r_n M)).1, 0)
/-- orders are such -/
def r_oo (M : am_M) (p y : Int32) : Prop := ∃ _ : Unit, ∀ pl, am_in pl 5 → 0 ≤ (r_inF M pl 4 p y).toInt ∧ (r_inF M pl 4 p y).toInt ≤ 9
theorem r_oo.v {M : am_M} {p y : Int32} (h : r_oo M p y) {pl : Int32} (hp : am_in pl 5) : 0 ≤ (r_inF M pl 4 p y).toInt ∧ (r_inF M pl 4 p y).toInt ≤ 9 := by obtain ⟨-, h⟩ := h; exact h pl hp
theorem r_isin_iff {M0 M : am_M} {p y o l : Int32} {b : Nat → Int32} (k : r_ky M0 M) (hR : r_I M0) (hl : am_in l 30) (hb : M.1 213 = b) (ho : r_oo M0 p y) (h0 : 0 ≤ o.toInt) : r_isin M p y o l ↔ (r_own M0 p l = true ∧ r_of M0 p y l = o.toNatClampNeg) ∧ b l.toNatClampNeg = 0 := by
  have e1 : r_lo M l 0 = r_lo M0 l 0 := k.f (fun K => r_lo K l 0) (fun _ _ _ => rfl) (fun _ _ _ _ _ _ => rfl)
  have e2 : r_inF M (r_pl M l y) 4 p y = r_inF M0 (r_pl M0 l y) 4 p y := k.f (fun K => r_inF K (r_pl K l y) 4 p y) (fun _ _ _ => rfl) (fun _ _ _ _ _ _ => rfl)
  have b1 := (ho.v (r_pl_in hR (y := y) hl)).1
  have c1 := i_clamp b1
  have c2 := i_clamp h0
  unfold r_isin
  rw [e1, e2, hb]
  constructor
  · rintro ⟨x1, x2, x3⟩
    exact ⟨⟨r_own_iff.mpr x1, by unfold r_of; rw [x3]⟩, x2⟩
  · rintro ⟨⟨x1, x2⟩, x3⟩
    have x2 : (r_inF M0 (r_pl M0 l y) 4 p y).toNatClampNeg = o.toNatClampNeg := x2
    exact ⟨r_own_iff.mp x1, x3, by rw [i_eq]; omega⟩
def TE8_stepYear : am_T := fun live as M R => match as with
  | [.ref n, .int p, .int y, .int e, .int a, .int d, .long q] => am_mn live ∧ n = 200 ∧ am_in p 12 ∧ am_in y 40 ∧ am_in a 4 ∧ r_I M ∧ r_oo M p y ∧ ∀ M', r_ky M M' → r_I M' → r_fl M' = (r_S3 M p y e a d q (10 * r_n M)).1 → M'.1 213 = (r_S1 M p y e a d).2 → M'.2 200 22 = q - (r_S2 M p y e a d q (10 * r_n M)).2 → R none M'
  | _ => False
def kX8_stepYearE (live : am_E) (Ret : am_R) : am_code := [(0, am_const (.int 0) 1), (1, am_istore 8 16 3), (3, am_iload 8 5), (5, am_aload 0 6), (6, am_getR live 8 0 9), (9, am_const (.int 1) 10), (10, am_ald live 0 11), (11, am_if2 (fun x y => y ≤ x) 43 14), (14, am_aload 0 15), (15, am_iload 8 17), (17, am_const (.int 0) 18), (18, am_callV live 8 2 TX8_ofLoan 21), (21, am_iload 1 22), (22, am_if2 (fun x y => x = y) 25 37), (25, am_aload 0 26), (26, am_iload 8 28), (28, am_iload 2 29), (29, am_iload 3 30), (30, am_iload 4 32), (32, am_iload 5 34), (34, am_callV live 8 5 TE8_begin 37), (37, am_iinc 8 16 1 40), (40, am_goto 3), (43, am_lload 6 45), (45, am_lstore 8 16 47), (47, am_const (.int 0) 48), (48, am_istore 10 16 50), (50, am_iload 10 52), (52, am_const (.int 10) 54), (54, am_aload 0 55), (55, am_getR live 8 0 58), (58, am_const (.int 1) 59), (59, am_ald live 0 60), (60, am_i2 (fun x y => x * y) 61), (61, am_if2 (fun x y => y ≤ x) 154 64), (64, am_iload 10 66), (66, am_aload 0 67), (67, am_getR live 8 0 70), (70, am_const (.int 1) 71), (71, am_ald live 0 72), (72, am_i2z (fun x y => x - x / y * y) 73), (73, am_istore 11 16 75), (75, am_lload 8 77), (77, am_const (.long 0) 78), (78, am_lcmp 79), (79, am_if1 (fun x => x ≤ 0) 148 82), (82, am_aload 0 83), (83, am_iload 11 85), (85, am_iload 1 86), (86, am_iload 2 87), (87, am_iload 10 89), (89, am_aload 0 90), (90, am_getR live 8 0 93), (93, am_const (.int 1) 94), (94, am_ald live 0 95), (95, am_i2z (fun x y => x / y) 96), (96, am_callV live 8 4 TE8_isIn 99), (99, am_if1 (fun x => x = 0) 148 102), (102, am_lload 8 104), (104, am_aload 0 105), (105, am_getR live 8 15 108), (108, am_iload 11 110), (110, am_lald live 1 111), (111, am_lcmp 112), (112, am_if1 (fun x => 0 ≤ x) 120 115), (115, am_lload 8 117), (117, am_goto 127), (120, am_aload 0 121), (121, am_getR live 8 15 124), (124, am_iload 11 126), (126, am_lald live 1 127), (127, am_lstore 12 16 129), (129, am_aload 0 130), (130, am_getR live 8 15 133), (133, am_iload 11 135), (135, am_dup2 136), (136, am_lald live 1 137), (137, am_lload 12 139), (139, am_l2 (fun x y => x - y) 140), (140, am_last live 1 141), (141, am_lload 8 143), (143, am_lload 12 145), (145, am_l2 (fun x y => x - y) 146), (146, am_lstore 8 16 148), (148, am_iinc 10 16 1 151), (151, am_goto 50), (154, am_aload 0 155), (155, am_lload 6 157), (157, am_lload 8 159), (159, am_l2 (fun x y => x - y) 160), (160, am_putJ live 8 22 163), (163, am_const (.long 0) 164), (164, am_lstore 10 16 166), (166, am_const (.int 0) 167), (167, am_istore 12 16 169), (169, am_iload 12 171), (171, am_const (.int 10) 173), (173, am_aload 0 174), (174, am_getR live 8 0 177), (177, am_const (.int 1) 178), (178, am_ald live 0 179), (179, am_i2 (fun x y => x * y) 180), (180, am_if2 (fun x y => y ≤ x) 372 183), (183, am_iload 12 185), (185, am_aload 0 186), (186, am_getR live 8 0 189), (189, am_const (.int 1) 190), (190, am_ald live 0 191), (191, am_i2z (fun x y => x - x / y * y) 192), (192, am_istore 13 16 194), (194, am_aload 0 195), (195, am_iload 13 197), (197, am_iload 1 198), (198, am_iload 2 199), (199, am_iload 12 201), (201, am_aload 0 202), (202, am_getR live 8 0 205), (205, am_const (.int 1) 206), (206, am_ald live 0 207), (207, am_i2z (fun x y => x / y) 208), (208, am_callV live 8 4 TE8_isIn 211), (211, am_if1 (fun x => x = 0) 366 214), (214, am_aload 0 215), (215, am_iload 13 217), (217, am_iload 2 218), (218, am_iload 3 219), (219, am_iload 4 221), (221, am_callV live 8 4 TE8_dueOf 224), (224, am_lload 10 226), (226, am_l2 (fun x y => x - y) 227), (227, am_lstore 14 16 229), (229, am_lload 14 231), (231, am_const (.long 0) 232), (232, am_lcmp 233), (233, am_if1 (fun x => 0 ≤ x) 240 236), (236, am_const (.long 0) 237), (237, am_goto 242), (240, am_lload 14 242), (242, am_lstore 14 16 244), (244, am_aload 0 245), (245, am_getR live 8 16 248), (248, am_iload 13 250), (250, am_lload 14 252), (252, am_aload 0 253), (253, am_getR live 8 15 256), (256, am_iload 13 258), (258, am_lald live 1 259), (259, am_lcmp 260), (260, am_if1 (fun x => 0 ≤ x) 268 263), (263, am_lload 14 265), (265, am_goto 275), (268, am_aload 0 269), (269, am_getR live 8 15 272), (272, am_iload 13 274), (274, am_lald live 1 275), (275, am_last live 1 276), (276, am_aload 0 277), (277, am_getR live 8 15 280), (280, am_iload 13 282), (282, am_dup2 283), (283, am_lald live 1 284), (284, am_aload 0 285), (285, am_getR live 8 16 288), (288, am_iload 13 290), (290, am_lald live 1 291), (291, am_l2 (fun x y => x - y) 292), (292, am_last live 1 293), (293, am_lload 10 295), (295, am_aload 0 296), (296, am_getR live 8 16 299), (299, am_iload 13 301), (301, am_lald live 1 302), (302, am_l2 (fun x y => x + y) 303), (303, am_lstore 10 16 305), (305, am_aload 0 306), (306, am_getR live 8 17 309), (309, am_iload 13 311), (311, am_dup2 312), (312, am_lald live 1 313), (313, am_aload 0 314), (314, am_getR live 8 16 317), (317, am_iload 13 319), (319, am_lald live 1 320), (320, am_l2 (fun x y => x + y) 321), (321, am_last live 1 322), (322, am_aload 0 323), (323, am_getR live 8 18 326), (326, am_iload 13 328), (328, am_dup2 329), (329, am_lald live 1 330), (330, am_aload 0 331), (331, am_iload 13 333), (333, am_const (.int 7) 335), (335, am_callV live 8 2 TX8_ofLoan 338), (338, am_if1 (fun x => x < 0) 363 341), (341, am_iload 2 342), (342, am_aload 0 343), (343, am_iload 13 345), (345, am_const (.int 7) 347), (347, am_callV live 8 2 TX8_ofLoan 350), (350, am_if2 (fun x y => x < y) 363 353), (353, am_aload 0 354), (354, am_getR live 8 16 357), (357, am_iload 13 359), (359, am_lald live 1 360), (360, am_goto 364), (363, am_const (.long 0) 364), (364, am_l2 (fun x y => x + y) 365), (365, am_last live 1 366), (366, am_iinc 12 16 1 369), (369, am_goto 169), (372, am_retV Ret)]
theorem koX8_stepYearE (live : am_E) (Ret : am_R) : ∀ q ∈ kX8_stepYearE live Ret, am_ok RX8 cX8_stepYear 16 none 8 193 live Ret q.1 q.2 :=
  am_kz dzX8_stepYear <|
  am_kd (fun d => ak_iconst d (by decide +kernel) rfl) <|
  am_kd (fun d => ak_istore d rfl) <|
  am_kd (fun d => ak_iload d rfl) <|
  am_kd (fun d => ak_aload_n d rfl rfl) <|
  am_kd (fun d => ak_getR (C := RX8) (T := TX8) (N := 27) rfl inX8w (by decide) rfl rfl rfl wd_895 d rfl) <|
  am_kd (fun d => ak_iconst d (by decide +kernel) rfl) <|
  am_kd (fun d => ak_iald (t := 0) (fun _ => rfl) rfl d rfl) <|
  am_kd (fun d => ak_icmp_ge d (by decide +kernel) rfl) <|
  am_kd (fun d => ak_aload_n d rfl rfl) <|
  am_kd (fun d => ak_iload d rfl) <|
  am_kd (fun d => ak_iconst d (by decide +kernel) rfl) <|
  am_kd (fun d => ak_callV (C := RX8) (F := TX8) (N := 27) metX8_ofLoan rfl ⟨rfl, hy_X8_ofLoan⟩ (am_w5 wd_1154 wd_1156 wd_41 wd_67 wd_1157) (by decide) d rfl) <|
  am_kd (fun d => ak_iload_n d rfl rfl) <|
  am_kd (fun d => ak_icmp_ne d (by decide +kernel) rfl) <|
  am_kd (fun d => ak_aload_n d rfl rfl) <|
  am_kd (fun d => ak_iload d rfl) <|
  am_kd (fun d => ak_iload_n d rfl rfl) <|
  am_kd (fun d => ak_iload_n d rfl rfl) <|
  am_kd (fun d => ak_iload d rfl) <|
  am_kd (fun d => ak_iload d rfl) <|
  am_kd (fun d => ak_callV (C := RX8) (F := TX8) (N := 27) metX8_beginE rfl ⟨rfl, hy_X8_begin⟩ (am_w5 wd_1170 wd_1172 wd_45 wd_67 wd_1173) (by decide) d rfl) <|
  am_kd (fun d => ak_iinc d (by decide +kernel) rfl) <|
  am_kd (fun d => ak_goto d (by decide +kernel)) <|
  am_kd (fun d => ak_lload d rfl) <|
  am_kd (fun d => ak_lstore d rfl) <|
  am_kd (fun d => ak_iconst d (by decide +kernel) rfl) <|
  am_kd (fun d => ak_istore d rfl) <|
  am_kd (fun d => ak_iload d rfl) <|
  am_kd (fun d => ak_bipush d (by decide +kernel) rfl) <|
  am_kd (fun d => ak_aload_n d rfl rfl) <|
  am_kd (fun d => ak_getR (C := RX8) (T := TX8) (N := 27) rfl inX8w (by decide) rfl rfl rfl wd_895 d rfl) <|
  am_kd (fun d => ak_iconst d (by decide +kernel) rfl) <|
  am_kd (fun d => ak_iald (t := 0) (fun _ => rfl) rfl d rfl) <|
  am_kd (fun d => ak_imul d rfl) <|
  am_kd (fun d => ak_icmp_ge d (by decide +kernel) rfl) <|
  am_kd (fun d => ak_iload d rfl) <|
  am_kd (fun d => ak_aload_n d rfl rfl) <|
  am_kd (fun d => ak_getR (C := RX8) (T := TX8) (N := 27) rfl inX8w (by decide) rfl rfl rfl wd_895 d rfl) <|
  am_kd (fun d => ak_iconst d (by decide +kernel) rfl) <|
  am_kd (fun d => ak_iald (t := 0) (fun _ => rfl) rfl d rfl) <|
  am_kd (fun d => ak_irem d rfl) <|
  am_kd (fun d => ak_istore d rfl) <|
  am_kd (fun d => ak_lload d rfl) <|
  am_kd (fun d => ak_lconst d (by decide +kernel) rfl) <|
  am_kd (fun d => ak_lcmp d rfl) <|
  am_kd (fun d => ak_if_le d (by decide +kernel) rfl) <|
  am_kd (fun d => ak_aload_n d rfl rfl) <|
  am_kd (fun d => ak_iload d rfl) <|
  am_kd (fun d => ak_iload_n d rfl rfl) <|
  am_kd (fun d => ak_iload_n d rfl rfl) <|
  am_kd (fun d => ak_iload d rfl) <|
  am_kd (fun d => ak_aload_n d rfl rfl) <|
  am_kd (fun d => ak_getR (C := RX8) (T := TX8) (N := 27) rfl inX8w (by decide) rfl rfl rfl wd_895 d rfl) <|
  am_kd (fun d => ak_iconst d (by decide +kernel) rfl) <|
  am_kd (fun d => ak_iald (t := 0) (fun _ => rfl) rfl d rfl) <|
  am_kd (fun d => ak_idiv d rfl) <|
  am_kd (fun d => ak_callV (C := RX8) (F := TX8) (N := 27) metX8_isInE rfl ⟨rfl, hy_X8_isIn⟩ (am_w5 wd_1179 wd_1181 wd_47 wd_67 wd_1182) (by decide) d rfl) <|
  am_kd (fun d => ak_if_eq d (by decide +kernel) rfl) <|
  am_kd (fun d => ak_lload d rfl) <|
  am_kd (fun d => ak_aload_n d rfl rfl) <|
  am_kd (fun d => ak_getR (C := RX8) (T := TX8) (N := 27) rfl inX8w (by decide) rfl rfl rfl wd_910 d rfl) <|
  am_kd (fun d => ak_iload d rfl) <|
  am_kd (fun d => ak_lald (t := 1) (fun _ => rfl) rfl d rfl) <|
  am_kd (fun d => ak_lcmp d rfl) <|
  am_kd (fun d => ak_if_ge d (by decide +kernel) rfl) <|
  am_kd (fun d => ak_lload d rfl) <|
  am_kd (fun d => ak_goto d (by decide +kernel)) <|
  am_kd (fun d => ak_aload_n d rfl rfl) <|
  am_kd (fun d => ak_getR (C := RX8) (T := TX8) (N := 27) rfl inX8w (by decide) rfl rfl rfl wd_910 d rfl) <|
  am_kd (fun d => ak_iload d rfl) <|
  am_kd (fun d => ak_lald (t := 1) (fun _ => rfl) rfl d rfl) <|
  am_kd (fun d => ak_lstore d rfl) <|
  am_kd (fun d => ak_aload_n d rfl rfl) <|
  am_kd (fun d => ak_getR (C := RX8) (T := TX8) (N := 27) rfl inX8w (by decide) rfl rfl rfl wd_910 d rfl) <|
  am_kd (fun d => ak_iload d rfl) <|
  am_kd (fun d => ak_dup2 d rfl) <|
  am_kd (fun d => ak_lald (t := 1) (fun _ => rfl) rfl d rfl) <|
  am_kd (fun d => ak_lload d rfl) <|
  am_kd (fun d => ak_lsub d rfl) <|
  am_kd (fun d => ak_last (t := 1) (fun _ => rfl) rfl d rfl) <|
  am_kd (fun d => ak_lload d rfl) <|
  am_kd (fun d => ak_lload d rfl) <|
  am_kd (fun d => ak_lsub d rfl) <|
  am_kd (fun d => ak_lstore d rfl) <|
  am_kd (fun d => ak_iinc d (by decide +kernel) rfl) <|
  am_kd (fun d => ak_goto d (by decide +kernel)) <|
  am_kd (fun d => ak_aload_n d rfl rfl) <|
  am_kd (fun d => ak_lload d rfl) <|
  am_kd (fun d => ak_lload d rfl) <|
  am_kd (fun d => ak_lsub d rfl) <|
  am_kd (fun d => ak_putJ (C := RX8) (T := TX8) (N := 27) rfl inX8w tyX8_ok nmX8 (by decide) rfl rfl rfl rfl (by decide +kernel) wd_917 d rfl) <|
  am_kd (fun d => ak_lconst d (by decide +kernel) rfl) <|
  am_kd (fun d => ak_lstore d rfl) <|
  am_kd (fun d => ak_iconst d (by decide +kernel) rfl) <|
  am_kd (fun d => ak_istore d rfl) <|
  am_kd (fun d => ak_iload d rfl) <|
  am_kd (fun d => ak_bipush d (by decide +kernel) rfl) <|
  am_kd (fun d => ak_aload_n d rfl rfl) <|
  am_kd (fun d => ak_getR (C := RX8) (T := TX8) (N := 27) rfl inX8w (by decide) rfl rfl rfl wd_895 d rfl) <|
  am_kd (fun d => ak_iconst d (by decide +kernel) rfl) <|
  am_kd (fun d => ak_iald (t := 0) (fun _ => rfl) rfl d rfl) <|
  am_kd (fun d => ak_imul d rfl) <|
  am_kd (fun d => ak_icmp_ge d (by decide +kernel) rfl) <|
  am_kd (fun d => ak_iload d rfl) <|
  am_kd (fun d => ak_aload_n d rfl rfl) <|
  am_kd (fun d => ak_getR (C := RX8) (T := TX8) (N := 27) rfl inX8w (by decide) rfl rfl rfl wd_895 d rfl) <|
  am_kd (fun d => ak_iconst d (by decide +kernel) rfl) <|
  am_kd (fun d => ak_iald (t := 0) (fun _ => rfl) rfl d rfl) <|
  am_kd (fun d => ak_irem d rfl) <|
  am_kd (fun d => ak_istore d rfl) <|
  am_kd (fun d => ak_aload_n d rfl rfl) <|
  am_kd (fun d => ak_iload d rfl) <|
  am_kd (fun d => ak_iload_n d rfl rfl) <|
  am_kd (fun d => ak_iload_n d rfl rfl) <|
  am_kd (fun d => ak_iload d rfl) <|
  am_kd (fun d => ak_aload_n d rfl rfl) <|
  am_kd (fun d => ak_getR (C := RX8) (T := TX8) (N := 27) rfl inX8w (by decide) rfl rfl rfl wd_895 d rfl) <|
  am_kd (fun d => ak_iconst d (by decide +kernel) rfl) <|
  am_kd (fun d => ak_iald (t := 0) (fun _ => rfl) rfl d rfl) <|
  am_kd (fun d => ak_idiv d rfl) <|
  am_kd (fun d => ak_callV (C := RX8) (F := TX8) (N := 27) metX8_isInE rfl ⟨rfl, hy_X8_isIn⟩ (am_w5 wd_1179 wd_1181 wd_47 wd_67 wd_1182) (by decide) d rfl) <|
  am_kd (fun d => ak_if_eq d (by decide +kernel) rfl) <|
  am_kd (fun d => ak_aload_n d rfl rfl) <|
  am_kd (fun d => ak_iload d rfl) <|
  am_kd (fun d => ak_iload_n d rfl rfl) <|
  am_kd (fun d => ak_iload_n d rfl rfl) <|
  am_kd (fun d => ak_iload d rfl) <|
  am_kd (fun d => ak_callV (C := RX8) (F := TX8) (N := 27) metX8_dueOfE rfl ⟨rfl, hy_X8_dueOf⟩ (am_w5 wd_1183 wd_1185 wd_48 wd_67 wd_1186) (by decide) d rfl) <|
  am_kd (fun d => ak_lload d rfl) <|
  am_kd (fun d => ak_lsub d rfl) <|
  am_kd (fun d => ak_lstore d rfl) <|
  am_kd (fun d => ak_lload d rfl) <|
  am_kd (fun d => ak_lconst d (by decide +kernel) rfl) <|
  am_kd (fun d => ak_lcmp d rfl) <|
  am_kd (fun d => ak_if_ge d (by decide +kernel) rfl) <|
  am_kd (fun d => ak_lconst d (by decide +kernel) rfl) <|
  am_kd (fun d => ak_goto d (by decide +kernel)) <|
  am_kd (fun d => ak_lload d rfl) <|
  am_kd (fun d => ak_lstore d rfl) <|
  am_kd (fun d => ak_aload_n d rfl rfl) <|
  am_kd (fun d => ak_getR (C := RX8) (T := TX8) (N := 27) rfl inX8w (by decide) rfl rfl rfl wd_911 d rfl) <|
  am_kd (fun d => ak_iload d rfl) <|
  am_kd (fun d => ak_lload d rfl) <|
  am_kd (fun d => ak_aload_n d rfl rfl) <|
  am_kd (fun d => ak_getR (C := RX8) (T := TX8) (N := 27) rfl inX8w (by decide) rfl rfl rfl wd_910 d rfl) <|
  am_kd (fun d => ak_iload d rfl) <|
  am_kd (fun d => ak_lald (t := 1) (fun _ => rfl) rfl d rfl) <|
  am_kd (fun d => ak_lcmp d rfl) <|
  am_kd (fun d => ak_if_ge d (by decide +kernel) rfl) <|
  am_kd (fun d => ak_lload d rfl) <|
  am_kd (fun d => ak_goto d (by decide +kernel)) <|
  am_kd (fun d => ak_aload_n d rfl rfl) <|
  am_kd (fun d => ak_getR (C := RX8) (T := TX8) (N := 27) rfl inX8w (by decide) rfl rfl rfl wd_910 d rfl) <|
  am_kd (fun d => ak_iload d rfl) <|
  am_kd (fun d => ak_lald (t := 1) (fun _ => rfl) rfl d rfl) <|
  am_kd (fun d => ak_last (t := 1) (fun _ => rfl) rfl d rfl) <|
  am_kd (fun d => ak_aload_n d rfl rfl) <|
  am_kd (fun d => ak_getR (C := RX8) (T := TX8) (N := 27) rfl inX8w (by decide) rfl rfl rfl wd_910 d rfl) <|
  am_kd (fun d => ak_iload d rfl) <|
  am_kd (fun d => ak_dup2 d rfl) <|
  am_kd (fun d => ak_lald (t := 1) (fun _ => rfl) rfl d rfl) <|
  am_kd (fun d => ak_aload_n d rfl rfl) <|
  am_kd (fun d => ak_getR (C := RX8) (T := TX8) (N := 27) rfl inX8w (by decide) rfl rfl rfl wd_911 d rfl) <|
  am_kd (fun d => ak_iload d rfl) <|
  am_kd (fun d => ak_lald (t := 1) (fun _ => rfl) rfl d rfl) <|
  am_kd (fun d => ak_lsub d rfl) <|
  am_kd (fun d => ak_last (t := 1) (fun _ => rfl) rfl d rfl) <|
  am_kd (fun d => ak_lload d rfl) <|
  am_kd (fun d => ak_aload_n d rfl rfl) <|
  am_kd (fun d => ak_getR (C := RX8) (T := TX8) (N := 27) rfl inX8w (by decide) rfl rfl rfl wd_911 d rfl) <|
  am_kd (fun d => ak_iload d rfl) <|
  am_kd (fun d => ak_lald (t := 1) (fun _ => rfl) rfl d rfl) <|
  am_kd (fun d => ak_ladd d rfl) <|
  am_kd (fun d => ak_lstore d rfl) <|
  am_kd (fun d => ak_aload_n d rfl rfl) <|
  am_kd (fun d => ak_getR (C := RX8) (T := TX8) (N := 27) rfl inX8w (by decide) rfl rfl rfl wd_912 d rfl) <|
  am_kd (fun d => ak_iload d rfl) <|
  am_kd (fun d => ak_dup2 d rfl) <|
  am_kd (fun d => ak_lald (t := 1) (fun _ => rfl) rfl d rfl) <|
  am_kd (fun d => ak_aload_n d rfl rfl) <|
  am_kd (fun d => ak_getR (C := RX8) (T := TX8) (N := 27) rfl inX8w (by decide) rfl rfl rfl wd_911 d rfl) <|
  am_kd (fun d => ak_iload d rfl) <|
  am_kd (fun d => ak_lald (t := 1) (fun _ => rfl) rfl d rfl) <|
  am_kd (fun d => ak_ladd d rfl) <|
  am_kd (fun d => ak_last (t := 1) (fun _ => rfl) rfl d rfl) <|
  am_kd (fun d => ak_aload_n d rfl rfl) <|
  am_kd (fun d => ak_getR (C := RX8) (T := TX8) (N := 27) rfl inX8w (by decide) rfl rfl rfl wd_913 d rfl) <|
  am_kd (fun d => ak_iload d rfl) <|
  am_kd (fun d => ak_dup2 d rfl) <|
  am_kd (fun d => ak_lald (t := 1) (fun _ => rfl) rfl d rfl) <|
  am_kd (fun d => ak_aload_n d rfl rfl) <|
  am_kd (fun d => ak_iload d rfl) <|
  am_kd (fun d => ak_bipush d (by decide +kernel) rfl) <|
  am_kd (fun d => ak_callV (C := RX8) (F := TX8) (N := 27) metX8_ofLoan rfl ⟨rfl, hy_X8_ofLoan⟩ (am_w5 wd_1154 wd_1156 wd_41 wd_67 wd_1157) (by decide) d rfl) <|
  am_kd (fun d => ak_if_lt d (by decide +kernel) rfl) <|
  am_kd (fun d => ak_iload_n d rfl rfl) <|
  am_kd (fun d => ak_aload_n d rfl rfl) <|
  am_kd (fun d => ak_iload d rfl) <|
  am_kd (fun d => ak_bipush d (by decide +kernel) rfl) <|
  am_kd (fun d => ak_callV (C := RX8) (F := TX8) (N := 27) metX8_ofLoan rfl ⟨rfl, hy_X8_ofLoan⟩ (am_w5 wd_1154 wd_1156 wd_41 wd_67 wd_1157) (by decide) d rfl) <|
  am_kd (fun d => ak_icmp_lt d (by decide +kernel) rfl) <|
  am_kd (fun d => ak_aload_n d rfl rfl) <|
  am_kd (fun d => ak_getR (C := RX8) (T := TX8) (N := 27) rfl inX8w (by decide) rfl rfl rfl wd_911 d rfl) <|
  am_kd (fun d => ak_iload d rfl) <|
  am_kd (fun d => ak_lald (t := 1) (fun _ => rfl) rfl d rfl) <|
  am_kd (fun d => ak_goto d (by decide +kernel)) <|
  am_kd (fun d => ak_lconst d (by decide +kernel) rfl) <|
  am_kd (fun d => ak_ladd d rfl) <|
  am_kd (fun d => ak_last (t := 1) (fun _ => rfl) rfl d rfl) <|
  am_kd (fun d => ak_iinc d (by decide +kernel) rfl) <|
  am_kd (fun d => ak_goto d (by decide +kernel)) <|
  am_kd (fun d => ak_retV d) <| am_kdn
def JE8_stepYear : am_E → List Value → am_M → am_R → am_inv := fun live as M0 _ pc => match as with
  | [.ref n, .int p, .int y, .int e, .int a, .int d, .long q] => (match pc with
    | 3 => some ([0, 1, 2, 3, 4, 5, 6, 8], fun k L st M => ∃ i : Int32, L = [(0, .ref 200), (1, .int p), (2, .int y), (3, .int e), (4, .int a), (5, .int d), (6, .long q), (8, .int i)] ∧ st = [] ∧ k = (3000 + (31 - i.toInt).toNat, 0) ∧ (0 ≤ i.toInt ∧ i.toInt ≤ (M0.1 201 1).toInt) ∧ r_ky M0 M ∧ r_I M ∧ r_s2 M = (r_mine M0 p i.toNatClampNeg).foldl (r_bg M0 y e a d) (r_s2 M0))
    | 50 => some ([0, 1, 2, 3, 4, 6, 8, 10], fun k L st M => ∃ (u : Int64) (i : Int32), L = [(0, .ref 200), (1, .int p), (2, .int y), (3, .int e), (4, .int a), (6, .long q), (8, .long u), (10, .int i)] ∧ st = [] ∧ k = (2000 + (310 - i.toInt).toNat, 0) ∧ (0 ≤ i.toInt ∧ i.toInt ≤ 10 * (M0.1 201 1).toInt) ∧ r_ky M0 M ∧ r_I M ∧ M.1 213 = (r_S1 M0 p y e a d).2 ∧ (r_fl M, u) = r_S2 M0 p y e a d q i.toNatClampNeg)
    | 169 => some ([0, 1, 2, 3, 4, 10, 12], fun k L st M => ∃ (u : Int64) (i : Int32), L = [(0, .ref 200), (1, .int p), (2, .int y), (3, .int e), (4, .int a), (10, .long u), (12, .int i)] ∧ st = [] ∧ k = ((310 - i.toInt).toNat, 3) ∧ (0 ≤ i.toInt ∧ i.toInt ≤ 10 * (M0.1 201 1).toInt) ∧ r_ky M0 M ∧ r_I M ∧ M.1 213 = (r_S1 M0 p y e a d).2 ∧ M.2 200 22 = q - (r_S2 M0 p y e a d q (10 * r_n M0)).2 ∧ (r_fl M, u) = r_S3 M0 p y e a d q i.toNatClampNeg)
    | 244 => some ([0, 1, 2, 3, 4, 10, 12, 13, 14], fun k L st M => ∃ (u w : Int64) (i l : Int32), L = [(0, .ref 200), (1, .int p), (2, .int y), (3, .int e), (4, .int a), (10, .long u), (12, .int i), (13, .int l), (14, .long w)] ∧ st = [] ∧ k = ((310 - i.toInt).toNat, 2) ∧ (0 ≤ i.toInt ∧ i.toInt < 10 * (M0.1 201 1).toInt) ∧ r_ky M0 M ∧ r_I M ∧ M.1 213 = (r_S1 M0 p y e a d).2 ∧ M.2 200 22 = q - (r_S2 M0 p y e a d q (10 * r_n M0)).2 ∧ am_in l 30 ∧ w = (if r_due M0 y e a l - u < 0 then 0 else r_due M0 y e a l - u) ∧ z_tk (r_due M0 y e a) (r_sd M0 y) (r_fl M, u) l = r_S3 M0 p y e a d q (i.toNatClampNeg + 1))
    | 276 => some ([0, 1, 2, 3, 4, 10, 12, 13], fun k L st M => ∃ (u : Int64) (i l : Int32) (s : Nat → Int64), L = [(0, .ref 200), (1, .int p), (2, .int y), (3, .int e), (4, .int a), (10, .long u), (12, .int i), (13, .int l)] ∧ st = [] ∧ k = ((310 - i.toInt).toNat, 1) ∧ (0 ≤ i.toInt ∧ i.toInt < 10 * (M0.1 201 1).toInt) ∧ r_ky M0 M ∧ r_I M ∧ M.1 213 = (r_S1 M0 p y e a d).2 ∧ M.2 200 22 = q - (r_S2 M0 p y e a d q (10 * r_n M0)).2 ∧ am_in l 30 ∧ r_fl M = z_u s (30 + l.toNatClampNeg) (z_tn (r_due M0 y e a l) u (s l.toNatClampNeg)) ∧ z_tk (r_due M0 y e a) (r_sd M0 y) (s, u) l = r_S3 M0 p y e a d q (i.toNatClampNeg + 1))
    | _ => none)
  | _ => none
/-- what is taken of a loan stands -/
theorem z_tk_x {ask : Int32 → Int64} {sd : Int32 → Bool} {s : Nat → Int64} {u t x : Int64} {l : Int32} (ht : t = z_tn (ask l) u (s l.toNatClampNeg)) (hx : x = if sd l = true then t else 0) : (fun s1 : Nat → Int64 => (fun s2 : Nat → Int64 => z_u s2 (150 + l.toNatClampNeg) (s2 (150 + l.toNatClampNeg) + x)) (z_u s1 (90 + l.toNatClampNeg) (s1 (90 + l.toNatClampNeg) + t))) (z_u (z_u s (30 + l.toNatClampNeg) t) l.toNatClampNeg (z_u s (30 + l.toNatClampNeg) t l.toNatClampNeg - t)) = (z_tk ask sd (s, u) l).1 := by
  subst hx
  unfold z_tk
  dsimp only
  rw [← ht]
  generalize l.toNatClampNeg = n
  have sw : z_u (z_u s (30 + n) t) n (z_u s (30 + n) t n - t) = z_u (z_u s n (s n - t)) (30 + n) t := by
    funext j
    unfold z_u
    by_cases z : j = n
    · subst z; rw [if_pos rfl, if_neg (by omega), if_neg (by omega), if_pos rfl]
    · rw [if_neg z]
      by_cases y : j = 30 + n
      · rw [if_pos y, if_pos y]
      · rw [if_neg y, if_neg y, if_neg z]
  rw [sw]
  by_cases z : sd l = true
  · rw [if_pos z, if_pos z]
  · rw [if_neg z, if_neg z]
    funext j
    unfold z_u
    by_cases y : j = 150 + n
    · subst y; rw [if_pos rfl, Int64.add_zero]
    · rw [if_neg y]
set_option maxRecDepth 100000 in
set_option maxHeartbeats 4000000 in
theorem metX8_stepYearE : am_Met yX8_stepYear cX8_stepYear 16 none (8) (193) TE8_stepYear := by
  refine am_met (own := RX8) (by decide +kernel) rfl kX8_stepYearE koX8_stepYearE 150 JE8_stepYear ?_ ?_
  · intro live as M Ret h
    unfold TE8_stepYear at h
    split at h
    · next n p y e a d q =>
      refine ⟨Nat.le_of_ble_eq_true rfl, ?_⟩
      change am_wp _ _ _ _ [(0, Value.ref n), (1, Value.int p), (2, Value.int y), (3, Value.int e), (4, Value.int a), (5, Value.int d), (6, Value.long q)] _ _
      obtain ⟨hmn, rfl, hp, hy, ha, hR, hoo, h⟩ := h
      have n1 := hR.n1
      repeat' (first | apply And.intro | exact rfl | intro hx | (refine Exists.intro _ (And.intro rfl ?_)))
      all_goals try first | (with_reducible change am_tI _ _) | (change Ret _ _) | (change Ret _ _ _) | (change Exists _)
      all_goals try dsimp only at *
      all_goals try (with_reducible exact absurd ‹(1000 : Int64) = 0› am_z1000)
      exact ⟨_, _, rfl, rfl, rfl, ⟨by decide, n1.1⟩, r_ky.rf, hR, rfl⟩
    · exact h.elim
  · intro live as M0 Ret h k pc I hI L st M hi
    unfold TE8_stepYear at h
    split at h
    · next n p y e a d q =>
      obtain ⟨hmn, rfl, hp, hy, ha, hR, hoo, h⟩ := h
      have hmn2 := hmn
      obtain ⟨i1, i2, rfl⟩ := hmn2
      have l201 : am_len 201 = 3760 := rfl
      have w0 : 0 ≤ (0 : Int32).toInt ∧ (0 : Int32).toInt ≤ 7 := ⟨by decide, by decide⟩
      have w7 : 0 ≤ (7 : Int32).toInt ∧ (7 : Int32).toInt ≤ 7 := ⟨by decide, by decide⟩
      have x1l : (1 : Int32).toInt < (am_len 201 : Int) := by rw [l201]; decide
      have y1 := hy.1
      have n1 := hR.n1
      have cn : (r_n M0 : Int) = (M0.1 201 1).toInt := i_clamp n1.1
      change (match pc with | 3 => _ | 50 => _ | 169 => _ | 244 => _ | 276 => _ | _ => none) = _ at hI
      split at hI
      · cases hI
        obtain ⟨i, rfl, rfl, rfl, ⟨e1, e4⟩, e2, e3, es⟩ := hi
        have em : M.1 201 (Int32.toNatClampNeg 1) = M0.1 201 1 := e2.i (by decide) (by decide) (Or.inl (by decide))
        have ci := i_clamp e1
        by_cases hz : M.1 201 (Int32.toNatClampNeg 1) ≤ i
        · have hz2 := hz
          rw [em] at hz2
          simp only [i_le] at hz2
          rw [show i.toNatClampNeg = r_n M0 by omega] at es
          repeat' (first | (with_reducible exact x1l) | apply And.intro | exact rfl | (intro hx; with_reducible exact absurd hz hx) | (intro hx; exact absurd hx (by decide)) | (intro hx; exact absurd (by decide) hx) | decide | intro hx | (refine Exists.intro _ (And.intro rfl ?_)))
          all_goals try first | (with_reducible change am_tI _ _) | (change Ret _ _) | (change Ret _ _ _) | (change Exists _)
          all_goals try dsimp only at *
          all_goals try (with_reducible exact absurd ‹(1000 : Int64) = 0› am_z1000)
          all_goals exact ⟨_, am_lt_l (by simp only [Int32.reduceToInt]; omega), _, _, rfl, rfl, rfl, ⟨by decide, by simp only [Int32.toInt_zero]; omega⟩, e2, e3, congrArg Prod.snd es, by rw [show r_fl M = (r_S1 M0 p y e a d).1 from congrArg Prod.fst es]; unfold r_S2 r_Q; rw [show (0 : Int32).toNatClampNeg = 0 from rfl, z_pf_0]; rfl⟩
        · have hz2 := hz
          rw [em] at hz2
          simp only [i_le] at hz2
          have hl : am_in i 30 := ⟨e1, by omega⟩
          have hi := i_inc (x := i) (by omega) (by omega)
          have ci1 := i_clamp (x := i + 1) (by omega)
          have ol := o_cl hl (by decide)
          have eo : M.1 201 (2838 + 8 * i + 0).toNatClampNeg = r_lo M0 i 0 := e2.i (by decide) (by decide) (Or.inl (by decide))
          have mm : r_mine M0 p (i + 1).toNatClampNeg = r_mine M0 p i.toNatClampNeg ++ (if r_own M0 p i = true then [i] else []) := by
            rw [show (i + 1).toNatClampNeg = i.toNatClampNeg + 1 by omega]
            show z_mine _ (_ + 1) = _
            rw [z_mine_s, ol]
          by_cases hm : M.1 201 (2838 + 8 * i + 0).toNatClampNeg = p
          · rw [if_pos (r_own_iff.mpr (by rw [← eo]; exact hm))] at mm
            repeat' (first | (with_reducible exact x1l) | (with_reducible exact hmn) | (with_reducible exact hl) | (with_reducible exact hy) | (with_reducible exact w0) | (with_reducible exact e3) | apply And.intro | exact rfl | (intro hx; with_reducible exact absurd hx hz) | (intro hx; with_reducible exact absurd hm hx) | ((with_reducible change r_I _); (with_reducible assumption)) | (intro hx; exact absurd hx (by decide)) | (intro hx; exact absurd (by decide) hx) | decide | intro hx | (refine Exists.intro _ (And.intro rfl ?_)))
            all_goals try first | (with_reducible change am_tI _ _) | (change Ret _ _) | (change Ret _ _ _) | (change Exists _)
            all_goals try dsimp only at *
            all_goals try (with_reducible exact absurd ‹(1000 : Int64) = 0› am_z1000)
            all_goals
              rename_i N ky hRN
              have en := hx
              refine ⟨_, am_lt_l (by omega), _, rfl, rfl, rfl, ⟨by omega, by omega⟩, e2.tr ky, hRN, ?_⟩
              rw [mm, List.foldl_append, ← es, en]
              exact e2.f (fun K => r_bg K y e a d (r_s2 M) i) (fun _ _ _ => rfl) (fun _ _ _ _ _ _ => rfl)
          · rw [if_neg (fun z => hm (by rw [eo]; exact r_own_iff.mp z)), List.append_nil] at mm
            repeat' (first | (with_reducible exact x1l) | (with_reducible exact hmn) | (with_reducible exact hl) | (with_reducible exact hy) | (with_reducible exact w0) | (with_reducible exact e3) | apply And.intro | exact rfl | (intro hx; with_reducible exact absurd hx hz) | (intro hx; with_reducible exact absurd hx hm) | ((with_reducible change r_I _); (with_reducible assumption)) | (intro hx; exact absurd hx (by decide)) | (intro hx; exact absurd (by decide) hx) | decide | intro hx | (refine Exists.intro _ (And.intro rfl ?_)))
            all_goals try first | (with_reducible change am_tI _ _) | (change Ret _ _) | (change Ret _ _ _) | (change Exists _)
            all_goals try dsimp only at *
            all_goals try (with_reducible exact absurd ‹(1000 : Int64) = 0› am_z1000)
            all_goals exact ⟨_, am_lt_l (by omega), _, rfl, rfl, rfl, ⟨by omega, by omega⟩, e2, e3, by rw [mm]; exact es⟩
      · cases hI
        obtain ⟨u, i, rfl, rfl, rfl, ⟨e1, e4⟩, e2, e3, eb, es⟩ := hi
        have em : M.1 201 (Int32.toNatClampNeg 1) = M0.1 201 1 := e2.i (by decide) (by decide) (Or.inl (by decide))
        have n1 : 0 ≤ (M.1 201 (Int32.toNatClampNeg 1)).toInt ∧ (M.1 201 (Int32.toNatClampNeg 1)).toInt ≤ 30 := by rw [em]; exact hR.n1
        have e10 := r_mul (c := 10) (x := M.1 201 (Int32.toNatClampNeg 1)) ⟨by decide, by decide⟩ ⟨n1.1, by omega⟩
        simp only [Int32.reduceToInt] at e10
        have ci := i_clamp e1
        by_cases hz : 10 * M.1 201 (Int32.toNatClampNeg 1) ≤ i
        · have hz2 := hz
          simp only [i_le] at hz2
          rw [em] at hz2 e10
          rw [show i.toNatClampNeg = 10 * r_n M0 by omega] at es
          have eu : u = (r_S2 M0 p y e a d q (10 * r_n M0)).2 := congrArg Prod.snd es
          have hRw : r_I (am_wJ M 200 22 (q - u)) := e3.wJ
          repeat' (first | (with_reducible exact x1l) | apply And.intro | exact rfl | (intro hx; with_reducible exact absurd hz hx) | (intro hx; exact absurd hx (by decide)) | (intro hx; exact absurd (by decide) hx) | decide | intro hx | (refine Exists.intro _ (And.intro rfl ?_)))
          all_goals try first | (with_reducible change am_tI _ _) | (change Ret _ _) | (change Ret _ _ _) | (change Exists _)
          all_goals try dsimp only at *
          all_goals try (with_reducible exact absurd ‹(1000 : Int64) = 0› am_z1000)
          all_goals exact ⟨_, am_lt_l (by simp only [Int32.reduceToInt]; omega), _, _, rfl, rfl, rfl, ⟨by decide, by simp only [Int32.toInt_zero]; omega⟩, e2.wp, hRw, eb, by rw [am_wJ_1, if_pos ⟨rfl, rfl⟩, eu], by rw [show r_fl (am_wJ M 200 22 (q - u)) = r_fl M from r_fl_cg (fun a x1 x2 => z_wJo (by omega)), show r_fl M = (r_S2 M0 p y e a d q (10 * r_n M0)).1 from congrArg Prod.fst es]; unfold r_S3 r_Q; rw [show (0 : Int32).toNatClampNeg = 0 from rfl, z_pf_0]; rfl⟩
        · have hz2 := hz
          simp only [i_le] at hz2
          have hi := i_inc (x := i) (by omega) (by omega)
          have ci1 := i_clamp (x := i + 1) (by omega)
          have hc : 0 < (M.1 201 (Int32.toNatClampNeg 1)).toInt := by omega
          have hc0 : ¬ M.1 201 (Int32.toNatClampNeg 1) = 0 := fun z => by rw [z] at hc; exact absurd hc (by decide)
          obtain ⟨hl, k1, k2, k3, k4⟩ := r_lk (i := i) (N := M.1 201 (Int32.toNatClampNeg 1)) (n := r_n M0) e1 (by rw [em]; exact cn.symm) (by rw [em] at hc; omega) (by rw [em] at n1; omega)
          have iff := r_isin_iff e2 hR hl eb hoo k3
          rw [k4] at iff
          have st : r_Q M0 p y (i + 1).toNatClampNeg = r_Q M0 p y i.toNatClampNeg ++ (if r_own M0 p (Int32.ofNat (i.toNatClampNeg % r_n M0)) = true ∧ r_of M0 p y (Int32.ofNat (i.toNatClampNeg % r_n M0)) = i.toNatClampNeg / r_n M0 then [Int32.ofNat (i.toNatClampNeg % r_n M0)] else []) := by
            rw [show (i + 1).toNatClampNeg = i.toNatClampNeg + 1 by omega]
            exact z_pf_s (by rw [em] at hc; omega)
          rw [← k2] at st
          rw [em] at e10
          have hz3 : i.toInt < 10 * (M0.1 201 1).toInt := by rw [em] at hz2; omega
          have x1 := hl.1
          have x2 : (i - i / M.1 201 (Int32.toNatClampNeg 1) * M.1 201 (Int32.toNatClampNeg 1)).toInt < ((30 : Nat) : Int) := hl.2
          have gl := g_cl hl
          have es1 : r_fl M = (r_S2 M0 p y e a d q i.toNatClampNeg).1 := congrArg Prod.fst es
          have es2 : u = (r_S2 M0 p y e a d q i.toNatClampNeg).2 := congrArg Prod.snd es
          have no : ¬ (0 < u ∧ (r_own M0 p (i - i / M.1 201 (Int32.toNatClampNeg 1) * M.1 201 (Int32.toNatClampNeg 1)) = true ∧ r_of M0 p y (i - i / M.1 201 (Int32.toNatClampNeg 1) * M.1 201 (Int32.toNatClampNeg 1)) = i.toNatClampNeg / r_n M0) ∧ (r_S1 M0 p y e a d).2 (i - i / M.1 201 (Int32.toNatClampNeg 1) * M.1 201 (Int32.toNatClampNeg 1)).toNatClampNeg = 0) → (r_fl M, u) = r_S2 M0 p y e a d q (i + 1).toNatClampNeg := fun z => by
            rw [es]
            unfold r_S2
            rw [st, List.foldl_append]
            split
            · next w =>
              show _ = z_rp _ _ _
              unfold z_rp
              rw [if_neg]
              intro w2
              refine z ⟨?_, w, w2.2⟩
              rw [es2]
              exact w2.1
            · rfl
          by_cases hu : lg_cmp u 0 ≤ 0
          · have hu2 : ¬ 0 < u := fun z => by rw [lc_le, j_le] at hu; rw [Int64.lt_iff_toInt_lt] at z; omega
            have nx := no (fun z => hu2 z.1)
            repeat' (first | (with_reducible exact x1l) | (with_reducible exact hmn) | (with_reducible exact hl) | (with_reducible exact hp) | (with_reducible exact y1) | (with_reducible exact e3) | (with_reducible exact x1) | (with_reducible exact hc0) | apply And.intro | exact rfl | (intro hx; with_reducible exact absurd hx hz) | (intro hx; with_reducible exact absurd hu hx) | ((with_reducible change r_I _); (with_reducible assumption)) | (intro hx; exact absurd hx (by decide)) | (intro hx; exact absurd (by decide) hx) | decide | intro hx | (refine Exists.intro _ (And.intro rfl ?_)))
            all_goals try first | (with_reducible change am_tI _ _) | (change Ret _ _) | (change Ret _ _ _) | (change Exists _)
            all_goals try dsimp only at *
            all_goals try (with_reducible exact absurd ‹(1000 : Int64) = 0› am_z1000)
            all_goals first
              | (with_reducible exact x2)
              | exact hc0 (by with_reducible assumption)
              | exact x2
              | exact ⟨_, am_lt_l (by omega), _, _, rfl, rfl, rfl, ⟨by omega, by omega⟩, e2, e3, eb, nx⟩
              | skip
          · have hu2 : 0 < u := by rw [lc_le, j_le] at hu; rw [Int64.lt_iff_toInt_lt]; omega
            by_cases hin : r_isin M p y (i / M.1 201 (Int32.toNatClampNeg 1)) (i - i / M.1 201 (Int32.toNatClampNeg 1) * M.1 201 (Int32.toNatClampNeg 1))
            · have w := iff.mp hin
              have vl : r_fl M (i - i / M.1 201 (Int32.toNatClampNeg 1) * M.1 201 (Int32.toNatClampNeg 1)).toNatClampNeg = M.2 207 (i - i / M.1 201 (Int32.toNatClampNeg 1) * M.1 201 (Int32.toNatClampNeg 1)).toNatClampNeg := r_fl_v gl
              have nx : ∀ t, t = z_mn u (M.2 207 (i - i / M.1 201 (Int32.toNatClampNeg 1) * M.1 201 (Int32.toNatClampNeg 1)).toNatClampNeg) → (r_fl (am_wJ M 207 (i - i / M.1 201 (Int32.toNatClampNeg 1) * M.1 201 (Int32.toNatClampNeg 1)).toNatClampNeg (M.2 207 (i - i / M.1 201 (Int32.toNatClampNeg 1) * M.1 201 (Int32.toNatClampNeg 1)).toNatClampNeg - t)), u - t) = r_S2 M0 p y e a d q (i + 1).toNatClampNeg := fun t ht => by
                unfold r_S2
                rw [st, List.foldl_append, if_pos w.1]
                show _ = z_rp _ (r_S2 M0 p y e a d q i.toNatClampNeg) _
                rw [← es]
                unfold z_rp
                rw [if_pos ⟨hu2, w.2⟩]
                dsimp only
                rw [r_fl_w (b := 0) gl (by simp), Nat.zero_add, vl, ht]
              by_cases hc2 : 0 ≤ lg_cmp u (M.2 207 (i - i / M.1 201 (Int32.toNatClampNeg 1) * M.1 201 (Int32.toNatClampNeg 1)).toNatClampNeg)
              · have nx2 := nx _ (z_mn_r (fun z => by rw [lc_ge, j_le] at hc2; rw [Int64.lt_iff_toInt_lt] at z; omega)).symm
                repeat' (first | (with_reducible exact x1l) | (with_reducible exact hmn) | (with_reducible exact hl) | (with_reducible exact hp) | (with_reducible exact y1) | (with_reducible exact e3) | (with_reducible exact x1) | (with_reducible exact hc0) | apply And.intro | exact rfl | (intro hx; with_reducible exact absurd hx hz) | (intro hx; with_reducible exact absurd hx hu) | (intro hx; with_reducible exact absurd hin hx) | (intro hx; with_reducible exact absurd hc2 hx) | ((with_reducible change r_I _); (with_reducible assumption)) | (intro hx; exact absurd hx (by decide)) | (intro hx; exact absurd (by decide) hx) | decide | intro hx | (refine Exists.intro _ (And.intro rfl ?_)))
                all_goals try first | (with_reducible change am_tI _ _) | (change Ret _ _) | (change Ret _ _ _) | (change Exists _)
                all_goals try dsimp only at *
                all_goals try (with_reducible exact absurd ‹(1000 : Int64) = 0› am_z1000)
                all_goals first
                  | (with_reducible exact x2)
                  | exact hc0 (by with_reducible assumption)
                  | exact x2
                  | exact ⟨_, am_lt_l (by omega), _, _, rfl, rfl, rfl, ⟨by omega, by omega⟩, e2.w ⟨by decide, by decide⟩, e3.wJ, eb, nx2⟩
                  | skip
              · have nx2 := nx _ (z_mn_l (by rw [lc_ge, j_le] at hc2; rw [Int64.lt_iff_toInt_lt]; omega)).symm
                repeat' (first | (with_reducible exact x1l) | (with_reducible exact hmn) | (with_reducible exact hl) | (with_reducible exact hp) | (with_reducible exact y1) | (with_reducible exact e3) | (with_reducible exact x1) | (with_reducible exact hc0) | apply And.intro | exact rfl | (intro hx; with_reducible exact absurd hx hz) | (intro hx; with_reducible exact absurd hx hu) | (intro hx; with_reducible exact absurd hx hc2) | (intro hx; with_reducible exact absurd hin hx) | ((with_reducible change r_I _); (with_reducible assumption)) | (intro hx; exact absurd hx (by decide)) | (intro hx; exact absurd (by decide) hx) | decide | intro hx | (refine Exists.intro _ (And.intro rfl ?_)))
                all_goals try first | (with_reducible change am_tI _ _) | (change Ret _ _) | (change Ret _ _ _) | (change Exists _)
                all_goals try dsimp only at *
                all_goals try (with_reducible exact absurd ‹(1000 : Int64) = 0› am_z1000)
                all_goals first
                  | (with_reducible exact x2)
                  | exact hc0 (by with_reducible assumption)
                  | exact x2
                  | exact ⟨_, am_lt_l (by omega), _, _, rfl, rfl, rfl, ⟨by omega, by omega⟩, e2.w ⟨by decide, by decide⟩, e3.wJ, eb, nx2⟩
                  | skip
            · have nx := no (fun z => hin (iff.mpr z.2))
              repeat' (first | (with_reducible exact x1l) | (with_reducible exact hmn) | (with_reducible exact hl) | (with_reducible exact hp) | (with_reducible exact y1) | (with_reducible exact e3) | (with_reducible exact x1) | (with_reducible exact hc0) | apply And.intro | exact rfl | (intro hx; with_reducible exact absurd hx hz) | (intro hx; with_reducible exact absurd hx hu) | (intro hx; with_reducible exact absurd hx hin) | ((with_reducible change r_I _); (with_reducible assumption)) | (intro hx; exact absurd hx (by decide)) | (intro hx; exact absurd (by decide) hx) | decide | intro hx | (refine Exists.intro _ (And.intro rfl ?_)))
              all_goals try first | (with_reducible change am_tI _ _) | (change Ret _ _) | (change Ret _ _ _) | (change Exists _)
              all_goals try dsimp only at *
              all_goals try (with_reducible exact absurd ‹(1000 : Int64) = 0› am_z1000)
              all_goals first
                | (with_reducible exact x2)
                | exact hc0 (by with_reducible assumption)
                | exact x2
                | exact ⟨_, am_lt_l (by omega), _, _, rfl, rfl, rfl, ⟨by omega, by omega⟩, e2, e3, eb, nx⟩
                | skip
      · cases hI
        obtain ⟨u, i, rfl, rfl, rfl, ⟨e1, e4⟩, e2, e3, eb, ep, es⟩ := hi
        have em : M.1 201 (Int32.toNatClampNeg 1) = M0.1 201 1 := e2.i (by decide) (by decide) (Or.inl (by decide))
        have n1 : 0 ≤ (M.1 201 (Int32.toNatClampNeg 1)).toInt ∧ (M.1 201 (Int32.toNatClampNeg 1)).toInt ≤ 30 := by rw [em]; exact hR.n1
        have e10 := r_mul (c := 10) (x := M.1 201 (Int32.toNatClampNeg 1)) ⟨by decide, by decide⟩ ⟨n1.1, by omega⟩
        simp only [Int32.reduceToInt] at e10
        have ci := i_clamp e1
        by_cases hz : 10 * M.1 201 (Int32.toNatClampNeg 1) ≤ i
        · have hz2 := hz
          simp only [i_le] at hz2
          rw [em] at hz2 e10
          rw [show i.toNatClampNeg = 10 * r_n M0 by omega] at es
          have hh := h M e2 e3 (congrArg Prod.fst es) eb ep
          repeat' (first | (with_reducible exact x1l) | apply And.intro | exact rfl | (intro hx; with_reducible exact absurd hz hx) | (intro hx; exact absurd hx (by decide)) | (intro hx; exact absurd (by decide) hx) | decide | intro hx | (refine Exists.intro _ (And.intro rfl ?_)))
          all_goals try first | (with_reducible change am_tI _ _) | (change Ret _ _) | (change Ret _ _ _) | (change Exists _)
          all_goals try dsimp only at *
          all_goals try (with_reducible exact absurd ‹(1000 : Int64) = 0› am_z1000)
          all_goals exact hh
        · have hz2 := hz
          simp only [i_le] at hz2
          have hi := i_inc (x := i) (by omega) (by omega)
          have ci1 := i_clamp (x := i + 1) (by omega)
          have hc : 0 < (M.1 201 (Int32.toNatClampNeg 1)).toInt := by omega
          have hc0 : ¬ M.1 201 (Int32.toNatClampNeg 1) = 0 := fun z => by rw [z] at hc; exact absurd hc (by decide)
          obtain ⟨hl, k1, k2, k3, k4⟩ := r_lk (i := i) (N := M.1 201 (Int32.toNatClampNeg 1)) (n := r_n M0) e1 (by rw [em]; exact cn.symm) (by rw [em] at hc; omega) (by rw [em] at n1; omega)
          have iff := r_isin_iff e2 hR hl eb hoo k3
          rw [k4] at iff
          have st : r_Q M0 p y (i.toNatClampNeg + 1) = r_Q M0 p y i.toNatClampNeg ++ (if r_own M0 p (Int32.ofNat (i.toNatClampNeg % r_n M0)) = true ∧ r_of M0 p y (Int32.ofNat (i.toNatClampNeg % r_n M0)) = i.toNatClampNeg / r_n M0 then [Int32.ofNat (i.toNatClampNeg % r_n M0)] else []) := z_pf_s (by rw [em] at hc; omega)
          rw [← k2] at st
          rw [em] at e10
          have hz3 : i.toInt < 10 * (M0.1 201 1).toInt := by rw [em] at hz2; omega
          have x1 := hl.1
          have x2 : (i - i / M.1 201 (Int32.toNatClampNeg 1) * M.1 201 (Int32.toNatClampNeg 1)).toInt < ((30 : Nat) : Int) := hl.2
          by_cases hin : r_isin M p y (i / M.1 201 (Int32.toNatClampNeg 1)) (i - i / M.1 201 (Int32.toNatClampNeg 1) * M.1 201 (Int32.toNatClampNeg 1))
          · have w := iff.mp hin
            have ed : ∀ l, r_due M y e a l = r_due M0 y e a l := fun l => e2.f (fun K => r_due K y e a l) (fun _ _ _ => rfl) (fun _ _ _ _ _ _ => rfl)
            have nx : z_tk (r_due M0 y e a) (r_sd M0 y) (r_fl M, u) (i - i / M.1 201 (Int32.toNatClampNeg 1) * M.1 201 (Int32.toNatClampNeg 1)) = r_S3 M0 p y e a d q (i.toNatClampNeg + 1) := by
              unfold r_S3
              rw [st, List.foldl_append, if_pos w.1]
              show _ = z_rk _ _ _ (r_S3 M0 p y e a d q i.toNatClampNeg) _
              rw [← es]
              unfold z_rk
              rw [if_pos w.2]
            by_cases hc2 : 0 ≤ lg_cmp (r_due M y e a (i - i / M.1 201 (Int32.toNatClampNeg 1) * M.1 201 (Int32.toNatClampNeg 1)) - u) 0
            · have ew : r_due M y e a (i - i / M.1 201 (Int32.toNatClampNeg 1) * M.1 201 (Int32.toNatClampNeg 1)) - u = (if r_due M0 y e a (i - i / M.1 201 (Int32.toNatClampNeg 1) * M.1 201 (Int32.toNatClampNeg 1)) - u < 0 then 0 else r_due M0 y e a (i - i / M.1 201 (Int32.toNatClampNeg 1) * M.1 201 (Int32.toNatClampNeg 1)) - u) := by
                rw [← ed]
                exact (if_neg (fun z => by rw [lc_ge, j_le] at hc2; rw [Int64.lt_iff_toInt_lt] at z; omega)).symm
              repeat' (first | (with_reducible exact x1l) | (with_reducible exact hmn) | (with_reducible exact hl) | (with_reducible exact hp) | (with_reducible exact ha) | (with_reducible exact y1) | (with_reducible exact e3) | (with_reducible exact x1) | (with_reducible exact hc0) | apply And.intro | exact rfl | (intro hx; with_reducible exact absurd hx hz) | (intro hx; with_reducible exact absurd hin hx) | (intro hx; with_reducible exact absurd hc2 hx) | ((with_reducible change r_I _); (with_reducible assumption)) | (intro hx; exact absurd hx (by decide)) | (intro hx; exact absurd (by decide) hx) | decide | intro hx | (refine Exists.intro _ (And.intro rfl ?_)))
              all_goals try first | (with_reducible change am_tI _ _) | (change Ret _ _) | (change Ret _ _ _) | (change Exists _)
              all_goals try dsimp only at *
              all_goals try (with_reducible exact absurd ‹(1000 : Int64) = 0› am_z1000)
              all_goals first
                | (with_reducible exact x2)
                | exact hc0 (by with_reducible assumption)
                | exact x2
                | exact ⟨_, am_lt_r (by omega), _, _, _, _, rfl, rfl, rfl, ⟨by omega, by omega⟩, e2, e3, eb, ep, hl, ew, nx⟩
                | skip
            · have ew : (0 : Int64) = (if r_due M0 y e a (i - i / M.1 201 (Int32.toNatClampNeg 1) * M.1 201 (Int32.toNatClampNeg 1)) - u < 0 then 0 else r_due M0 y e a (i - i / M.1 201 (Int32.toNatClampNeg 1) * M.1 201 (Int32.toNatClampNeg 1)) - u) := by
                rw [← ed]
                exact (if_pos (by rw [lc_ge, j_le] at hc2; rw [Int64.lt_iff_toInt_lt]; omega)).symm
              repeat' (first | (with_reducible exact x1l) | (with_reducible exact hmn) | (with_reducible exact hl) | (with_reducible exact hp) | (with_reducible exact ha) | (with_reducible exact y1) | (with_reducible exact e3) | (with_reducible exact x1) | (with_reducible exact hc0) | apply And.intro | exact rfl | (intro hx; with_reducible exact absurd hx hz) | (intro hx; with_reducible exact absurd hx hc2) | (intro hx; with_reducible exact absurd hin hx) | ((with_reducible change r_I _); (with_reducible assumption)) | (intro hx; exact absurd hx (by decide)) | (intro hx; exact absurd (by decide) hx) | decide | intro hx | (refine Exists.intro _ (And.intro rfl ?_)))
              all_goals try first | (with_reducible change am_tI _ _) | (change Ret _ _) | (change Ret _ _ _) | (change Exists _)
              all_goals try dsimp only at *
              all_goals try (with_reducible exact absurd ‹(1000 : Int64) = 0› am_z1000)
              all_goals first
                | (with_reducible exact x2)
                | exact hc0 (by with_reducible assumption)
                | exact x2
                | exact ⟨_, am_lt_r (by omega), _, _, _, _, rfl, rfl, rfl, ⟨by omega, by omega⟩, e2, e3, eb, ep, hl, ew, nx⟩
                | skip
          · have nx : (r_fl M, u) = r_S3 M0 p y e a d q (i.toNatClampNeg + 1) := by
              rw [es]
              unfold r_S3
              rw [st, List.foldl_append]
              split
              · next w =>
                show _ = z_rk _ _ _ _ _
                unfold z_rk
                rw [if_neg]
                intro w2
                exact hin (iff.mpr ⟨w, w2⟩)
              · rfl
            rw [show i.toNatClampNeg + 1 = (i + 1).toNatClampNeg by omega] at nx
            repeat' (first | (with_reducible exact x1l) | (with_reducible exact hmn) | (with_reducible exact hl) | (with_reducible exact hp) | (with_reducible exact ha) | (with_reducible exact y1) | (with_reducible exact e3) | (with_reducible exact x1) | (with_reducible exact hc0) | apply And.intro | exact rfl | (intro hx; with_reducible exact absurd hx hz) | (intro hx; with_reducible exact absurd hx hin) | ((with_reducible change r_I _); (with_reducible assumption)) | (intro hx; exact absurd hx (by decide)) | (intro hx; exact absurd (by decide) hx) | decide | intro hx | (refine Exists.intro _ (And.intro rfl ?_)))
            all_goals try first | (with_reducible change am_tI _ _) | (change Ret _ _) | (change Ret _ _ _) | (change Exists _)
            all_goals try dsimp only at *
            all_goals try (with_reducible exact absurd ‹(1000 : Int64) = 0› am_z1000)
            all_goals first
              | (with_reducible exact x2)
              | exact hc0 (by with_reducible assumption)
              | exact x2
              | exact ⟨_, am_lt_l (by omega), _, _, rfl, rfl, rfl, ⟨by omega, by omega⟩, e2, e3, eb, ep, nx⟩
              | skip
      · cases hI
        obtain ⟨u, w, i, l, rfl, rfl, rfl, ⟨e1, e4⟩, e2, e3, eb, ep, hl, ew, es⟩ := hi
        have x1 := hl.1
        have x2 : l.toInt < ((30 : Nat) : Int) := hl.2
        have gl := g_cl hl
        have vl : r_fl M l.toNatClampNeg = M.2 207 l.toNatClampNeg := r_fl_v gl
        have nx : ∀ t, t = z_mn w (M.2 207 l.toNatClampNeg) → r_fl (am_wJ M 208 l.toNatClampNeg t) = z_u (r_fl M) (30 + l.toNatClampNeg) (z_tn (r_due M0 y e a l) u (r_fl M l.toNatClampNeg)) := fun t ht => by
          rw [r_fl_w (b := 30) gl (by simp), ht, vl, ew]
          rfl
        by_cases hc2 : 0 ≤ lg_cmp w (M.2 207 l.toNatClampNeg)
        · have nx2 := nx _ (z_mn_r (fun z => by rw [lc_ge, j_le] at hc2; rw [Int64.lt_iff_toInt_lt] at z; omega)).symm
          repeat' (first | (with_reducible exact hmn) | (with_reducible exact x1) | apply And.intro | exact rfl | (intro hx; with_reducible exact absurd hc2 hx) | (intro hx; exact absurd hx (by decide)) | (intro hx; exact absurd (by decide) hx) | decide | intro hx | (refine Exists.intro _ (And.intro rfl ?_)))
          all_goals try first | (with_reducible change am_tI _ _) | (change Ret _ _) | (change Ret _ _ _) | (change Exists _)
          all_goals try dsimp only at *
          all_goals try (with_reducible exact absurd ‹(1000 : Int64) = 0› am_z1000)
          all_goals first
            | (with_reducible exact x2)
            | exact x2
            | exact ⟨_, am_lt_r (by omega), _, _, _, _, rfl, rfl, rfl, ⟨e1, e4⟩, e2.w ⟨by decide, by decide⟩, e3.wJ, eb, ep, hl, nx2, es⟩
            | skip
        · have nx2 := nx _ (z_mn_l (by rw [lc_ge, j_le] at hc2; rw [Int64.lt_iff_toInt_lt]; omega)).symm
          repeat' (first | (with_reducible exact hmn) | (with_reducible exact x1) | apply And.intro | exact rfl | (intro hx; with_reducible exact absurd hx hc2) | (intro hx; exact absurd hx (by decide)) | (intro hx; exact absurd (by decide) hx) | decide | intro hx | (refine Exists.intro _ (And.intro rfl ?_)))
          all_goals try first | (with_reducible change am_tI _ _) | (change Ret _ _) | (change Ret _ _ _) | (change Exists _)
          all_goals try dsimp only at *
          all_goals try (with_reducible exact absurd ‹(1000 : Int64) = 0› am_z1000)
          all_goals first
            | (with_reducible exact x2)
            | exact x2
            | exact ⟨_, am_lt_r (by omega), _, _, _, _, rfl, rfl, rfl, ⟨e1, e4⟩, e2.w ⟨by decide, by decide⟩, e3.wJ, eb, ep, hl, nx2, es⟩
            | skip
      · cases hI
        obtain ⟨u, i, l, s, rfl, rfl, rfl, ⟨e1, e4⟩, e2, e3, eb, ep, hl, ef, es⟩ := hi
        have x1 := hl.1
        have x2 : l.toInt < ((30 : Nat) : Int) := hl.2
        have gl := g_cl hl
        have ci := i_clamp e1
        have n1 := hR.n1
        have hi := i_inc (x := i) (by omega) (by omega)
        have ci1 := i_clamp (x := i + 1) (by omega)
        rw [show i.toNatClampNeg + 1 = (i + 1).toNatClampNeg by omega] at es
        have f7 : M.1 201 (2838 + 8 * l + 7).toNatClampNeg = r_lo M0 l 7 := e2.i (by decide) (by decide) (Or.inl (by decide))
        have v8 : M.2 208 l.toNatClampNeg = z_tn (r_due M0 y e a l) u (s l.toNatClampNeg) := by
          have q1 : r_fl M (30 + l.toNatClampNeg) = M.2 208 l.toNatClampNeg := by
            unfold r_fl
            rw [if_neg (by omega), if_pos (by omega), show 30 + l.toNatClampNeg - 30 = l.toNatClampNeg by omega]
          rw [← q1, ef, z_u_e]
        have v7 : M.2 207 l.toNatClampNeg = z_u s (30 + l.toNatClampNeg) (z_tn (r_due M0 y e a l) u (s l.toNatClampNeg)) l.toNatClampNeg := by
          rw [← r_fl_v (M := M) gl, ef]
        have nx : ∀ x : Int64, x = (if r_sd M0 y l = true then M.2 208 l.toNatClampNeg else 0) → ∀ N, N = am_wJ (am_wJ (am_wJ M 207 l.toNatClampNeg (M.2 207 l.toNatClampNeg - M.2 208 l.toNatClampNeg)) 209 l.toNatClampNeg (M.2 209 l.toNatClampNeg + M.2 208 l.toNatClampNeg)) 210 l.toNatClampNeg (M.2 210 l.toNatClampNeg + x) → (r_fl N, u + M.2 208 l.toNatClampNeg) = r_S3 M0 p y e a d q (i + 1).toNatClampNeg := fun x hx N hN => by
          rw [← es, hN]
          refine Prod.ext ?_ ?_
          · show r_fl _ = _
            rw [← z_tk_x (x := x) (t := z_tn (r_due M0 y e a l) u (s l.toNatClampNeg)) rfl (by rw [hx, v8]), r_fl_w (b := 150) gl (by simp), r_fl_w (b := 90) gl (by simp), r_fl_w (b := 0) gl (by simp), Nat.zero_add, ef, ← v7, ← v8]
            have q9 : z_u (z_u s (30 + l.toNatClampNeg) (M.2 208 l.toNatClampNeg)) l.toNatClampNeg (M.2 207 l.toNatClampNeg - M.2 208 l.toNatClampNeg) (90 + l.toNatClampNeg) = M.2 209 l.toNatClampNeg := by
              rw [z_u_n (by omega), v8, ← ef]
              unfold r_fl
              rw [if_neg (by omega), if_neg (by omega), if_neg (by omega), if_pos (by omega), show 90 + l.toNatClampNeg - 90 = l.toNatClampNeg by omega]
            have q10 : z_u (z_u (z_u s (30 + l.toNatClampNeg) (M.2 208 l.toNatClampNeg)) l.toNatClampNeg (M.2 207 l.toNatClampNeg - M.2 208 l.toNatClampNeg)) (90 + l.toNatClampNeg) (M.2 209 l.toNatClampNeg + M.2 208 l.toNatClampNeg) (150 + l.toNatClampNeg) = M.2 210 l.toNatClampNeg := by
              rw [z_u_n (by omega), z_u_n (by omega), v8, ← ef]
              unfold r_fl
              rw [if_neg (by omega), if_neg (by omega), if_neg (by omega), if_neg (by omega), if_neg (by omega), show 150 + l.toNatClampNeg - 150 = l.toNatClampNeg by omega]
            dsimp only
            rw [q9, q10]
          · show u + M.2 208 l.toNatClampNeg = u + _
            rw [v8]
        by_cases z1 : M.1 201 (2838 + 8 * l + 7).toNatClampNeg < 0
        · have hs : r_sd M0 y l = false := decide_eq_false (fun z => z.1 (by rw [← f7]; exact z1))
          repeat' (first | ((with_reducible change ¬ (_ : Int32) < 0 → _); intro hx; exact absurd z1 hx) | (with_reducible exact hmn) | (with_reducible exact hl) | (with_reducible exact w7) | (with_reducible exact x1) | apply And.intro | exact rfl | (intro hx; exact absurd hx (by decide)) | (intro hx; exact absurd (by decide) hx) | decide | intro hx | (refine Exists.intro _ (And.intro rfl ?_)))
          all_goals try first | (with_reducible change am_tI _ _) | (change Ret _ _) | (change Ret _ _ _) | (change Exists _)
          all_goals try dsimp only at *
          all_goals try (with_reducible exact absurd ‹(1000 : Int64) = 0› am_z1000)
          all_goals first
            | (with_reducible exact x2)
            | exact x2
            | exact ⟨_, am_lt_l (by omega), _, _, rfl, rfl, rfl, ⟨by omega, by omega⟩, ((e2.w ⟨by decide, by decide⟩).w ⟨by decide, by decide⟩).w ⟨by decide, by decide⟩, ((e3.wJ).wJ).wJ, eb, ep, nx _ (by rw [hs, if_neg (by decide)]) _ rfl⟩
            | skip
        · by_cases z2 : y < M.1 201 (2838 + 8 * l + 7).toNatClampNeg
          · have hs : r_sd M0 y l = false := decide_eq_false (fun z => z.2 (by rw [← f7]; exact z2))
            repeat' (first | ((with_reducible change (_ : Int32) < 0 → _); intro hx; exact absurd hx z1) | ((with_reducible change ¬ y < _ → _); intro hx; exact absurd z2 hx) | (with_reducible exact hmn) | (with_reducible exact hl) | (with_reducible exact w7) | (with_reducible exact x1) | apply And.intro | exact rfl | (intro hx; exact absurd hx (by decide)) | (intro hx; exact absurd (by decide) hx) | decide | intro hx | (refine Exists.intro _ (And.intro rfl ?_)))
            all_goals try first | (with_reducible change am_tI _ _) | (change Ret _ _) | (change Ret _ _ _) | (change Exists _)
            all_goals try dsimp only at *
            all_goals try (with_reducible exact absurd ‹(1000 : Int64) = 0› am_z1000)
            all_goals first
              | (with_reducible exact x2)
              | exact x2
              | exact ⟨_, am_lt_l (by omega), _, _, rfl, rfl, rfl, ⟨by omega, by omega⟩, ((e2.w ⟨by decide, by decide⟩).w ⟨by decide, by decide⟩).w ⟨by decide, by decide⟩, ((e3.wJ).wJ).wJ, eb, ep, nx _ (by rw [hs, if_neg (by decide)]) _ rfl⟩
              | skip
          · have hs : r_sd M0 y l = true := decide_eq_true ⟨by rw [← f7]; exact z1, by rw [← f7]; exact z2⟩
            repeat' (first | ((with_reducible change (_ : Int32) < 0 → _); intro hx; exact absurd hx z1) | ((with_reducible change y < _ → _); intro hx; exact absurd hx z2) | (with_reducible exact hmn) | (with_reducible exact hl) | (with_reducible exact w7) | (with_reducible exact x1) | apply And.intro | exact rfl | (intro hx; exact absurd hx (by decide)) | (intro hx; exact absurd (by decide) hx) | decide | intro hx | (refine Exists.intro _ (And.intro rfl ?_)))
            all_goals try first | (with_reducible change am_tI _ _) | (change Ret _ _) | (change Ret _ _ _) | (change Exists _)
            all_goals try dsimp only at *
            all_goals try (with_reducible exact absurd ‹(1000 : Int64) = 0› am_z1000)
            all_goals first
              | (with_reducible exact x2)
              | exact x2
              | exact ⟨_, am_lt_l (by omega), _, _, rfl, rfl, rfl, ⟨by omega, by omega⟩, ((e2.w ⟨by decide, by decide⟩).w ⟨by decide, by decide⟩).w ⟨by decide, by decide⟩, ((e3.wJ).wJ).wJ, eb, ep, nx _ (by rw [hs, if_pos rfl]; rfl) _ rfl⟩
              | skip
      · cases hI
    · exact h.elim
end
-- part 79y.rrun4.lean.txt
section
/-! runs, exact: the reference: a run -/
def kX8_runE (live : am_E) (Ret : am_R) : am_code := [(0, am_aload 0 1), (1, am_callV live 8 0 TE8_beginRun 4), (4, am_const (.int 0) 5), (5, am_istore 4 6 7), (7, am_iload 4 9), (9, am_iload 2 10), (10, am_if2 (fun x y => y < x) 78 13), (13, am_aload 0 14), (14, am_getR live 8 0 17), (17, am_const (.int 22) 19), (19, am_iload 1 20), (20, am_i2 (fun x y => x + y) 21), (21, am_ald live 0 22), (22, am_istore 5 6 24), (24, am_aload 0 25), (25, am_iload 1 26), (26, am_iload 4 28), (28, am_aload 0 29), (29, am_iload 1 30), (30, am_iload 4 32), (32, am_iload 3 33), (33, am_callV live 8 3 TX8_earningsOf 36), (36, am_aload 0 37), (37, am_getR live 8 0 40), (40, am_const (.int 34) 42), (42, am_const (.int 40) 44), (44, am_iload 1 45), (45, am_i2 (fun x y => x * y) 46), (46, am_i2 (fun x y => x + y) 47), (47, am_iload 4 49), (49, am_i2 (fun x y => x + y) 50), (50, am_ald live 0 51), (51, am_iload 5 53), (53, am_if1 (fun x => x < 0) 67 56), (56, am_iload 5 58), (58, am_iload 4 60), (60, am_if2 (fun x y => y < x) 67 63), (63, am_const (.int 1) 64), (64, am_goto 68), (67, am_const (.int 0) 68), (68, am_const (.long 0) 69), (69, am_callV live 8 6 TE8_stepYear 72), (72, am_iinc 4 6 1 75), (75, am_goto 7), (78, am_retV Ret)]
theorem koX8_runE (live : am_E) (Ret : am_R) : ∀ q ∈ kX8_runE live Ret, am_ok RX8 cX8_run 6 none 9 228 live Ret q.1 q.2 :=
  am_kz dzX8_run <|
  am_kd (fun d => ak_aload_n d rfl rfl) <|
  am_kd (fun d => ak_callV (C := RX8) (F := TX8) (N := 27) metX8_beginRunE rfl ⟨rfl, hy_X8_beginRun⟩ (am_w5 wd_1162 wd_1164 wd_43 wd_67 wd_1165) (by decide) d rfl) <|
  am_kd (fun d => ak_iconst d (by decide +kernel) rfl) <|
  am_kd (fun d => ak_istore d rfl) <|
  am_kd (fun d => ak_iload d rfl) <|
  am_kd (fun d => ak_iload_n d rfl rfl) <|
  am_kd (fun d => ak_icmp_gt d (by decide +kernel) rfl) <|
  am_kd (fun d => ak_aload_n d rfl rfl) <|
  am_kd (fun d => ak_getR (C := RX8) (T := TX8) (N := 27) rfl inX8w (by decide) rfl rfl rfl wd_895 d rfl) <|
  am_kd (fun d => ak_bipush d (by decide +kernel) rfl) <|
  am_kd (fun d => ak_iload_n d rfl rfl) <|
  am_kd (fun d => ak_iadd d rfl) <|
  am_kd (fun d => ak_iald (t := 0) (fun _ => rfl) rfl d rfl) <|
  am_kd (fun d => ak_istore d rfl) <|
  am_kd (fun d => ak_aload_n d rfl rfl) <|
  am_kd (fun d => ak_iload_n d rfl rfl) <|
  am_kd (fun d => ak_iload d rfl) <|
  am_kd (fun d => ak_aload_n d rfl rfl) <|
  am_kd (fun d => ak_iload_n d rfl rfl) <|
  am_kd (fun d => ak_iload d rfl) <|
  am_kd (fun d => ak_iload_n d rfl rfl) <|
  am_kd (fun d => ak_callV (C := RX8) (F := TX8) (N := 27) metX8_earningsOf rfl ⟨rfl, hy_X8_earningsOf⟩ (am_w5 wd_1026 wd_1028 wd_28 wd_67 wd_1029) (by decide) d rfl) <|
  am_kd (fun d => ak_aload_n d rfl rfl) <|
  am_kd (fun d => ak_getR (C := RX8) (T := TX8) (N := 27) rfl inX8w (by decide) rfl rfl rfl wd_895 d rfl) <|
  am_kd (fun d => ak_bipush d (by decide +kernel) rfl) <|
  am_kd (fun d => ak_bipush d (by decide +kernel) rfl) <|
  am_kd (fun d => ak_iload_n d rfl rfl) <|
  am_kd (fun d => ak_imul d rfl) <|
  am_kd (fun d => ak_iadd d rfl) <|
  am_kd (fun d => ak_iload d rfl) <|
  am_kd (fun d => ak_iadd d rfl) <|
  am_kd (fun d => ak_iald (t := 0) (fun _ => rfl) rfl d rfl) <|
  am_kd (fun d => ak_iload d rfl) <|
  am_kd (fun d => ak_if_lt d (by decide +kernel) rfl) <|
  am_kd (fun d => ak_iload d rfl) <|
  am_kd (fun d => ak_iload d rfl) <|
  am_kd (fun d => ak_icmp_gt d (by decide +kernel) rfl) <|
  am_kd (fun d => ak_iconst d (by decide +kernel) rfl) <|
  am_kd (fun d => ak_goto d (by decide +kernel)) <|
  am_kd (fun d => ak_iconst d (by decide +kernel) rfl) <|
  am_kd (fun d => ak_lconst d (by decide +kernel) rfl) <|
  am_kd (fun d => ak_callV (C := RX8) (F := TX8) (N := 27) metX8_stepYearE rfl ⟨rfl, hy_X8_stepYear⟩ (am_w5 wd_1166 wd_1168 wd_44 wd_67 wd_1169) (by decide) d rfl) <|
  am_kd (fun d => ak_iinc d (by decide +kernel) rfl) <|
  am_kd (fun d => ak_goto d (by decide +kernel)) <|
  am_kd (fun d => ak_retV d) <| am_kdn
/-- a year of a run: what is earned, where, dead or not -/
def r_e (M : am_M) (p k : Int32) (y : Int32) : Int32 := r_known M p y k
def r_la (M : am_M) (p y : Int32) : Int32 := M.1 201 (34 + 40 * p + y).toNatClampNeg
def r_dd (M : am_M) (p y : Int32) : Int32 := if M.1 201 (22 + p).toNatClampNeg < 0 then 0 else if y < M.1 201 (22 + p).toNatClampNeg then 0 else 1
/-- a year's step: sums, struck -/
def r_Y (M : am_M) (p y e a d : Int32) (q : Int64) (s : (Nat → Int64) × (Nat → Int32)) : (Nat → Int64) × (Nat → Int32) :=
  (((z_pf (r_own M p) (r_of M p y) (r_n M) (10 * r_n M)).foldl (z_rk (r_due M y e a) (r_sd M y) ((r_mine M p (r_n M)).foldl (r_bg M y e a d) s).2) (((z_pf (r_own M p) (r_of M p y) (r_n M) (10 * r_n M)).foldl (z_rp ((r_mine M p (r_n M)).foldl (r_bg M y e a d) s).2) (((r_mine M p (r_n M)).foldl (r_bg M y e a d) s).1, q)).1, 0)).1, ((r_mine M p (r_n M)).foldl (r_bg M y e a d) s).2)
/-- what is paid in it -/
def r_P (M : am_M) (p y e a d : Int32) (q : Int64) (s : (Nat → Int64) × (Nat → Int32)) : Int64 := q - ((z_pf (r_own M p) (r_of M p y) (r_n M) (10 * r_n M)).foldl (z_rp ((r_mine M p (r_n M)).foldl (r_bg M y e a d) s).2) (((r_mine M p (r_n M)).foldl (r_bg M y e a d) s).1, q)).2
theorem r_ky.Y {M N : am_M} (h : r_ky M N) (p y e a d : Int32) (q : Int64) : r_Y N p y e a d q = r_Y M p y e a d q := h.f (fun K => r_Y K p y e a d q) (fun _ _ _ => rfl) (fun _ _ _ _ _ _ => rfl)
theorem r_ky.P {M N : am_M} (h : r_ky M N) (p y e a d : Int32) (q : Int64) : r_P N p y e a d q = r_P M p y e a d q := h.f (fun K => r_P K p y e a d q) (fun _ _ _ => rfl) (fun _ _ _ _ _ _ => rfl)
theorem r_ky.oo {M N : am_M} (h : r_ky M N) {p y : Int32} (o : r_oo M p y) : r_oo N p y := ⟨(), fun pl hp => by
  have e : r_inF N pl 4 p y = r_inF M pl 4 p y := h.f (fun K => r_inF K pl 4 p y) (fun _ _ _ => rfl) (fun _ _ _ _ _ _ => rfl)
  rw [e]
  exact o.v hp⟩
/-- orders are such in all years -/
def r_oa (M : am_M) (p : Int32) : Prop := ∃ _ : Unit, ∀ y, am_in y 40 → r_oo M p y
theorem r_oa.v {M : am_M} {p y : Int32} (h : r_oa M p) (hy : am_in y 40) : r_oo M p y := by obtain ⟨-, h⟩ := h; exact h y hy
abbrev r_yr (M : am_M) (p k : Int32) (y : Nat) : (Nat → Int64) × (Nat → Int32) → (Nat → Int64) × (Nat → Int32) := r_Y M p (Int32.ofNat y) (r_e M p k (Int32.ofNat y)) (r_la M p (Int32.ofNat y)) (r_dd M p (Int32.ofNat y)) 0
def z_zero (s : (Nat → Int64) × (Nat → Int32)) : Prop := (∀ k, k < 180 → s.1 k = 0) ∧ ∀ l, l < 30 → s.2 l = 0
def TE8_run : am_T := fun live as M R => match as with
  | [.ref n, .int p, .int u, .int k] => am_mn live ∧ n = 200 ∧ am_in p 12 ∧ (-1 ≤ u.toInt ∧ u.toInt ≤ 39) ∧ r_I M ∧ r_oa M p ∧ ∀ M' s0, r_ky M M' → r_I M' → z_zero s0 → r_s2 M' = z_it (r_yr M p k) 0 (u.toInt + 1).toNat s0 → R none M'
  | _ => False
def JE8_run : am_E → List Value → am_M → am_R → am_inv := fun live as M0 _ pc => match as with
  | [.ref n, .int p, .int u, .int w] => (match pc with
    | 7 => some ([0, 1, 2, 3, 4], fun k L st M => ∃ (i : Int32) (s0 : (Nat → Int64) × (Nat → Int32)), L = [(0, .ref 200), (1, .int p), (2, .int u), (3, .int w), (4, .int i)] ∧ st = [] ∧ k = ((41 - i.toInt).toNat, 0) ∧ (0 ≤ i.toInt ∧ i.toInt ≤ u.toInt + 1) ∧ r_ky M0 M ∧ r_I M ∧ z_zero s0 ∧ r_s2 M = z_it (r_yr M0 p w) 0 i.toNatClampNeg s0)
    | _ => none)
  | _ => none
set_option maxRecDepth 100000 in
set_option maxHeartbeats 4000000 in
theorem metX8_runE : am_Met yX8_run cX8_run 6 none (9) (228) TE8_run := by
  refine am_met (own := RX8) (by decide +kernel) rfl kX8_runE koX8_runE 100 JE8_run ?_ ?_
  · intro live as M Ret h
    unfold TE8_run at h
    split at h
    · next n p u k =>
      refine ⟨Nat.le_of_ble_eq_true rfl, ?_⟩
      change am_wp _ _ _ _ [(0, Value.ref n), (1, Value.int p), (2, Value.int u), (3, Value.int k)] _ _
      obtain ⟨hmn, rfl, hp, hu, hR, hoa, h⟩ := h
      have hmn2 := hmn
      obtain ⟨i1, i2, rfl⟩ := hmn2
      repeat' (first | (with_reducible exact hmn) | (with_reducible exact hR) | apply And.intro | exact rfl | ((with_reducible change r_I _); (with_reducible assumption)) | intro hx | (refine Exists.intro _ (And.intro rfl ?_)))
      all_goals try first | (with_reducible change am_tI _ _) | (change Ret _ _) | (change Ret _ _ _) | (change Exists _)
      all_goals try dsimp only at *
      all_goals try (with_reducible exact absurd ‹(1000 : Int64) = 0› am_z1000)
      all_goals
        rename_i N ky hRN z1
        have z2 := hx
        exact ⟨_, _, r_s2 N, rfl, rfl, rfl, ⟨by decide, by simp only [Int32.toInt_zero]; omega⟩, ky, hRN, ⟨z1, z2⟩, rfl⟩
    · exact h.elim
  · intro live as M0 Ret h k pc I hI L st M hi
    unfold TE8_run at h
    split at h
    · next n p u k =>
      obtain ⟨hmn, rfl, hp, hu, hR, hoa, h⟩ := h
      have hmn2 := hmn
      obtain ⟨i1, i2, rfl⟩ := hmn2
      have l201 : am_len 201 = 3760 := rfl
      have p1 := hp.1
      have p2 := hp.2
      change (match pc with | 7 => _ | _ => none) = _ at hI
      split at hI
      · cases hI
        obtain ⟨i, s0, rfl, rfl, rfl, ⟨e1, e4⟩, e2, e3, z0, es⟩ := hi
        have ci := i_clamp e1
        by_cases hz : u < i
        · have hz2 := hz
          simp only [i_lt] at hz2
          have hh := h M s0 e2 e3 z0 (by rw [es, show (u.toInt + 1).toNat = i.toNatClampNeg by omega])
          repeat' (first | apply And.intro | exact rfl | (intro hx; with_reducible exact absurd hz hx) | intro hx | (refine Exists.intro _ (And.intro rfl ?_)))
          all_goals try first | (with_reducible change am_tI _ _) | (change Ret _ _) | (change Ret _ _ _) | (change Exists _)
          all_goals try dsimp only at *
          all_goals try (with_reducible exact absurd ‹(1000 : Int64) = 0› am_z1000)
          exact hh
        · have hz2 := hz
          simp only [i_lt] at hz2
          have hy : am_in i 40 := ⟨e1, by omega⟩
          have hi := i_inc (x := i) (by omega) (by omega)
          have ci1 := i_clamp (x := i + 1) (by omega)
          have oi := o_cl hy (by decide)
          have e22 := r_off (c := 22) (x := p) ⟨by decide, by decide⟩ ⟨by omega, by omega⟩
          have e40 := r_mul (c := 40) (x := p) ⟨by decide, by decide⟩ ⟨by omega, by omega⟩
          simp only [Int32.reduceToInt] at e22 e40
          have ea := r_off (c := 34) (x := 40 * p) ⟨by decide, by decide⟩ ⟨by omega, by omega⟩
          simp only [e40, Int32.reduceToInt] at ea
          have eb := r_off (c := 34 + 40 * p) (x := i) ⟨by omega, by omega⟩ ⟨by omega, by omega⟩
          rw [ea] at eb
          have x1 : 0 ≤ (22 + p).toInt := by omega
          have x2 : (22 + p).toInt < (am_len 201 : Int) := by rw [l201]; omega
          have x3 : 0 ≤ (34 + 40 * p + i).toInt := by omega
          have x4 : (34 + 40 * p + i).toInt < (am_len 201 : Int) := by rw [l201]; omega
          have hla : am_in (M.1 201 (34 + 40 * p + i).toNatClampNeg) 4 := by
            have c1 := i_clamp (x := 34 + 40 * p + i) x3
            have c2 := i_clamp (x := p) p1
            have c3 := i_clamp (x := i) e1
            rw [show (34 + 40 * p + i).toNatClampNeg = 34 + (40 * p.toNatClampNeg + i.toNatClampNeg) by omega]
            exact e3.ld (by omega)
          have hoM : r_oo M p i := e2.oo (hoa.v hy)
          have fin : ∀ (d : Int32) (N : am_M), d = r_dd M p i → r_fl N = (r_S3 M p i (r_e M p k i) (r_la M p i) d 0 (10 * r_n M)).1 → N.1 213 = (r_S1 M p i (r_e M p k i) (r_la M p i) d).2 → r_s2 N = z_it (r_yr M0 p k) 0 (i + 1).toNatClampNeg s0 := fun d N ed n1 n2 => by
            rw [show (i + 1).toNatClampNeg = i.toNatClampNeg + 1 by omega]
            show _ = r_yr M0 p k (0 + i.toNatClampNeg) (z_it (r_yr M0 p k) 0 i.toNatClampNeg s0)
            rw [← es, Nat.zero_add]
            unfold r_yr
            rw [oi]
            have f1 : r_e M0 p k i = r_e M p k i := (e2.f (fun K => r_e K p k i) (fun _ _ _ => rfl) (fun _ _ _ _ _ _ => rfl)).symm
            have f2 : r_la M0 p i = r_la M p i := (e2.f (fun K => r_la K p i) (fun _ _ _ => rfl) (fun _ _ _ _ _ _ => rfl)).symm
            have f3 : r_dd M0 p i = r_dd M p i := (e2.f (fun K => r_dd K p i) (fun _ _ _ => rfl) (fun _ _ _ _ _ _ => rfl)).symm
            rw [f1, f2, f3, ← e2.Y, ← ed]
            refine Prod.ext ?_ ?_
            · exact n1
            · exact n2
          by_cases zd : M.1 201 (22 + p).toNatClampNeg < 0
          · have fin2 := fun N => fin 0 N (if_pos zd).symm
            repeat' (first | (with_reducible exact x1) | (with_reducible exact x2) | (with_reducible exact x3) | (with_reducible exact x4) | (with_reducible exact hmn) | (with_reducible exact hp) | (with_reducible exact hy) | (with_reducible exact hla) | (with_reducible exact e3) | (with_reducible exact hoM) | apply And.intro | exact rfl | (intro hx; with_reducible exact absurd hx hz) | (intro hx; with_reducible exact absurd zd hx) | ((with_reducible change r_I _); (with_reducible assumption)) | (intro hx; exact absurd hx (by decide)) | (intro hx; exact absurd (by decide) hx) | decide | intro hx | (refine Exists.intro _ (And.intro rfl ?_)))
            all_goals try first | (with_reducible change am_tI _ _) | (change Ret _ _) | (change Ret _ _ _) | (change Exists _)
            all_goals try dsimp only at *
            all_goals try (with_reducible exact absurd ‹(1000 : Int64) = 0› am_z1000)
            all_goals
              rename_i N ky hRN n1 n2
              have n3 := hx
              exact ⟨_, am_lt_l (by omega), _, s0, rfl, rfl, rfl, ⟨by omega, by omega⟩, e2.tr ky, hRN, z0, fin2 N n1 n2⟩
          · by_cases zy : i < M.1 201 (22 + p).toNatClampNeg
            · have fin2 := fun N => fin 0 N (by unfold r_dd; rw [if_neg zd, if_pos zy])
              repeat' (first | (with_reducible exact x1) | (with_reducible exact x2) | (with_reducible exact x3) | (with_reducible exact x4) | (with_reducible exact hmn) | (with_reducible exact hp) | (with_reducible exact hy) | (with_reducible exact hla) | (with_reducible exact e3) | (with_reducible exact hoM) | apply And.intro | exact rfl | (intro hx; with_reducible exact absurd hx hz) | (intro hx; with_reducible exact absurd hx zd) | (intro hx; with_reducible exact absurd zy hx) | ((with_reducible change r_I _); (with_reducible assumption)) | (intro hx; exact absurd hx (by decide)) | (intro hx; exact absurd (by decide) hx) | decide | intro hx | (refine Exists.intro _ (And.intro rfl ?_)))
              all_goals try first | (with_reducible change am_tI _ _) | (change Ret _ _) | (change Ret _ _ _) | (change Exists _)
              all_goals try dsimp only at *
              all_goals try (with_reducible exact absurd ‹(1000 : Int64) = 0› am_z1000)
              all_goals
                rename_i N ky hRN n1 n2
                have n3 := hx
                exact ⟨_, am_lt_l (by omega), _, s0, rfl, rfl, rfl, ⟨by omega, by omega⟩, e2.tr ky, hRN, z0, fin2 N n1 n2⟩
            · have fin2 := fun N => fin 1 N (by unfold r_dd; rw [if_neg zd, if_neg zy])
              repeat' (first | (with_reducible exact x1) | (with_reducible exact x2) | (with_reducible exact x3) | (with_reducible exact x4) | (with_reducible exact hmn) | (with_reducible exact hp) | (with_reducible exact hy) | (with_reducible exact hla) | (with_reducible exact e3) | (with_reducible exact hoM) | apply And.intro | exact rfl | (intro hx; with_reducible exact absurd hx hz) | (intro hx; with_reducible exact absurd hx zd) | (intro hx; with_reducible exact absurd hx zy) | ((with_reducible change r_I _); (with_reducible assumption)) | (intro hx; exact absurd hx (by decide)) | (intro hx; exact absurd (by decide) hx) | decide | intro hx | (refine Exists.intro _ (And.intro rfl ?_)))
              all_goals try first | (with_reducible change am_tI _ _) | (change Ret _ _) | (change Ret _ _ _) | (change Exists _)
              all_goals try dsimp only at *
              all_goals try (with_reducible exact absurd ‹(1000 : Int64) = 0› am_z1000)
              all_goals
                rename_i N ky hRN n1 n2
                have n3 := hx
                exact ⟨_, am_lt_l (by omega), _, s0, rfl, rfl, rfl, ⟨by omega, by omega⟩, e2.tr ky, hRN, z0, fin2 N n1 n2⟩
      · cases hI
    · exact h.elim
end
-- part 79z.pure0.lean.txt
section
/-! runs, pure: a year of the class's is one of the reference's -/
theorem l_div {x y : Int64} (hx : 0 ≤ x.toInt) (hy : 0 < y.toInt) : (x / y).toInt = x.toInt / y.toInt := by
  have h1 := Int.ediv_nonneg hx (Int.le_of_lt hy)
  have h2 := Int.ediv_le_self y.toInt hx
  have h3 := Int64.toInt_lt x
  rw [Int64.toInt_div, Int.tdiv_eq_ediv_of_nonneg hx]
  exact Int.bmod_eq_of_le (by omega) (by omega)
/-- what may be owed -/
def z_ok (v : Int64) : Prop := 0 ≤ v.toInt ∧ v.toInt ≤ 1000010000000
theorem z_gr0 {M k z v : Int64} {r : Int32} (kM : M.toInt = 1000000000000) (k1 : k.toInt = 1000) (k0 : z.toInt = 0) (v0 : 0 ≤ v.toInt) (v1 : v.toInt ≤ 1000010000000) (hr : 0 ≤ r.toInt ∧ r.toInt ≤ 500) : (if M < v + v * r.toInt64 / k then M else v + v * r.toInt64 / k) = v + (if M - v < v * r.toInt64 / k then M - v else v * r.toInt64 / k) ∧ (¬ z < v → (if M < v + v * r.toInt64 / k then M else v + v * r.toInt64 / k) = v) ∧ 0 ≤ (if M < v + v * r.toInt64 / k then M else v + v * r.toInt64 / k).toInt ∧ (if M < v + v * r.toInt64 / k then M else v + v * r.toInt64 / k).toInt ≤ 1000000000000 := by
  have er : r.toInt64.toInt = r.toInt := Int32.toInt_toInt64 r
  have m0 : 0 ≤ v.toInt * r.toInt := Int.mul_nonneg v0 hr.1
  have m1 : v.toInt * r.toInt ≤ 1000010000000 * 500 := Int.mul_le_mul v1 hr.2 hr.1 (by omega)
  have em := l_mul (x := v) (y := r.toInt64) (by rw [er]; omega) (by rw [er]; omega)
  rw [er] at em
  have ed := l_div (x := v * r.toInt64) (y := k) (by omega) (by omega)
  rw [em, k1] at ed
  have d0 := Int.ediv_nonneg m0 (show (0 : Int) ≤ 1000 by omega)
  have d1 : v.toInt * r.toInt / 1000 ≤ 500005000000 := by omega
  have ea := l_add (x := v) (y := v * r.toInt64 / k) (by omega) (by omega)
  have es := l_sub (x := M) (y := v) (by omega) (by omega)
  have hh : M = v + (M - v) := by
    have q := l_add (x := v) (y := M - v) (by omega) (by omega)
    exact Int64.toInt_inj.mp (by omega)
  have lt : (M - v < v * r.toInt64 / k) ↔ (M < v + v * r.toInt64 / k) := by
    rw [Int64.lt_iff_toInt_lt, Int64.lt_iff_toInt_lt]
    omega
  refine ⟨?_, fun hn => ?_, ?_⟩
  · by_cases y : M < v + v * r.toInt64 / k
    · rw [if_pos y, if_pos (lt.mpr y)]
      exact hh
    · rw [if_neg y, if_neg (fun q => y (lt.mp q))]
  · have e0 : v.toInt = 0 := by
      rw [Int64.lt_iff_toInt_lt] at hn
      omega
    have ex : v.toInt * r.toInt = 0 := by rw [e0, Int.zero_mul]
    rw [if_neg (fun q => by rw [Int64.lt_iff_toInt_lt] at q; omega)]
    exact Int64.toInt_inj.mp (by omega)
  · by_cases y : M < v + v * r.toInt64 / k
    · rw [if_pos y]
      exact ⟨by omega, by omega⟩
    · rw [if_neg y]
      rw [Int64.lt_iff_toInt_lt] at y
      exact ⟨by omega, by omega⟩
theorem z_gr {v : Int64} {r : Int32} (hv : z_ok v) (hr : 0 ≤ r.toInt ∧ r.toInt ≤ 500) : r_cap v r = v + am_grown v r ∧ (¬ 0 < v → r_cap v r = v) ∧ 0 ≤ (r_cap v r).toInt ∧ (r_cap v r).toInt ≤ 1000000000000 := by
  unfold r_cap am_grown
  exact z_gr0 rfl rfl rfl hv.1 hv.2 hr
/-- a loan's own rows -/
theorem z_b_o {stk : Int32 → Bool} {gr dr : Int32 → Int64 → Int64} {s : Nat → Int64} {l : Int32} {k : Nat} (h0 : k ≠ l.toNatClampNeg) (h2 : k ≠ 60 + l.toNatClampNeg) (h4 : k ≠ 120 + l.toNatClampNeg) : z_b stk gr dr s l k = s k := by
  unfold z_b
  split
  · rw [z_u_n h0, z_u_n h4, z_u_n h2]
  · dsimp only
    rw [z_u_n h0]
    split
    · rw [z_u_n h0, z_u_n h4, z_u_n h4, z_u_n h2]
    · rw [z_u_n h4, z_u_n h2]
def z_o2 (gr : Int32 → Int64 → Int64) (l : Int32) (v : Int64) : Int64 := if 0 < v then v + gr l v else v
theorem z_b_v {stk : Int32 → Bool} {gr dr : Int32 → Int64 → Int64} {s : Nat → Int64} {l : Int32} : z_b stk gr dr s l l.toNatClampNeg = (if stk l = true then 0 else dr l (z_o2 gr l (s l.toNatClampNeg))) ∧ z_b stk gr dr s l (60 + l.toNatClampNeg) = (if stk l = true then s l.toNatClampNeg else 0) ∧ z_b stk gr dr s l (120 + l.toNatClampNeg) = (if stk l = true then 0 else if 0 < s l.toNatClampNeg then gr l (s l.toNatClampNeg) else 0) := by
  unfold z_b z_o2
  by_cases z : stk l = true
  · simp only [if_pos z]
    refine ⟨z_u_e, ?_, ?_⟩
    · rw [z_u_n (by omega), z_u_n (by omega), z_u_e]
    · rw [z_u_n (by omega), z_u_e]
  · simp only [if_neg z]
    by_cases y : 0 < s l.toNatClampNeg
    · simp only [if_pos y]
      refine ⟨?_, ?_, ?_⟩
      · rw [z_u_e, z_u_e]
      · rw [z_u_n (by omega), z_u_n (by omega), z_u_n (by omega), z_u_n (by omega), z_u_e]
      · rw [z_u_n (by omega), z_u_n (by omega), z_u_e]
    · simp only [if_neg y]
      refine ⟨?_, ?_, ?_⟩
      · rw [z_u_e, z_u_n (by omega), z_u_n (by omega)]
      · rw [z_u_n (by omega), z_u_n (by omega), z_u_e]
      · rw [z_u_n (by omega), z_u_e]
theorem z_rb_o {en : Int32 → Bool} {cap o1 dr : Int32 → Int64 → Int64} {p : (Nat → Int64) × (Nat → Int32)} {l : Int32} {k : Nat} (h0 : k ≠ l.toNatClampNeg) (h1 : k ≠ 30 + l.toNatClampNeg) (h2 : k ≠ 60 + l.toNatClampNeg) (h4 : k ≠ 120 + l.toNatClampNeg) : (z_rb en cap o1 dr p l).1 k = p.1 k := by
  unfold z_rb z_r0
  split
  · show z_u _ _ _ k = _
    rw [z_u_n h1, z_u_n h4, z_u_n h2]
  · split
    · show z_u _ _ _ k = _
      rw [z_u_n h0, z_u_n h2, z_u_n h1, z_u_n h4, z_u_n h2]
    · show z_u _ _ _ k = _
      rw [z_u_n h0, z_u_n h4, z_u_n h1, z_u_n h4, z_u_n h2]
theorem z_rb_ob {en : Int32 → Bool} {cap o1 dr : Int32 → Int64 → Int64} {p : (Nat → Int64) × (Nat → Int32)} {l : Int32} {k : Nat} (h0 : k ≠ l.toNatClampNeg) : (z_rb en cap o1 dr p l).2 k = p.2 k := by
  unfold z_rb
  split
  · rfl
  · split
    · exact if_neg h0
    · rfl
/-- in step: a loan's rows of both, what is struck -/
def z_L (s s' : Nat → Int64) (b : Nat → Int32) (l : Int32) : Prop := (∀ w, w < 6 → s (30 * w + l.toNatClampNeg) = s' (30 * w + l.toNatClampNeg)) ∧ z_ok (s l.toNatClampNeg) ∧ (¬ b l.toNatClampNeg = 0 → s l.toNatClampNeg = 0)
/-- begun: the row of what is taken stands apart -/
def z_M (s s' : Nat → Int64) (b : Nat → Int32) (l : Int32) : Prop := (∀ w, w < 6 → w ≠ 1 → s (30 * w + l.toNatClampNeg) = s' (30 * w + l.toNatClampNeg)) ∧ z_ok (s l.toNatClampNeg) ∧ (¬ b l.toNatClampNeg = 0 → s l.toNatClampNeg = 0 ∧ s' (30 + l.toNatClampNeg) = 0)
/-- what a year asks of a loan: as class and reference work it -/
def z_H (stk en : Int32 → Bool) (gr cap dr o1 dr' : Int32 → Int64 → Int64) (v : Int64) (bv : Int32) (l : Int32) : Prop := (¬ bv = 0 → stk l = true ∨ dr l 0 = 0) ∧ (bv = 0 → en l = stk l) ∧ (∃ r : Int32, (0 ≤ r.toInt ∧ r.toInt ≤ 500) ∧ gr l v = am_grown v r ∧ cap l v = r_cap v r) ∧ (∀ o, dr l o = dr' l (o1 l o)) ∧ ∀ o : Int64, 0 ≤ o.toInt → o.toInt ≤ 1000000000000 → z_ok (dr l o)
theorem z_w6 {w : Nat} (hw : w < 6) : w = 0 ∨ w = 1 ∨ w = 2 ∨ w = 3 ∨ w = 4 ∨ w = 5 := by omega
theorem z_beg1 {stk en : Int32 → Bool} {gr cap dr o1 dr' : Int32 → Int64 → Int64} {s s' : Nat → Int64} {b : Nat → Int32} {l : Int32} (hL : z_L s s' b l) (hH : z_H stk en gr cap dr o1 dr' (s l.toNatClampNeg) (b l.toNatClampNeg) l) : z_M (z_b stk gr dr s l) (z_rb en cap o1 dr' (s', b) l).1 (z_rb en cap o1 dr' (s', b) l).2 l ∧ (¬ (z_rb en cap o1 dr' (s', b) l).2 l.toNatClampNeg = 0 ↔ ¬ b l.toNatClampNeg = 0 ∨ en l = true) := by
  obtain ⟨e, ok, z0⟩ := hL
  obtain ⟨h1, h2, ⟨r, hr, hg, hc⟩, h4, h5⟩ := hH
  obtain ⟨c0, c2, c4⟩ := z_b_v (stk := stk) (gr := gr) (dr := dr) (s := s) (l := l)
  have e0 : s l.toNatClampNeg = s' l.toNatClampNeg := by
    have q := e 0 (by decide)
    rwa [Nat.mul_zero, Nat.zero_add] at q
  have e3 := e 3 (by decide)
  have e5 := e 5 (by decide)
  have d3 : z_b stk gr dr s l (30 * 3 + l.toNatClampNeg) = s (30 * 3 + l.toNatClampNeg) := z_b_o (by omega) (by omega) (by omega)
  have d5 : z_b stk gr dr s l (30 * 5 + l.toNatClampNeg) = s (30 * 5 + l.toNatClampNeg) := z_b_o (by omega) (by omega) (by omega)
  have f3 : (z_rb en cap o1 dr' (s', b) l).1 (30 * 3 + l.toNatClampNeg) = s' (30 * 3 + l.toNatClampNeg) := z_rb_o (by omega) (by omega) (by omega) (by omega)
  have f5 : (z_rb en cap o1 dr' (s', b) l).1 (30 * 5 + l.toNatClampNeg) = s' (30 * 5 + l.toNatClampNeg) := z_rb_o (by omega) (by omega) (by omega) (by omega)
  have k0 : (0 : Int64).toInt = 0 := rfl
  have ok0 : z_ok 0 := ⟨by rw [k0]; omega, by rw [k0]; omega⟩
  have key : ∀ (t' : Nat → Int64) (b' : Nat → Int32), z_rb en cap o1 dr' (s', b) l = (t', b') → z_b stk gr dr s l l.toNatClampNeg = t' l.toNatClampNeg → z_b stk gr dr s l (60 + l.toNatClampNeg) = t' (60 + l.toNatClampNeg) → z_b stk gr dr s l (120 + l.toNatClampNeg) = t' (120 + l.toNatClampNeg) → t' (30 + l.toNatClampNeg) = 0 → z_ok (z_b stk gr dr s l l.toNatClampNeg) → (¬ b' l.toNatClampNeg = 0 → z_b stk gr dr s l l.toNatClampNeg = 0) → z_M (z_b stk gr dr s l) (z_rb en cap o1 dr' (s', b) l).1 (z_rb en cap o1 dr' (s', b) l).2 l := fun t' b' et k1 k2 k3 k4 k5 k6 => by
    rw [et] at f3 f5 ⊢
    refine ⟨fun w hw h1 => ?_, k5, fun q => ⟨k6 q, k4⟩⟩
    rcases z_w6 hw with rfl | rfl | rfl | rfl | rfl | rfl
    · rw [Nat.mul_zero, Nat.zero_add]; exact k1
    · exact absurd rfl h1
    · exact k2
    · rw [d3, f3, e3]
    · exact k3
    · rw [d5, f5, e5]
  have r30 : ∀ (x : Nat → Int64), z_r0 x l (30 + l.toNatClampNeg) = 0 := fun x => by unfold z_r0; rw [z_u_e]
  have r60 : ∀ (x : Nat → Int64), z_r0 x l (60 + l.toNatClampNeg) = 0 := fun x => by unfold z_r0; rw [z_u_n (by omega), z_u_n (by omega), z_u_e]
  have r120 : ∀ (x : Nat → Int64), z_r0 x l (120 + l.toNatClampNeg) = 0 := fun x => by unfold z_r0; rw [z_u_n (by omega), z_u_e]
  have r0 : ∀ (x : Nat → Int64), z_r0 x l l.toNatClampNeg = x l.toNatClampNeg := fun x => by unfold z_r0; rw [z_u_n (by omega), z_u_n (by omega), z_u_n (by omega)]
  by_cases zb : b l.toNatClampNeg = 0
  · have es := h2 zb
    cases hs : stk l with
    | true =>
      rw [hs] at es
      have et : z_rb en cap o1 dr' (s', b) l = (z_u (z_u (z_r0 s' l) (60 + l.toNatClampNeg) (s' l.toNatClampNeg)) l.toNatClampNeg 0, z_ui b l.toNatClampNeg 1) := by
        unfold z_rb
        rw [if_neg (fun q => q zb), if_pos es]
      rw [if_pos hs] at c0 c2 c4
      refine ⟨key _ _ et (by rw [c0, z_u_e]) (by rw [c2, z_u_n (by omega), z_u_e, e0]) (by rw [c4, z_u_n (by omega), z_u_n (by omega), r120]) (by rw [z_u_n (by omega), z_u_n (by omega), r30]) (by rw [c0]; exact ok0) (fun _ => c0), ?_⟩
      rw [et]
      exact ⟨fun _ => Or.inr es, fun _ q => absurd (show z_ui b l.toNatClampNeg 1 l.toNatClampNeg = 0 from q) (by unfold z_ui; rw [if_pos rfl]; decide)⟩
    | false =>
      rw [hs] at es
      have ns : ¬ stk l = true := by rw [hs]; decide
      have ne : ¬ en l = true := by rw [es]; decide
      have et : z_rb en cap o1 dr' (s', b) l = (z_u (z_u (z_r0 s' l) (120 + l.toNatClampNeg) (cap l (s' l.toNatClampNeg) - s' l.toNatClampNeg)) l.toNatClampNeg (dr' l (o1 l (cap l (s' l.toNatClampNeg)))), b) := by
        unfold z_rb
        rw [if_neg (fun q => q zb), if_neg ne]
      rw [if_neg ns] at c0 c2 c4
      obtain ⟨g1, g2, g3, g4⟩ := z_gr ok hr
      have o2 : z_o2 gr l (s l.toNatClampNeg) = r_cap (s l.toNatClampNeg) r := by
        unfold z_o2
        by_cases q : 0 < s l.toNatClampNeg
        · rw [if_pos q, hg, g1]
        · rw [if_neg q, g2 q]
      rw [o2] at c0
      refine ⟨key _ _ et (by rw [c0, z_u_e, ← e0, hc, h4]) (by rw [c2, z_u_n (by omega), z_u_n (by omega), r60]) ?_ (by rw [z_u_n (by omega), z_u_n (by omega), r30]) (by rw [c0]; exact h5 _ g3 g4) (fun q => absurd zb q), ?_⟩
      · rw [c4, z_u_n (by omega), z_u_e, ← e0, hc]
        by_cases q : 0 < s l.toNatClampNeg
        · rw [if_pos q, hg, g1, Int64.add_comm, Int64.add_sub_cancel]
        · rw [if_neg q, g2 q, Int64.sub_self]
      · rw [et]
        exact ⟨fun q => absurd zb q, fun q => q.elim (fun q => q) (fun q => absurd q ne)⟩
  · have et : z_rb en cap o1 dr' (s', b) l = (z_r0 s' l, b) := by
      unfold z_rb
      rw [if_pos zb]
    have v0 := z0 zb
    have c00 : z_b stk gr dr s l l.toNatClampNeg = 0 := by
      rw [c0]
      split
      · rfl
      · next q =>
        unfold z_o2
        rw [v0, if_neg (by decide)]
        exact (h1 zb).resolve_left q
    refine ⟨key _ _ et (by rw [c00, r0, ← e0, v0]) (by rw [c2, r60, v0]; split <;> rfl) (by rw [c4, r120, v0, if_neg (show ¬ (0 : Int64) < 0 by decide)]; split <;> rfl) (r30 _) (by rw [c00]; exact ok0) (fun _ => c00), ?_⟩
    rw [et]
    exact ⟨fun q => Or.inl q, fun _ => zb⟩
/-- loans are apart -/
def z_nd (ms : List Int32) : Prop := ms.Pairwise (fun a b => a.toNatClampNeg ≠ b.toNatClampNeg)
theorem z_far {a l : Int32} {w : Nat} (ha : am_in a 30) (hl : am_in l 30) (h : a.toNatClampNeg ≠ l.toNatClampNeg) : 30 * w + l.toNatClampNeg ≠ a.toNatClampNeg ∧ 30 * w + l.toNatClampNeg ≠ 30 + a.toNatClampNeg ∧ 30 * w + l.toNatClampNeg ≠ 60 + a.toNatClampNeg ∧ 30 * w + l.toNatClampNeg ≠ 90 + a.toNatClampNeg ∧ 30 * w + l.toNatClampNeg ≠ 120 + a.toNatClampNeg ∧ 30 * w + l.toNatClampNeg ≠ 150 + a.toNatClampNeg := by
  have h1 := g_cl ha
  have h2 := g_cl hl
  refine ⟨?_, ?_, ?_, ?_, ?_, ?_⟩ <;> omega
/-- the loans that are not yet begun stay as they were, the others have begun -/
theorem z_beg {stk en : Int32 → Bool} {gr cap dr o1 dr' : Int32 → Int64 → Int64} : ∀ (ms : List Int32) (s s' : Nat → Int64) (b : Nat → Int32), (∀ l ∈ ms, am_in l 30) → z_nd ms → (∀ l ∈ ms, z_L s s' b l ∧ z_H stk en gr cap dr o1 dr' (s l.toNatClampNeg) (b l.toNatClampNeg) l) →
    (∀ l ∈ ms, z_M (ms.foldl (z_b stk gr dr) s) (ms.foldl (z_rb en cap o1 dr') (s', b)).1 (ms.foldl (z_rb en cap o1 dr') (s', b)).2 l ∧ (¬ (ms.foldl (z_rb en cap o1 dr') (s', b)).2 l.toNatClampNeg = 0 ↔ ¬ b l.toNatClampNeg = 0 ∨ en l = true)) ∧ ∀ x : Int32, am_in x 30 → (∀ l ∈ ms, l.toNatClampNeg ≠ x.toNatClampNeg) → (∀ w, (ms.foldl (z_b stk gr dr) s) (30 * w + x.toNatClampNeg) = s (30 * w + x.toNatClampNeg) ∧ (ms.foldl (z_rb en cap o1 dr') (s', b)).1 (30 * w + x.toNatClampNeg) = s' (30 * w + x.toNatClampNeg)) ∧ (ms.foldl (z_rb en cap o1 dr') (s', b)).2 x.toNatClampNeg = b x.toNatClampNeg
  | [], s, s', b, _, _, _ => ⟨fun l hl => absurd hl List.not_mem_nil, fun _ _ _ => ⟨fun _ => ⟨rfl, rfl⟩, rfl⟩⟩
  | a :: ms, s, s', b, hin, hnd, h => by
    have ha := hin a List.mem_cons_self
    have hap := (List.pairwise_cons.mp hnd).1
    have off : ∀ x : Int32, am_in x 30 → a.toNatClampNeg ≠ x.toNatClampNeg → (∀ w, z_b stk gr dr s a (30 * w + x.toNatClampNeg) = s (30 * w + x.toNatClampNeg) ∧ (z_rb en cap o1 dr' (s', b) a).1 (30 * w + x.toNatClampNeg) = s' (30 * w + x.toNatClampNeg)) ∧ (z_rb en cap o1 dr' (s', b) a).2 x.toNatClampNeg = b x.toNatClampNeg := fun x hx hne => ⟨fun w => by
      obtain ⟨f0, f1, f2, f3, f4, f5⟩ := z_far (w := w) ha hx hne
      exact ⟨z_b_o f0 f2 f4, z_rb_o f0 f1 f2 f4⟩, z_rb_ob (fun q => hne q.symm)⟩
    have at0 : ∀ x : Int32, s x.toNatClampNeg = s (30 * 0 + x.toNatClampNeg) := fun x => by rw [Nat.mul_zero, Nat.zero_add]
    have ih := z_beg (stk := stk) (en := en) (gr := gr) (cap := cap) (dr := dr) (o1 := o1) (dr' := dr') ms (z_b stk gr dr s a) (z_rb en cap o1 dr' (s', b) a).1 (z_rb en cap o1 dr' (s', b) a).2 (fun l hl => hin l (List.mem_cons_of_mem _ hl)) (List.pairwise_cons.mp hnd).2 (fun l hl => by
      have hlin := hin l (List.mem_cons_of_mem _ hl)
      obtain ⟨o1', o2'⟩ := off l hlin (hap l hl)
      obtain ⟨⟨q1, q2, q3⟩, q4⟩ := h l (List.mem_cons_of_mem _ hl)
      have ev : z_b stk gr dr s a l.toNatClampNeg = s l.toNatClampNeg := by
        have q := (o1' 0).1
        rwa [Nat.mul_zero, Nat.zero_add] at q
      refine ⟨⟨fun w hw => by rw [(o1' w).1, (o1' w).2]; exact q1 w hw, by rw [ev]; exact q2, fun z => by rw [o2'] at z; rw [ev]; exact q3 z⟩, ?_⟩
      rw [ev, o2']
      exact q4)
    obtain ⟨ih1, ih2⟩ := ih
    have fa := z_beg1 (h a List.mem_cons_self).1 (h a List.mem_cons_self).2
    show (∀ l ∈ a :: ms, z_M (ms.foldl (z_b stk gr dr) (z_b stk gr dr s a)) (ms.foldl (z_rb en cap o1 dr') (z_rb en cap o1 dr' (s', b) a)).1 (ms.foldl (z_rb en cap o1 dr') (z_rb en cap o1 dr' (s', b) a)).2 l ∧ _) ∧ ∀ x : Int32, am_in x 30 → (∀ l ∈ a :: ms, l.toNatClampNeg ≠ x.toNatClampNeg) → (∀ w, (ms.foldl (z_b stk gr dr) (z_b stk gr dr s a)) (30 * w + x.toNatClampNeg) = _ ∧ (ms.foldl (z_rb en cap o1 dr') (z_rb en cap o1 dr' (s', b) a)).1 (30 * w + x.toNatClampNeg) = _) ∧ (ms.foldl (z_rb en cap o1 dr') (z_rb en cap o1 dr' (s', b) a)).2 x.toNatClampNeg = _
    refine ⟨fun l hl => ?_, fun x hx hne => ?_⟩
    · rcases List.mem_cons.mp hl with rfl | hl2
      · obtain ⟨j1, j2⟩ := ih2 l ha (fun y hy q => hap y hy q.symm)
        obtain ⟨⟨m1, m2, m3⟩, m4⟩ := fa
        have ev := (j1 0).1
        rw [Nat.mul_zero, Nat.zero_add] at ev
        have ev1 := (j1 1).2
        rw [Nat.mul_one] at ev1
        refine ⟨⟨fun w hw h1 => by rw [(j1 w).1, (j1 w).2]; exact m1 w hw h1, by rw [ev]; exact m2, fun z => by rw [j2] at z; rw [ev, ev1]; exact m3 z⟩, (iff_of_eq (congrArg (fun q : Int32 => ¬ q = 0) j2)).trans m4⟩
      · have q := ih1 l hl2
        have hlin := hin l hl
        obtain ⟨o1', o2'⟩ := off l hlin (hap l hl2)
        rw [o2'] at q
        exact q
    · obtain ⟨j1, j2⟩ := ih2 x hx (fun l hl => hne l (List.mem_cons_of_mem _ hl))
      obtain ⟨o1', o2'⟩ := off x hx (hne a List.mem_cons_self)
      exact ⟨fun w => ⟨(j1 w).1.trans (o1' w).1, (j1 w).2.trans (o1' w).2⟩, j2.trans o2'⟩
end
-- part 79za.pure1.lean.txt
section
/-! runs, pure: paid ahead, taken; a whole year -/
theorem z_mn_b {a o : Int64} (ha : 0 ≤ a.toInt) (ho : z_ok o) : 0 ≤ (z_mn a o).toInt ∧ (z_mn a o).toInt ≤ a.toInt ∧ (z_mn a o).toInt ≤ o.toInt ∧ z_ok (o - z_mn a o) ∧ (o = 0 → z_mn a o = 0) := by
  obtain ⟨o0, o1⟩ := ho
  have m : 0 ≤ (z_mn a o).toInt ∧ (z_mn a o).toInt ≤ a.toInt ∧ (z_mn a o).toInt ≤ o.toInt := by
    unfold z_mn
    by_cases z : o < a
    · rw [if_pos z]
      rw [Int64.lt_iff_toInt_lt] at z
      omega
    · rw [if_neg z]
      rw [Int64.lt_iff_toInt_lt] at z
      omega
  have es := l_sub (x := o) (y := z_mn a o) (by omega) (by omega)
  refine ⟨m.1, m.2.1, m.2.2, ⟨by omega, by omega⟩, fun q => ?_⟩
  apply Int64.toInt_inj.mp
  rw [q] at m ⊢
  have k0 : (0 : Int64).toInt = 0 := rfl
  omega
theorem z_far2 {a l : Int32} {w : Nat} (ha : am_in a 30) (hl : am_in l 30) (h : a.toNatClampNeg ≠ l.toNatClampNeg) : 30 * w + l.toNatClampNeg ≠ a.toNatClampNeg := (z_far ha hl h).1
theorem z_row {l : Int32} {w : Nat} (hw : w ≠ 0) : 30 * w + l.toNatClampNeg ≠ l.toNatClampNeg := by omega
/-- the loans of a run, begun -/
def z_MM (ms : List Int32) (s s' : Nat → Int64) (b : Nat → Int32) : Prop := ∀ l ∈ ms, z_M s s' b l
/-- one paid ahead of -/
theorem z_M.pay {ms : List Int32} {s s' : Nat → Int64} {b : Nat → Int32} (hin : ∀ l ∈ ms, am_in l 30) (h : z_MM ms s s' b) {x : Int32} (hx : x ∈ ms) {t : Int64} (ht : z_ok (s x.toNatClampNeg - t)) (hb : ¬ b x.toNatClampNeg = 0 → t = 0) : z_MM ms (z_u s x.toNatClampNeg (s x.toNatClampNeg - t)) (z_u s' x.toNatClampNeg (s' x.toNatClampNeg - t)) b := by
  intro l hl
  obtain ⟨q1, q2, q3⟩ := h l hl
  have hxi := hin x hx
  have hli := hin l hl
  have gl := g_cl hli
  have gx := g_cl hxi
  have e0 := (h x hx).1 0 (by decide) (by decide)
  rw [Nat.mul_zero, Nat.zero_add] at e0
  by_cases z : x.toNatClampNeg = l.toNatClampNeg
  · refine ⟨fun w hw h1 => ?_, by rw [z]; rw [z] at ht; rw [z_u_e]; exact ht, fun y => ?_⟩
    · by_cases w0 : w = 0
      · subst w0
        rw [Nat.mul_zero, Nat.zero_add, ← z, z_u_e, z_u_e, e0]
      · rw [z_u_n (by omega), z_u_n (by omega)]
        exact q1 w hw h1
    · obtain ⟨y1, y2⟩ := q3 y
      rw [← z] at y y1 ⊢
      rw [z_u_e, z_u_n (by omega), hb y, y1, Int64.sub_zero, z]
      exact ⟨rfl, y2⟩
  · refine ⟨fun w hw h1 => ?_, by rw [z_u_n (fun q => z q.symm)]; exact q2, fun y => ?_⟩
    · rw [z_u_n (by omega), z_u_n (by omega)]
      exact q1 w hw h1
    · rw [z_u_n (fun q => z q.symm), z_u_n (by omega)]
      exact q3 y
theorem z_pays {ms : List Int32} {b : Nat → Int32} (hin : ∀ l ∈ ms, am_in l 30) : ∀ (Q : List Int32) (s s' : Nat → Int64) (due paid : Int64), (∀ l ∈ Q, l ∈ ms) → z_MM ms s s' b → 0 ≤ due.toInt →
    z_MM ms (Q.foldl z_pay (s, due, paid)).1 (Q.foldl (z_rp b) (s', due)).1 b ∧ (Q.foldl z_pay (s, due, paid)).2.1 = (Q.foldl (z_rp b) (s', due)).2 ∧ (Q.foldl z_pay (s, due, paid)).2.2 = paid + (due - (Q.foldl (z_rp b) (s', due)).2)
  | [], s, s', due, paid, _, h, _ => ⟨h, rfl, by show paid = paid + (due - due); rw [Int64.sub_self, Int64.add_zero]⟩
  | x :: Q, s, s', due, paid, hQ, h, hd => by
    have hx := hQ x List.mem_cons_self
    obtain ⟨q1, q2, q3⟩ := h x hx
    have e0 := q1 0 (by decide) (by decide)
    rw [Nat.mul_zero, Nat.zero_add] at e0
    obtain ⟨m1, m2, m3, m4, m5⟩ := z_mn_b hd q2
    have es := l_sub (x := due) (y := z_mn due (s x.toNatClampNeg)) (by have := q2.2; omega) (by have := Int64.toInt_lt due; omega)
    have step : z_rp b (s', due) x = (z_u s' x.toNatClampNeg (s' x.toNatClampNeg - z_mn due (s x.toNatClampNeg)), due - z_mn due (s x.toNatClampNeg)) := by
      unfold z_rp
      by_cases z : 0 < due ∧ b x.toNatClampNeg = 0
      · rw [if_pos z]
        dsimp only
        rw [← e0]
      · rw [if_neg z]
        have t0 : z_mn due (s x.toNatClampNeg) = 0 := by
          by_cases zb : b x.toNatClampNeg = 0
          · have hd0 : ¬ 0 < due := fun q => z ⟨q, zb⟩
            rw [Int64.lt_iff_toInt_lt] at hd0
            have k0 : (0 : Int64).toInt = 0 := rfl
            apply Int64.toInt_inj.mp
            omega
          · exact m5 (q3 zb).1
        rw [t0, Int64.sub_zero, Int64.sub_zero]
        refine Prod.ext ?_ rfl
        funext j
        show s' j = z_u s' _ _ j
        unfold z_u
        by_cases y : j = x.toNatClampNeg
        · rw [if_pos y, y]
        · rw [if_neg y]
    have ih := z_pays hin Q (z_u s x.toNatClampNeg (s x.toNatClampNeg - z_mn due (s x.toNatClampNeg))) (z_u s' x.toNatClampNeg (s' x.toNatClampNeg - z_mn due (s x.toNatClampNeg))) (due - z_mn due (s x.toNatClampNeg)) (paid + z_mn due (s x.toNatClampNeg)) (fun l hl => hQ l (List.mem_cons_of_mem _ hl)) (z_M.pay hin h hx m4 (fun y => m5 (q3 y).1)) (by omega)
    show z_MM ms (Q.foldl z_pay (z_pay (s, due, paid) x)).1 (Q.foldl (z_rp b) (z_rp b (s', due) x)).1 b ∧ (Q.foldl z_pay (z_pay (s, due, paid) x)).2.1 = (Q.foldl (z_rp b) (z_rp b (s', due) x)).2 ∧ (Q.foldl z_pay (z_pay (s, due, paid) x)).2.2 = paid + (due - (Q.foldl (z_rp b) (z_rp b (s', due) x)).2)
    rw [step]
    refine ⟨ih.1, ih.2.1, ih.2.2.trans ?_⟩
    generalize (Q.foldl (z_rp b) _).2 = r
    generalize z_mn due (s x.toNatClampNeg) = t
    rw [Int64.add_assoc]
    congr 1
    rw [Int64.sub_eq_add_neg, Int64.sub_eq_add_neg, Int64.sub_eq_add_neg, ← Int64.add_assoc, Int64.add_comm t, Int64.add_assoc due, Int64.add_left_neg, Int64.add_zero]
/-- begun, and so far taken -/
def z_TT (ms : List Int32) (s s' : Nat → Int64) (b : Nat → Int32) (pre : List Int32) : Prop := z_MM ms s s' b ∧ ∀ l ∈ pre, s (30 + l.toNatClampNeg) = s' (30 + l.toNatClampNeg)
/-- rows of a loan behind it -/
theorem z_tk_v {ask : Int32 → Int64} {sd : Int32 → Bool} {s : Nat → Int64} {v : Int64} {x : Int32} : (z_tk ask sd (s, v) x).2 = v + z_tn (ask x) v (s x.toNatClampNeg) ∧ (z_tk ask sd (s, v) x).1 x.toNatClampNeg = s x.toNatClampNeg - z_tn (ask x) v (s x.toNatClampNeg) ∧ (z_tk ask sd (s, v) x).1 (30 + x.toNatClampNeg) = z_tn (ask x) v (s x.toNatClampNeg) ∧ (z_tk ask sd (s, v) x).1 (90 + x.toNatClampNeg) = s (90 + x.toNatClampNeg) + z_tn (ask x) v (s x.toNatClampNeg) ∧ (z_tk ask sd (s, v) x).1 (150 + x.toNatClampNeg) = s (150 + x.toNatClampNeg) + (if sd x = true then z_tn (ask x) v (s x.toNatClampNeg) else 0) ∧ ∀ k, k ≠ x.toNatClampNeg → k ≠ 30 + x.toNatClampNeg → k ≠ 90 + x.toNatClampNeg → k ≠ 150 + x.toNatClampNeg → (z_tk ask sd (s, v) x).1 k = s k := by
  unfold z_tk
  dsimp only
  generalize z_tn (ask x) v (s x.toNatClampNeg) = t
  by_cases z : sd x = true
  · simp only [if_pos z]
    refine ⟨trivial, ?_, ?_, ?_, ?_, fun k h0 h1 h3 h5 => ?_⟩
    · rw [z_u_n (by omega), z_u_n (by omega), z_u_n (by omega), z_u_e]
    · rw [z_u_n (by omega), z_u_n (by omega), z_u_e]
    · rw [z_u_n (by omega), z_u_e, z_u_n (by omega), z_u_n (by omega)]
    · rw [z_u_e, z_u_n (by omega), z_u_n (by omega), z_u_n (by omega)]
    · rw [z_u_n h5, z_u_n h3, z_u_n h1, z_u_n h0]
  · simp only [if_neg z]
    refine ⟨trivial, ?_, ?_, ?_, ?_, fun k h0 h1 h3 h5 => ?_⟩
    · rw [z_u_n (by omega), z_u_n (by omega), z_u_e]
    · rw [z_u_n (by omega), z_u_e]
    · rw [z_u_e, z_u_n (by omega), z_u_n (by omega)]
    · rw [z_u_n (by omega), z_u_n (by omega), z_u_n (by omega), Int64.add_zero]
    · rw [z_u_n h3, z_u_n h1, z_u_n h0]
theorem z_tn_b {a v o : Int64} (ho : z_ok o) : z_ok (o - z_tn a v o) ∧ (o = 0 → z_tn a v o = 0) := by
  unfold z_tn
  have h0 : 0 ≤ (if a - v < 0 then 0 else a - v : Int64).toInt := by
    split
    · decide
    · next q =>
      rw [Int64.lt_iff_toInt_lt] at q
      have k0 : (0 : Int64).toInt = 0 := rfl
      omega
  obtain ⟨-, -, -, m4, m5⟩ := z_mn_b h0 ho
  exact ⟨m4, m5⟩
theorem z_takes {ms : List Int32} {b : Nat → Int32} {ask ask' : Int32 → Int64} {sd sd' : Int32 → Bool} (hin : ∀ l ∈ ms, am_in l 30) (ha : ∀ l ∈ ms, ask l = ask' l) (hs : ∀ l ∈ ms, sd l = sd' l) : ∀ (Q pre : List Int32) (s s' : Nat → Int64) (v : Int64), (∀ l ∈ Q, l ∈ ms) → (∀ l ∈ pre, l ∈ ms) → z_TT ms s s' b pre →
    z_TT ms (Q.foldl (z_tk ask sd) (s, v)).1 (Q.foldl (z_rk ask' sd' b) (s', v)).1 b (pre ++ Q)
  | [], pre, s, s', v, _, _, h => by rw [List.append_nil]; exact h
  | x :: Q, pre, s, s', v, hQ, hp, h => by
    have hx := hQ x List.mem_cons_self
    have hxi := hin x hx
    have gx := g_cl hxi
    obtain ⟨hM, hT⟩ := h
    obtain ⟨q1, q2, q3⟩ := hM x hx
    have e0 := q1 0 (by decide) (by decide)
    have e3 := q1 3 (by decide) (by decide)
    have e5 := q1 5 (by decide) (by decide)
    rw [Nat.mul_zero, Nat.zero_add] at e0
    obtain ⟨t1, t2, t3, t4, t5, t6⟩ := z_tk_v (ask := ask) (sd := sd) (s := s) (v := v) (x := x)
    obtain ⟨m4, m5⟩ := z_tn_b (a := ask x) (v := v) q2
    -- the reference's step, by its rows
    have key : ∀ (S : Nat → Int64), S x.toNatClampNeg = s' x.toNatClampNeg - z_tn (ask x) v (s x.toNatClampNeg) → S (30 + x.toNatClampNeg) = z_tn (ask x) v (s x.toNatClampNeg) → S (90 + x.toNatClampNeg) = s' (90 + x.toNatClampNeg) + z_tn (ask x) v (s x.toNatClampNeg) → S (150 + x.toNatClampNeg) = s' (150 + x.toNatClampNeg) + (if sd x = true then z_tn (ask x) v (s x.toNatClampNeg) else 0) → (∀ k, k ≠ x.toNatClampNeg → k ≠ 30 + x.toNatClampNeg → k ≠ 90 + x.toNatClampNeg → k ≠ 150 + x.toNatClampNeg → S k = s' k) → z_TT ms (z_tk ask sd (s, v) x).1 S b (pre ++ [x]) := fun S u0 u1 u3 u5 uo => by
      have row1 : ∀ l ∈ ms, l.toNatClampNeg ≠ x.toNatClampNeg → (z_tk ask sd (s, v) x).1 (30 + l.toNatClampNeg) = s (30 + l.toNatClampNeg) ∧ S (30 + l.toNatClampNeg) = s' (30 + l.toNatClampNeg) := fun l hl hne => by
        have gl := g_cl (hin l hl)
        exact ⟨t6 _ (by omega) (by omega) (by omega) (by omega), uo _ (by omega) (by omega) (by omega) (by omega)⟩
      refine ⟨fun l hl => ?_, fun l hl => ?_⟩
      · obtain ⟨p1, p2, p3⟩ := hM l hl
        have gl := g_cl (hin l hl)
        by_cases z : l.toNatClampNeg = x.toNatClampNeg
        · unfold z_M
          rw [z]
          refine ⟨fun w hw h1 => ?_, by rw [t2]; exact m4, fun y => ?_⟩
          · rcases z_w6 hw with rfl | rfl | rfl | rfl | rfl | rfl
            · rw [Nat.mul_zero, Nat.zero_add, t2, u0, e0]
            · exact absurd rfl h1
            · have := p1 2 (by decide) (by decide)
              rw [z] at this
              rw [t6 _ (by omega) (by omega) (by omega) (by omega), uo _ (by omega) (by omega) (by omega) (by omega)]
              exact this
            · rw [show 30 * 3 + x.toNatClampNeg = 90 + x.toNatClampNeg by omega, t4, u3]
              rw [show 30 * 3 + x.toNatClampNeg = 90 + x.toNatClampNeg by omega] at e3
              rw [e3]
            · have := p1 4 (by decide) (by decide)
              rw [z] at this
              rw [t6 _ (by omega) (by omega) (by omega) (by omega), uo _ (by omega) (by omega) (by omega) (by omega)]
              exact this
            · rw [show 30 * 5 + x.toNatClampNeg = 150 + x.toNatClampNeg by omega, t5, u5]
              rw [show 30 * 5 + x.toNatClampNeg = 150 + x.toNatClampNeg by omega] at e5
              rw [e5]
          · obtain ⟨y1, y2⟩ := q3 y
            rw [t2, u1, m5 y1, y1, Int64.sub_zero]
            exact ⟨rfl, rfl⟩
        · refine ⟨fun w hw h1 => ?_, ?_, fun y => ?_⟩
          · rw [t6 _ (by omega) (by omega) (by omega) (by omega), uo _ (by omega) (by omega) (by omega) (by omega)]
            exact p1 w hw h1
          · rw [t6 _ (by omega) (by omega) (by omega) (by omega)]
            exact p2
          · rw [t6 _ (by omega) (by omega) (by omega) (by omega), (row1 l hl z).2]
            exact p3 y
      · by_cases z : l.toNatClampNeg = x.toNatClampNeg
        · rw [z, t3, u1]
        · rcases List.mem_append.mp hl with q | q
          · obtain ⟨r1, r2⟩ := row1 l (hp l q) z
            rw [r1, r2]
            exact hT l q
          · rw [List.mem_singleton.mp q] at z
            exact absurd rfl z
    have st : z_TT ms (z_tk ask sd (s, v) x).1 (z_rk ask' sd' b (s', v) x).1 b (pre ++ [x]) ∧ (z_rk ask' sd' b (s', v) x).2 = (z_tk ask sd (s, v) x).2 := by
      unfold z_rk
      by_cases zb : b x.toNatClampNeg = 0
      · rw [if_pos zb]
        obtain ⟨w1, w2, w3, w4, w5, w6⟩ := z_tk_v (ask := ask') (sd := sd') (s := s') (v := v) (x := x)
        rw [← ha x hx, ← e0] at w1 w2 w3 w4 w5
        rw [← hs x hx] at w5
        exact ⟨key _ (by rw [w2, e0]) w3 w4 w5 w6, by rw [w1, t1]⟩
      · rw [if_neg zb]
        obtain ⟨y1, y2⟩ := q3 zb
        have t0 := m5 y1
        refine ⟨key s' (by rw [t0, Int64.sub_zero]) (by rw [t0]; exact y2) (by rw [t0, Int64.add_zero]) (by rw [t0]; split <;> rw [Int64.add_zero]) (fun _ _ _ _ _ => rfl), ?_⟩
        rw [t1, t0, Int64.add_zero]
    have ih := z_takes hin ha hs Q (pre ++ [x]) (z_tk ask sd (s, v) x).1 (z_rk ask' sd' b (s', v) x).1 (z_tk ask sd (s, v) x).2 (fun l hl => hQ l (List.mem_cons_of_mem _ hl)) (fun l hl => by
      rcases List.mem_append.mp hl with q | q
      · exact hp l q
      · rw [List.mem_singleton.mp q]; exact hx) st.1
    rw [List.append_assoc] at ih
    show z_TT ms (Q.foldl (z_tk ask sd) (z_tk ask sd (s, v) x)).1 (Q.foldl (z_rk ask' sd' b) (z_rk ask' sd' b (s', v) x)).1 b (pre ++ x :: Q)
    rw [show z_rk ask' sd' b (s', v) x = ((z_rk ask' sd' b (s', v) x).1, (z_tk ask sd (s, v) x).2) from Prod.ext rfl st.2]
    exact ih
theorem z_q_in {f : Int32 → Nat} {ms : List Int32} : ∀ {o : Nat} {l : Int32}, l ∈ z_q f ms o → l ∈ ms
  | 0, _, h => absurd h List.not_mem_nil
  | o + 1, l, h => by
    rcases List.mem_append.mp h with q | q
    · exact z_q_in q
    · exact (List.mem_filter.mp q).1
theorem z_q_all {f : Int32 → Nat} {ms : List Int32} : ∀ {o : Nat} {l : Int32}, l ∈ ms → f l < o → l ∈ z_q f ms o
  | 0, _, _, h => absurd h (Nat.not_lt_zero _)
  | o + 1, l, hl, h => by
    show l ∈ z_q f ms o ++ _
    by_cases z : f l = o
    · exact List.mem_append_right _ (List.mem_filter.mpr ⟨hl, decide_eq_true z⟩)
    · exact List.mem_append_left _ (z_q_all hl (by omega))
theorem z_q_cg {f g : Int32 → Nat} {ms : List Int32} (h : ∀ l ∈ ms, f l = g l) : ∀ o, z_q f ms o = z_q g ms o
  | 0 => rfl
  | o + 1 => by
    show z_q f ms o ++ _ = z_q g ms o ++ _
    rw [z_q_cg h o]
    congr 1
    refine List.filter_congr (fun l hl => ?_)
    rw [h l hl]
/-- a year: class and reference in step -/
def z_Z (ms : List Int32) (s s' : Nat → Int64) (b : Nat → Int32) : Prop := ∀ l ∈ ms, z_L s s' b l
theorem z_year {ms Q : List Int32} {stk en : Int32 → Bool} {gr cap dr o1 dr' : Int32 → Int64 → Int64} {f : Int32 → Nat} {ask ask' : Int32 → Int64} {sd sd' : Int32 → Bool} {s s' : Nat → Int64} {b : Nat → Int32} {due paid : Int64} (hin : ∀ l ∈ ms, am_in l 30) (hnd : z_nd ms) (hZ : z_Z ms s s' b) (hH : ∀ l ∈ ms, z_H stk en gr cap dr o1 dr' (s l.toNatClampNeg) (b l.toNatClampNeg) l) (ha : ∀ l ∈ ms, ask l = ask' l) (hs : ∀ l ∈ ms, sd l = sd' l) (hf : ∀ l ∈ ms, f l < 10) (hQ : Q = z_q f ms 10) (hd : 0 ≤ due.toInt) :
    z_Z ms (z_T (z_b stk gr dr) f ask sd ms (s, due, paid)).1 (Q.foldl (z_rk ask' sd' (ms.foldl (z_rb en cap o1 dr') (s', b)).2) ((Q.foldl (z_rp (ms.foldl (z_rb en cap o1 dr') (s', b)).2) ((ms.foldl (z_rb en cap o1 dr') (s', b)).1, due)).1, 0)).1 (ms.foldl (z_rb en cap o1 dr') (s', b)).2 ∧ (z_T (z_b stk gr dr) f ask sd ms (s, due, paid)).2.1 = 0 ∧ (z_T (z_b stk gr dr) f ask sd ms (s, due, paid)).2.2 = paid + (due - (Q.foldl (z_rp (ms.foldl (z_rb en cap o1 dr') (s', b)).2) ((ms.foldl (z_rb en cap o1 dr') (s', b)).1, due)).2) ∧ ∀ l ∈ ms, (¬ (ms.foldl (z_rb en cap o1 dr') (s', b)).2 l.toNatClampNeg = 0 ↔ ¬ b l.toNatClampNeg = 0 ∨ en l = true) := by
  obtain ⟨B, -⟩ := z_beg ms s s' b hin hnd (fun l hl => ⟨hZ l hl, hH l hl⟩)
  have k0 : (0 : Int64).toInt = 0 := rfl
  generalize ms.foldl (z_rb en cap o1 dr') (s', b) = S at B ⊢
  obtain ⟨s1, b1⟩ := S
  dsimp only at B ⊢
  have hM : z_MM ms (ms.foldl (z_b stk gr dr) s) s1 b1 := fun l hl => (B l hl).1
  have hQm : ∀ l ∈ Q, l ∈ ms := fun l hl => by rw [hQ] at hl; exact z_q_in hl
  have hQa : ∀ l ∈ ms, l ∈ Q := fun l hl => by rw [hQ]; exact z_q_all hl (hf l hl)
  obtain ⟨P1, P2, P3⟩ := z_pays hin Q (ms.foldl (z_b stk gr dr) s) s1 due paid hQm hM hd
  have fin : ∀ (S : Nat → Int64) (S' : Nat → Int64), z_MM ms S S' b1 → z_Z ms (Q.foldl (z_tk ask sd) (S, 0)).1 (Q.foldl (z_rk ask' sd' b1) (S', 0)).1 b1 := fun S S' h => by
    obtain ⟨T1, T2⟩ := z_takes hin ha hs Q [] S S' 0 hQm (fun l hl => absurd hl List.not_mem_nil) ⟨h, fun l hl => absurd hl List.not_mem_nil⟩
    intro l hl
    obtain ⟨q1, q2, q3⟩ := T1 l hl
    refine ⟨fun w hw => ?_, q2, fun y => (q3 y).1⟩
    by_cases h1 : w = 1
    · subst h1
      exact T2 l (hQa l hl)
    · exact q1 w hw h1
  unfold z_T
  dsimp only
  rw [← hQ]
  by_cases z : 0 < due
  · rw [if_pos z, if_pos z]
    exact ⟨fin _ _ P1, rfl, P3, fun l hl => (B l hl).2⟩
  · rw [if_neg z, if_neg z]
    have d0 : due = 0 := by
      rw [Int64.lt_iff_toInt_lt] at z
      apply Int64.toInt_inj.mp
      omega
    have nop : ∀ (Q : List Int32) (S : Nat → Int64), Q.foldl (z_rp b1) (S, due) = (S, due) := fun Q => by
      induction Q with
      | nil => intro S; rfl
      | cons x Q ih =>
        intro S
        show Q.foldl (z_rp b1) (z_rp b1 (S, due) x) = _
        rw [show z_rp b1 (S, due) x = (S, due) from if_neg (fun q => z q.1)]
        exact ih S
    rw [nop]
    exact ⟨fin _ _ hM, d0, by show paid = paid + (due - due); rw [Int64.sub_self, Int64.add_zero], fun l hl => (B l hl).2⟩
end
-- part 79zb.link.lean.txt
section
/-! runs: a year's numbers: what the class reads is what the reference reads -/
/-- class L, reference K: told alike, as a year of a person's run reads it -/
def z_lk (K L : am_M) (p y e a : Int32) : Prop := ∃ _ : Unit, (L.1 33 1 = 8 ∧ (∀ l w, l < 30 → w < 8 → L.1 34 (8 * l + w) = K.1 201 (2838 + 8 * l + w)) ∧ (∀ k, k < 4 → L.1 29 k = K.1 201 (514 + k)) ∧ ∀ k, k < 40 → L.1 30 k = K.1 201 (518 + k)) ∧ (L.1 4 16 = e ∧ L.1 4 17 = a) ∧ (∀ l, am_in l 30 → l.toInt < (K.1 201 1).toInt → am_pln L l y = r_pl K l y) ∧ (∀ pl w, am_in pl 5 → am_in w 6 → L.1 5 ((y * 5 + pl) * 6 + w).toNatClampNeg = r_inF K pl w p y) ∧ (∀ pl, am_in pl 5 → (∀ fa, w_res fa (L.1 (40 + 3 * pl.toNatClampNeg)) (t_n L (39 + 3 * pl.toNatClampNeg)) 0 true [] [] = w_res fa (r_sg K pl) (r_sn K pl) 0 true [] []) ∧ ∀ fa fa' : Int32 → Int64, (∀ c, am_ops c = 0 → fa c = fa' c) → w_res fa (r_sg K pl) (r_sn K pl) 0 true [] [] = w_res fa' (r_sg K pl) (r_sn K pl) 0 true [] []) ∧ (∀ pl w, am_in pl 5 → am_in w 6 → am_isNum w (r_inF K pl w p y)) ∧ t_ok (K.1 201) ∧ (-1 ≤ e.toInt ∧ e.toInt ≤ 10000000) ∧ am_in a 4 ∧ am_in y 40 ∧ r_I K
section ZLK
variable {K L : am_M} {p y e a : Int32}
theorem z_lk.w8 (h : z_lk K L p y e a) : L.1 33 1 = 8 := by obtain ⟨-, ⟨h, -⟩, -⟩ := h; exact h
theorem z_lk.lo0 (h : z_lk K L p y e a) {l w : Nat} (hl : l < 30) (hw : w < 8) : L.1 34 (8 * l + w) = K.1 201 (2838 + 8 * l + w) := by obtain ⟨-, ⟨-, h, -⟩, -⟩ := h; exact h l w hl hw
theorem z_lk.sc (h : z_lk K L p y e a) {k : Nat} (hk : k < 4) : L.1 29 k = K.1 201 (514 + k) := by obtain ⟨-, ⟨-, -, h, -⟩, -⟩ := h; exact h k hk
theorem z_lk.pr (h : z_lk K L p y e a) {k : Nat} (hk : k < 40) : L.1 30 k = K.1 201 (518 + k) := by obtain ⟨-, ⟨-, -, -, h⟩, -⟩ := h; exact h k hk
theorem z_lk.ee (h : z_lk K L p y e a) : L.1 4 16 = e := by obtain ⟨-, -, ⟨h, -⟩, -⟩ := h; exact h
theorem z_lk.aa (h : z_lk K L p y e a) : L.1 4 17 = a := by obtain ⟨-, -, ⟨-, h⟩, -⟩ := h; exact h
theorem z_lk.pl (h : z_lk K L p y e a) {l : Int32} (hl : am_in l 30) (h2 : l.toInt < (K.1 201 1).toInt) : am_pln L l y = r_pl K l y := by obtain ⟨-, -, -, h, -⟩ := h; exact h l hl h2
theorem z_lk.nm (h : z_lk K L p y e a) {pl w : Int32} (hp : am_in pl 5) (hw : am_in w 6) : L.1 5 ((y * 5 + pl) * 6 + w).toNatClampNeg = r_inF K pl w p y := by obtain ⟨-, -, -, -, h, -⟩ := h; exact h pl w hp hw
theorem z_lk.tx (h : z_lk K L p y e a) {pl : Int32} (hp : am_in pl 5) : (∀ fa, w_res fa (L.1 (40 + 3 * pl.toNatClampNeg)) (t_n L (39 + 3 * pl.toNatClampNeg)) 0 true [] [] = w_res fa (r_sg K pl) (r_sn K pl) 0 true [] []) ∧ ∀ fa fa' : Int32 → Int64, (∀ c, am_ops c = 0 → fa c = fa' c) → w_res fa (r_sg K pl) (r_sn K pl) 0 true [] [] = w_res fa' (r_sg K pl) (r_sn K pl) 0 true [] [] := by obtain ⟨-, -, -, -, -, h, -⟩ := h; exact h pl hp
theorem z_lk.rg (h : z_lk K L p y e a) {pl w : Int32} (hp : am_in pl 5) (hw : am_in w 6) : am_isNum w (r_inF K pl w p y) := by obtain ⟨-, -, -, -, -, -, h, -⟩ := h; exact h pl w hp hw
theorem z_lk.ok (h : z_lk K L p y e a) : t_ok (K.1 201) := by obtain ⟨-, -, -, -, -, -, -, h, -⟩ := h; exact h
theorem z_lk.er (h : z_lk K L p y e a) : -1 ≤ e.toInt ∧ e.toInt ≤ 10000000 := by obtain ⟨-, -, -, -, -, -, -, -, h, -⟩ := h; exact h
theorem z_lk.ar (h : z_lk K L p y e a) : am_in a 4 := by obtain ⟨-, -, -, -, -, -, -, -, -, h, -⟩ := h; exact h
theorem z_lk.yr (h : z_lk K L p y e a) : am_in y 40 := by obtain ⟨-, -, -, -, -, -, -, -, -, -, h, -⟩ := h; exact h
theorem z_lk.ri (h : z_lk K L p y e a) : r_I K := by obtain ⟨-, -, -, -, -, -, -, -, -, -, -, h⟩ := h; exact h
/-- a loan's numbers -/
theorem z_lk.lo (h : z_lk K L p y e a) {l w : Int32} {n : Nat} (hl : am_in l 30) (hw : w.toInt = (n : Int)) (hn : n < 8) : am_loanAt L l w = r_lo K l w := by
  have l1 := hl.1
  have l2 := hl.2
  have e1 := i_mul (x := l) (y := 8) (by simp only [Int32.reduceToInt]; omega) (by simp only [Int32.reduceToInt]; omega)
  simp only [Int32.reduceToInt] at e1
  have e2 := i_add (x := l * 8) (y := w) (by omega) (by omega)
  have c1 := i_clamp (x := l * 8 + w) (by omega)
  have c2 := i_clamp l1
  have r1 := r_lcol hl (w := w) ⟨by omega, by omega⟩
  have c3 := i_clamp (x := 2838 + 8 * l + w) (by omega)
  unfold am_loanAt r_lo
  rw [h.w8, am_at_in (show am_in (l * 8 + w) 240 from ⟨by omega, by omega⟩), show (l * 8 + w).toNatClampNeg = 8 * l.toNatClampNeg + n by omega, h.lo0 (g_cl hl) hn, show (2838 + 8 * l + w).toNatClampNeg = 2838 + 8 * l.toNatClampNeg + n by omega]
/-- ranges of a loan's numbers -/
theorem z_lk.lr (h : z_lk K L p y e a) {l : Int32} (hl : am_in l 30) : (0 ≤ (r_lo K l 2).toInt ∧ (r_lo K l 2).toInt ≤ 39) ∧ (0 ≤ (r_lo K l 3).toInt ∧ (r_lo K l 3).toInt ≤ 10000000) ∧ (-1 ≤ (r_lo K l 5).toInt ∧ (r_lo K l 5).toInt ≤ 39) ∧ (-1 ≤ (r_lo K l 7).toInt ∧ (r_lo K l 7).toInt ≤ 39) := by
  have l1 := hl.1
  have g := g_cl hl
  have c2 := i_clamp l1
  have r2 := r_lcol hl (w := 2) ⟨by decide, by decide⟩
  have r3 := r_lcol hl (w := 3) ⟨by decide, by decide⟩
  have r5 := r_lcol hl (w := 5) ⟨by decide, by decide⟩
  have r7 := r_lcol hl (w := 7) ⟨by decide, by decide⟩
  simp only [Int32.reduceToInt] at r2 r3 r5 r7
  have c22 := i_clamp (x := 2838 + 8 * l + 2) (by omega)
  have c33 := i_clamp (x := 2838 + 8 * l + 3) (by omega)
  have c55 := i_clamp (x := 2838 + 8 * l + 5) (by omega)
  have c77 := i_clamp (x := 2838 + 8 * l + 7) (by omega)
  exact ⟨(h.ok.v (by omega)).a19 ⟨by omega, by omega, by omega⟩, (h.ok.v (by omega)).a20 ⟨by omega, by omega, by omega⟩, (h.ok.v (by omega)).a22 ⟨by omega, by omega, by omega⟩, (h.ok.v (by omega)).a24 ⟨by omega, by omega, by omega⟩⟩
theorem z_isNum {w v : Int32} (h : am_isNum w v) : (w = 0 → 0 ≤ v.toInt ∧ v.toInt ≤ 10000000) ∧ (w = 1 → 0 ≤ v.toInt ∧ v.toInt ≤ 1000) ∧ (w = 2 → 0 ≤ v.toInt ∧ v.toInt ≤ 500) ∧ (w = 3 → 1 ≤ v.toInt ∧ v.toInt ≤ 60) ∧ (w = 4 → 0 ≤ v.toInt ∧ v.toInt ≤ 9) ∧ (w = 5 → 0 ≤ v.toInt ∧ v.toInt ≤ 1000000) := by
  obtain ⟨-, h1, h2⟩ := h
  rw [i_le] at h1 h2
  refine ⟨?_, ?_, ?_, ?_, ?_, ?_⟩ <;> (rintro rfl; exact ⟨h1, h2⟩)
/-- a loan of the run -/
def z_in (K : am_M) (p l : Int32) : Prop := am_in l 30 ∧ l.toInt < (K.1 201 1).toInt ∧ r_lo K l 0 = p
theorem z_lk.cell (h : z_lk K L p y e a) {l w : Int32} (hl : z_in K p l) (hw : am_in w 6) : am_cell L l y w = r_inF K (r_pl K l y) w p y := by
  unfold am_cell
  rw [h.pl hl.1 hl.2.1]
  exact h.nm (r_pl_in h.ri hl.1) hw
theorem z_lk.cr (h : z_lk K L p y e a) {l w : Int32} (hl : z_in K p l) (hw : am_in w 6) : am_isNum w (r_inF K (r_pl K l y) w p y) := h.rg (r_pl_in h.ri hl.1) hw
theorem z_fa_l {c : Int32} (h : am_ops c = 0) : c = 114 ∨ c = 112 ∨ c = 101 ∨ c = 108 ∨ c = 121 ∨ c = 111 ∨ c = 97 := by
  unfold am_ops at h
  split at h
  · assumption
  · split at h
    · exact absurd h (by decide)
    · split at h <;> exact absurd h (by decide)
/-- the rate -/
theorem z_lk.rt (h : z_lk K L p y e a) {l : Int32} (hl : z_in K p l) (o : Int64) : c_rt L l y o = r_rt K l y e a o := by
  have hp := r_pl_in h.ri (y := y) hl.1
  obtain ⟨t1, t2⟩ := h.tx hp
  have e2 := h.cell hl (w := 2) ⟨by decide, by decide⟩
  have e0 := h.cell hl (w := 0) ⟨by decide, by decide⟩
  have yi := h.yr
  have cy := i_clamp yi.1
  have y2 := yi.2
  have e518 := r_off (c := 518) (x := y) ⟨by decide, by decide⟩ ⟨yi.1, by omega⟩
  simp only [Int32.reduceToInt] at e518
  have c518 := i_clamp (x := 518 + y) (by omega)
  have pr : L.1 30 y.toNatClampNeg = K.1 201 (518 + y).toNatClampNeg := by
    rw [h.pr (g_cl yi), show (518 + y).toNatClampNeg = 518 + y.toNatClampNeg by omega]
  unfold c_rt r_rt
  rw [h.pl hl.1 hl.2.1, e2, hl.2.2]
  unfold z_rt
  rw [t1, t2 (c_fa L l y o) (r_fx K l y e a o) (fun c hc => ?_)]
  unfold c_fa r_fx
  rw [e2, e0, pr, h.ee, h.aa, h.lo hl.1 (n := 2) rfl (by decide), hl.2.2]
  rcases z_fa_l hc with rfl | rfl | rfl | rfl | rfl | rfl | rfl <;> rfl
theorem z_cl_in (v : Int64) : 0 ≤ (z_cl v).toInt ∧ (z_cl v).toInt ≤ 500 := by
  by_cases h0 : v < 0
  · rw [z_cl_n h0]; decide
  · by_cases h5 : 500 < v
    · rw [z_cl_m h0 h5]; decide
    · rw [z_cl_v h0 h5]
      rw [Int64.lt_iff_toInt_lt] at h0 h5
      have k0 : (0 : Int64).toInt = 0 := rfl
      have k5 : (500 : Int64).toInt = 500 := rfl
      have e : v.toInt32.toInt = v.toInt := by
        rw [Int64.toInt_toInt32]
        exact Int.bmod_eq_of_le (by omega) (by omega)
      omega
theorem z_lk.rr (h : z_lk K L p y e a) {l : Int32} (hl : z_in K p l) (o : Int64) : 0 ≤ (r_rt K l y e a o).toInt ∧ (r_rt K l y e a o).toInt ≤ 500 := by
  unfold r_rt z_rt
  split
  · exact z_cl_in _
  · rw [hl.2.2]
    exact (z_isNum (h.cr hl (w := 2) ⟨by decide, by decide⟩)).2.2.1 rfl
/-- what is given back -/
theorem z_gb {s : Int32} (hs : 0 ≤ s.toInt ∧ s.toInt ≤ 10000000) {q : Int32} (hq : q = 750 ∨ q = 500 ∨ q = 0) : (s.toInt64 * q.toInt64 / 1000).toInt32.toInt64 = s.toInt64 * q.toInt64 / 1000 ∧ 0 ≤ (s.toInt64 * q.toInt64 / 1000).toInt ∧ (s.toInt64 * q.toInt64 / 1000).toInt ≤ 10000000 := by
  have es : s.toInt64.toInt = s.toInt := Int32.toInt_toInt64 s
  have eq : q.toInt64.toInt = q.toInt := Int32.toInt_toInt64 q
  have hq2 : 0 ≤ q.toInt ∧ q.toInt ≤ 750 := by rcases hq with rfl | rfl | rfl <;> decide
  have m0 : 0 ≤ s.toInt * q.toInt := Int.mul_nonneg hs.1 hq2.1
  have m1 : s.toInt * q.toInt ≤ 10000000 * 750 := Int.mul_le_mul hs.2 hq2.2 hq2.1 (by omega)
  have em := l_mul (x := s.toInt64) (y := q.toInt64) (by rw [es, eq]; omega) (by rw [es, eq]; omega)
  rw [es, eq] at em
  have ed := l_div (x := s.toInt64 * q.toInt64) (y := 1000) (by omega) (by decide)
  have k1 : (1000 : Int64).toInt = 1000 := rfl
  rw [em, k1] at ed
  have d0 := Int.ediv_nonneg m0 (show (0 : Int) ≤ 1000 by decide)
  refine ⟨?_, by omega, by omega⟩
  apply Int64.toInt_inj.mp
  rw [Int32.toInt_toInt64, Int64.toInt_toInt32]
  exact Int.bmod_eq_of_le (by omega) (by omega)
theorem z_lk.bk (h : z_lk K L p y e a) {l : Int32} (hl : am_in l 30) (h5 : r_lo K l 5 = y) : c_bk L l = (r_given K l y).toInt64 ∧ 0 ≤ (c_bk L l).toInt ∧ (c_bk L l).toInt ≤ 10000000 := by
  obtain ⟨-, h3, -, -⟩ := h.lr hl
  have e2 := h.lo hl (w := 2) (n := 2) rfl (by decide)
  have e3 := h.lo hl (w := 3) (n := 3) rfl (by decide)
  have e5 := h.lo hl (w := 5) (n := 5) rfl (by decide)
  unfold c_bk am_sumGiven r_given
  rw [e2, e3, e5, h5]
  show (if y - r_lo K l 2 = 0 then (r_lo K l 3).toInt64 * 750 / 1000 else if y - r_lo K l 2 = 1 then (r_lo K l 3).toInt64 * 500 / 1000 else 0) = ((r_lo K l 3).toInt64 * (if y - r_lo K l 2 = 0 then 750 else if y - r_lo K l 2 = 1 then 500 else 0 : Int32).toInt64 / 1000).toInt32.toInt64 ∧ _
  by_cases z0 : y - r_lo K l 2 = 0
  · rw [if_pos z0, if_pos z0]
    have q := z_gb h3 (q := 750) (Or.inl rfl)
    exact ⟨q.1.symm, q.2⟩
  · rw [if_neg z0, if_neg z0]
    by_cases z1 : y - r_lo K l 2 = 1
    · rw [if_pos z1, if_pos z1]
      have q := z_gb h3 (q := 500) (Or.inr (Or.inl rfl))
      exact ⟨q.1.symm, q.2⟩
    · rw [if_neg z1, if_neg z1]
      have q := z_gb h3 (q := 0) (Or.inr (Or.inr rfl))
      rw [q.1]
      have e0 : (r_lo K l 3).toInt64 * (0 : Int32).toInt64 / 1000 = 0 := by
        rw [show (0 : Int32).toInt64 = 0 from rfl, Int64.mul_zero]
        rfl
      rw [e0]
      exact ⟨rfl, by decide, by show (0 : Int64).toInt ≤ 10000000; rw [show (0 : Int64).toInt = 0 from rfl]; omega⟩
/-- drawn and given back -/
theorem z_lk.dr (h : z_lk K L p y e a) {l : Int32} (hl : am_in l 30) (o : Int64) : c_dr L l y o = r_dr K y l (r_o1 K y l o) := by
  have e2 := h.lo hl (w := 2) (n := 2) rfl (by decide)
  have e3 := h.lo hl (w := 3) (n := 3) rfl (by decide)
  have e5 := h.lo hl (w := 5) (n := 5) rfl (by decide)
  have d0 : c_dr0 L l y o = r_o1 K y l o := by
    unfold c_dr0 r_o1
    rw [e2, e3]
    by_cases z : y = r_lo K l 2
    · rw [if_pos z, if_pos z.symm]
    · rw [if_neg z, if_neg (fun q => z q.symm), Int64.add_zero]
  unfold c_dr r_dr
  rw [e5, d0]
  by_cases z : y = r_lo K l 5
  · rw [if_pos z, if_pos z.symm, (h.bk hl z.symm).1]
    rfl
  · rw [if_neg z, if_neg (fun q => z q.symm)]
theorem z_lk.db (h : z_lk K L p y e a) {l : Int32} (hl : am_in l 30) {o : Int64} (h0 : 0 ≤ o.toInt) (h1 : o.toInt ≤ 1000000000000) : z_ok (c_dr L l y o) := by
  obtain ⟨-, h3, -, -⟩ := h.lr hl
  have e2 := h.lo hl (w := 2) (n := 2) rfl (by decide)
  have e3 := h.lo hl (w := 3) (n := 3) rfl (by decide)
  have e5 := h.lo hl (w := 5) (n := 5) rfl (by decide)
  have d0 : z_ok (c_dr0 L l y o) := by
    unfold c_dr0
    rw [e2, e3]
    split
    · have ea := l_add (x := o) (y := (r_lo K l 3).toInt64) (by rw [Int32.toInt_toInt64]; omega) (by rw [Int32.toInt_toInt64]; omega)
      rw [Int32.toInt_toInt64] at ea
      exact ⟨by omega, by omega⟩
    · exact ⟨h0, by omega⟩
  unfold c_dr
  split
  · next z =>
    have b := h.bk hl (by rw [← e5]; exact z.symm)
    have m : 0 ≤ (if c_bk L l < c_dr0 L l y o then c_bk L l else c_dr0 L l y o : Int64).toInt ∧ (if c_bk L l < c_dr0 L l y o then c_bk L l else c_dr0 L l y o : Int64).toInt ≤ (c_dr0 L l y o).toInt := by
      split
      · next q =>
        rw [Int64.lt_iff_toInt_lt] at q
        exact ⟨b.2.1, by omega⟩
      · exact ⟨d0.1, Int.le_refl _⟩
    have d1 := d0.1
    have d2 := d0.2
    have es := l_sub (x := c_dr0 L l y o) (y := if c_bk L l < c_dr0 L l y o then c_bk L l else c_dr0 L l y o) (by omega) (by omega)
    exact ⟨by omega, by omega⟩
  · exact d0
theorem z_lk.d00 (h : z_lk K L p y e a) {l : Int32} (hl : am_in l 30) (hy : (r_lo K l 2).toInt < y.toInt) : c_dr L l y 0 = 0 := by
  have e2 := h.lo hl (w := 2) (n := 2) rfl (by decide)
  have e5 := h.lo hl (w := 5) (n := 5) rfl (by decide)
  have d0 : c_dr0 L l y 0 = 0 := by
    unfold c_dr0
    rw [e2, if_neg (fun q => by rw [q] at hy; omega)]
  unfold c_dr
  rw [d0]
  split
  · next z =>
    have b := h.bk hl (by rw [← e5]; exact z.symm)
    rw [if_neg (fun q => by rw [Int64.lt_iff_toInt_lt] at q; have k0 : (0 : Int64).toInt = 0 := rfl; omega)]
    rfl
  · rfl
/-- order, what is asked, sold -/
theorem z_lk.of (h : z_lk K L p y e a) {l : Int32} (hl : z_in K p l) : c_of L y l = r_of K p y l ∧ c_of L y l < 10 := by
  have e4 := h.cell hl (w := 4) ⟨by decide, by decide⟩
  have r4 := (z_isNum (h.cr hl (w := 4) ⟨by decide, by decide⟩)).2.2.2.2.1 rfl
  have c := i_clamp r4.1
  unfold c_of r_of
  rw [e4]
  exact ⟨rfl, by omega⟩
theorem z_lk.sd (h : z_lk K L p y e a) {l : Int32} (hl : am_in l 30) : c_sd L y l = r_sd K y l := by
  have e7 := h.lo hl (w := 7) (n := 7) rfl (by decide)
  obtain ⟨-, -, -, h7⟩ := h.lr hl
  have n1 := neg1 h7.1
  unfold c_sd r_sd
  rw [e7]
  exact decide_eq_decide.mpr ⟨fun q => ⟨fun w => q.1 (n1.mpr w), q.2⟩, fun q => ⟨fun w => q.1 (n1.mp w), q.2⟩⟩
theorem z_lk.ask (h : z_lk K L p y e a) {l : Int32} (hl : z_in K p l) : c_ask L y l = r_due K y e a l := by
  have hp := r_pl_in h.ri (y := y) hl.1
  have yi := h.yr
  have ai := h.ar
  have cA := i_clamp ai.1
  have er := h.er
  have c0 := h.nm hp (w := 0) ⟨by decide, by decide⟩
  have c1 := h.nm hp (w := 1) ⟨by decide, by decide⟩
  have c5 := h.nm hp (w := 5) ⟨by decide, by decide⟩
  have r0 := (z_isNum (h.rg hp (w := 0) ⟨by decide, by decide⟩)).1 rfl
  have a4 := ai.2
  have e514 := r_off (c := 514) (x := a) ⟨by decide, by decide⟩ ⟨ai.1, by omega⟩
  simp only [Int32.reduceToInt] at e514
  have c514 := i_clamp (x := 514 + a) (by have := ai.1; omega)
  have sc : L.1 29 a.toNatClampNeg = K.1 201 (514 + a).toNatClampNeg := by
    rw [h.sc (g_cl ai), show (514 + a).toNatClampNeg = 514 + a.toNatClampNeg by omega]
  have sr := (h.ok.v (k := (514 + a).toNatClampNeg) (by omega)).a9 (by omega)
  unfold c_ask am_asked r_due
  rw [h.pl hl.1 hl.2.1, h.ee, h.aa, hl.2.2, sc]
  dsimp only
  rw [c0, c1, c5]
  have n1 := neg1 er.1
  by_cases z : e = -1
  · rw [if_pos z, if_pos (n1.mp z)]
  · rw [if_neg z, if_neg (fun q => z (n1.mpr q))]
    have el : (if a = 0 then (r_inF K (r_pl K l y) 0 p y).toInt64 else (r_inF K (r_pl K l y) 0 p y).toInt64 * (K.1 201 (514 + a).toNatClampNeg).toInt64 / 1000) = r_line K l y a := by
      unfold r_line
      rw [hl.2.2]
    rw [el]
    have lb : 0 ≤ (r_line K l y a).toInt ∧ (r_line K l y a).toInt ≤ 50000000 := by
      unfold r_line
      rw [hl.2.2]
      split
      · rw [Int32.toInt_toInt64]; omega
      · have m0 : 0 ≤ (r_inF K (r_pl K l y) 0 p y).toInt * (K.1 201 (514 + a).toNatClampNeg).toInt := Int.mul_nonneg r0.1 (by omega)
        have m1 : (r_inF K (r_pl K l y) 0 p y).toInt * (K.1 201 (514 + a).toNatClampNeg).toInt ≤ 10000000 * 5000 := Int.mul_le_mul r0.2 sr.2 (by omega) (by omega)
        have em := l_mul (x := (r_inF K (r_pl K l y) 0 p y).toInt64) (y := (K.1 201 (514 + a).toNatClampNeg).toInt64) (by rw [Int32.toInt_toInt64, Int32.toInt_toInt64]; omega) (by rw [Int32.toInt_toInt64, Int32.toInt_toInt64]; omega)
        rw [Int32.toInt_toInt64, Int32.toInt_toInt64] at em
        have ed := l_div (x := (r_inF K (r_pl K l y) 0 p y).toInt64 * (K.1 201 (514 + a).toNatClampNeg).toInt64) (y := 1000) (by omega) (by decide)
        have k1 : (1000 : Int64).toInt = 1000 := rfl
        rw [em, k1] at ed
        omega
    have ee : e.toInt64.toInt = e.toInt := Int32.toInt_toInt64 e
    have es := l_sub (x := e.toInt64) (y := r_line K l y a) (by omega) (by omega)
    have k0 : (0 : Int64).toInt = 0 := rfl
    by_cases w : r_line K l y a < e.toInt64
    · rw [if_pos w, if_neg (fun q => by rw [Int64.lt_iff_toInt_lt] at w q; omega)]
    · rw [if_neg w]
      have e0 : (if e.toInt64 - r_line K l y a < 0 then 0 else e.toInt64 - r_line K l y a : Int64) = 0 := by
        split
        · rfl
        · next q =>
          apply Int64.toInt_inj.mp
          rw [Int64.lt_iff_toInt_lt] at w q
          omega
      rw [e0, Int64.zero_mul]
      rfl
/-- struck: what is asked of years -/
theorem z_lk.ye (h : z_lk K L p y e a) {l : Int32} (hl : z_in K p l) : (y - am_loanAt L l 2 < am_cell L l y 3 ↔ y - r_lo K l 2 < r_inF K (r_pl K l y) 3 (r_lo K l 0) y) ∧ (¬ (y - r_lo K l 2 < r_inF K (r_pl K l y) 3 (r_lo K l 0) y) → (r_lo K l 2).toInt < y.toInt) := by
  have e3 := h.cell hl (w := 3) ⟨by decide, by decide⟩
  have r3 := (z_isNum (h.cr hl (w := 3) ⟨by decide, by decide⟩)).2.2.2.1 rfl
  obtain ⟨h2, -, -, -⟩ := h.lr hl.1
  have yi := h.yr
  have y1 := yi.1
  have y2 := yi.2
  have es := i_sub (x := y) (y := r_lo K l 2) (by omega) (by omega)
  rw [h.lo hl.1 (w := 2) (n := 2) rfl (by decide), e3, hl.2.2]
  exact ⟨Iff.rfl, fun q => by rw [i_lt] at q; omega⟩
/-- a year of a loan, class and reference -/
theorem z_lk.H (h : z_lk K L p y e a) {l d : Int32} (hl : z_in K p l) {v : Int64} {bv : Int32} (h1 : ¬ bv = 0 → ¬ L.1 4 18 = 0 ∨ (r_lo K l 2).toInt < y.toInt) (h2 : bv = 0 → (¬ L.1 4 18 = 0 ↔ ¬ d = 0)) : z_H (c_stk L y) (r_ends K y d) (c_gr L y) (fun l o => r_cap o (r_rt K l y e a o)) (fun l o => c_dr L l y o) (r_o1 K y) (r_dr K y) v bv l := by
  refine ⟨fun q => ?_, fun q => ?_, ⟨r_rt K l y e a v, h.rr hl v, by unfold c_gr; rw [h.rt hl], rfl⟩, fun o => h.dr hl.1 o, fun o h0 h1 => h.db hl.1 h0 h1⟩
  · rcases h1 q with w | w
    · exact Or.inl (decide_eq_true (Or.inl w))
    · exact Or.inr (h.d00 hl.1 w)
  · unfold r_ends c_stk
    exact decide_eq_decide.mpr (or_congr (h2 q).symm (not_congr (h.ye hl).1.symm))
end ZLK
end
-- part 79zc.run.lean.txt
section
/-! runs: between calls: a run of the class is one of the reference -/
theorem w_ev_fa {fa fa' : Int32 → Int64} {cd : Nat → Int32} {b : Nat} (h : ∀ c, am_ops c = 0 → fa c = fa' c) : ∀ {k : Nat} {st : List Int64}, w_ev fa cd b k st = w_ev fa' cd b k st
  | 0, _ => rfl
  | k + 1, st => by
    show w_ex fa (cd (b + k)) (w_ev fa cd b k st) = w_ex fa' (cd (b + k)) (w_ev fa' cd b k st)
    rw [w_ev_fa h]
    unfold w_ex
    by_cases z : am_ops (-cd (b + k)) = 0
    · simp only [if_pos z, h _ z]
    · simp only [if_neg z]
theorem tx_ok.fa {t s c : Nat} {M : am_M} (h : tx_ok t s c M) {fa fa' : Int32 → Int64} (hf : ∀ c, am_ops c = 0 → fa c = fa' c) : w_res fa (M.1 s) (t_n M t) 0 true [] [] = w_res fa' (M.1 s) (t_n M t) 0 true [] [] := by
  obtain ⟨-, h1, h2⟩ := h
  by_cases w : M.1 t 6 = -1
  · obtain ⟨v, a1, a2⟩ := h1 w fa
    obtain ⟨v', b1, b2⟩ := h1 w fa'
    have q1 := a2 []
    have q2 := b2 []
    rw [w_ev_fa hf, q2] at q1
    have e : v' = v := (List.cons.inj q1).1
    rw [a1, b1, e]
  · rw [h2 w, h2 w]
section LXR
variable {i1 i2 : Bool} {M N : am_M} {p k : Int32}
theorem LX.txs (h : LX i1 i2 M) {pl : Int32} (hp : am_in pl 5) : (∀ fa, w_res fa (M.1 (40 + 3 * pl.toNatClampNeg)) (t_n M (39 + 3 * pl.toNatClampNeg)) 0 true [] [] = w_res fa (r_sg M pl) (r_sn M pl) 0 true [] []) ∧ ∀ fa fa' : Int32 → Int64, (∀ c, am_ops c = 0 → fa c = fa' c) → w_res fa (r_sg M pl) (r_sn M pl) 0 true [] [] = w_res fa' (r_sg M pl) (r_sn M pl) 0 true [] [] := by
  have hp1 := hp.1
  have hp2 := hp.2
  obtain ⟨-, -, key⟩ := h.fault (pl := pl) ⟨by rw [i_le, Int32.toInt_zero]; exact hp1, by rw [i_lt]; simp only [Int32.reduceToInt]; omega⟩
  rw [show 39 + 3 * pl.toNatClampNeg + 1 = 40 + 3 * pl.toNatClampNeg by omega] at key
  refine ⟨key, fun fa fa' hf => ?_⟩
  rw [← key, ← key]
  have t := h.t0.v (g_cl hp)
  rw [show 20 + (19 + 3 * pl.toNatClampNeg) = 39 + 3 * pl.toNatClampNeg by omega, show 20 + (20 + 3 * pl.toNatClampNeg) = 40 + 3 * pl.toNatClampNeg by omega] at t
  exact t.fa hf
theorem LI.erk (h : LI i1 i2 M) (hp : am_in p 12) (hp2 : p.toInt < (M.1 201 0).toInt) {y : Int32} (hy : am_in y 40) (hk : am_in k 40) : am_earn M (p * 40 + y) k = r_known M p y k := by
  have q := (st_earnings h p y k).e
  have z0 : 0 ≤ p ∧ p < M.1 201 0 := ⟨by rw [i_le, Int32.toInt_zero]; exact hp.1, by rw [i_lt]; exact hp2⟩
  have z1 : 0 ≤ y ∧ y < 40 := ⟨by rw [i_le, Int32.toInt_zero]; exact hy.1, by rw [i_lt]; exact hy.2⟩
  have z2 : 0 ≤ k ∧ k < 40 := ⟨by rw [i_le, Int32.toInt_zero]; exact hk.1, by rw [i_lt]; exact hk.2⟩
  have ec : c_earnings M p y k = (am_earn M (p * 40 + y) k, M) := by
    unfold c_earnings
    rw [h.e0, if_pos z0, if_pos z1, if_pos z2]
  have er : r_earnings M p y k = (r_known M p y k, M) := by
    unfold r_earnings
    rw [if_pos z0, if_pos z1, if_pos z2]
  rw [ec] at q
  dsimp only at q
  rw [er] at q
  exact q
theorem LI.kr (h : LI i1 i2 M) (hp : am_in p 12) {y : Int32} (hy : am_in y 40) : -1 ≤ (r_known M p y k).toInt ∧ (r_known M p y k).toInt ≤ 10000000 := by
  have f := x_40 (p := p) (y := y) ⟨hp.1, by have := hp.2; omega⟩ ⟨hy.1, by have := hy.2; omega⟩
  have p1 := hp.1
  have p2 := hp.2
  have y1 := hy.1
  have y2 := hy.2
  have g2 := r_off (c := 1518) (x := 40 * p + y) ⟨by decide, by decide⟩ ⟨by omega, by omega⟩
  have g1 := r_off (c := 558) (x := 40 * p + y) ⟨by decide, by decide⟩ ⟨by omega, by omega⟩
  simp only [Int32.reduceToInt] at g1 g2
  have c1 := i_clamp (x := 558 + (40 * p + y)) (by omega)
  have c2 := i_clamp (x := 1518 + (40 * p + y)) (by omega)
  unfold r_known
  split
  · have q := (h.v (k := (1518 + (40 * p + y)).toNatClampNeg) (by omega)).a11 (by omega)
    omega
  · split
    · have q := (h.v (k := (558 + (40 * p + y)).toNatClampNeg) (by omega)).a11 (by omega)
      omega
    · decide
theorem LI.nums (h : LI i1 i2 M) {pl w y : Int32} (hpl : am_in pl 5) (hw : am_in w 6) : am_isNum w (r_inF M pl w p y) := by
  rw [h.inF hpl.1]
  unfold q_F
  have n2 := h.n2
  have c2 := i_clamp n2.1
  split
  · have hc : w = 0 ∨ w = 1 ∨ w = 2 ∨ w = 3 ∨ w = 4 ∨ w = 5 := by
      have h1 := hw.1
      have h2 := hw.2
      simp only [i_eq, Int32.reduceToInt, Int32.toInt_zero]
      omega
    rcases hc with rfl | rfl | rfl | rfl | rfl | rfl <;> exact ⟨by decide, by decide⟩
  · next a ea =>
    obtain ⟨l1, l2, -⟩ := q_R_lt ea
    have m := of_decide_eq_true l2
    obtain ⟨-, -, -, h3, -⟩ := h.b.l
    have q := h3 a (by omega)
    (try dsimp only at q)
    rw [Nat.zero_add, Nat.zero_add] at q
    have e1 : M.1 201 (2479 + 6 * a) = w := by
      rw [← m.2.1]
      unfold r_A
      rw [show 2478 + (6 * a + 1) = 2479 + 6 * a by omega]
    have e2 : r_A M (6 * a + 2) = M.1 201 (2480 + 6 * a) := by
      unfold r_A
      rw [show 2478 + (6 * a + 2) = 2480 + 6 * a by omega]
    rw [e1] at q
    rw [e2]
    exact q
theorem LI.tok (h : LI i1 i2 M) : t_ok (M.1 201) := by
  have q := h.b.t
  rw [show (fun k => M.1 201 (0 + k)) = M.1 201 from funext fun k => by rw [Nat.zero_add]] at q
  exact q
/-- what a begun run keeps of what is told -/
theorem c_bg.o (h : c_bg M p k N) {a : Nat} (h4 : a ≠ 4) (h5 : a ≠ 5) (h7 : a ≠ 7) : N.1 a = M.1 a := by obtain ⟨-, h, -⟩ := h; exact h a h4 h5 h7
theorem c_bg.oj (h : c_bg M p k N) {a : Nat} (h4 : a ≠ 4) (h6 : a ≠ 6) : N.2 a = M.2 a := by obtain ⟨-, -, h, -⟩ := h; exact h a h4 h6
theorem c_bg.f (h : c_bg M p k N) : (N.1 4 8 = p ∧ N.1 4 9 = k) ∧ N.1 4 10 = 0 ∧ N.1 4 11 = -1 ∧ N.1 4 12 = -1 ∧ N.2 4 14 = 0 ∧ N.2 4 15 = 0 := by obtain ⟨-, -, -, h, -⟩ := h; exact h
theorem c_bg.ms (h : c_bg M p k N) : c_ms N (c_sz N) = c_mine M p (M.1 33 2).toNatClampNeg := by obtain ⟨-, -, -, -, h, -⟩ := h; exact h
theorem c_bg.z0 (h : c_bg M p k N) : z_00 (N.2 6) (c_mine M p (M.1 33 2).toNatClampNeg) := by obtain ⟨-, -, -, -, -, h, -⟩ := h; exact h
theorem c_bg.nm (h : c_bg M p k N) (hn : c_mine M p (M.1 33 2).toNatClampNeg ≠ []) : c_rw M p 40 N := by obtain ⟨-, -, -, -, -, -, h, -⟩ := h; exact h hn
theorem c_bg.ot (h : c_bg M p k N) : c_ot M p N := by obtain ⟨-, -, -, -, -, -, -, h⟩ := h; exact h
theorem c_bg.sc (h : c_bg M p k N) : g_sc M N := ⟨(), fun a b z => ⟨by rw [h.o (by omega) (by omega) (by omega)], by rw [h.oj (by omega) (by omega)]⟩⟩
theorem z_mine_cg {f g : Int32 → Bool} {n : Nat} (hn : n ≤ 100) (h : ∀ l, am_in l n → f l = g l) : z_mine f n = z_mine g n := by
  unfold z_mine
  refine List.filter_congr (fun l hl => ?_)
  obtain ⟨i, hi, rfl⟩ := List.mem_map.mp hl
  have hi := List.mem_range.mp hi
  have e := (o_nat (n := i) (by omega)).1
  exact h _ ⟨by omega, by omega⟩
theorem LI.lo (h : LI i1 i2 M) {l w : Int32} {n : Nat} (hl : am_in l 30) (hw : w.toInt = (n : Int)) (hn : n < 8) : am_loanAt M l w = r_lo M l w := by
  have l1 := hl.1
  have l2 := hl.2
  have e1 := i_mul (x := l) (y := 8) (by simp only [Int32.reduceToInt]; omega) (by simp only [Int32.reduceToInt]; omega)
  simp only [Int32.reduceToInt] at e1
  have e2 := i_add (x := l * 8) (y := w) (by omega) (by omega)
  have c1 := i_clamp (x := l * 8 + w) (by omega)
  have c2 := i_clamp l1
  have r1 := r_lcol hl (w := w) ⟨by omega, by omega⟩
  have c3 := i_clamp (x := 2838 + 8 * l + w) (by omega)
  have g := g_cl hl
  have e := h.e (o := 14) (k0 := 0) (b0 := 2838) (n := 240) (by decide) (k := 8 * l.toNatClampNeg + n) (by omega)
  rw [Nat.zero_add] at e
  unfold am_loanAt r_lo
  rw [h.w.2.1, am_at_in (show am_in (l * 8 + w) 240 from ⟨by omega, by omega⟩), show (l * 8 + w).toNatClampNeg = 8 * l.toNatClampNeg + n by omega, show (2838 + 8 * l + w).toNatClampNeg = 2838 + (8 * l.toNatClampNeg + n) by omega]
  exact e
/-- the loans of a run are the same -/
theorem LI.mine (h : LI i1 i2 M) : c_mine M p (M.1 33 2).toNatClampNeg = r_mine M p (r_n M) := by
  have n1 := h.n1
  have c := i_clamp n1.1
  rw [h.e1]
  refine z_mine_cg (by omega) (fun l hl => ?_)
  have hl30 : am_in l 30 := ⟨hl.1, by have := hl.2; omega⟩
  unfold c_own r_own
  rw [h.lo hl30 (w := 0) (n := 0) rfl (by decide)]
theorem r_mine_z {l : Int32} (n1 : 0 ≤ (M.1 201 1).toInt ∧ (M.1 201 1).toInt ≤ 30) (hl : l ∈ r_mine M p (r_n M)) : z_in M p l := by
  have c : (r_n M : Int) = (M.1 201 1).toInt := i_clamp n1.1
  obtain ⟨h1, h2⟩ := z_mine_in (by omega) hl
  exact ⟨⟨h1.1, by have := h1.2; omega⟩, by have := h1.2; omega, r_own_iff.mp h2⟩
theorem z_mine_nd {own : Int32 → Bool} {n : Nat} (hn : n ≤ 100) : z_nd (z_mine own n) := by
  unfold z_mine z_nd
  refine List.Pairwise.filter _ ?_
  refine List.pairwise_map.mpr ?_
  refine List.Pairwise.imp_of_mem (fun {a b} ha hb hab => ?_) (List.nodup_range (n := n))
  have ha := List.mem_range.mp ha
  have hb := List.mem_range.mp hb
  rw [(o_nat (n := a) (by omega)).2, (o_nat (n := b) (by omega)).2]
  exact hab
/-- a year of a begun run, as it is -/
theorem LX.lk (h : LX i1 i2 M) (hp : am_in p 12) (hp2 : p.toInt < (M.1 201 0).toInt) (hk : am_in k 40) (hb : c_bg M p k N) (hn : c_mine M p (M.1 33 2).toNatClampNeg ≠ []) {y : Int32} (hy : am_in y 40) : z_lk M (c_look N y) p y (r_known M p y k) (r_la M p y) ∧ (c_look N y).1 4 18 = r_dd M p y := by
  have li := h.li
  obtain ⟨⟨f8, f9⟩, f10, f11, f12, -, -⟩ := hb.f
  have p1 := hp.1
  have p2 := hp.2
  have y1 := hy.1
  have y2 := hy.2
  have cp := i_clamp p1
  have cy := i_clamp y1
  have xx := x_40 (p := p) (y := y) ⟨p1, by omega⟩ ⟨y1, by omega⟩
  have cxx := i_clamp (x := p * 40 + y) (by omega)
  have lo : ∀ {a : Nat}, a ≠ 4 → a ≠ 5 → a ≠ 7 → (c_look N y).1 a = M.1 a := fun h4 h5 h7 => (funext fun j => c_look_1 (fun q => h4 q.1)).trans (hb.o h4 h5 h7)
  have e : c_look N y = am_wI (am_wI (am_wI N 4 16 (am_earn N (p * 40 + y) k)) 4 17 (N.1 24 (p * 40 + y).toNatClampNeg)) 4 18 (if N.1 23 p.toNatClampNeg ≠ -1 ∧ N.1 23 p.toNatClampNeg ≤ y then 1 else 0) := by
    unfold c_look
    rw [if_pos f11, f8, f9]
  have ear : am_earn N (p * 40 + y) k = am_earn M (p * 40 + y) k := by
    unfold am_earn
    rw [hb.o (show (28 : Nat) ≠ 4 by decide) (by decide) (by decide), hb.o (show (27 : Nat) ≠ 4 by decide) (by decide) (by decide), hb.o (show (26 : Nat) ≠ 4 by decide) (by decide) (by decide), hb.o (show (25 : Nat) ≠ 4 by decide) (by decide) (by decide)]
  have lnd : M.1 24 (p * 40 + y).toNatClampNeg = r_la M p y := by
    have q := li.e (o := 4) (k0 := 0) (b0 := 34) (n := 480) (by decide) (k := (p * 40 + y).toNatClampNeg) (by omega)
    rw [Nat.zero_add] at q
    have e40 := r_mul (c := 40) (x := p) ⟨by decide, by decide⟩ ⟨by omega, by omega⟩
    simp only [Int32.reduceToInt] at e40
    have ea := r_off (c := 34) (x := 40 * p) ⟨by decide, by decide⟩ ⟨by omega, by omega⟩
    simp only [e40, Int32.reduceToInt] at ea
    have eb := r_off (c := 34 + 40 * p) (x := y) ⟨by omega, by omega⟩ ⟨by omega, by omega⟩
    have cb := i_clamp (x := 34 + 40 * p + y) (by omega)
    unfold r_la
    rw [show (34 + 40 * p + y).toNatClampNeg = 34 + (p * 40 + y).toNatClampNeg by omega]
    exact q
  have rla : am_in (r_la M p y) 4 := by
    rw [← lnd]
    exact li.g.t.ld (by omega)
  have died : M.1 23 p.toNatClampNeg = M.1 201 (22 + p).toNatClampNeg := by
    have q := li.e (o := 3) (k0 := 0) (b0 := 22) (n := 12) (by decide) (k := p.toNatClampNeg) (by omega)
    rw [Nat.zero_add] at q
    rw [x_off (c := 22) (cn := 22) rfl (x := p) ⟨p1, by omega⟩ (by decide)]
    exact q
  have dr := (li.v (k := (22 + p).toNatClampNeg) (by rw [x_off (c := 22) (cn := 22) rfl (x := p) ⟨p1, by omega⟩ (by decide)]; omega)).a7 (by rw [x_off (c := 22) (cn := 22) rfl (x := p) ⟨p1, by omega⟩ (by decide)]; omega)
  refine ⟨⟨(), ⟨?_, fun l w hl hw => ?_, fun j hj => ?_, fun j hj => ?_⟩, ⟨?_, ?_⟩, fun l hl hl2 => ?_, fun pl w hpl hw => ?_, fun pl hpl => ?_, fun pl w hpl hw => li.nums hpl hw, li.tok, li.kr hp hy, rla, hy, li.i⟩, ?_⟩
  · rw [lo (by decide) (by decide) (by decide)]; exact li.w.2.1
  · rw [lo (by decide) (by decide) (by decide)]
    have q := li.e (o := 14) (k0 := 0) (b0 := 2838) (n := 240) (by decide) (k := 8 * l + w) (by omega)
    rw [Nat.zero_add, ← Nat.add_assoc] at q
    exact q
  · rw [lo (by decide) (by decide) (by decide)]
    have q := li.e (o := 9) (k0 := 0) (b0 := 514) (n := 4) (by decide) (k := j) hj
    rw [Nat.zero_add] at q
    exact q
  · rw [lo (by decide) (by decide) (by decide)]
    have q := li.e (o := 10) (k0 := 0) (b0 := 518) (n := 40) (by decide) (k := j) hj
    rw [Nat.zero_add] at q
    exact q
  · rw [e]
    show am_earn N (p * 40 + y) k = _
    rw [ear]
    exact li.erk hp hp2 hy hk
  · rw [e]
    show N.1 24 (p * 40 + y).toNatClampNeg = _
    rw [hb.o (show (24 : Nat) ≠ 4 by decide) (by decide) (by decide)]
    exact lnd
  · unfold am_pln
    rw [c_look_1 (fun q => absurd q.2 (by decide)), f12, if_pos rfl, lo (by decide) (by decide) (by decide)]
    exact li.pl hl hl2 hy
  · rw [c_look_1 (fun q => absurd q.1 (by decide))]
    have cc := c_cell hy hpl hw
    have v := (hb.nm hn).v (y' := y.toNatClampNeg) (pl := pl.toNatClampNeg) (w := w.toNatClampNeg) (g_cl hy) (g_cl hpl) (g_cl hw)
    rw [← cc.2, q_Fn, o_cl hpl (by decide), o_cl hw (by decide), i_clamp y1] at v
    rw [v, li.inF hpl.1]
    exact li.F hp _
  · have q := h.txs hpl
    have e5 : t_n (c_look N y) (39 + 3 * pl.toNatClampNeg) = t_n M (39 + 3 * pl.toNatClampNeg) := by
      unfold t_n
      rw [lo (by omega) (by omega) (by omega)]
    rw [lo (by omega) (by omega) (by omega), e5]
    exact q
  · rw [e]
    show (if N.1 23 p.toNatClampNeg ≠ -1 ∧ N.1 23 p.toNatClampNeg ≤ y then (1 : Int32) else 0) = _
    rw [hb.o (show (23 : Nat) ≠ 4 by decide) (by decide) (by decide), died]
    unfold r_dd
    have n1 := neg1 dr.1
    by_cases z : M.1 201 (22 + p).toNatClampNeg < 0
    · rw [if_pos z, if_neg (fun q => q.1 (n1.mpr z))]
    · rw [if_neg z]
      by_cases w : y < M.1 201 (22 + p).toNatClampNeg
      · rw [if_pos w, if_neg (fun q => by have q2 := q.2; rw [i_le] at q2; rw [i_lt] at w; omega)]
      · rw [if_neg w, if_pos ⟨fun q => z (n1.mp q), by rw [i_le]; rw [i_lt] at w; omega⟩]
/-- dead ahead of a year -/
def r_da (M : am_M) (p : Int32) (y : Int) : Prop := ¬ M.1 201 (22 + p).toNatClampNeg < 0 ∧ (M.1 201 (22 + p).toNatClampNeg).toInt < y
/-- nothing counted, nothing struck -/
def z_00s : (Nat → Int64) × (Nat → Int32) := (fun _ => 0, fun _ => 0)
/-- years of both in step -/
def z_RR (M : am_M) (p : Int32) (y : Int) (s s' : Nat → Int64) (b : Nat → Int32) : Prop := ∀ l ∈ r_mine M p (r_n M), z_L s s' b l ∧ (r_da M p y → ¬ b l.toNatClampNeg = 0) ∧ (¬ b l.toNatClampNeg = 0 → r_da M p y ∨ (r_lo M l 2).toInt < y)
theorem LX.run (h : LX i1 i2 M) (hp : am_in p 12) (hp2 : p.toInt < (M.1 201 0).toInt) (hk : am_in k 40) (hb : c_bg M p k N) : ∀ n : Nat, n ≤ 40 →
    z_RR M p n (z_it (fun y => c_yr N (Int32.ofNat y)) 0 n (c_st N)).1 (z_it (r_yr M p k) 0 n z_00s).1 (z_it (r_yr M p k) 0 n z_00s).2 ∧ (z_it (fun y => c_yr N (Int32.ofNat y)) 0 n (c_st N)).2 = (0, 0)
  | 0, _ => by
    refine ⟨fun l hl => ⟨⟨fun w hw => ?_, ?_, fun q => absurd rfl q⟩, fun q => ?_, fun q => absurd rfl q⟩, ?_⟩
    · rw [← h.li.mine] at hl
      exact hb.z0.v hl hw
    · rw [← h.li.mine] at hl
      have q := hb.z0.v hl (w := 0) (by decide)
      rw [Nat.mul_zero, Nat.zero_add] at q
      show z_ok (N.2 6 l.toNatClampNeg)
      rw [q]
      have k0 : (0 : Int64).toInt = 0 := rfl
      exact ⟨by rw [k0]; omega, by rw [k0]; omega⟩
    · have q1 := q.1
      have q2 := q.2
      rw [i_lt, Int32.toInt_zero] at q1
      omega
    · obtain ⟨-, -, -, -, f14, f15⟩ := hb.f
      exact Prod.ext f14 f15
  | n + 1, hn => by
    obtain ⟨ih, ih2⟩ := LX.run h hp hp2 hk hb n (by omega)
    have n1 := h.li.n1
    have cn : (r_n M : Int) = (M.1 201 1).toInt := i_clamp n1.1
    have oy := o_nat (n := n) (by omega)
    have hy : am_in (Int32.ofNat n) 40 := ⟨by omega, by omega⟩
    show z_RR M p (n + 1 : Nat) (c_yr N (Int32.ofNat (0 + n)) (z_it (fun y => c_yr N (Int32.ofNat y)) 0 n (c_st N))).1 (r_yr M p k (0 + n) (z_it (r_yr M p k) 0 n z_00s)).1 (r_yr M p k (0 + n) (z_it (r_yr M p k) 0 n z_00s)).2 ∧ (c_yr N (Int32.ofNat (0 + n)) (z_it (fun y => c_yr N (Int32.ofNat y)) 0 n (c_st N))).2 = (0, 0)
    rw [Nat.zero_add]
    generalize z_it (fun y => c_yr N (Int32.ofNat y)) 0 n (c_st N) = C at ih ih2 ⊢
    generalize z_it (r_yr M p k) 0 n z_00s = S at ih ⊢
    obtain ⟨s, due, paid⟩ := C
    obtain ⟨s', b⟩ := S
    have ih2 : (due, paid) = (0, 0) := ih2
    have d0 : due = 0 := congrArg Prod.fst ih2
    have p0 : paid = 0 := congrArg Prod.snd ih2
    subst d0 p0
    by_cases hne : c_mine M p (M.1 33 2).toNatClampNeg = []
    · refine ⟨fun l hl => ?_, ?_⟩
      · rw [← h.li.mine, hne] at hl
        exact absurd hl List.not_mem_nil
      · unfold c_yr c_T z_T
        dsimp only
        rw [if_neg (show ¬ (0 : Int64) < 0 by decide), if_neg (show ¬ (0 : Int64) < 0 by decide)]
    · obtain ⟨lk, dd⟩ := h.lk hp hp2 hk hb hne hy
      have msL : c_ms (c_look N (Int32.ofNat n)) (c_sz (c_look N (Int32.ofNat n))) = r_mine M p (r_n M) := by
        rw [← h.li.mine, ← hb.ms]
        unfold c_ms c_sz
        rw [c_look_1 (fun q => absurd q.2 (by decide))]
        refine List.map_congr_left (fun j _ => ?_)
        rw [c_look_1 (fun q => absurd q.1 (by decide))]
      have zin : ∀ l ∈ r_mine M p (r_n M), z_in M p l := fun l hl => r_mine_z n1 hl
      have dn : ¬ (c_look N (Int32.ofNat n)).1 4 18 = 0 ↔ ¬ r_dd M p (Int32.ofNat n) = 0 := by rw [dd]
      have dv : ¬ r_dd M p (Int32.ofNat n) = 0 ↔ r_da M p ((n + 1 : Nat) : Int) := by
        unfold r_dd r_da
        by_cases z : M.1 201 (22 + p).toNatClampNeg < 0
        · rw [if_pos z]
          exact ⟨fun q => absurd rfl q, fun q => absurd z q.1⟩
        · rw [if_neg z]
          by_cases w : Int32.ofNat n < M.1 201 (22 + p).toNatClampNeg
          · rw [if_pos w]
            rw [i_lt] at w
            exact ⟨fun q => absurd rfl q, fun q => by have := q.2; omega⟩
          · rw [if_neg w]
            rw [i_lt] at w
            exact ⟨fun _ => ⟨z, by omega⟩, fun _ => by decide⟩
      have dm : r_da M p (n : Int) → r_da M p ((n + 1 : Nat) : Int) := fun q => ⟨q.1, by have := q.2; omega⟩
      have Q0 : 0 < r_n M := by
        refine Nat.pos_of_ne_zero (fun q => hne ?_)
        rw [h.li.mine]
        unfold r_mine
        rw [q]
        rfl
      have Y := z_year (ms := r_mine M p (r_n M)) (Q := z_pf (r_own M p) (r_of M p (Int32.ofNat n)) (r_n M) (10 * r_n M)) (stk := c_stk (c_look N (Int32.ofNat n)) (Int32.ofNat n)) (en := r_ends M (Int32.ofNat n) (r_dd M p (Int32.ofNat n))) (gr := c_gr (c_look N (Int32.ofNat n)) (Int32.ofNat n)) (cap := fun l o => r_cap o (r_rt M l (Int32.ofNat n) (r_known M p (Int32.ofNat n) k) (r_la M p (Int32.ofNat n)) o)) (dr := fun l o => c_dr (c_look N (Int32.ofNat n)) l (Int32.ofNat n) o) (o1 := r_o1 M (Int32.ofNat n)) (dr' := r_dr M (Int32.ofNat n)) (f := c_of (c_look N (Int32.ofNat n)) (Int32.ofNat n)) (ask := c_ask (c_look N (Int32.ofNat n)) (Int32.ofNat n)) (ask' := r_due M (Int32.ofNat n) (r_known M p (Int32.ofNat n) k) (r_la M p (Int32.ofNat n))) (sd := c_sd (c_look N (Int32.ofNat n)) (Int32.ofNat n)) (sd' := r_sd M (Int32.ofNat n)) (s := s) (s' := s') (b := b) (due := 0) (paid := 0)
        (fun l hl => (zin l hl).1) (z_mine_nd (by omega)) (fun l hl => (ih l hl).1)
        (fun l hl => lk.H (zin l hl) (fun q => by
          rcases (ih l hl).2.2 q with w | w
          · exact Or.inl (dn.mpr (dv.mpr (dm w)))
          · exact Or.inr (by rw [oy.1]; exact w)) (fun _ => dn))
        (fun l hl => lk.ask (zin l hl)) (fun l hl => lk.sd (zin l hl).1) (fun l hl => (lk.of (zin l hl)).2)
        (by rw [z_pf_e Q0]; exact z_q_cg (fun l hl => (lk.of (zin l hl)).1.symm) 10) (by decide)
      obtain ⟨Y1, Y2, Y3, Y4⟩ := Y
      have ec : c_yr N (Int32.ofNat n) = z_T (c_b (c_look N (Int32.ofNat n)) (Int32.ofNat n)) (c_of (c_look N (Int32.ofNat n)) (Int32.ofNat n)) (c_ask (c_look N (Int32.ofNat n)) (Int32.ofNat n)) (c_sd (c_look N (Int32.ofNat n)) (Int32.ofNat n)) (r_mine M p (r_n M)) := by
        unfold c_yr c_T
        rw [msL]
      rw [ec]
      refine ⟨fun l hl => ⟨Y1 l hl, fun q => (Y4 l hl).mpr ?_, fun q => ?_⟩, ?_⟩
      · exact Or.inr (decide_eq_true (Or.inl (dv.mpr q)))
      · rcases (Y4 l hl).mp q with w | w
        · rcases (ih l hl).2.2 w with w2 | w2
          · exact Or.inl (dm w2)
          · exact Or.inr (by omega)
        · rcases of_decide_eq_true w with w2 | w2
          · exact Or.inl (dv.mp w2)
          · have q2 := (lk.ye (zin l hl)).2 w2
            exact Or.inr (by omega)
      · unfold z_T
        dsimp only
        rw [if_neg (show ¬ (0 : Int64) < 0 by decide), if_neg (show ¬ (0 : Int64) < 0 by decide)]
end LXR
end
-- part 79zd.says.lean.txt
section
/-! runs: what both runs say -/
/-- cut to what is a loan's -/
def z_ct (s : Nat → Int64) : Nat → Int64 := fun k => if k < 180 then s k else 0
def z_cb (b : Nat → Int32) : Nat → Int32 := fun k => if k < 30 then b k else 0
theorem z_ct_u {s : Nat → Int64} {k : Nat} {v : Int64} (hk : k < 180) : z_ct (z_u s k v) = z_u (z_ct s) k v := by
  funext j
  unfold z_ct z_u
  by_cases z : j = k
  · rw [if_pos (by omega), if_pos z, if_pos z]
  · rw [if_neg z, if_neg z]
theorem z_ct_v {s : Nat → Int64} {k : Nat} (hk : k < 180) : z_ct s k = s k := if_pos hk
theorem z_cb_v {b : Nat → Int32} {k : Nat} (hk : k < 30) : z_cb b k = b k := if_pos hk
theorem z_cb_u {b : Nat → Int32} {k : Nat} {v : Int32} (hk : k < 30) : z_cb (z_ui b k v) = z_ui (z_cb b) k v := by
  funext j
  unfold z_cb z_ui
  by_cases z : j = k
  · rw [if_pos (by omega), if_pos z, if_pos z]
  · rw [if_neg z, if_neg z]
theorem z_ct_r0 {s : Nat → Int64} {l : Int32} (hl : am_in l 30) : z_ct (z_r0 s l) = z_r0 (z_ct s) l := by
  have g := g_cl hl
  unfold z_r0
  rw [z_ct_u (by omega), z_ct_u (by omega), z_ct_u (by omega)]
theorem z_ct_rb {en : Int32 → Bool} {cap o1 dr : Int32 → Int64 → Int64} {p : (Nat → Int64) × (Nat → Int32)} {l : Int32} (hl : am_in l 30) : (z_ct (z_rb en cap o1 dr p l).1, z_cb (z_rb en cap o1 dr p l).2) = z_rb en cap o1 dr (z_ct p.1, z_cb p.2) l := by
  have g := g_cl hl
  have zb : z_cb p.2 l.toNatClampNeg = p.2 l.toNatClampNeg := z_cb_v g
  have zs : z_ct p.1 l.toNatClampNeg = p.1 l.toNatClampNeg := z_ct_v (by omega)
  unfold z_rb
  dsimp only
  by_cases z : p.2 l.toNatClampNeg = 0
  · rw [if_neg (show ¬ ¬ p.2 l.toNatClampNeg = 0 from fun q => q z), if_neg (show ¬ ¬ z_cb p.2 l.toNatClampNeg = 0 from fun q => q (zb.trans z))]
    by_cases y : en l = true
    · rw [if_pos y, if_pos y, zs]
      refine Prod.ext ?_ ?_
      · show z_ct (z_u _ _ _) = z_u _ _ _
        rw [z_ct_u (by omega), z_ct_u (by omega), z_ct_r0 hl]
      · exact z_cb_u g
    · rw [if_neg y, if_neg y, zs]
      refine Prod.ext ?_ rfl
      show z_ct (z_u _ _ _) = z_u _ _ _
      rw [z_ct_u (by omega), z_ct_u (by omega), z_ct_r0 hl]
  · rw [if_pos z, if_pos (show ¬ z_cb p.2 l.toNatClampNeg = 0 from fun q => z (zb.symm.trans q))]
    exact Prod.ext (z_ct_r0 hl) rfl
theorem z_ct_rbs {en : Int32 → Bool} {cap o1 dr : Int32 → Int64 → Int64} : ∀ {ms : List Int32} {p : (Nat → Int64) × (Nat → Int32)}, (∀ l ∈ ms, am_in l 30) → (z_ct (ms.foldl (z_rb en cap o1 dr) p).1, z_cb (ms.foldl (z_rb en cap o1 dr) p).2) = ms.foldl (z_rb en cap o1 dr) (z_ct p.1, z_cb p.2)
  | [], _, _ => rfl
  | a :: ms, p, h => by
    show (z_ct (ms.foldl (z_rb en cap o1 dr) (z_rb en cap o1 dr p a)).1, z_cb (ms.foldl (z_rb en cap o1 dr) (z_rb en cap o1 dr p a)).2) = ms.foldl (z_rb en cap o1 dr) (z_rb en cap o1 dr (z_ct p.1, z_cb p.2) a)
    rw [z_ct_rbs (fun l hl => h l (List.mem_cons_of_mem _ hl)), z_ct_rb (h a List.mem_cons_self)]
theorem z_ct_rp {b : Nat → Int32} {p : (Nat → Int64) × Int64} {l : Int32} (hl : am_in l 30) : (z_ct (z_rp b p l).1, (z_rp b p l).2) = z_rp (z_cb b) (z_ct p.1, p.2) l := by
  have g := g_cl hl
  unfold z_rp
  dsimp only
  rw [z_cb_v g, z_ct_v (by omega)]
  by_cases z : 0 < p.2 ∧ b l.toNatClampNeg = 0
  · rw [if_pos z, if_pos z, ← z_ct_u (by omega)]
  · rw [if_neg z, if_neg z]
theorem z_ct_rps {b : Nat → Int32} : ∀ {Q : List Int32} {p : (Nat → Int64) × Int64}, (∀ l ∈ Q, am_in l 30) → (z_ct (Q.foldl (z_rp b) p).1, (Q.foldl (z_rp b) p).2) = Q.foldl (z_rp (z_cb b)) (z_ct p.1, p.2)
  | [], _, _ => rfl
  | a :: Q, p, h => by
    show (z_ct (Q.foldl (z_rp b) (z_rp b p a)).1, (Q.foldl (z_rp b) (z_rp b p a)).2) = Q.foldl (z_rp (z_cb b)) (z_rp (z_cb b) (z_ct p.1, p.2) a)
    rw [z_ct_rps (fun l hl => h l (List.mem_cons_of_mem _ hl)), z_ct_rp (h a List.mem_cons_self)]
theorem z_ct_tk {ask : Int32 → Int64} {sd : Int32 → Bool} {p : (Nat → Int64) × Int64} {l : Int32} (hl : am_in l 30) : (z_ct (z_tk ask sd p l).1, (z_tk ask sd p l).2) = z_tk ask sd (z_ct p.1, p.2) l := by
  have g := g_cl hl
  unfold z_tk
  dsimp only
  rw [z_ct_v (by omega)]
  refine Prod.ext ?_ rfl
  dsimp only
  by_cases z : sd l = true
  · simp only [if_pos z]
    rw [z_ct_u (by omega), z_ct_u (by omega), z_ct_u (by omega), z_ct_u (by omega)]
    have e3 : z_u (z_u (z_ct p.1) l.toNatClampNeg (p.1 l.toNatClampNeg - z_tn (ask l) p.2 (p.1 l.toNatClampNeg))) (30 + l.toNatClampNeg) (z_tn (ask l) p.2 (p.1 l.toNatClampNeg)) (90 + l.toNatClampNeg) = z_u (z_u p.1 l.toNatClampNeg (p.1 l.toNatClampNeg - z_tn (ask l) p.2 (p.1 l.toNatClampNeg))) (30 + l.toNatClampNeg) (z_tn (ask l) p.2 (p.1 l.toNatClampNeg)) (90 + l.toNatClampNeg) := by
      rw [z_u_n (by omega), z_u_n (by omega), z_u_n (by omega), z_u_n (by omega), z_ct_v (by omega)]
    rw [e3]
    congr 1
    rw [z_u_n (by omega), z_u_n (by omega), z_u_n (by omega), z_u_n (by omega), z_u_n (by omega), z_u_n (by omega), z_ct_v (by omega)]
  · simp only [if_neg z]
    rw [z_ct_u (by omega), z_ct_u (by omega), z_ct_u (by omega)]
    congr 1
    rw [z_u_n (by omega), z_u_n (by omega), z_u_n (by omega), z_u_n (by omega), z_ct_v (by omega)]
theorem z_ct_rk {ask : Int32 → Int64} {sd : Int32 → Bool} {b : Nat → Int32} {p : (Nat → Int64) × Int64} {l : Int32} (hl : am_in l 30) : (z_ct (z_rk ask sd b p l).1, (z_rk ask sd b p l).2) = z_rk ask sd (z_cb b) (z_ct p.1, p.2) l := by
  unfold z_rk
  rw [z_cb_v (g_cl hl)]
  by_cases z : b l.toNatClampNeg = 0
  · rw [if_pos z, if_pos z]
    exact z_ct_tk hl
  · rw [if_neg z, if_neg z]
theorem z_ct_rks {ask : Int32 → Int64} {sd : Int32 → Bool} {b : Nat → Int32} : ∀ {Q : List Int32} {p : (Nat → Int64) × Int64}, (∀ l ∈ Q, am_in l 30) → (z_ct (Q.foldl (z_rk ask sd b) p).1, (Q.foldl (z_rk ask sd b) p).2) = Q.foldl (z_rk ask sd (z_cb b)) (z_ct p.1, p.2)
  | [], _, _ => rfl
  | a :: Q, p, h => by
    show (z_ct (Q.foldl (z_rk ask sd b) (z_rk ask sd b p a)).1, (Q.foldl (z_rk ask sd b) (z_rk ask sd b p a)).2) = Q.foldl (z_rk ask sd (z_cb b)) (z_rk ask sd (z_cb b) (z_ct p.1, p.2) a)
    rw [z_ct_rks (fun l hl => h l (List.mem_cons_of_mem _ hl)), z_ct_rk (h a List.mem_cons_self)]
theorem z_pf_in {own : Int32 → Bool} {f : Int32 → Nat} {n o : Nat} (hn : n ≤ 30) {l : Int32} (h : l ∈ z_pf own f n (o * n)) : am_in l 30 := by
  rcases Nat.eq_zero_or_pos n with z | z
  · subst z
    rw [Nat.mul_zero, z_pf_0] at h
    exact absurd h List.not_mem_nil
  · rw [z_pf_e z] at h
    have w := (z_mine_in (by omega) (z_q_in h)).1
    exact ⟨w.1, by have := w.2; omega⟩
theorem r_Y_ct {M : am_M} {p y e a d : Int32} {q : Int64} {S : (Nat → Int64) × (Nat → Int32)} (hn : r_n M ≤ 30) : (z_ct (r_Y M p y e a d q S).1, z_cb (r_Y M p y e a d q S).2) = r_Y M p y e a d q (z_ct S.1, z_cb S.2) := by
  have hm : ∀ l ∈ r_mine M p (r_n M), am_in l 30 := fun l hl => by
    have w := (z_mine_in (by omega) hl).1
    exact ⟨w.1, by have := w.2; omega⟩
  have hQ : ∀ l ∈ z_pf (r_own M p) (r_of M p y) (r_n M) (10 * r_n M), am_in l 30 := fun l hl => z_pf_in hn hl
  have B := z_ct_rbs (en := r_ends M y d) (cap := fun l o => r_cap o (r_rt M l y e a o)) (o1 := r_o1 M y) (dr := r_dr M y) (p := S) hm
  unfold r_Y
  rw [← B]
  dsimp only
  generalize (r_mine M p (r_n M)).foldl (r_bg M y e a d) S = T
  have P := z_ct_rps (b := T.2) (p := (T.1, q)) hQ
  dsimp only at P
  rw [← P]
  dsimp only
  generalize (z_pf (r_own M p) (r_of M p y) (r_n M) (10 * r_n M)).foldl (z_rp T.2) (T.1, q) = U
  have K := z_ct_rks (ask := r_due M y e a) (sd := r_sd M y) (b := T.2) (p := (U.1, 0)) hQ
  dsimp only at K
  rw [← K]
theorem r_it_ct {M : am_M} {p k : Int32} (hn : r_n M ≤ 30) : ∀ {n : Nat} {S : (Nat → Int64) × (Nat → Int32)}, (z_ct (z_it (r_yr M p k) 0 n S).1, z_cb (z_it (r_yr M p k) 0 n S).2) = z_it (r_yr M p k) 0 n (z_ct S.1, z_cb S.2)
  | 0, _ => rfl
  | n + 1, S => by
    show (z_ct (r_yr M p k (0 + n) (z_it (r_yr M p k) 0 n S)).1, z_cb (r_yr M p k (0 + n) (z_it (r_yr M p k) 0 n S)).2) = r_yr M p k (0 + n) (z_it (r_yr M p k) 0 n (z_ct S.1, z_cb S.2))
    rw [← r_it_ct hn]
    exact r_Y_ct hn
theorem z_zero.ct {S : (Nat → Int64) × (Nat → Int32)} (h : z_zero S) : (z_ct S.1, z_cb S.2) = z_00s := by
  refine Prod.ext (funext fun k => ?_) (funext fun k => ?_)
  · show (if k < 180 then S.1 k else 0) = 0
    split
    · exact h.1 k (by assumption)
    · rfl
  · show (if k < 30 then S.2 k else 0) = 0
    split
    · exact h.2 k (by assumption)
    · rfl
/-- a run of the reference, from nothing on -/
abbrev r_R (M : am_M) (p k : Int32) (n : Nat) : (Nat → Int64) × (Nat → Int32) := z_it (r_yr M p k) 0 n z_00s
theorem r_R_of {M M' : am_M} {p k : Int32} {n : Nat} {S : (Nat → Int64) × (Nat → Int32)} (n1 : 0 ≤ (M.1 201 1).toInt ∧ (M.1 201 1).toInt ≤ 30) (h : r_s2 M' = z_it (r_yr M p k) 0 n S) (z : z_zero S) : (∀ j, j < 180 → r_fl M' j = (r_R M p k n).1 j) ∧ ∀ l, l < 30 → M'.1 213 l = (r_R M p k n).2 l := by
  have c : (r_n M : Int) = (M.1 201 1).toInt := i_clamp n1.1
  have e := r_it_ct (M := M) (p := p) (k := k) (n := n) (S := S) (by omega)
  rw [z.ct, ← h] at e
  refine ⟨fun j hj => ?_, fun l hl => ?_⟩
  · rw [r_R, ← e]
    exact (z_ct_v hj).symm
  · rw [r_R, ← e]
    exact (z_cb_v hl).symm
section LXG
variable {i1 i2 : Bool} {M N : am_M} {p k : Int32}
theorem LX.roa (h : LX i1 i2 M) : r_oa M p := ⟨(), fun y _ => ⟨(), fun pl hpl => (z_isNum (h.li.nums (y := y) hpl ⟨by decide, by decide⟩)).2.2.2.2.1 rfl⟩⟩
theorem LX.coa (h : LX i1 i2 M) (hp : am_in p 12) (hp2 : p.toInt < (M.1 201 0).toInt) (hk : am_in k 40) (hb : c_bg M p k N) (hN : g_rI N) : c_oa N := by
  refine ⟨(), fun y hy => ⟨(), fun i hi => ?_⟩⟩
  have n1 := h.li.n1
  rw [c_look_1 (fun q => absurd q.2 (by decide))] at hi
  have sz := hN.s.sz
  have cs : (c_sz N : Int) = (N.1 4 7).toInt := i_clamp sz.1
  have hm : N.1 7 i ∈ r_mine M p (r_n M) := by
    rw [← h.li.mine, ← hb.ms]
    exact List.mem_map.mpr ⟨i, List.mem_range.mpr (by omega), rfl⟩
  have hne : c_mine M p (M.1 33 2).toNatClampNeg ≠ [] := fun q => by
    rw [← h.li.mine, q] at hm
    exact absurd hm List.not_mem_nil
  obtain ⟨lk, -⟩ := h.lk hp hp2 hk hb hne hy
  have zi := r_mine_z n1 hm
  rw [c_look_1 (fun q => absurd q.1 (by decide)), lk.cell zi ⟨by decide, by decide⟩]
  exact (z_isNum (lk.cr zi (w := 4) ⟨by decide, by decide⟩)).2.2.2.2.1 rfl
/-- the class's run, gone to a year -/
theorem LX.go (h : LX i1 i2 M) (hp : am_in p 12) (hp2 : p.toInt < (M.1 201 0).toInt) (hk : am_in k 40) (hb : c_bg M p k N) {N2 : am_M} {u : Int32} (hu : -1 ≤ u.toInt ∧ u.toInt ≤ 39) (hs : c_st N2 = z_it (fun y => c_yr N (Int32.ofNat y)) (N.1 4 10).toNatClampNeg (c_nn (N.1 4 10) u) (c_st N)) : z_RR M p (u.toInt + 1) (N2.2 6) (r_R M p k (u.toInt + 1).toNat).1 (r_R M p k (u.toInt + 1).toNat).2 ∧ N2.2 4 14 = 0 ∧ N2.2 4 15 = 0 := by
  obtain ⟨-, f10, -⟩ := hb.f
  have en : c_nn (N.1 4 10) u = (u.toInt + 1).toNat := by
    rw [f10]
    unfold c_nn
    rw [if_pos hu.2, Int32.toInt_zero, Int.sub_zero]
  have e0 : (N.1 4 10).toNatClampNeg = 0 := by rw [f10]; rfl
  rw [en, e0] at hs
  obtain ⟨r1, r2⟩ := h.run hp hp2 hk hb (u.toInt + 1).toNat (by omega)
  rw [← hs, show (((u.toInt + 1).toNat : Nat) : Int) = u.toInt + 1 by omega] at r1
  rw [← hs] at r2
  exact ⟨r1, congrArg Prod.fst r2, congrArg Prod.snd r2⟩
/-- a loan's person is one -/
theorem LI.pe (h : LI i1 i2 M) {l : Int32} (hl : am_in l 30) (hl2 : l.toInt < (M.1 201 1).toInt) : am_in (r_lo M l 0) 12 ∧ (r_lo M l 0).toInt < (M.1 201 0).toInt ∧ l ∈ r_mine M (r_lo M l 0) (r_n M) := by
  have c := i_clamp hl.1
  have n1 := h.n1
  have cn : (r_n M : Int) = (M.1 201 1).toInt := i_clamp n1.1
  obtain ⟨-, q, -⟩ := h.b.l
  have q1 := q l.toNatClampNeg (g_cl hl) (by show _ < (M.1 201 (0 + 1)).toInt; rw [Nat.zero_add]; omega)
  (try dsimp only at q1)
  rw [Nat.zero_add, Nat.zero_add] at q1
  have r0 := r_lcol hl (w := 0) ⟨by decide, by decide⟩
  simp only [Int32.reduceToInt, Int32.toInt_zero] at r0
  have l1 := hl.1
  have l2 := hl.2
  have c0 := i_clamp (x := 2838 + 8 * l + 0) (by omega)
  have e0 : r_lo M l 0 = M.1 201 (2838 + 8 * l.toNatClampNeg) := by
    unfold r_lo
    rw [show (2838 + 8 * l + 0).toNatClampNeg = 2838 + 8 * l.toNatClampNeg by omega]
  refine ⟨r_pers h.i hl, by rw [e0]; exact q1, z_mine_mem (by omega) ⟨l1, by omega⟩ (r_own_iff.mpr rfl)⟩
end LXG
end
-- part 79ze.asks.lean.txt
section
/-! exact: owes, all, rate, over -/
theorem am_rL {Ret : am_R} {M : am_M} {x y : Int64} (h : Ret (some (.long x)) M) (e : x = y) : Ret (some (.long y)) M := e ▸ h
def r_mk (A B : Nat → Int32) : am_M := (fun a => if a = 201 then A else if a = 200 then B else fun _ => 0, fun _ _ => 0)
theorem r_cg {α : Type} {M N : am_M} (f : am_M → α) (hf : ∀ K, f K = f (r_mk (K.1 201) (K.1 200))) (h1 : N.1 201 = M.1 201) (h2 : N.1 200 = M.1 200) : f N = f M := by rw [hf N, hf M, h1, h2]
theorem r_yr_cg {M N : am_M} (h1 : N.1 201 = M.1 201) (h2 : N.1 200 = M.1 200) (p k : Int32) : r_yr N p k = r_yr M p k := by
  funext y
  unfold r_yr
  rw [r_cg (fun K => r_e K p k (Int32.ofNat y)) (fun _ => rfl) h1 h2, r_cg (fun K => r_la K p (Int32.ofNat y)) (fun _ => rfl) h1 h2, r_cg (fun K => r_dd K p (Int32.ofNat y)) (fun _ => rfl) h1 h2]
  exact r_cg (fun K => r_Y K p (Int32.ofNat y) (r_e M p k (Int32.ofNat y)) (r_la M p (Int32.ofNat y)) (r_dd M p (Int32.ofNat y)) 0) (fun _ => rfl) h1 h2
theorem r_R_cg {M N : am_M} (h1 : N.1 201 = M.1 201) (h2 : N.1 200 = M.1 200) (p k : Int32) (n : Nat) : r_R N p k n = r_R M p k n := by
  unfold r_R
  rw [r_yr_cg h1 h2]
theorem r_mine_cg {M N : am_M} (h1 : N.1 201 = M.1 201) (p : Int32) : r_mine N p (r_n N) = r_mine M p (r_n M) := by
  unfold r_mine r_n r_own r_lo
  rw [h1]
theorem g_sc.r1 {M N : am_M} (h : g_sc M N) {a : Nat} (ha : 11 ≤ a) : N.1 a = M.1 a := funext fun b => h.i b ha
theorem z_tog_cg {s s' : Nat → Int64} {w w' : Nat} : ∀ {ms : List Int32} {v : Int64}, (∀ l ∈ ms, s (w + l.toNatClampNeg) = s' (w' + l.toNatClampNeg)) → ms.foldl (fun v l => v + s (w + l.toNatClampNeg)) v = ms.foldl (fun v l => v + s' (w' + l.toNatClampNeg)) v
  | [], _, _ => rfl
  | a :: ms, v, h => by
    show ms.foldl _ (v + s (w + a.toNatClampNeg)) = ms.foldl _ (v + s' (w' + a.toNatClampNeg))
    rw [h a List.mem_cons_self]
    exact z_tog_cg (fun l hl => h l (List.mem_cons_of_mem _ hl))
section LXC
variable {i1 i2 : Bool} {M N N2 : am_M} {p k : Int32}
theorem LX.at (h : LX i1 i2 M) (hp : am_in p 12) (hp2 : p.toInt < (M.1 201 0).toInt) (hk : am_in k 40) (hb : c_bg M p k N) {u : Int32} (hu : -1 ≤ u.toInt ∧ u.toInt ≤ 39) (hs : c_st N2 = z_it (fun y => c_yr N (Int32.ofNat y)) (N.1 4 10).toNatClampNeg (c_nn (N.1 4 10) u) (c_st N)) {l : Int32} (hl : l ∈ r_mine M p (r_n M)) {w : Nat} (hw : w < 6) : N2.2 6 (30 * w + l.toNatClampNeg) = (r_R M p k (u.toInt + 1).toNat).1 (30 * w + l.toNatClampNeg) := ((h.go hp hp2 hk hb hu hs).1 l hl).1.1 w hw
theorem LX.tg (h : LX i1 i2 M) (hp : am_in p 12) (hp2 : p.toInt < (M.1 201 0).toInt) (hk : am_in k 40) (hb : c_bg M p k N) {u : Int32} (hu : -1 ≤ u.toInt ∧ u.toInt ≤ 39) (gn : c_gn N N2) (hs : c_st N2 = z_it (fun y => c_yr N (Int32.ofNat y)) (N.1 4 10).toNatClampNeg (c_nn (N.1 4 10) u) (c_st N)) {w : Nat} (hw : w < 6) : z_tog (N2.2 6) (30 * w) (c_ms N2 (c_sz N2)) = z_tog (r_R M p k (u.toInt + 1).toNat).1 (30 * w) (r_mine M p (r_n M)) := by
  have em : c_ms N2 (c_sz N2) = r_mine M p (r_n M) := by
    rw [← h.li.mine, ← hb.ms]
    unfold c_ms c_sz
    rw [gn.i (by decide) (fun q => absurd q.2 (by decide))]
    refine List.map_congr_left (fun j _ => ?_)
    rw [gn.i (by decide) (fun q => absurd q.1 (by decide))]
  rw [em]
  unfold z_tog
  exact z_tog_cg (fun l hl => h.at hp hp2 hk hb hu hs hl hw)
end LXC
def kX7_togetherE (live : am_E) (Ret : am_R) : am_code := [(0, am_aload 0 1), (1, am_getR live 7 2 4), (4, am_iload 1 5), (5, am_iload 3 6), (6, am_callV live 4 2 TE4_begin 9), (9, am_aload 0 10), (10, am_getR live 7 2 13), (13, am_iload 2 14), (14, am_callV live 4 1 TE4_go 17), (17, am_aload 0 18), (18, am_getR live 7 2 21), (21, am_iload 4 23), (23, am_callV live 4 1 TE4_together 26), (26, am_retL Ret)]
theorem koX7_togetherE (live : am_E) (Ret : am_R) : ∀ q ∈ kX7_togetherE live Ret, am_ok RX7 cX7_together 5 (some .long) 5 124 live Ret q.1 q.2 :=
  am_kz dzX7_together <|
  am_kd (fun d => ak_aload_n d rfl rfl) <|
  am_kd (fun d => ak_getR (C := RX7) (T := TX7) (N := 4) rfl inX7w (by decide) rfl rfl rfl wd_392 d rfl) <|
  am_kd (fun d => ak_iload_n d rfl rfl) <|
  am_kd (fun d => ak_iload_n d rfl rfl) <|
  am_kd (fun d => ak_callV (C := RX4) (F := TX4) (N := 19) metX4_beginE rfl ⟨rfl, hy_X4_begin⟩ (am_w5 wd_546 wd_547 wd_548 wd_60 wd_549) (by decide) d rfl) <|
  am_kd (fun d => ak_aload_n d rfl rfl) <|
  am_kd (fun d => ak_getR (C := RX7) (T := TX7) (N := 4) rfl inX7w (by decide) rfl rfl rfl wd_392 d rfl) <|
  am_kd (fun d => ak_iload_n d rfl rfl) <|
  am_kd (fun d => ak_callV (C := RX4) (F := TX4) (N := 19) metX4_goE rfl ⟨rfl, hy_X4_go⟩ (am_w5 wd_559 wd_560 wd_561 wd_60 wd_562) (by decide) d rfl) <|
  am_kd (fun d => ak_aload_n d rfl rfl) <|
  am_kd (fun d => ak_getR (C := RX7) (T := TX7) (N := 4) rfl inX7w (by decide) rfl rfl rfl wd_392 d rfl) <|
  am_kd (fun d => ak_iload d rfl) <|
  am_kd (fun d => ak_callV (C := RX4) (F := TX4) (N := 19) metX4_togetherE rfl ⟨rfl, hy_X4_together⟩ (am_w5 wd_649 wd_650 wd_651 wd_60 wd_652) (by decide) d rfl) <|
  am_kd (fun d => ak_retL d) <| am_kdn
def TE7_together : am_T := fun live as M R => match as with
  | [.ref n, .int p, .int y, .int k, .int w] => am_mn live ∧ n = 0 ∧ am_in p 12 ∧ p.toInt < (M.1 201 0).toInt ∧ (am_in y 40 ∧ am_in k 40) ∧ am_in w 6 ∧ (∃ i1 i2, LX i1 i2 M) ∧ ∀ M', g_sc M M' → g_rI M' → R (some (.long (z_tog (r_R M p k (y.toNatClampNeg + 1)).1 (30 * w.toNatClampNeg) (r_mine M p (r_n M))))) M'
  | _ => False
set_option maxRecDepth 100000 in
set_option maxHeartbeats 4000000 in
theorem metX7_togetherE : am_Met yX7_together cX7_together 5 (some .long) (5) (124) TE7_together := by
  refine am_met (own := RX7) (by decide +kernel) rfl kX7_togetherE koX7_togetherE 100 (fun _ _ _ _ _ => none) (fun live as M Ret h => ?_) (fun _ _ _ _ _ _ _ _ hI => by cases hI)
  unfold TE7_together at h
  split at h
  · next n p y k w =>
    refine ⟨Nat.le_of_ble_eq_true rfl, ?_⟩
    change am_wp _ _ _ _ [(0, Value.ref n), (1, Value.int p), (2, Value.int y), (3, Value.int k), (4, Value.int w)] _ _
    obtain ⟨hmn, rfl, hp, hp2, ⟨hy, hk⟩, hw, ⟨j1, j2, hX⟩, h⟩ := h
    have hmn2 := hmn
    obtain ⟨i1, i2, rfl⟩ := hmn2
    have hR := hX.li.g
    have hA := hX.li.cA
    have hn : 0 ≤ (M.1 33 2).toInt ∧ (M.1 33 2).toInt ≤ 30 := by rw [hX.li.e1]; exact hX.li.n1
    have cy := i_clamp hy.1
    have y39 : -1 ≤ y.toInt ∧ y.toInt ≤ 39 := ⟨by have := hy.1; omega, by have := hy.2; omega⟩
    repeat' (first | (with_reducible exact hmn) | (with_reducible exact hp) | (with_reducible exact hw) | (with_reducible exact hR) | (with_reducible exact hA) | (with_reducible exact hn) | apply And.intro | exact rfl | ((with_reducible change g_rI _); (with_reducible assumption)) | intro hx | (refine Exists.intro _ (And.intro rfl ?_)))
    all_goals try first | (with_reducible change am_tI _ _) | (change Ret _ _) | (change Ret _ _ _) | (change Exists _)
    all_goals try dsimp only at *
    all_goals try (with_reducible exact absurd ‹(1000 : Int64) = 0› am_z1000)
    all_goals first
      | exact hX.t0.g (c_bg.sc (by with_reducible assumption))
      | exact hX.coa hp hp2 hk (by with_reducible assumption) (by with_reducible assumption)
      | (rw [(c_bg.f (by with_reducible assumption)).2.1]; decide)
      | skip
    rename_i N b1 r1 N2 g2 r2 s2
    refine am_rL (h N2 ((c_bg.sc b1).tr (c_gn.sc g2)) r2) ?_
    rw [hX.tg hp hp2 hk b1 y39 g2 s2 (g_cl hw), show (y.toInt + 1).toNat = y.toNatClampNeg + 1 by omega]
  · exact h.elim
def r_owesV (M : am_M) (l y k w : Int32) : Int64 := if 0 ≤ l ∧ l < M.1 201 1 then (if 0 ≤ y ∧ y < 40 then (if 0 ≤ k ∧ k < 40 then (if 0 ≤ w ∧ w ≤ 4 then (r_R M (r_lo M l 0) k (y.toNatClampNeg + 1)).1 (30 * w.toNatClampNeg + l.toNatClampNeg) else -2) else -2) else -2) else -2
def kX7_owesE (live : am_E) (Ret : am_R) : am_code := [(0, am_aload 0 1), (1, am_iload 1 2), (2, am_callV live 7 1 TX7_isLoan 5), (5, am_if1 (fun x => x = 0) 32 8), (8, am_iload 2 9), (9, am_callS live 1 TX7_isYear 12), (12, am_if1 (fun x => x = 0) 32 15), (15, am_iload 3 16), (16, am_callS live 1 TX7_isYear 19), (19, am_if1 (fun x => x = 0) 32 22), (22, am_iload 4 24), (24, am_const (.int 0) 25), (25, am_const (.int 4) 26), (26, am_callS live 3 TX7_within 29), (29, am_if1 (fun x => x = 0) 32 36), (32, am_const (.long (-2)) 35), (35, am_retL Ret), (36, am_aload 0 37), (37, am_getR live 7 2 40), (40, am_aload 0 41), (41, am_getR live 7 0 44), (44, am_getR live 0 4 47), (47, am_iload 1 48), (48, am_const (.int 0) 49), (49, am_callV live 3 2 TX3_at 52), (52, am_iload 3 53), (53, am_callV live 4 2 TE4_begin 56), (56, am_aload 0 57), (57, am_getR live 7 2 60), (60, am_iload 2 61), (61, am_callV live 4 1 TE4_go 64), (64, am_aload 0 65), (65, am_getR live 7 2 68), (68, am_getR live 4 2 71), (71, am_iload 4 73), (73, am_const (.int 30) 75), (75, am_i2 (fun x y => x * y) 76), (76, am_iload 1 77), (77, am_i2 (fun x y => x + y) 78), (78, am_lald live 1 79), (79, am_retL Ret)]
theorem koX7_owesE (live : am_E) (Ret : am_R) : ∀ q ∈ kX7_owesE live Ret, am_ok RX7 cX7_owes 5 (some .long) 5 124 live Ret q.1 q.2 :=
  am_kz dzX7_owes <|
  am_kd (fun d => ak_aload_n d rfl rfl) <|
  am_kd (fun d => ak_iload_n d rfl rfl) <|
  am_kd (fun d => ak_callV (C := RX7) (F := TX7) (N := 4) metX7_isLoan rfl ⟨rfl, hy_X7_isLoan⟩ (am_w5 wd_520 wd_522 wd_2 wd_58 wd_523) (by decide) d rfl) <|
  am_kd (fun d => ak_if_eq d (by decide +kernel) rfl) <|
  am_kd (fun d => ak_iload_n d rfl rfl) <|
  am_kd (fun d => ak_callS metX7_isYear ⟨rfl, hy_X7_isYear⟩ (am_w4 wd_407 wd_408 wd_58 wd_409) (by decide) d rfl) <|
  am_kd (fun d => ak_if_eq d (by decide +kernel) rfl) <|
  am_kd (fun d => ak_iload_n d rfl rfl) <|
  am_kd (fun d => ak_callS metX7_isYear ⟨rfl, hy_X7_isYear⟩ (am_w4 wd_407 wd_408 wd_58 wd_409) (by decide) d rfl) <|
  am_kd (fun d => ak_if_eq d (by decide +kernel) rfl) <|
  am_kd (fun d => ak_iload d rfl) <|
  am_kd (fun d => ak_iconst d (by decide +kernel) rfl) <|
  am_kd (fun d => ak_iconst d (by decide +kernel) rfl) <|
  am_kd (fun d => ak_callS metX7_within ⟨rfl, hy_X7_within⟩ (am_w4 wd_418 wd_419 wd_58 wd_420) (by decide) d rfl) <|
  am_kd (fun d => ak_if_ne d (by decide +kernel) rfl) <|
  am_kd (fun d => ak_ldc2 wd_545 d rfl) <|
  am_kd (fun d => ak_retL d) <|
  am_kd (fun d => ak_aload_n d rfl rfl) <|
  am_kd (fun d => ak_getR (C := RX7) (T := TX7) (N := 4) rfl inX7w (by decide) rfl rfl rfl wd_392 d rfl) <|
  am_kd (fun d => ak_aload_n d rfl rfl) <|
  am_kd (fun d => ak_getR (C := RX7) (T := TX7) (N := 4) rfl inX7w (by decide) rfl rfl rfl wd_390 d rfl) <|
  am_kd (fun d => ak_getR (C := RX0) (T := TX0) (N := 13) rfl inX0w (by decide) rfl rfl rfl wd_207 d rfl) <|
  am_kd (fun d => ak_iload_n d rfl rfl) <|
  am_kd (fun d => ak_iconst d (by decide +kernel) rfl) <|
  am_kd (fun d => ak_callV (C := RX3) (F := TX3) (N := 3) metX3_at rfl ⟨rfl, hy_X3_at⟩ (am_w5 wd_524 wd_503 wd_504 wd_64 wd_505) (by decide) d rfl) <|
  am_kd (fun d => ak_iload_n d rfl rfl) <|
  am_kd (fun d => ak_callV (C := RX4) (F := TX4) (N := 19) metX4_beginE rfl ⟨rfl, hy_X4_begin⟩ (am_w5 wd_546 wd_547 wd_548 wd_60 wd_549) (by decide) d rfl) <|
  am_kd (fun d => ak_aload_n d rfl rfl) <|
  am_kd (fun d => ak_getR (C := RX7) (T := TX7) (N := 4) rfl inX7w (by decide) rfl rfl rfl wd_392 d rfl) <|
  am_kd (fun d => ak_iload_n d rfl rfl) <|
  am_kd (fun d => ak_callV (C := RX4) (F := TX4) (N := 19) metX4_goE rfl ⟨rfl, hy_X4_go⟩ (am_w5 wd_559 wd_560 wd_561 wd_60 wd_562) (by decide) d rfl) <|
  am_kd (fun d => ak_aload_n d rfl rfl) <|
  am_kd (fun d => ak_getR (C := RX7) (T := TX7) (N := 4) rfl inX7w (by decide) rfl rfl rfl wd_392 d rfl) <|
  am_kd (fun d => ak_getR (C := RX4) (T := TX4) (N := 19) rfl inX4w (by decide) rfl rfl rfl wd_298 d rfl) <|
  am_kd (fun d => ak_iload d rfl) <|
  am_kd (fun d => ak_bipush d (by decide +kernel) rfl) <|
  am_kd (fun d => ak_imul d rfl) <|
  am_kd (fun d => ak_iload_n d rfl rfl) <|
  am_kd (fun d => ak_iadd d rfl) <|
  am_kd (fun d => ak_lald (t := 1) (fun _ => rfl) rfl d rfl) <|
  am_kd (fun d => ak_retL d) <| am_kdn
def TE7_owes : am_T := fun live as M R => match as with
  | [.ref n, .int l, .int y, .int k, .int w] => am_mn live ∧ n = 0 ∧ (∃ i1 i2, LX i1 i2 M) ∧ ∀ M', g_sc M M' → g_rI M' → R (some (.long (r_owesV M l y k w))) M'
  | _ => False
set_option maxRecDepth 100000 in
set_option maxHeartbeats 4000000 in
theorem metX7_owesE : am_Met yX7_owes cX7_owes 5 (some .long) (5) (124) TE7_owes := by
  refine am_met (own := RX7) (by decide +kernel) rfl kX7_owesE koX7_owesE 200 (fun _ _ _ _ _ => none) (fun live as M Ret h => ?_) (fun _ _ _ _ _ _ _ _ hI => by cases hI)
  unfold TE7_owes at h
  split at h
  · next n l y k w =>
    refine ⟨Nat.le_of_ble_eq_true rfl, ?_⟩
    change am_wp _ _ _ _ [(0, Value.ref n), (1, Value.int l), (2, Value.int y), (3, Value.int k), (4, Value.int w)] _ _
    obtain ⟨hmn, rfl, ⟨j1, j2, hX⟩, h⟩ := h
    have hmn2 := hmn
    obtain ⟨i1, i2, rfl⟩ := hmn2
    have hH := hX.li.h
    have hR := hX.li.g
    have hA := hX.li.cA
    have le1 := hX.li.e1
    have le0 := hX.li.e0
    have n1 := hX.li.n1
    have n0 := hX.li.n0
    have hn : 0 ≤ (M.1 33 2).toInt ∧ (M.1 33 2).toInt ≤ 30 := by rw [le1]; exact n1
    have htb := hX.t0
    by_cases z0 : 0 ≤ l ∧ l < M.1 33 2
    rotate_left
    · skip
      have q0 : (if 0 ≤ l ∧ l < M.1 33 2 then (1 : Int32) else 0) = 0 := if_neg z0
      have e : r_owesV M l y k w = -2 := by unfold r_owesV; rw [if_neg (fun q => z0 (by first | exact q | (rw [le1]; exact q) | (rw [le0]; exact q)))]
      rw [e] at h
      repeat' (first | (with_reducible exact hmn) | apply And.intro | exact rfl | (intro hx; with_reducible exact absurd q0 hx) | (intro hx; exact absurd hx (by decide)) | (intro hx; exact absurd (by decide) hx) | decide | intro hx | (refine Exists.intro _ (And.intro rfl ?_)))
      all_goals try first | (with_reducible change am_tI _ _) | (change Ret _ _) | (change Ret _ _ _) | (change Exists _)
      all_goals try dsimp only at *
      all_goals try (with_reducible exact absurd ‹(1000 : Int64) = 0› am_z1000)
      all_goals exact h _ g_sc.rf hR
    · skip
      have q0 : ¬ ((if 0 ≤ l ∧ l < M.1 33 2 then (1 : Int32) else 0) = 0) := by rw [if_pos z0]; decide
      have y0 : 0 ≤ l ∧ l < M.1 201 1 := by first | exact z0 | (rw [← le1]; exact z0) | (rw [← le0]; exact z0)
      by_cases z1 : 0 ≤ y ∧ y < 40
      rotate_left
      · skip
        have q1 : (if 0 ≤ y ∧ y < 40 then (1 : Int32) else 0) = 0 := if_neg z1
        have e : r_owesV M l y k w = -2 := by unfold r_owesV; rw [if_pos y0, if_neg (fun q => z1 (by first | exact q | (rw [le1]; exact q) | (rw [le0]; exact q)))]
        rw [e] at h
        repeat' (first | (with_reducible exact hmn) | apply And.intro | exact rfl | (intro hx; with_reducible exact absurd hx q0) | (intro hx; with_reducible exact absurd q1 hx) | (intro hx; exact absurd hx (by decide)) | (intro hx; exact absurd (by decide) hx) | decide | intro hx | (refine Exists.intro _ (And.intro rfl ?_)))
        all_goals try first | (with_reducible change am_tI _ _) | (change Ret _ _) | (change Ret _ _ _) | (change Exists _)
        all_goals try dsimp only at *
        all_goals try (with_reducible exact absurd ‹(1000 : Int64) = 0› am_z1000)
        all_goals exact h _ g_sc.rf hR
      · skip
        have q1 : ¬ ((if 0 ≤ y ∧ y < 40 then (1 : Int32) else 0) = 0) := by rw [if_pos z1]; decide
        have y1 : 0 ≤ y ∧ y < 40 := by first | exact z1 | (rw [← le1]; exact z1) | (rw [← le0]; exact z1)
        by_cases z2 : 0 ≤ k ∧ k < 40
        rotate_left
        · skip
          have q2 : (if 0 ≤ k ∧ k < 40 then (1 : Int32) else 0) = 0 := if_neg z2
          have e : r_owesV M l y k w = -2 := by unfold r_owesV; rw [if_pos y0, if_pos y1, if_neg (fun q => z2 (by first | exact q | (rw [le1]; exact q) | (rw [le0]; exact q)))]
          rw [e] at h
          repeat' (first | (with_reducible exact hmn) | apply And.intro | exact rfl | (intro hx; with_reducible exact absurd hx q0) | (intro hx; with_reducible exact absurd hx q1) | (intro hx; with_reducible exact absurd q2 hx) | (intro hx; exact absurd hx (by decide)) | (intro hx; exact absurd (by decide) hx) | decide | intro hx | (refine Exists.intro _ (And.intro rfl ?_)))
          all_goals try first | (with_reducible change am_tI _ _) | (change Ret _ _) | (change Ret _ _ _) | (change Exists _)
          all_goals try dsimp only at *
          all_goals try (with_reducible exact absurd ‹(1000 : Int64) = 0› am_z1000)
          all_goals exact h _ g_sc.rf hR
        · skip
          have q2 : ¬ ((if 0 ≤ k ∧ k < 40 then (1 : Int32) else 0) = 0) := by rw [if_pos z2]; decide
          have y2 : 0 ≤ k ∧ k < 40 := by first | exact z2 | (rw [← le1]; exact z2) | (rw [← le0]; exact z2)
          by_cases z3 : 0 ≤ w ∧ w ≤ 4
          rotate_left
          · skip
            have q3 : (if 0 ≤ w ∧ w ≤ 4 then (1 : Int32) else 0) = 0 := if_neg z3
            have e : r_owesV M l y k w = -2 := by unfold r_owesV; rw [if_pos y0, if_pos y1, if_pos y2, if_neg (fun q => z3 (by first | exact q | (rw [le1]; exact q) | (rw [le0]; exact q)))]
            rw [e] at h
            repeat' (first | (with_reducible exact hmn) | apply And.intro | exact rfl | (intro hx; with_reducible exact absurd hx q0) | (intro hx; with_reducible exact absurd hx q1) | (intro hx; with_reducible exact absurd hx q2) | (intro hx; with_reducible exact absurd q3 hx) | (intro hx; exact absurd hx (by decide)) | (intro hx; exact absurd (by decide) hx) | decide | intro hx | (refine Exists.intro _ (And.intro rfl ?_)))
            all_goals try first | (with_reducible change am_tI _ _) | (change Ret _ _) | (change Ret _ _ _) | (change Exists _)
            all_goals try dsimp only at *
            all_goals try (with_reducible exact absurd ‹(1000 : Int64) = 0› am_z1000)
            all_goals exact h _ g_sc.rf hR
          · skip
            have q3 : ¬ ((if 0 ≤ w ∧ w ≤ 4 then (1 : Int32) else 0) = 0) := by rw [if_pos z3]; decide
            have y3 : 0 ≤ w ∧ w ≤ 4 := by first | exact z3 | (rw [← le1]; exact z3) | (rw [← le0]; exact z3)
            have e : r_owesV M l y k w = (r_R M (r_lo M l 0) k (y.toNatClampNeg + 1)).1 (30 * w.toNatClampNeg + l.toNatClampNeg) := by unfold r_owesV; rw [if_pos y0, if_pos y1, if_pos y2, if_pos y3]
            rw [e] at h
            have hl : am_in l 30 := ⟨by have q := y0.1; simp only [i_le, Int32.reduceToInt, Int32.toInt_zero] at q; omega, by have q := y0.2; simp only [i_lt] at q; omega⟩
            have hy : am_in y 40 := ⟨by have q := y1.1; simp only [i_le, Int32.reduceToInt, Int32.toInt_zero] at q; omega, by have q := y1.2; simp only [i_lt, Int32.reduceToInt] at q; omega⟩
            have hk : am_in k 40 := ⟨by have q := y2.1; simp only [i_le, Int32.reduceToInt, Int32.toInt_zero] at q; omega, by have q := y2.2; simp only [i_lt, Int32.reduceToInt] at q; omega⟩
            have hw : am_in w 5 := ⟨by have q := y3.1; simp only [i_le, Int32.reduceToInt, Int32.toInt_zero] at q; omega, by have q := y3.2; simp only [i_le, Int32.reduceToInt] at q; omega⟩
            have l6 : am_len 6 = 180 := rfl
            have cy := i_clamp hy.1
            have cw := i_clamp hw.1
            have cl := i_clamp hl.1
            obtain ⟨hp, hp2, hm⟩ := hX.li.pe hl (by have q := y0.2; rw [i_lt] at q; exact q)
            have ep : am_at (M.1 34) (am_len 34) (l * M.1 33 1 + 0) = r_lo M l 0 := hX.li.lo hl (w := 0) (n := 0) rfl (by decide)
            have hpc := hp
            rw [← ep] at hpc
            have a1 := hl.1
            have a2 := hl.2
            have c1 := hw.1
            have c2 := hw.2
            have y39 : -1 ≤ y.toInt ∧ y.toInt ≤ 39 := ⟨by have := hy.1; omega, by have := hy.2; omega⟩
            have e30 := i_mul (x := w) (y := 30) (by simp only [Int32.reduceToInt]; omega) (by simp only [Int32.reduceToInt]; omega)
            simp only [Int32.reduceToInt] at e30
            have ew := i_add (x := w * 30) (y := l) (by rw [e30]; omega) (by rw [e30]; omega)
            have cwl := i_clamp (x := w * 30 + l) (by omega)
            repeat' (first | (with_reducible exact hmn) | (with_reducible exact hpc) | (with_reducible exact hR) | (with_reducible exact hA) | (with_reducible exact hn) | apply And.intro | exact rfl | (intro hx; with_reducible exact absurd hx q0) | (intro hx; with_reducible exact absurd hx q1) | (intro hx; with_reducible exact absurd hx q2) | (intro hx; with_reducible exact absurd hx q3) | ((with_reducible change g_rI _); (with_reducible assumption)) | (intro hx; exact absurd hx (by decide)) | (intro hx; exact absurd (by decide) hx) | decide | intro hx | (refine Exists.intro _ (And.intro rfl ?_)))
            all_goals try first | (with_reducible change am_tI _ _) | (change Ret _ _) | (change Ret _ _ _) | (change Exists _)
            all_goals try dsimp only at *
            all_goals try (with_reducible exact absurd ‹(1000 : Int64) = 0› am_z1000)
            all_goals first
              | omega
              | (rw [l6]; omega)
              | exact htb.g (c_bg.sc (by with_reducible assumption))
              | (rw [ep] at *; exact hX.coa hp hp2 hk (by with_reducible assumption) (by with_reducible assumption))
              | (rw [(c_bg.f (by with_reducible assumption)).2.1]; decide)
              | skip
            rename_i N b1 r1 N2 g2 r2 s2
            rw [ep] at b1
            refine am_rL (h N2 ((c_bg.sc b1).tr (c_gn.sc g2)) r2) ?_
            rw [show (w * 30 + l).toNatClampNeg = 30 * w.toNatClampNeg + l.toNatClampNeg by omega, hX.at hp hp2 hk b1 y39 s2 hm (w := w.toNatClampNeg) (by omega), show (y.toInt + 1).toNat = y.toNatClampNeg + 1 by omega]
  · exact h.elim
def kX8_owesE (live : am_E) (Ret : am_R) : am_code := [(0, am_aload 0 1), (1, am_iload 1 2), (2, am_callV live 8 1 TX8_isLoan 5), (5, am_if1 (fun x => x = 0) 35 8), (8, am_iload 2 9), (9, am_callS live 1 TX8_isYear 12), (12, am_if1 (fun x => x = 0) 35 15), (15, am_iload 3 16), (16, am_callS live 1 TX8_isYear 19), (19, am_if1 (fun x => x = 0) 35 22), (22, am_iload 4 24), (24, am_i2l 25), (25, am_const (.long 0) 26), (26, am_const (.long 4) 29), (29, am_callS live 3 TX8_in 32), (32, am_if1 (fun x => x = 0) 35 39), (35, am_const (.long (-2)) 38), (38, am_retL Ret), (39, am_aload 0 40), (40, am_aload 0 41), (41, am_iload 1 42), (42, am_const (.int 0) 43), (43, am_callV live 8 2 TX8_ofLoan 46), (46, am_iload 2 47), (47, am_iload 3 48), (48, am_callV live 8 3 TE8_run 51), (51, am_aload 0 52), (52, am_iload 1 53), (53, am_iload 4 55), (55, am_callV live 8 2 TE8_runOf 58), (58, am_retL Ret)]
theorem koX8_owesE (live : am_E) (Ret : am_R) : ∀ q ∈ kX8_owesE live Ret, am_ok RX8 cX8_owes 5 (some .long) 10 253 live Ret q.1 q.2 :=
  am_kz dzX8_owes <|
  am_kd (fun d => ak_aload_n d rfl rfl) <|
  am_kd (fun d => ak_iload_n d rfl rfl) <|
  am_kd (fun d => ak_callV (C := RX8) (F := TX8) (N := 27) metX8_isLoan rfl ⟨rfl, hy_X8_isLoan⟩ (am_w5 wd_1069 wd_1071 wd_30 wd_67 wd_1072) (by decide) d rfl) <|
  am_kd (fun d => ak_if_eq d (by decide +kernel) rfl) <|
  am_kd (fun d => ak_iload_n d rfl rfl) <|
  am_kd (fun d => ak_callS metX8_isYear ⟨rfl, hy_X8_isYear⟩ (am_w4 wd_982 wd_983 wd_67 wd_984) (by decide) d rfl) <|
  am_kd (fun d => ak_if_eq d (by decide +kernel) rfl) <|
  am_kd (fun d => ak_iload_n d rfl rfl) <|
  am_kd (fun d => ak_callS metX8_isYear ⟨rfl, hy_X8_isYear⟩ (am_w4 wd_982 wd_983 wd_67 wd_984) (by decide) d rfl) <|
  am_kd (fun d => ak_if_eq d (by decide +kernel) rfl) <|
  am_kd (fun d => ak_iload d rfl) <|
  am_kd (fun d => ak_i2l d rfl) <|
  am_kd (fun d => ak_lconst d (by decide +kernel) rfl) <|
  am_kd (fun d => ak_ldc2 wd_1037 d rfl) <|
  am_kd (fun d => ak_callS metX8_in ⟨rfl, hy_X8_in⟩ (am_w4 wd_986 wd_987 wd_67 wd_988) (by decide) d rfl) <|
  am_kd (fun d => ak_if_ne d (by decide +kernel) rfl) <|
  am_kd (fun d => ak_ldc2 wd_1153 d rfl) <|
  am_kd (fun d => ak_retL d) <|
  am_kd (fun d => ak_aload_n d rfl rfl) <|
  am_kd (fun d => ak_aload_n d rfl rfl) <|
  am_kd (fun d => ak_iload_n d rfl rfl) <|
  am_kd (fun d => ak_iconst d (by decide +kernel) rfl) <|
  am_kd (fun d => ak_callV (C := RX8) (F := TX8) (N := 27) metX8_ofLoan rfl ⟨rfl, hy_X8_ofLoan⟩ (am_w5 wd_1154 wd_1156 wd_41 wd_67 wd_1157) (by decide) d rfl) <|
  am_kd (fun d => ak_iload_n d rfl rfl) <|
  am_kd (fun d => ak_iload_n d rfl rfl) <|
  am_kd (fun d => ak_callV (C := RX8) (F := TX8) (N := 27) metX8_runE rfl ⟨rfl, hy_X8_run⟩ (am_w5 wd_1158 wd_1160 wd_42 wd_67 wd_1161) (by decide) d rfl) <|
  am_kd (fun d => ak_aload_n d rfl rfl) <|
  am_kd (fun d => ak_iload_n d rfl rfl) <|
  am_kd (fun d => ak_iload d rfl) <|
  am_kd (fun d => ak_callV (C := RX8) (F := TX8) (N := 27) metX8_runOfE rfl ⟨rfl, hy_X8_runOf⟩ (am_w5 wd_1187 wd_1189 wd_49 wd_67 wd_1190) (by decide) d rfl) <|
  am_kd (fun d => ak_retL d) <| am_kdn
def TE8_owes : am_T := fun live as M R => match as with
  | [.ref n, .int l, .int y, .int k, .int w] => am_mn live ∧ n = 200 ∧ (∃ i1 i2, LX i1 i2 M) ∧ ∀ M', r_sc M M' → r_I M' → R (some (.long (r_owesV M l y k w))) M'
  | _ => False
set_option maxRecDepth 100000 in
set_option maxHeartbeats 4000000 in
theorem metX8_owesE : am_Met yX8_owes cX8_owes 5 (some .long) (10) (253) TE8_owes := by
  refine am_met (own := RX8) (by decide +kernel) rfl kX8_owesE koX8_owesE 200 (fun _ _ _ _ _ => none) (fun live as M Ret h => ?_) (fun _ _ _ _ _ _ _ _ hI => by cases hI)
  unfold TE8_owes at h
  split at h
  · next n l y k w =>
    refine ⟨Nat.le_of_ble_eq_true rfl, ?_⟩
    change am_wp _ _ _ _ [(0, Value.ref n), (1, Value.int l), (2, Value.int y), (3, Value.int k), (4, Value.int w)] _ _
    obtain ⟨hmn, rfl, ⟨j1, j2, hX⟩, h⟩ := h
    have hmn2 := hmn
    obtain ⟨i1, i2, rfl⟩ := hmn2
    have l201 : am_len 201 = 3760 := rfl
    have hR := hX.li.i
    have le1 := hX.li.e1
    have le0 := hX.li.e0
    have n0 := hR.n0
    have n1 := hR.n1
    have n030 : 0 ≤ (M.1 201 0).toInt ∧ (M.1 201 0).toInt ≤ 30 := ⟨n0.1, by omega⟩
    by_cases z0 : 0 ≤ l ∧ l < M.1 201 1
    rotate_left
    · skip
      have q0 : (if 0 ≤ l ∧ l < M.1 201 1 then (1 : Int32) else 0) = 0 := if_neg z0
      have e : r_owesV M l y k w = -2 := by unfold r_owesV; rw [if_neg (fun q => z0 (by first | exact q | (rw [le1]; exact q) | (rw [le0]; exact q)))]
      rw [e] at h
      repeat' (first | (with_reducible exact hmn) | (with_reducible exact n030) | (with_reducible exact n1) | apply And.intro | exact rfl | (intro hx; with_reducible exact absurd q0 hx) | (intro hx; exact absurd hx (by decide)) | (intro hx; exact absurd (by decide) hx) | decide | intro hx | (refine Exists.intro _ (And.intro rfl ?_)))
      all_goals try first | (with_reducible change am_tI _ _) | (change Ret _ _) | (change Ret _ _ _) | (change Exists _)
      all_goals try dsimp only at *
      all_goals try (with_reducible exact absurd ‹(1000 : Int64) = 0› am_z1000)
      all_goals exact h _ r_sc.rf hR
    · skip
      have q0 : ¬ ((if 0 ≤ l ∧ l < M.1 201 1 then (1 : Int32) else 0) = 0) := by rw [if_pos z0]; decide
      have y0 : 0 ≤ l ∧ l < M.1 201 1 := by first | exact z0 | (rw [← le1]; exact z0) | (rw [← le0]; exact z0)
      by_cases z1 : 0 ≤ y ∧ y < 40
      rotate_left
      · skip
        have q1 : (if 0 ≤ y ∧ y < 40 then (1 : Int32) else 0) = 0 := if_neg z1
        have e : r_owesV M l y k w = -2 := by unfold r_owesV; rw [if_pos y0, if_neg (fun q => z1 (by first | exact q | (rw [le1]; exact q) | (rw [le0]; exact q)))]
        rw [e] at h
        repeat' (first | (with_reducible exact hmn) | (with_reducible exact n030) | (with_reducible exact n1) | apply And.intro | exact rfl | (intro hx; with_reducible exact absurd hx q0) | (intro hx; with_reducible exact absurd q1 hx) | (intro hx; exact absurd hx (by decide)) | (intro hx; exact absurd (by decide) hx) | decide | intro hx | (refine Exists.intro _ (And.intro rfl ?_)))
        all_goals try first | (with_reducible change am_tI _ _) | (change Ret _ _) | (change Ret _ _ _) | (change Exists _)
        all_goals try dsimp only at *
        all_goals try (with_reducible exact absurd ‹(1000 : Int64) = 0› am_z1000)
        all_goals exact h _ r_sc.rf hR
      · skip
        have q1 : ¬ ((if 0 ≤ y ∧ y < 40 then (1 : Int32) else 0) = 0) := by rw [if_pos z1]; decide
        have y1 : 0 ≤ y ∧ y < 40 := by first | exact z1 | (rw [← le1]; exact z1) | (rw [← le0]; exact z1)
        by_cases z2 : 0 ≤ k ∧ k < 40
        rotate_left
        · skip
          have q2 : (if 0 ≤ k ∧ k < 40 then (1 : Int32) else 0) = 0 := if_neg z2
          have e : r_owesV M l y k w = -2 := by unfold r_owesV; rw [if_pos y0, if_pos y1, if_neg (fun q => z2 (by first | exact q | (rw [le1]; exact q) | (rw [le0]; exact q)))]
          rw [e] at h
          repeat' (first | (with_reducible exact hmn) | (with_reducible exact n030) | (with_reducible exact n1) | apply And.intro | exact rfl | (intro hx; with_reducible exact absurd hx q0) | (intro hx; with_reducible exact absurd hx q1) | (intro hx; with_reducible exact absurd q2 hx) | (intro hx; exact absurd hx (by decide)) | (intro hx; exact absurd (by decide) hx) | decide | intro hx | (refine Exists.intro _ (And.intro rfl ?_)))
          all_goals try first | (with_reducible change am_tI _ _) | (change Ret _ _) | (change Ret _ _ _) | (change Exists _)
          all_goals try dsimp only at *
          all_goals try (with_reducible exact absurd ‹(1000 : Int64) = 0› am_z1000)
          all_goals exact h _ r_sc.rf hR
        · skip
          have q2 : ¬ ((if 0 ≤ k ∧ k < 40 then (1 : Int32) else 0) = 0) := by rw [if_pos z2]; decide
          have y2 : 0 ≤ k ∧ k < 40 := by first | exact z2 | (rw [← le1]; exact z2) | (rw [← le0]; exact z2)
          by_cases z3 : 0 ≤ w ∧ w ≤ 4
          rotate_left
          · skip
            have q3 : (if (0 : Int64) ≤ w.toInt64 ∧ w.toInt64 ≤ (4 : Int64) then (1 : Int32) else 0) = 0 := if_neg (fun r => z3 (by simp only [i_le, i_lt, j_le, Int32.toInt_toInt64, Int32.reduceToInt, Int64.reduceToInt, Int32.toInt_zero] at r ⊢; omega))
            have e : r_owesV M l y k w = -2 := by unfold r_owesV; rw [if_pos y0, if_pos y1, if_pos y2, if_neg (fun q => z3 (by first | exact q | (rw [le1]; exact q) | (rw [le0]; exact q)))]
            rw [e] at h
            repeat' (first | (with_reducible exact hmn) | (with_reducible exact n030) | (with_reducible exact n1) | apply And.intro | exact rfl | (intro hx; with_reducible exact absurd hx q0) | (intro hx; with_reducible exact absurd hx q1) | (intro hx; with_reducible exact absurd hx q2) | (intro hx; with_reducible exact absurd q3 hx) | (intro hx; exact absurd hx (by decide)) | (intro hx; exact absurd (by decide) hx) | decide | intro hx | (refine Exists.intro _ (And.intro rfl ?_)))
            all_goals try first | (with_reducible change am_tI _ _) | (change Ret _ _) | (change Ret _ _ _) | (change Exists _)
            all_goals try dsimp only at *
            all_goals try (with_reducible exact absurd ‹(1000 : Int64) = 0› am_z1000)
            all_goals exact h _ r_sc.rf hR
          · skip
            have q3 : ¬ ((if (0 : Int64) ≤ w.toInt64 ∧ w.toInt64 ≤ (4 : Int64) then (1 : Int32) else 0) = 0) := by rw [if_pos (by have q := z3; simp only [i_le, i_lt, j_le, Int32.toInt_toInt64, Int32.reduceToInt, Int64.reduceToInt, Int32.toInt_zero] at q ⊢; omega)]; decide
            have y3 : 0 ≤ w ∧ w ≤ 4 := by first | exact z3 | (rw [← le1]; exact z3) | (rw [← le0]; exact z3)
            have e : r_owesV M l y k w = (r_R M (r_lo M l 0) k (y.toNatClampNeg + 1)).1 (30 * w.toNatClampNeg + l.toNatClampNeg) := by unfold r_owesV; rw [if_pos y0, if_pos y1, if_pos y2, if_pos y3]
            rw [e] at h
            have hl : am_in l 30 := ⟨by have q := y0.1; simp only [i_le, Int32.reduceToInt, Int32.toInt_zero] at q; omega, by have q := y0.2; simp only [i_lt] at q; omega⟩
            have hy : am_in y 40 := ⟨by have q := y1.1; simp only [i_le, Int32.reduceToInt, Int32.toInt_zero] at q; omega, by have q := y1.2; simp only [i_lt, Int32.reduceToInt] at q; omega⟩
            have hk : am_in k 40 := ⟨by have q := y2.1; simp only [i_le, Int32.reduceToInt, Int32.toInt_zero] at q; omega, by have q := y2.2; simp only [i_lt, Int32.reduceToInt] at q; omega⟩
            have hw : am_in w 5 := ⟨by have q := y3.1; simp only [i_le, Int32.reduceToInt, Int32.toInt_zero] at q; omega, by have q := y3.2; simp only [i_le, Int32.reduceToInt] at q; omega⟩
            have hp := r_pers hR hl
            have w0 : 0 ≤ (0 : Int32).toInt ∧ (0 : Int32).toInt ≤ 7 := ⟨by decide, by decide⟩
            have hoa := hX.roa (p := M.1 201 (2838 + 8 * l + 0).toNatClampNeg)
            have cy := i_clamp hy.1
            have cw := i_clamp hw.1
            have gl := g_cl hl
            have gw := g_cl hw
            have y39 : -1 ≤ y.toInt ∧ y.toInt ≤ 39 := ⟨by have := hy.1; omega, by have := hy.2; omega⟩
            repeat' (first | (with_reducible exact hmn) | (with_reducible exact n030) | (with_reducible exact n1) | (with_reducible exact hl) | (with_reducible exact hp) | (with_reducible exact hw) | (with_reducible exact w0) | (with_reducible exact y39) | (with_reducible exact hR) | (with_reducible exact hoa) | apply And.intro | exact rfl | (intro hx; with_reducible exact absurd hx q0) | (intro hx; with_reducible exact absurd hx q1) | (intro hx; with_reducible exact absurd hx q2) | (intro hx; with_reducible exact absurd hx q3) | ((with_reducible change r_I _); (with_reducible assumption)) | (intro hx; exact absurd hx (by decide)) | (intro hx; exact absurd (by decide) hx) | decide | intro hx | (refine Exists.intro _ (And.intro rfl ?_)))
            all_goals try first | (with_reducible change am_tI _ _) | (change Ret _ _) | (change Ret _ _ _) | (change Exists _)
            all_goals try dsimp only at *
            all_goals try (with_reducible exact absurd ‹(1000 : Int64) = 0› am_z1000)
            all_goals
              rename_i N s0 ky rN z0
              have e0 := hx
              refine am_rL (h N ky.sc rN) ?_
              have q := (r_R_of n1 e0 z0).1 (30 * w.toNatClampNeg + l.toNatClampNeg) (by omega)
              rw [q, show (y.toInt + 1).toNat = y.toNatClampNeg + 1 by omega]
  · exact h.elim
def r_allV (M : am_M) (p y k w : Int32) : Int64 := if 0 ≤ p ∧ p < M.1 201 0 then (if 0 ≤ y ∧ y < 40 then (if 0 ≤ k ∧ k < 40 then (if 0 ≤ w ∧ w ≤ 4 then z_tog (r_R M p k (y.toNatClampNeg + 1)).1 (30 * w.toNatClampNeg) (r_mine M p (r_n M)) else -2) else -2) else -2) else -2
def kX7_allE (live : am_E) (Ret : am_R) : am_code := [(0, am_aload 0 1), (1, am_iload 1 2), (2, am_callV live 7 1 TX7_isPerson 5), (5, am_if1 (fun x => x = 0) 32 8), (8, am_iload 2 9), (9, am_callS live 1 TX7_isYear 12), (12, am_if1 (fun x => x = 0) 32 15), (15, am_iload 3 16), (16, am_callS live 1 TX7_isYear 19), (19, am_if1 (fun x => x = 0) 32 22), (22, am_iload 4 24), (24, am_const (.int 0) 25), (25, am_const (.int 4) 26), (26, am_callS live 3 TX7_within 29), (29, am_if1 (fun x => x = 0) 32 36), (32, am_const (.long (-2)) 35), (35, am_retL Ret), (36, am_aload 0 37), (37, am_iload 1 38), (38, am_iload 2 39), (39, am_iload 3 40), (40, am_iload 4 42), (42, am_callV live 7 4 TE7_together 45), (45, am_retL Ret)]
theorem koX7_allE (live : am_E) (Ret : am_R) : ∀ q ∈ kX7_allE live Ret, am_ok RX7 cX7_all 5 (some .long) 6 148 live Ret q.1 q.2 :=
  am_kz dzX7_all <|
  am_kd (fun d => ak_aload_n d rfl rfl) <|
  am_kd (fun d => ak_iload_n d rfl rfl) <|
  am_kd (fun d => ak_callV (C := RX7) (F := TX7) (N := 4) metX7_isPerson rfl ⟨rfl, hy_X7_isPerson⟩ (am_w5 wd_414 wd_416 wd_0 wd_58 wd_417) (by decide) d rfl) <|
  am_kd (fun d => ak_if_eq d (by decide +kernel) rfl) <|
  am_kd (fun d => ak_iload_n d rfl rfl) <|
  am_kd (fun d => ak_callS metX7_isYear ⟨rfl, hy_X7_isYear⟩ (am_w4 wd_407 wd_408 wd_58 wd_409) (by decide) d rfl) <|
  am_kd (fun d => ak_if_eq d (by decide +kernel) rfl) <|
  am_kd (fun d => ak_iload_n d rfl rfl) <|
  am_kd (fun d => ak_callS metX7_isYear ⟨rfl, hy_X7_isYear⟩ (am_w4 wd_407 wd_408 wd_58 wd_409) (by decide) d rfl) <|
  am_kd (fun d => ak_if_eq d (by decide +kernel) rfl) <|
  am_kd (fun d => ak_iload d rfl) <|
  am_kd (fun d => ak_iconst d (by decide +kernel) rfl) <|
  am_kd (fun d => ak_iconst d (by decide +kernel) rfl) <|
  am_kd (fun d => ak_callS metX7_within ⟨rfl, hy_X7_within⟩ (am_w4 wd_418 wd_419 wd_58 wd_420) (by decide) d rfl) <|
  am_kd (fun d => ak_if_ne d (by decide +kernel) rfl) <|
  am_kd (fun d => ak_ldc2 wd_545 d rfl) <|
  am_kd (fun d => ak_retL d) <|
  am_kd (fun d => ak_aload_n d rfl rfl) <|
  am_kd (fun d => ak_iload_n d rfl rfl) <|
  am_kd (fun d => ak_iload_n d rfl rfl) <|
  am_kd (fun d => ak_iload_n d rfl rfl) <|
  am_kd (fun d => ak_iload d rfl) <|
  am_kd (fun d => ak_callV (C := RX7) (F := TX7) (N := 4) metX7_togetherE rfl ⟨rfl, hy_X7_together⟩ (am_w5 wd_645 wd_647 wd_12 wd_58 wd_648) (by decide) d rfl) <|
  am_kd (fun d => ak_retL d) <| am_kdn
def TE7_all : am_T := fun live as M R => match as with
  | [.ref n, .int p, .int y, .int k, .int w] => am_mn live ∧ n = 0 ∧ (∃ i1 i2, LX i1 i2 M) ∧ ∀ M', g_sc M M' → g_rI M' → R (some (.long (r_allV M p y k w))) M'
  | _ => False
set_option maxRecDepth 100000 in
set_option maxHeartbeats 4000000 in
theorem metX7_allE : am_Met yX7_all cX7_all 5 (some .long) (6) (148) TE7_all := by
  refine am_met (own := RX7) (by decide +kernel) rfl kX7_allE koX7_allE 200 (fun _ _ _ _ _ => none) (fun live as M Ret h => ?_) (fun _ _ _ _ _ _ _ _ hI => by cases hI)
  unfold TE7_all at h
  split at h
  · next n p y k w =>
    refine ⟨Nat.le_of_ble_eq_true rfl, ?_⟩
    change am_wp _ _ _ _ [(0, Value.ref n), (1, Value.int p), (2, Value.int y), (3, Value.int k), (4, Value.int w)] _ _
    obtain ⟨hmn, rfl, ⟨j1, j2, hX⟩, h⟩ := h
    have hmn2 := hmn
    obtain ⟨i1, i2, rfl⟩ := hmn2
    have hH := hX.li.h
    have hR := hX.li.g
    have hA := hX.li.cA
    have le1 := hX.li.e1
    have le0 := hX.li.e0
    have n1 := hX.li.n1
    have n0 := hX.li.n0
    have hn : 0 ≤ (M.1 33 2).toInt ∧ (M.1 33 2).toInt ≤ 30 := by rw [le1]; exact n1
    have htb := hX.t0
    by_cases z0 : 0 ≤ p ∧ p < M.1 21 7
    rotate_left
    · skip
      have q0 : (if 0 ≤ p ∧ p < M.1 21 7 then (1 : Int32) else 0) = 0 := if_neg z0
      have e : r_allV M p y k w = -2 := by unfold r_allV; rw [if_neg (fun q => z0 (by first | exact q | (rw [le1]; exact q) | (rw [le0]; exact q)))]
      rw [e] at h
      repeat' (first | (with_reducible exact hmn) | apply And.intro | exact rfl | (intro hx; with_reducible exact absurd q0 hx) | (intro hx; exact absurd hx (by decide)) | (intro hx; exact absurd (by decide) hx) | decide | intro hx | (refine Exists.intro _ (And.intro rfl ?_)))
      all_goals try first | (with_reducible change am_tI _ _) | (change Ret _ _) | (change Ret _ _ _) | (change Exists _)
      all_goals try dsimp only at *
      all_goals try (with_reducible exact absurd ‹(1000 : Int64) = 0› am_z1000)
      all_goals exact h _ g_sc.rf hR
    · skip
      have q0 : ¬ ((if 0 ≤ p ∧ p < M.1 21 7 then (1 : Int32) else 0) = 0) := by rw [if_pos z0]; decide
      have y0 : 0 ≤ p ∧ p < M.1 201 0 := by first | exact z0 | (rw [← le1]; exact z0) | (rw [← le0]; exact z0)
      by_cases z1 : 0 ≤ y ∧ y < 40
      rotate_left
      · skip
        have q1 : (if 0 ≤ y ∧ y < 40 then (1 : Int32) else 0) = 0 := if_neg z1
        have e : r_allV M p y k w = -2 := by unfold r_allV; rw [if_pos y0, if_neg (fun q => z1 (by first | exact q | (rw [le1]; exact q) | (rw [le0]; exact q)))]
        rw [e] at h
        repeat' (first | (with_reducible exact hmn) | apply And.intro | exact rfl | (intro hx; with_reducible exact absurd hx q0) | (intro hx; with_reducible exact absurd q1 hx) | (intro hx; exact absurd hx (by decide)) | (intro hx; exact absurd (by decide) hx) | decide | intro hx | (refine Exists.intro _ (And.intro rfl ?_)))
        all_goals try first | (with_reducible change am_tI _ _) | (change Ret _ _) | (change Ret _ _ _) | (change Exists _)
        all_goals try dsimp only at *
        all_goals try (with_reducible exact absurd ‹(1000 : Int64) = 0› am_z1000)
        all_goals exact h _ g_sc.rf hR
      · skip
        have q1 : ¬ ((if 0 ≤ y ∧ y < 40 then (1 : Int32) else 0) = 0) := by rw [if_pos z1]; decide
        have y1 : 0 ≤ y ∧ y < 40 := by first | exact z1 | (rw [← le1]; exact z1) | (rw [← le0]; exact z1)
        by_cases z2 : 0 ≤ k ∧ k < 40
        rotate_left
        · skip
          have q2 : (if 0 ≤ k ∧ k < 40 then (1 : Int32) else 0) = 0 := if_neg z2
          have e : r_allV M p y k w = -2 := by unfold r_allV; rw [if_pos y0, if_pos y1, if_neg (fun q => z2 (by first | exact q | (rw [le1]; exact q) | (rw [le0]; exact q)))]
          rw [e] at h
          repeat' (first | (with_reducible exact hmn) | apply And.intro | exact rfl | (intro hx; with_reducible exact absurd hx q0) | (intro hx; with_reducible exact absurd hx q1) | (intro hx; with_reducible exact absurd q2 hx) | (intro hx; exact absurd hx (by decide)) | (intro hx; exact absurd (by decide) hx) | decide | intro hx | (refine Exists.intro _ (And.intro rfl ?_)))
          all_goals try first | (with_reducible change am_tI _ _) | (change Ret _ _) | (change Ret _ _ _) | (change Exists _)
          all_goals try dsimp only at *
          all_goals try (with_reducible exact absurd ‹(1000 : Int64) = 0› am_z1000)
          all_goals exact h _ g_sc.rf hR
        · skip
          have q2 : ¬ ((if 0 ≤ k ∧ k < 40 then (1 : Int32) else 0) = 0) := by rw [if_pos z2]; decide
          have y2 : 0 ≤ k ∧ k < 40 := by first | exact z2 | (rw [← le1]; exact z2) | (rw [← le0]; exact z2)
          by_cases z3 : 0 ≤ w ∧ w ≤ 4
          rotate_left
          · skip
            have q3 : (if 0 ≤ w ∧ w ≤ 4 then (1 : Int32) else 0) = 0 := if_neg z3
            have e : r_allV M p y k w = -2 := by unfold r_allV; rw [if_pos y0, if_pos y1, if_pos y2, if_neg (fun q => z3 (by first | exact q | (rw [le1]; exact q) | (rw [le0]; exact q)))]
            rw [e] at h
            repeat' (first | (with_reducible exact hmn) | apply And.intro | exact rfl | (intro hx; with_reducible exact absurd hx q0) | (intro hx; with_reducible exact absurd hx q1) | (intro hx; with_reducible exact absurd hx q2) | (intro hx; with_reducible exact absurd q3 hx) | (intro hx; exact absurd hx (by decide)) | (intro hx; exact absurd (by decide) hx) | decide | intro hx | (refine Exists.intro _ (And.intro rfl ?_)))
            all_goals try first | (with_reducible change am_tI _ _) | (change Ret _ _) | (change Ret _ _ _) | (change Exists _)
            all_goals try dsimp only at *
            all_goals try (with_reducible exact absurd ‹(1000 : Int64) = 0› am_z1000)
            all_goals exact h _ g_sc.rf hR
          · skip
            have q3 : ¬ ((if 0 ≤ w ∧ w ≤ 4 then (1 : Int32) else 0) = 0) := by rw [if_pos z3]; decide
            have y3 : 0 ≤ w ∧ w ≤ 4 := by first | exact z3 | (rw [← le1]; exact z3) | (rw [← le0]; exact z3)
            have e : r_allV M p y k w = z_tog (r_R M p k (y.toNatClampNeg + 1)).1 (30 * w.toNatClampNeg) (r_mine M p (r_n M)) := by unfold r_allV; rw [if_pos y0, if_pos y1, if_pos y2, if_pos y3]
            rw [e] at h
            have hp : am_in p 12 := ⟨by have q := y0.1; simp only [i_le, Int32.reduceToInt, Int32.toInt_zero] at q; omega, by have q := y0.2; simp only [i_lt] at q; omega⟩
            have hy : am_in y 40 := ⟨by have q := y1.1; simp only [i_le, Int32.reduceToInt, Int32.toInt_zero] at q; omega, by have q := y1.2; simp only [i_lt, Int32.reduceToInt] at q; omega⟩
            have hk : am_in k 40 := ⟨by have q := y2.1; simp only [i_le, Int32.reduceToInt, Int32.toInt_zero] at q; omega, by have q := y2.2; simp only [i_lt, Int32.reduceToInt] at q; omega⟩
            have hw : am_in w 5 := ⟨by have q := y3.1; simp only [i_le, Int32.reduceToInt, Int32.toInt_zero] at q; omega, by have q := y3.2; simp only [i_le, Int32.reduceToInt] at q; omega⟩
            have hw6 : am_in w 6 := ⟨hw.1, by have := hw.2; omega⟩
            have hp2 : p.toInt < (M.1 201 0).toInt := by have q := y0.2; rw [i_lt] at q; exact q
            repeat' (first | (with_reducible exact hmn) | (with_reducible exact hp) | (with_reducible exact hp2) | (with_reducible exact hy) | (with_reducible exact hk) | (with_reducible exact hw6) | apply And.intro | exact rfl | (intro hx; with_reducible exact absurd hx q0) | (intro hx; with_reducible exact absurd hx q1) | (intro hx; with_reducible exact absurd hx q2) | (intro hx; with_reducible exact absurd hx q3) | (intro hx; exact absurd hx (by decide)) | (intro hx; exact absurd (by decide) hx) | decide | intro hx | (refine Exists.intro _ (And.intro rfl ?_)))
            all_goals try first | (with_reducible change am_tI _ _) | (change Ret _ _) | (change Ret _ _ _) | (change Exists _)
            all_goals try dsimp only at *
            all_goals try (with_reducible exact absurd ‹(1000 : Int64) = 0› am_z1000)
            all_goals first
              | exact ⟨_, _, hX⟩
              | exact h _ (by with_reducible assumption) (by with_reducible assumption)
              | skip
  · exact h.elim
def kX8_allE (live : am_E) (Ret : am_R) : am_code := [(0, am_aload 0 1), (1, am_iload 1 2), (2, am_callV live 8 1 TX8_isPerson 5), (5, am_if1 (fun x => x = 0) 35 8), (8, am_iload 2 9), (9, am_callS live 1 TX8_isYear 12), (12, am_if1 (fun x => x = 0) 35 15), (15, am_iload 3 16), (16, am_callS live 1 TX8_isYear 19), (19, am_if1 (fun x => x = 0) 35 22), (22, am_iload 4 24), (24, am_i2l 25), (25, am_const (.long 0) 26), (26, am_const (.long 4) 29), (29, am_callS live 3 TX8_in 32), (32, am_if1 (fun x => x = 0) 35 39), (35, am_const (.long (-2)) 38), (38, am_retL Ret), (39, am_aload 0 40), (40, am_iload 1 41), (41, am_iload 2 42), (42, am_iload 3 43), (43, am_callV live 8 3 TE8_run 46), (46, am_aload 0 47), (47, am_iload 1 48), (48, am_iload 4 50), (50, am_callV live 8 2 TE8_allOf 53), (53, am_retL Ret)]
theorem koX8_allE (live : am_E) (Ret : am_R) : ∀ q ∈ kX8_allE live Ret, am_ok RX8 cX8_all 5 (some .long) 10 253 live Ret q.1 q.2 :=
  am_kz dzX8_all <|
  am_kd (fun d => ak_aload_n d rfl rfl) <|
  am_kd (fun d => ak_iload_n d rfl rfl) <|
  am_kd (fun d => ak_callV (C := RX8) (F := TX8) (N := 27) metX8_isPerson rfl ⟨rfl, hy_X8_isPerson⟩ (am_w5 wd_993 wd_995 wd_27 wd_67 wd_996) (by decide) d rfl) <|
  am_kd (fun d => ak_if_eq d (by decide +kernel) rfl) <|
  am_kd (fun d => ak_iload_n d rfl rfl) <|
  am_kd (fun d => ak_callS metX8_isYear ⟨rfl, hy_X8_isYear⟩ (am_w4 wd_982 wd_983 wd_67 wd_984) (by decide) d rfl) <|
  am_kd (fun d => ak_if_eq d (by decide +kernel) rfl) <|
  am_kd (fun d => ak_iload_n d rfl rfl) <|
  am_kd (fun d => ak_callS metX8_isYear ⟨rfl, hy_X8_isYear⟩ (am_w4 wd_982 wd_983 wd_67 wd_984) (by decide) d rfl) <|
  am_kd (fun d => ak_if_eq d (by decide +kernel) rfl) <|
  am_kd (fun d => ak_iload d rfl) <|
  am_kd (fun d => ak_i2l d rfl) <|
  am_kd (fun d => ak_lconst d (by decide +kernel) rfl) <|
  am_kd (fun d => ak_ldc2 wd_1037 d rfl) <|
  am_kd (fun d => ak_callS metX8_in ⟨rfl, hy_X8_in⟩ (am_w4 wd_986 wd_987 wd_67 wd_988) (by decide) d rfl) <|
  am_kd (fun d => ak_if_ne d (by decide +kernel) rfl) <|
  am_kd (fun d => ak_ldc2 wd_1153 d rfl) <|
  am_kd (fun d => ak_retL d) <|
  am_kd (fun d => ak_aload_n d rfl rfl) <|
  am_kd (fun d => ak_iload_n d rfl rfl) <|
  am_kd (fun d => ak_iload_n d rfl rfl) <|
  am_kd (fun d => ak_iload_n d rfl rfl) <|
  am_kd (fun d => ak_callV (C := RX8) (F := TX8) (N := 27) metX8_runE rfl ⟨rfl, hy_X8_run⟩ (am_w5 wd_1158 wd_1160 wd_42 wd_67 wd_1161) (by decide) d rfl) <|
  am_kd (fun d => ak_aload_n d rfl rfl) <|
  am_kd (fun d => ak_iload_n d rfl rfl) <|
  am_kd (fun d => ak_iload d rfl) <|
  am_kd (fun d => ak_callV (C := RX8) (F := TX8) (N := 27) metX8_allOfE rfl ⟨rfl, hy_X8_allOf⟩ (am_w5 wd_1195 wd_1197 wd_50 wd_67 wd_1198) (by decide) d rfl) <|
  am_kd (fun d => ak_retL d) <| am_kdn
def TE8_all : am_T := fun live as M R => match as with
  | [.ref n, .int p, .int y, .int k, .int w] => am_mn live ∧ n = 200 ∧ (∃ i1 i2, LX i1 i2 M) ∧ ∀ M', r_sc M M' → r_I M' → R (some (.long (r_allV M p y k w))) M'
  | _ => False
set_option maxRecDepth 100000 in
set_option maxHeartbeats 4000000 in
theorem metX8_allE : am_Met yX8_all cX8_all 5 (some .long) (10) (253) TE8_all := by
  refine am_met (own := RX8) (by decide +kernel) rfl kX8_allE koX8_allE 200 (fun _ _ _ _ _ => none) (fun live as M Ret h => ?_) (fun _ _ _ _ _ _ _ _ hI => by cases hI)
  unfold TE8_all at h
  split at h
  · next n p y k w =>
    refine ⟨Nat.le_of_ble_eq_true rfl, ?_⟩
    change am_wp _ _ _ _ [(0, Value.ref n), (1, Value.int p), (2, Value.int y), (3, Value.int k), (4, Value.int w)] _ _
    obtain ⟨hmn, rfl, ⟨j1, j2, hX⟩, h⟩ := h
    have hmn2 := hmn
    obtain ⟨i1, i2, rfl⟩ := hmn2
    have l201 : am_len 201 = 3760 := rfl
    have hR := hX.li.i
    have le1 := hX.li.e1
    have le0 := hX.li.e0
    have n0 := hR.n0
    have n1 := hR.n1
    have n030 : 0 ≤ (M.1 201 0).toInt ∧ (M.1 201 0).toInt ≤ 30 := ⟨n0.1, by omega⟩
    by_cases z0 : 0 ≤ p ∧ p < M.1 201 0
    rotate_left
    · skip
      have q0 : (if 0 ≤ p ∧ p < M.1 201 0 then (1 : Int32) else 0) = 0 := if_neg z0
      have e : r_allV M p y k w = -2 := by unfold r_allV; rw [if_neg (fun q => z0 (by first | exact q | (rw [le1]; exact q) | (rw [le0]; exact q)))]
      rw [e] at h
      repeat' (first | (with_reducible exact hmn) | (with_reducible exact n030) | (with_reducible exact n1) | apply And.intro | exact rfl | (intro hx; with_reducible exact absurd q0 hx) | (intro hx; exact absurd hx (by decide)) | (intro hx; exact absurd (by decide) hx) | decide | intro hx | (refine Exists.intro _ (And.intro rfl ?_)))
      all_goals try first | (with_reducible change am_tI _ _) | (change Ret _ _) | (change Ret _ _ _) | (change Exists _)
      all_goals try dsimp only at *
      all_goals try (with_reducible exact absurd ‹(1000 : Int64) = 0› am_z1000)
      all_goals exact h _ r_sc.rf hR
    · skip
      have q0 : ¬ ((if 0 ≤ p ∧ p < M.1 201 0 then (1 : Int32) else 0) = 0) := by rw [if_pos z0]; decide
      have y0 : 0 ≤ p ∧ p < M.1 201 0 := by first | exact z0 | (rw [← le1]; exact z0) | (rw [← le0]; exact z0)
      by_cases z1 : 0 ≤ y ∧ y < 40
      rotate_left
      · skip
        have q1 : (if 0 ≤ y ∧ y < 40 then (1 : Int32) else 0) = 0 := if_neg z1
        have e : r_allV M p y k w = -2 := by unfold r_allV; rw [if_pos y0, if_neg (fun q => z1 (by first | exact q | (rw [le1]; exact q) | (rw [le0]; exact q)))]
        rw [e] at h
        repeat' (first | (with_reducible exact hmn) | (with_reducible exact n030) | (with_reducible exact n1) | apply And.intro | exact rfl | (intro hx; with_reducible exact absurd hx q0) | (intro hx; with_reducible exact absurd q1 hx) | (intro hx; exact absurd hx (by decide)) | (intro hx; exact absurd (by decide) hx) | decide | intro hx | (refine Exists.intro _ (And.intro rfl ?_)))
        all_goals try first | (with_reducible change am_tI _ _) | (change Ret _ _) | (change Ret _ _ _) | (change Exists _)
        all_goals try dsimp only at *
        all_goals try (with_reducible exact absurd ‹(1000 : Int64) = 0› am_z1000)
        all_goals exact h _ r_sc.rf hR
      · skip
        have q1 : ¬ ((if 0 ≤ y ∧ y < 40 then (1 : Int32) else 0) = 0) := by rw [if_pos z1]; decide
        have y1 : 0 ≤ y ∧ y < 40 := by first | exact z1 | (rw [← le1]; exact z1) | (rw [← le0]; exact z1)
        by_cases z2 : 0 ≤ k ∧ k < 40
        rotate_left
        · skip
          have q2 : (if 0 ≤ k ∧ k < 40 then (1 : Int32) else 0) = 0 := if_neg z2
          have e : r_allV M p y k w = -2 := by unfold r_allV; rw [if_pos y0, if_pos y1, if_neg (fun q => z2 (by first | exact q | (rw [le1]; exact q) | (rw [le0]; exact q)))]
          rw [e] at h
          repeat' (first | (with_reducible exact hmn) | (with_reducible exact n030) | (with_reducible exact n1) | apply And.intro | exact rfl | (intro hx; with_reducible exact absurd hx q0) | (intro hx; with_reducible exact absurd hx q1) | (intro hx; with_reducible exact absurd q2 hx) | (intro hx; exact absurd hx (by decide)) | (intro hx; exact absurd (by decide) hx) | decide | intro hx | (refine Exists.intro _ (And.intro rfl ?_)))
          all_goals try first | (with_reducible change am_tI _ _) | (change Ret _ _) | (change Ret _ _ _) | (change Exists _)
          all_goals try dsimp only at *
          all_goals try (with_reducible exact absurd ‹(1000 : Int64) = 0› am_z1000)
          all_goals exact h _ r_sc.rf hR
        · skip
          have q2 : ¬ ((if 0 ≤ k ∧ k < 40 then (1 : Int32) else 0) = 0) := by rw [if_pos z2]; decide
          have y2 : 0 ≤ k ∧ k < 40 := by first | exact z2 | (rw [← le1]; exact z2) | (rw [← le0]; exact z2)
          by_cases z3 : 0 ≤ w ∧ w ≤ 4
          rotate_left
          · skip
            have q3 : (if (0 : Int64) ≤ w.toInt64 ∧ w.toInt64 ≤ (4 : Int64) then (1 : Int32) else 0) = 0 := if_neg (fun r => z3 (by simp only [i_le, i_lt, j_le, Int32.toInt_toInt64, Int32.reduceToInt, Int64.reduceToInt, Int32.toInt_zero] at r ⊢; omega))
            have e : r_allV M p y k w = -2 := by unfold r_allV; rw [if_pos y0, if_pos y1, if_pos y2, if_neg (fun q => z3 (by first | exact q | (rw [le1]; exact q) | (rw [le0]; exact q)))]
            rw [e] at h
            repeat' (first | (with_reducible exact hmn) | (with_reducible exact n030) | (with_reducible exact n1) | apply And.intro | exact rfl | (intro hx; with_reducible exact absurd hx q0) | (intro hx; with_reducible exact absurd hx q1) | (intro hx; with_reducible exact absurd hx q2) | (intro hx; with_reducible exact absurd q3 hx) | (intro hx; exact absurd hx (by decide)) | (intro hx; exact absurd (by decide) hx) | decide | intro hx | (refine Exists.intro _ (And.intro rfl ?_)))
            all_goals try first | (with_reducible change am_tI _ _) | (change Ret _ _) | (change Ret _ _ _) | (change Exists _)
            all_goals try dsimp only at *
            all_goals try (with_reducible exact absurd ‹(1000 : Int64) = 0› am_z1000)
            all_goals exact h _ r_sc.rf hR
          · skip
            have q3 : ¬ ((if (0 : Int64) ≤ w.toInt64 ∧ w.toInt64 ≤ (4 : Int64) then (1 : Int32) else 0) = 0) := by rw [if_pos (by have q := z3; simp only [i_le, i_lt, j_le, Int32.toInt_toInt64, Int32.reduceToInt, Int64.reduceToInt, Int32.toInt_zero] at q ⊢; omega)]; decide
            have y3 : 0 ≤ w ∧ w ≤ 4 := by first | exact z3 | (rw [← le1]; exact z3) | (rw [← le0]; exact z3)
            have e : r_allV M p y k w = z_tog (r_R M p k (y.toNatClampNeg + 1)).1 (30 * w.toNatClampNeg) (r_mine M p (r_n M)) := by unfold r_allV; rw [if_pos y0, if_pos y1, if_pos y2, if_pos y3]
            rw [e] at h
            have hp : am_in p 12 := ⟨by have q := y0.1; simp only [i_le, Int32.reduceToInt, Int32.toInt_zero] at q; omega, by have q := y0.2; simp only [i_lt] at q; omega⟩
            have hy : am_in y 40 := ⟨by have q := y1.1; simp only [i_le, Int32.reduceToInt, Int32.toInt_zero] at q; omega, by have q := y1.2; simp only [i_lt, Int32.reduceToInt] at q; omega⟩
            have hk : am_in k 40 := ⟨by have q := y2.1; simp only [i_le, Int32.reduceToInt, Int32.toInt_zero] at q; omega, by have q := y2.2; simp only [i_lt, Int32.reduceToInt] at q; omega⟩
            have hw : am_in w 5 := ⟨by have q := y3.1; simp only [i_le, Int32.reduceToInt, Int32.toInt_zero] at q; omega, by have q := y3.2; simp only [i_le, Int32.reduceToInt] at q; omega⟩
            have hoa := hX.roa (p := p)
            have cy := i_clamp hy.1
            have cw := i_clamp hw.1
            have gw := g_cl hw
            have y39 : -1 ≤ y.toInt ∧ y.toInt ≤ 39 := ⟨by have := hy.1; omega, by have := hy.2; omega⟩
            repeat' (first | (with_reducible exact hmn) | (with_reducible exact n030) | (with_reducible exact n1) | (with_reducible exact hp) | (with_reducible exact hw) | (with_reducible exact y39) | (with_reducible exact hR) | (with_reducible exact hoa) | apply And.intro | exact rfl | (intro hx; with_reducible exact absurd hx q0) | (intro hx; with_reducible exact absurd hx q1) | (intro hx; with_reducible exact absurd hx q2) | (intro hx; with_reducible exact absurd hx q3) | ((with_reducible change r_I _); (with_reducible assumption)) | (intro hx; exact absurd hx (by decide)) | (intro hx; exact absurd (by decide) hx) | decide | intro hx | (refine Exists.intro _ (And.intro rfl ?_)))
            all_goals try first | (with_reducible change am_tI _ _) | (change Ret _ _) | (change Ret _ _ _) | (change Exists _)
            all_goals try dsimp only at *
            all_goals try (with_reducible exact absurd ‹(1000 : Int64) = 0› am_z1000)
            all_goals
              rename_i N s0 ky rN z0
              have e0 := hx
              refine am_rL (h N ky.sc rN) ?_
              have c201 : N.1 201 = M.1 201 := funext fun b => ky.i (by decide) (by decide) (Or.inl (by decide))
              rw [r_mine_cg c201, show (y.toNatClampNeg + 1) = (y.toInt + 1).toNat by omega]
              unfold z_tog
              exact z_tog_cg (fun x hxm => ((r_R_of n1 e0 z0).1 _ (by have q := g_cl (r_mine_z n1 hxm).1; omega)).symm)
  · exact h.elim
def r_rateV (M : am_M) (l y k : Int32) : Int32 := if 0 ≤ l ∧ l < M.1 201 1 then (if 0 ≤ y ∧ y < 40 then (if 0 ≤ k ∧ k < 40 then r_rt M l y (r_known M (r_lo M l 0) y k) (r_la M (r_lo M l 0) y) ((r_R M (r_lo M l 0) k y.toNatClampNeg).1 l.toNatClampNeg) else -2) else -2) else -2
def kX7_rateE (live : am_E) (Ret : am_R) : am_code := [(0, am_aload 0 1), (1, am_iload 1 2), (2, am_callV live 7 1 TX7_isLoan 5), (5, am_if1 (fun x => x = 0) 22 8), (8, am_iload 2 9), (9, am_callS live 1 TX7_isYear 12), (12, am_if1 (fun x => x = 0) 22 15), (15, am_iload 3 16), (16, am_callS live 1 TX7_isYear 19), (19, am_if1 (fun x => x = 0) 22 25), (22, am_const (.int (-2)) 24), (24, am_retI Ret), (25, am_aload 0 26), (26, am_getR live 7 2 29), (29, am_aload 0 30), (30, am_getR live 7 0 33), (33, am_getR live 0 4 36), (36, am_iload 1 37), (37, am_const (.int 0) 38), (38, am_callV live 3 2 TX3_at 41), (41, am_iload 3 42), (42, am_callV live 4 2 TE4_begin 45), (45, am_aload 0 46), (46, am_getR live 7 2 49), (49, am_iload 2 50), (50, am_const (.int 1) 51), (51, am_i2 (fun x y => x - y) 52), (52, am_callV live 4 1 TE4_go 55), (55, am_aload 0 56), (56, am_getR live 7 2 59), (59, am_iload 2 60), (60, am_callV live 4 1 TE4_look 63), (63, am_aload 0 64), (64, am_getR live 7 2 67), (67, am_iload 1 68), (68, am_iload 2 69), (69, am_callV live 4 2 TE4_rateOf 72), (72, am_retI Ret)]
theorem koX7_rateE (live : am_E) (Ret : am_R) : ∀ q ∈ kX7_rateE live Ret, am_ok RX7 cX7_rate 4 (some .int) 5 124 live Ret q.1 q.2 :=
  am_kz dzX7_rate <|
  am_kd (fun d => ak_aload_n d rfl rfl) <|
  am_kd (fun d => ak_iload_n d rfl rfl) <|
  am_kd (fun d => ak_callV (C := RX7) (F := TX7) (N := 4) metX7_isLoan rfl ⟨rfl, hy_X7_isLoan⟩ (am_w5 wd_520 wd_522 wd_2 wd_58 wd_523) (by decide) d rfl) <|
  am_kd (fun d => ak_if_eq d (by decide +kernel) rfl) <|
  am_kd (fun d => ak_iload_n d rfl rfl) <|
  am_kd (fun d => ak_callS metX7_isYear ⟨rfl, hy_X7_isYear⟩ (am_w4 wd_407 wd_408 wd_58 wd_409) (by decide) d rfl) <|
  am_kd (fun d => ak_if_eq d (by decide +kernel) rfl) <|
  am_kd (fun d => ak_iload_n d rfl rfl) <|
  am_kd (fun d => ak_callS metX7_isYear ⟨rfl, hy_X7_isYear⟩ (am_w4 wd_407 wd_408 wd_58 wd_409) (by decide) d rfl) <|
  am_kd (fun d => ak_if_ne d (by decide +kernel) rfl) <|
  am_kd (fun d => ak_bipush d (by decide +kernel) rfl) <|
  am_kd (fun d => ak_retI d) <|
  am_kd (fun d => ak_aload_n d rfl rfl) <|
  am_kd (fun d => ak_getR (C := RX7) (T := TX7) (N := 4) rfl inX7w (by decide) rfl rfl rfl wd_392 d rfl) <|
  am_kd (fun d => ak_aload_n d rfl rfl) <|
  am_kd (fun d => ak_getR (C := RX7) (T := TX7) (N := 4) rfl inX7w (by decide) rfl rfl rfl wd_390 d rfl) <|
  am_kd (fun d => ak_getR (C := RX0) (T := TX0) (N := 13) rfl inX0w (by decide) rfl rfl rfl wd_207 d rfl) <|
  am_kd (fun d => ak_iload_n d rfl rfl) <|
  am_kd (fun d => ak_iconst d (by decide +kernel) rfl) <|
  am_kd (fun d => ak_callV (C := RX3) (F := TX3) (N := 3) metX3_at rfl ⟨rfl, hy_X3_at⟩ (am_w5 wd_524 wd_503 wd_504 wd_64 wd_505) (by decide) d rfl) <|
  am_kd (fun d => ak_iload_n d rfl rfl) <|
  am_kd (fun d => ak_callV (C := RX4) (F := TX4) (N := 19) metX4_beginE rfl ⟨rfl, hy_X4_begin⟩ (am_w5 wd_546 wd_547 wd_548 wd_60 wd_549) (by decide) d rfl) <|
  am_kd (fun d => ak_aload_n d rfl rfl) <|
  am_kd (fun d => ak_getR (C := RX7) (T := TX7) (N := 4) rfl inX7w (by decide) rfl rfl rfl wd_392 d rfl) <|
  am_kd (fun d => ak_iload_n d rfl rfl) <|
  am_kd (fun d => ak_iconst d (by decide +kernel) rfl) <|
  am_kd (fun d => ak_isub d rfl) <|
  am_kd (fun d => ak_callV (C := RX4) (F := TX4) (N := 19) metX4_goE rfl ⟨rfl, hy_X4_go⟩ (am_w5 wd_559 wd_560 wd_561 wd_60 wd_562) (by decide) d rfl) <|
  am_kd (fun d => ak_aload_n d rfl rfl) <|
  am_kd (fun d => ak_getR (C := RX7) (T := TX7) (N := 4) rfl inX7w (by decide) rfl rfl rfl wd_392 d rfl) <|
  am_kd (fun d => ak_iload_n d rfl rfl) <|
  am_kd (fun d => ak_callV (C := RX4) (F := TX4) (N := 19) metX4_lookE rfl ⟨rfl, hy_X4_look⟩ (am_w5 wd_657 wd_564 wd_565 wd_60 wd_566) (by decide) d rfl) <|
  am_kd (fun d => ak_aload_n d rfl rfl) <|
  am_kd (fun d => ak_getR (C := RX7) (T := TX7) (N := 4) rfl inX7w (by decide) rfl rfl rfl wd_392 d rfl) <|
  am_kd (fun d => ak_iload_n d rfl rfl) <|
  am_kd (fun d => ak_iload_n d rfl rfl) <|
  am_kd (fun d => ak_callV (C := RX4) (F := TX4) (N := 19) metX4_rateOfE rfl ⟨rfl, hy_X4_rateOf⟩ (am_w5 wd_658 wd_589 wd_590 wd_60 wd_591) (by decide) d rfl) <|
  am_kd (fun d => ak_retI d) <| am_kdn
def TE7_rate : am_T := fun live as M R => match as with
  | [.ref n, .int l, .int y, .int k] => am_mn live ∧ n = 0 ∧ (∃ i1 i2, LX i1 i2 M) ∧ ∀ M', g_sc M M' → g_rI M' → R (some (.int (r_rateV M l y k))) M'
  | _ => False
set_option maxRecDepth 100000 in
set_option maxHeartbeats 4000000 in
theorem metX7_rateE : am_Met yX7_rate cX7_rate 4 (some .int) (5) (124) TE7_rate := by
  refine am_met (own := RX7) (by decide +kernel) rfl kX7_rateE koX7_rateE 200 (fun _ _ _ _ _ => none) (fun live as M Ret h => ?_) (fun _ _ _ _ _ _ _ _ hI => by cases hI)
  unfold TE7_rate at h
  split at h
  · next n l y k =>
    refine ⟨Nat.le_of_ble_eq_true rfl, ?_⟩
    change am_wp _ _ _ _ [(0, Value.ref n), (1, Value.int l), (2, Value.int y), (3, Value.int k)] _ _
    obtain ⟨hmn, rfl, ⟨j1, j2, hX⟩, h⟩ := h
    have hmn2 := hmn
    obtain ⟨i1, i2, rfl⟩ := hmn2
    have hH := hX.li.h
    have hR := hX.li.g
    have hA := hX.li.cA
    have le1 := hX.li.e1
    have le0 := hX.li.e0
    have n1 := hX.li.n1
    have n0 := hX.li.n0
    have hn : 0 ≤ (M.1 33 2).toInt ∧ (M.1 33 2).toInt ≤ 30 := by rw [le1]; exact n1
    have htb := hX.t0
    by_cases z0 : 0 ≤ l ∧ l < M.1 33 2
    rotate_left
    · skip
      have q0 : (if 0 ≤ l ∧ l < M.1 33 2 then (1 : Int32) else 0) = 0 := if_neg z0
      have e : r_rateV M l y k = -2 := by unfold r_rateV; rw [if_neg (fun q => z0 (by first | exact q | (rw [le1]; exact q) | (rw [le0]; exact q)))]
      rw [e] at h
      repeat' (first | (with_reducible exact hmn) | apply And.intro | exact rfl | (intro hx; with_reducible exact absurd q0 hx) | (intro hx; exact absurd hx (by decide)) | (intro hx; exact absurd (by decide) hx) | decide | intro hx | (refine Exists.intro _ (And.intro rfl ?_)))
      all_goals try first | (with_reducible change am_tI _ _) | (change Ret _ _) | (change Ret _ _ _) | (change Exists _)
      all_goals try dsimp only at *
      all_goals try (with_reducible exact absurd ‹(1000 : Int64) = 0› am_z1000)
      all_goals exact h _ g_sc.rf hR
    · skip
      have q0 : ¬ ((if 0 ≤ l ∧ l < M.1 33 2 then (1 : Int32) else 0) = 0) := by rw [if_pos z0]; decide
      have y0 : 0 ≤ l ∧ l < M.1 201 1 := by first | exact z0 | (rw [← le1]; exact z0) | (rw [← le0]; exact z0)
      by_cases z1 : 0 ≤ y ∧ y < 40
      rotate_left
      · skip
        have q1 : (if 0 ≤ y ∧ y < 40 then (1 : Int32) else 0) = 0 := if_neg z1
        have e : r_rateV M l y k = -2 := by unfold r_rateV; rw [if_pos y0, if_neg (fun q => z1 (by first | exact q | (rw [le1]; exact q) | (rw [le0]; exact q)))]
        rw [e] at h
        repeat' (first | (with_reducible exact hmn) | apply And.intro | exact rfl | (intro hx; with_reducible exact absurd hx q0) | (intro hx; with_reducible exact absurd q1 hx) | (intro hx; exact absurd hx (by decide)) | (intro hx; exact absurd (by decide) hx) | decide | intro hx | (refine Exists.intro _ (And.intro rfl ?_)))
        all_goals try first | (with_reducible change am_tI _ _) | (change Ret _ _) | (change Ret _ _ _) | (change Exists _)
        all_goals try dsimp only at *
        all_goals try (with_reducible exact absurd ‹(1000 : Int64) = 0› am_z1000)
        all_goals exact h _ g_sc.rf hR
      · skip
        have q1 : ¬ ((if 0 ≤ y ∧ y < 40 then (1 : Int32) else 0) = 0) := by rw [if_pos z1]; decide
        have y1 : 0 ≤ y ∧ y < 40 := by first | exact z1 | (rw [← le1]; exact z1) | (rw [← le0]; exact z1)
        by_cases z2 : 0 ≤ k ∧ k < 40
        rotate_left
        · skip
          have q2 : (if 0 ≤ k ∧ k < 40 then (1 : Int32) else 0) = 0 := if_neg z2
          have e : r_rateV M l y k = -2 := by unfold r_rateV; rw [if_pos y0, if_pos y1, if_neg (fun q => z2 (by first | exact q | (rw [le1]; exact q) | (rw [le0]; exact q)))]
          rw [e] at h
          repeat' (first | (with_reducible exact hmn) | apply And.intro | exact rfl | (intro hx; with_reducible exact absurd hx q0) | (intro hx; with_reducible exact absurd hx q1) | (intro hx; with_reducible exact absurd q2 hx) | (intro hx; exact absurd hx (by decide)) | (intro hx; exact absurd (by decide) hx) | decide | intro hx | (refine Exists.intro _ (And.intro rfl ?_)))
          all_goals try first | (with_reducible change am_tI _ _) | (change Ret _ _) | (change Ret _ _ _) | (change Exists _)
          all_goals try dsimp only at *
          all_goals try (with_reducible exact absurd ‹(1000 : Int64) = 0› am_z1000)
          all_goals exact h _ g_sc.rf hR
        · skip
          have q2 : ¬ ((if 0 ≤ k ∧ k < 40 then (1 : Int32) else 0) = 0) := by rw [if_pos z2]; decide
          have y2 : 0 ≤ k ∧ k < 40 := by first | exact z2 | (rw [← le1]; exact z2) | (rw [← le0]; exact z2)
          have e : r_rateV M l y k = r_rt M l y (r_known M (r_lo M l 0) y k) (r_la M (r_lo M l 0) y) ((r_R M (r_lo M l 0) k y.toNatClampNeg).1 l.toNatClampNeg) := by unfold r_rateV; rw [if_pos y0, if_pos y1, if_pos y2]
          rw [e] at h
          have hl : am_in l 30 := ⟨by have q := y0.1; simp only [i_le, Int32.reduceToInt, Int32.toInt_zero] at q; omega, by have q := y0.2; simp only [i_lt] at q; omega⟩
          have hy : am_in y 40 := ⟨by have q := y1.1; simp only [i_le, Int32.reduceToInt, Int32.toInt_zero] at q; omega, by have q := y1.2; simp only [i_lt, Int32.reduceToInt] at q; omega⟩
          have hk : am_in k 40 := ⟨by have q := y2.1; simp only [i_le, Int32.reduceToInt, Int32.toInt_zero] at q; omega, by have q := y2.2; simp only [i_lt, Int32.reduceToInt] at q; omega⟩
          have cy := i_clamp hy.1
          obtain ⟨hp, hp2, hm⟩ := hX.li.pe hl (by have q := y0.2; rw [i_lt] at q; exact q)
          have ep : am_at (M.1 34) (am_len 34) (l * M.1 33 1 + 0) = r_lo M l 0 := hX.li.lo hl (w := 0) (n := 0) rfl (by decide)
          have hpc := hp
          rw [← ep] at hpc
          have eu := i_sub (x := y) (y := 1) (by simp only [Int32.reduceToInt]; have := hy.1; omega) (by simp only [Int32.reduceToInt]; have := hy.2; omega)
          simp only [Int32.reduceToInt] at eu
          have y39 : -1 ≤ (y - 1).toInt ∧ (y - 1).toInt ≤ 39 := ⟨by have := hy.1; omega, by have := hy.2; omega⟩
          repeat' (first | (with_reducible exact hmn) | (with_reducible exact hpc) | (with_reducible exact hl) | (with_reducible exact hy) | (with_reducible exact hR) | (with_reducible exact hA) | (with_reducible exact hn) | apply And.intro | exact rfl | (intro hx; with_reducible exact absurd hx q0) | (intro hx; with_reducible exact absurd hx q1) | (intro hx; with_reducible exact absurd hx q2) | ((with_reducible change g_rI _); (with_reducible assumption)) | (intro hx; exact absurd hx (by decide)) | (intro hx; exact absurd (by decide) hx) | decide | intro hx | (refine Exists.intro _ (And.intro rfl ?_)))
          all_goals try first | (with_reducible change am_tI _ _) | (change Ret _ _) | (change Ret _ _ _) | (change Exists _)
          all_goals try dsimp only at *
          all_goals try (with_reducible exact absurd ‹(1000 : Int64) = 0› am_z1000)
          all_goals first
            | omega
            | exact htb.g (c_bg.sc (by with_reducible assumption))
            | (rw [ep] at *; exact hX.coa hp hp2 hk (by with_reducible assumption) (by with_reducible assumption))
            | (rw [(c_bg.f (by with_reducible assumption)).2.1]; decide)
            | exact ((htb.g (c_bg.sc (by with_reducible assumption))).g (c_gn.sc (by with_reducible assumption))).g c_gn.lk.sc
            | skip
          rename_i N b1 r1 N2 g2 r2 s2 t2 rl N3
          have lk3 := hx
          rw [ep] at b1
          have hne : c_mine M (r_lo M l 0) (M.1 33 2).toNatClampNeg ≠ [] := fun q => by rw [← hX.li.mine, q] at hm; exact absurd hm List.not_mem_nil
          obtain ⟨lk, -⟩ := hX.lk hp hp2 hk b1 hne hy
          have zi := r_mine_z n1 hm
          refine am_rI (h N3 ((((c_bg.sc b1).tr (c_gn.sc g2)).tr c_gn.lk.sc).tr lk3.sc) (rl.eI (fun a b => by rw [lk3.i]))) ?_
          have v0 := hX.at hp hp2 hk b1 y39 s2 hm (w := 0) (by decide)
          rw [Nat.mul_zero, Nat.zero_add, show ((y - 1).toInt + 1).toNat = y.toNatClampNeg by omega] at v0
          rw [c_look_2, v0, (g2.look y).rt y l, lk.rt zi]
  · exact h.elim
def kX8_rateE (live : am_E) (Ret : am_R) : am_code := [(0, am_aload 0 1), (1, am_iload 1 2), (2, am_callV live 8 1 TX8_isLoan 5), (5, am_if1 (fun x => x = 0) 22 8), (8, am_iload 2 9), (9, am_callS live 1 TX8_isYear 12), (12, am_if1 (fun x => x = 0) 22 15), (15, am_iload 3 16), (16, am_callS live 1 TX8_isYear 19), (19, am_if1 (fun x => x = 0) 22 25), (22, am_const (.int (-2)) 24), (24, am_retI Ret), (25, am_aload 0 26), (26, am_iload 1 27), (27, am_const (.int 0) 28), (28, am_callV live 8 2 TX8_ofLoan 31), (31, am_istore 4 5 33), (33, am_aload 0 34), (34, am_iload 4 36), (36, am_iload 2 37), (37, am_const (.int 1) 38), (38, am_i2 (fun x y => x - y) 39), (39, am_iload 3 40), (40, am_callV live 8 3 TE8_run 43), (43, am_aload 0 44), (44, am_iload 1 45), (45, am_iload 2 46), (46, am_aload 0 47), (47, am_iload 4 49), (49, am_iload 2 50), (50, am_iload 3 51), (51, am_callV live 8 3 TX8_earningsOf 54), (54, am_aload 0 55), (55, am_getR live 8 0 58), (58, am_const (.int 34) 60), (60, am_const (.int 40) 62), (62, am_iload 4 64), (64, am_i2 (fun x y => x * y) 65), (65, am_i2 (fun x y => x + y) 66), (66, am_iload 2 67), (67, am_i2 (fun x y => x + y) 68), (68, am_ald live 0 69), (69, am_callV live 8 4 TE8_rateOf 72), (72, am_retI Ret)]
theorem koX8_rateE (live : am_E) (Ret : am_R) : ∀ q ∈ kX8_rateE live Ret, am_ok RX8 cX8_rate 5 (some .int) 10 253 live Ret q.1 q.2 :=
  am_kz dzX8_rate <|
  am_kd (fun d => ak_aload_n d rfl rfl) <|
  am_kd (fun d => ak_iload_n d rfl rfl) <|
  am_kd (fun d => ak_callV (C := RX8) (F := TX8) (N := 27) metX8_isLoan rfl ⟨rfl, hy_X8_isLoan⟩ (am_w5 wd_1069 wd_1071 wd_30 wd_67 wd_1072) (by decide) d rfl) <|
  am_kd (fun d => ak_if_eq d (by decide +kernel) rfl) <|
  am_kd (fun d => ak_iload_n d rfl rfl) <|
  am_kd (fun d => ak_callS metX8_isYear ⟨rfl, hy_X8_isYear⟩ (am_w4 wd_982 wd_983 wd_67 wd_984) (by decide) d rfl) <|
  am_kd (fun d => ak_if_eq d (by decide +kernel) rfl) <|
  am_kd (fun d => ak_iload_n d rfl rfl) <|
  am_kd (fun d => ak_callS metX8_isYear ⟨rfl, hy_X8_isYear⟩ (am_w4 wd_982 wd_983 wd_67 wd_984) (by decide) d rfl) <|
  am_kd (fun d => ak_if_ne d (by decide +kernel) rfl) <|
  am_kd (fun d => ak_bipush d (by decide +kernel) rfl) <|
  am_kd (fun d => ak_retI d) <|
  am_kd (fun d => ak_aload_n d rfl rfl) <|
  am_kd (fun d => ak_iload_n d rfl rfl) <|
  am_kd (fun d => ak_iconst d (by decide +kernel) rfl) <|
  am_kd (fun d => ak_callV (C := RX8) (F := TX8) (N := 27) metX8_ofLoan rfl ⟨rfl, hy_X8_ofLoan⟩ (am_w5 wd_1154 wd_1156 wd_41 wd_67 wd_1157) (by decide) d rfl) <|
  am_kd (fun d => ak_istore d rfl) <|
  am_kd (fun d => ak_aload_n d rfl rfl) <|
  am_kd (fun d => ak_iload d rfl) <|
  am_kd (fun d => ak_iload_n d rfl rfl) <|
  am_kd (fun d => ak_iconst d (by decide +kernel) rfl) <|
  am_kd (fun d => ak_isub d rfl) <|
  am_kd (fun d => ak_iload_n d rfl rfl) <|
  am_kd (fun d => ak_callV (C := RX8) (F := TX8) (N := 27) metX8_runE rfl ⟨rfl, hy_X8_run⟩ (am_w5 wd_1158 wd_1160 wd_42 wd_67 wd_1161) (by decide) d rfl) <|
  am_kd (fun d => ak_aload_n d rfl rfl) <|
  am_kd (fun d => ak_iload_n d rfl rfl) <|
  am_kd (fun d => ak_iload_n d rfl rfl) <|
  am_kd (fun d => ak_aload_n d rfl rfl) <|
  am_kd (fun d => ak_iload d rfl) <|
  am_kd (fun d => ak_iload_n d rfl rfl) <|
  am_kd (fun d => ak_iload_n d rfl rfl) <|
  am_kd (fun d => ak_callV (C := RX8) (F := TX8) (N := 27) metX8_earningsOf rfl ⟨rfl, hy_X8_earningsOf⟩ (am_w5 wd_1026 wd_1028 wd_28 wd_67 wd_1029) (by decide) d rfl) <|
  am_kd (fun d => ak_aload_n d rfl rfl) <|
  am_kd (fun d => ak_getR (C := RX8) (T := TX8) (N := 27) rfl inX8w (by decide) rfl rfl rfl wd_895 d rfl) <|
  am_kd (fun d => ak_bipush d (by decide +kernel) rfl) <|
  am_kd (fun d => ak_bipush d (by decide +kernel) rfl) <|
  am_kd (fun d => ak_iload d rfl) <|
  am_kd (fun d => ak_imul d rfl) <|
  am_kd (fun d => ak_iadd d rfl) <|
  am_kd (fun d => ak_iload_n d rfl rfl) <|
  am_kd (fun d => ak_iadd d rfl) <|
  am_kd (fun d => ak_iald (t := 0) (fun _ => rfl) rfl d rfl) <|
  am_kd (fun d => ak_callV (C := RX8) (F := TX8) (N := 27) metX8_rateOfE rfl ⟨rfl, hy_X8_rateOf⟩ (am_w5 wd_1174 wd_1176 wd_46 wd_67 wd_1177) (by decide) d rfl) <|
  am_kd (fun d => ak_retI d) <| am_kdn
def TE8_rate : am_T := fun live as M R => match as with
  | [.ref n, .int l, .int y, .int k] => am_mn live ∧ n = 200 ∧ (∃ i1 i2, LX i1 i2 M) ∧ ∀ M', r_sc M M' → r_I M' → R (some (.int (r_rateV M l y k))) M'
  | _ => False
set_option maxRecDepth 100000 in
set_option maxHeartbeats 4000000 in
theorem metX8_rateE : am_Met yX8_rate cX8_rate 5 (some .int) (10) (253) TE8_rate := by
  refine am_met (own := RX8) (by decide +kernel) rfl kX8_rateE koX8_rateE 200 (fun _ _ _ _ _ => none) (fun live as M Ret h => ?_) (fun _ _ _ _ _ _ _ _ hI => by cases hI)
  unfold TE8_rate at h
  split at h
  · next n l y k =>
    refine ⟨Nat.le_of_ble_eq_true rfl, ?_⟩
    change am_wp _ _ _ _ [(0, Value.ref n), (1, Value.int l), (2, Value.int y), (3, Value.int k)] _ _
    obtain ⟨hmn, rfl, ⟨j1, j2, hX⟩, h⟩ := h
    have hmn2 := hmn
    obtain ⟨i1, i2, rfl⟩ := hmn2
    have l201 : am_len 201 = 3760 := rfl
    have hR := hX.li.i
    have le1 := hX.li.e1
    have le0 := hX.li.e0
    have n0 := hR.n0
    have n1 := hR.n1
    have n030 : 0 ≤ (M.1 201 0).toInt ∧ (M.1 201 0).toInt ≤ 30 := ⟨n0.1, by omega⟩
    by_cases z0 : 0 ≤ l ∧ l < M.1 201 1
    rotate_left
    · skip
      have q0 : (if 0 ≤ l ∧ l < M.1 201 1 then (1 : Int32) else 0) = 0 := if_neg z0
      have e : r_rateV M l y k = -2 := by unfold r_rateV; rw [if_neg (fun q => z0 (by first | exact q | (rw [le1]; exact q) | (rw [le0]; exact q)))]
      rw [e] at h
      repeat' (first | (with_reducible exact hmn) | (with_reducible exact n030) | (with_reducible exact n1) | apply And.intro | exact rfl | (intro hx; with_reducible exact absurd q0 hx) | (intro hx; exact absurd hx (by decide)) | (intro hx; exact absurd (by decide) hx) | decide | intro hx | (refine Exists.intro _ (And.intro rfl ?_)))
      all_goals try first | (with_reducible change am_tI _ _) | (change Ret _ _) | (change Ret _ _ _) | (change Exists _)
      all_goals try dsimp only at *
      all_goals try (with_reducible exact absurd ‹(1000 : Int64) = 0› am_z1000)
      all_goals exact h _ r_sc.rf hR
    · skip
      have q0 : ¬ ((if 0 ≤ l ∧ l < M.1 201 1 then (1 : Int32) else 0) = 0) := by rw [if_pos z0]; decide
      have y0 : 0 ≤ l ∧ l < M.1 201 1 := by first | exact z0 | (rw [← le1]; exact z0) | (rw [← le0]; exact z0)
      by_cases z1 : 0 ≤ y ∧ y < 40
      rotate_left
      · skip
        have q1 : (if 0 ≤ y ∧ y < 40 then (1 : Int32) else 0) = 0 := if_neg z1
        have e : r_rateV M l y k = -2 := by unfold r_rateV; rw [if_pos y0, if_neg (fun q => z1 (by first | exact q | (rw [le1]; exact q) | (rw [le0]; exact q)))]
        rw [e] at h
        repeat' (first | (with_reducible exact hmn) | (with_reducible exact n030) | (with_reducible exact n1) | apply And.intro | exact rfl | (intro hx; with_reducible exact absurd hx q0) | (intro hx; with_reducible exact absurd q1 hx) | (intro hx; exact absurd hx (by decide)) | (intro hx; exact absurd (by decide) hx) | decide | intro hx | (refine Exists.intro _ (And.intro rfl ?_)))
        all_goals try first | (with_reducible change am_tI _ _) | (change Ret _ _) | (change Ret _ _ _) | (change Exists _)
        all_goals try dsimp only at *
        all_goals try (with_reducible exact absurd ‹(1000 : Int64) = 0› am_z1000)
        all_goals exact h _ r_sc.rf hR
      · skip
        have q1 : ¬ ((if 0 ≤ y ∧ y < 40 then (1 : Int32) else 0) = 0) := by rw [if_pos z1]; decide
        have y1 : 0 ≤ y ∧ y < 40 := by first | exact z1 | (rw [← le1]; exact z1) | (rw [← le0]; exact z1)
        by_cases z2 : 0 ≤ k ∧ k < 40
        rotate_left
        · skip
          have q2 : (if 0 ≤ k ∧ k < 40 then (1 : Int32) else 0) = 0 := if_neg z2
          have e : r_rateV M l y k = -2 := by unfold r_rateV; rw [if_pos y0, if_pos y1, if_neg (fun q => z2 (by first | exact q | (rw [le1]; exact q) | (rw [le0]; exact q)))]
          rw [e] at h
          repeat' (first | (with_reducible exact hmn) | (with_reducible exact n030) | (with_reducible exact n1) | apply And.intro | exact rfl | (intro hx; with_reducible exact absurd hx q0) | (intro hx; with_reducible exact absurd hx q1) | (intro hx; with_reducible exact absurd q2 hx) | (intro hx; exact absurd hx (by decide)) | (intro hx; exact absurd (by decide) hx) | decide | intro hx | (refine Exists.intro _ (And.intro rfl ?_)))
          all_goals try first | (with_reducible change am_tI _ _) | (change Ret _ _) | (change Ret _ _ _) | (change Exists _)
          all_goals try dsimp only at *
          all_goals try (with_reducible exact absurd ‹(1000 : Int64) = 0› am_z1000)
          all_goals exact h _ r_sc.rf hR
        · skip
          have q2 : ¬ ((if 0 ≤ k ∧ k < 40 then (1 : Int32) else 0) = 0) := by rw [if_pos z2]; decide
          have y2 : 0 ≤ k ∧ k < 40 := by first | exact z2 | (rw [← le1]; exact z2) | (rw [← le0]; exact z2)
          have e : r_rateV M l y k = r_rt M l y (r_known M (r_lo M l 0) y k) (r_la M (r_lo M l 0) y) ((r_R M (r_lo M l 0) k y.toNatClampNeg).1 l.toNatClampNeg) := by unfold r_rateV; rw [if_pos y0, if_pos y1, if_pos y2]
          rw [e] at h
          have hl : am_in l 30 := ⟨by have q := y0.1; simp only [i_le, Int32.reduceToInt, Int32.toInt_zero] at q; omega, by have q := y0.2; simp only [i_lt] at q; omega⟩
          have hy : am_in y 40 := ⟨by have q := y1.1; simp only [i_le, Int32.reduceToInt, Int32.toInt_zero] at q; omega, by have q := y1.2; simp only [i_lt, Int32.reduceToInt] at q; omega⟩
          have hk : am_in k 40 := ⟨by have q := y2.1; simp only [i_le, Int32.reduceToInt, Int32.toInt_zero] at q; omega, by have q := y2.2; simp only [i_lt, Int32.reduceToInt] at q; omega⟩
          have cy := i_clamp hy.1
          have gl := g_cl hl
          have hp := r_pers hR hl
          have w0 : 0 ≤ (0 : Int32).toInt ∧ (0 : Int32).toInt ≤ 7 := ⟨by decide, by decide⟩
          have hoa := hX.roa (p := M.1 201 (2838 + 8 * l + 0).toNatClampNeg)
          have eu := i_sub (x := y) (y := 1) (by simp only [Int32.reduceToInt]; have := hy.1; omega) (by simp only [Int32.reduceToInt]; have := hy.2; omega)
          simp only [Int32.reduceToInt] at eu
          have y39 : -1 ≤ (y - 1).toInt ∧ (y - 1).toInt ≤ 39 := ⟨by have := hy.1; omega, by have := hy.2; omega⟩
          have p1 := hp.1
          have p2 := hp.2
          have y1 := hy.1
          have y2 := hy.2
          have e40 := r_mul (c := 40) (x := M.1 201 (2838 + 8 * l + 0).toNatClampNeg) ⟨by decide, by decide⟩ ⟨by omega, by omega⟩
          simp only [Int32.reduceToInt] at e40
          have ea := r_off (c := 34) (x := 40 * M.1 201 (2838 + 8 * l + 0).toNatClampNeg) ⟨by decide, by decide⟩ ⟨by omega, by omega⟩
          simp only [e40, Int32.reduceToInt] at ea
          have eb := r_off (c := 34 + 40 * M.1 201 (2838 + 8 * l + 0).toNatClampNeg) (x := y) ⟨by omega, by omega⟩ ⟨by omega, by omega⟩
          rw [ea] at eb
          have x1 : 0 ≤ (34 + 40 * M.1 201 (2838 + 8 * l + 0).toNatClampNeg + y).toInt := by omega
          have x2 : (34 + 40 * M.1 201 (2838 + 8 * l + 0).toNatClampNeg + y).toInt < (am_len 201 : Int) := by rw [l201]; omega
          repeat' (first | (with_reducible exact hmn) | (with_reducible exact n030) | (with_reducible exact n1) | (with_reducible exact hl) | (with_reducible exact hp) | (with_reducible exact hy) | (with_reducible exact w0) | (with_reducible exact y39) | (with_reducible exact x1) | (with_reducible exact x2) | (with_reducible exact hR) | (with_reducible exact hoa) | apply And.intro | exact rfl | (intro hx; with_reducible exact absurd hx q0) | (intro hx; with_reducible exact absurd hx q1) | (intro hx; with_reducible exact absurd hx q2) | ((with_reducible change r_I _); (with_reducible assumption)) | (intro hx; exact absurd hx (by decide)) | (intro hx; exact absurd (by decide) hx) | decide | intro hx | (refine Exists.intro _ (And.intro rfl ?_)))
          all_goals try first | (with_reducible change am_tI _ _) | (change Ret _ _) | (change Ret _ _ _) | (change Exists _)
          all_goals try dsimp only at *
          all_goals try (with_reducible exact absurd ‹(1000 : Int64) = 0› am_z1000)
          all_goals
            rename_i N s0 ky rN z0 e0 N2 kr
            have rN2 := hx
            refine am_rI (h N2 (ky.sc.tr (r_ky.rf.kr kr).sc) rN2) ?_
            have q := (r_R_of n1 e0 z0).1 l.toNatClampNeg (by omega)
            rw [r_fl_v gl, show ((y - 1).toInt + 1).toNat = y.toNatClampNeg by omega] at q
            rw [q]
            exact (ky.f (fun K => r_rt K l y (r_known K (r_lo M l 0) y k) (r_la K (r_lo M l 0) y) ((r_R M (r_lo M l 0) k y.toNatClampNeg).1 l.toNatClampNeg)) (fun _ _ _ => rfl) (fun _ _ _ _ _ _ => rfl)).symm
  · exact h.elim
def r_overV (M : am_M) (p y k : Int32) : Int64 := if 0 ≤ p ∧ p < M.1 201 0 then (if 0 ≤ y ∧ y < 40 then (if 0 ≤ k ∧ k < 40 then z_tog (r_R M p y (y.toNatClampNeg + 1)).1 30 (r_mine M p (r_n M)) - z_tog (r_R M p k (y.toNatClampNeg + 1)).1 30 (r_mine M p (r_n M)) else -1000000000000000) else -1000000000000000) else -1000000000000000
def kX7_overE (live : am_E) (Ret : am_R) : am_code := [(0, am_aload 0 1), (1, am_iload 1 2), (2, am_callV live 7 1 TX7_isPerson 5), (5, am_if1 (fun x => x = 0) 22 8), (8, am_iload 2 9), (9, am_callS live 1 TX7_isYear 12), (12, am_if1 (fun x => x = 0) 22 15), (15, am_iload 3 16), (16, am_callS live 1 TX7_isYear 19), (19, am_if1 (fun x => x = 0) 22 26), (22, am_const (.long (-1000000000000000)) 25), (25, am_retL Ret), (26, am_aload 0 27), (27, am_iload 1 28), (28, am_iload 2 29), (29, am_iload 2 30), (30, am_const (.int 1) 31), (31, am_callV live 7 4 TE7_together 34), (34, am_aload 0 35), (35, am_iload 1 36), (36, am_iload 2 37), (37, am_iload 3 38), (38, am_const (.int 1) 39), (39, am_callV live 7 4 TE7_together 42), (42, am_l2 (fun x y => x - y) 43), (43, am_retL Ret)]
theorem koX7_overE (live : am_E) (Ret : am_R) : ∀ q ∈ kX7_overE live Ret, am_ok RX7 cX7_over 4 (some .long) 6 148 live Ret q.1 q.2 :=
  am_kz dzX7_over <|
  am_kd (fun d => ak_aload_n d rfl rfl) <|
  am_kd (fun d => ak_iload_n d rfl rfl) <|
  am_kd (fun d => ak_callV (C := RX7) (F := TX7) (N := 4) metX7_isPerson rfl ⟨rfl, hy_X7_isPerson⟩ (am_w5 wd_414 wd_416 wd_0 wd_58 wd_417) (by decide) d rfl) <|
  am_kd (fun d => ak_if_eq d (by decide +kernel) rfl) <|
  am_kd (fun d => ak_iload_n d rfl rfl) <|
  am_kd (fun d => ak_callS metX7_isYear ⟨rfl, hy_X7_isYear⟩ (am_w4 wd_407 wd_408 wd_58 wd_409) (by decide) d rfl) <|
  am_kd (fun d => ak_if_eq d (by decide +kernel) rfl) <|
  am_kd (fun d => ak_iload_n d rfl rfl) <|
  am_kd (fun d => ak_callS metX7_isYear ⟨rfl, hy_X7_isYear⟩ (am_w4 wd_407 wd_408 wd_58 wd_409) (by decide) d rfl) <|
  am_kd (fun d => ak_if_ne d (by decide +kernel) rfl) <|
  am_kd (fun d => ak_ldc2 wd_663 d rfl) <|
  am_kd (fun d => ak_retL d) <|
  am_kd (fun d => ak_aload_n d rfl rfl) <|
  am_kd (fun d => ak_iload_n d rfl rfl) <|
  am_kd (fun d => ak_iload_n d rfl rfl) <|
  am_kd (fun d => ak_iload_n d rfl rfl) <|
  am_kd (fun d => ak_iconst d (by decide +kernel) rfl) <|
  am_kd (fun d => ak_callV (C := RX7) (F := TX7) (N := 4) metX7_togetherE rfl ⟨rfl, hy_X7_together⟩ (am_w5 wd_645 wd_647 wd_12 wd_58 wd_648) (by decide) d rfl) <|
  am_kd (fun d => ak_aload_n d rfl rfl) <|
  am_kd (fun d => ak_iload_n d rfl rfl) <|
  am_kd (fun d => ak_iload_n d rfl rfl) <|
  am_kd (fun d => ak_iload_n d rfl rfl) <|
  am_kd (fun d => ak_iconst d (by decide +kernel) rfl) <|
  am_kd (fun d => ak_callV (C := RX7) (F := TX7) (N := 4) metX7_togetherE rfl ⟨rfl, hy_X7_together⟩ (am_w5 wd_645 wd_647 wd_12 wd_58 wd_648) (by decide) d rfl) <|
  am_kd (fun d => ak_lsub d rfl) <|
  am_kd (fun d => ak_retL d) <| am_kdn
def TE7_over : am_T := fun live as M R => match as with
  | [.ref n, .int p, .int y, .int k] => am_mn live ∧ n = 0 ∧ (∃ i1 i2, LX i1 i2 M) ∧ ∀ M', g_sc M M' → g_rI M' → R (some (.long (r_overV M p y k))) M'
  | _ => False
set_option maxRecDepth 100000 in
set_option maxHeartbeats 4000000 in
theorem metX7_overE : am_Met yX7_over cX7_over 4 (some .long) (6) (148) TE7_over := by
  refine am_met (own := RX7) (by decide +kernel) rfl kX7_overE koX7_overE 200 (fun _ _ _ _ _ => none) (fun live as M Ret h => ?_) (fun _ _ _ _ _ _ _ _ hI => by cases hI)
  unfold TE7_over at h
  split at h
  · next n p y k =>
    refine ⟨Nat.le_of_ble_eq_true rfl, ?_⟩
    change am_wp _ _ _ _ [(0, Value.ref n), (1, Value.int p), (2, Value.int y), (3, Value.int k)] _ _
    obtain ⟨hmn, rfl, ⟨j1, j2, hX⟩, h⟩ := h
    have hmn2 := hmn
    obtain ⟨i1, i2, rfl⟩ := hmn2
    have hH := hX.li.h
    have hR := hX.li.g
    have hA := hX.li.cA
    have le1 := hX.li.e1
    have le0 := hX.li.e0
    have n1 := hX.li.n1
    have n0 := hX.li.n0
    have hn : 0 ≤ (M.1 33 2).toInt ∧ (M.1 33 2).toInt ≤ 30 := by rw [le1]; exact n1
    have htb := hX.t0
    by_cases z0 : 0 ≤ p ∧ p < M.1 21 7
    rotate_left
    · skip
      have q0 : (if 0 ≤ p ∧ p < M.1 21 7 then (1 : Int32) else 0) = 0 := if_neg z0
      have e : r_overV M p y k = -1000000000000000 := by unfold r_overV; rw [if_neg (fun q => z0 (by first | exact q | (rw [le1]; exact q) | (rw [le0]; exact q)))]
      rw [e] at h
      repeat' (first | (with_reducible exact hmn) | apply And.intro | exact rfl | (intro hx; with_reducible exact absurd q0 hx) | (intro hx; exact absurd hx (by decide)) | (intro hx; exact absurd (by decide) hx) | decide | intro hx | (refine Exists.intro _ (And.intro rfl ?_)))
      all_goals try first | (with_reducible change am_tI _ _) | (change Ret _ _) | (change Ret _ _ _) | (change Exists _)
      all_goals try dsimp only at *
      all_goals try (with_reducible exact absurd ‹(1000 : Int64) = 0› am_z1000)
      all_goals exact h _ g_sc.rf hR
    · skip
      have q0 : ¬ ((if 0 ≤ p ∧ p < M.1 21 7 then (1 : Int32) else 0) = 0) := by rw [if_pos z0]; decide
      have y0 : 0 ≤ p ∧ p < M.1 201 0 := by first | exact z0 | (rw [← le1]; exact z0) | (rw [← le0]; exact z0)
      by_cases z1 : 0 ≤ y ∧ y < 40
      rotate_left
      · skip
        have q1 : (if 0 ≤ y ∧ y < 40 then (1 : Int32) else 0) = 0 := if_neg z1
        have e : r_overV M p y k = -1000000000000000 := by unfold r_overV; rw [if_pos y0, if_neg (fun q => z1 (by first | exact q | (rw [le1]; exact q) | (rw [le0]; exact q)))]
        rw [e] at h
        repeat' (first | (with_reducible exact hmn) | apply And.intro | exact rfl | (intro hx; with_reducible exact absurd hx q0) | (intro hx; with_reducible exact absurd q1 hx) | (intro hx; exact absurd hx (by decide)) | (intro hx; exact absurd (by decide) hx) | decide | intro hx | (refine Exists.intro _ (And.intro rfl ?_)))
        all_goals try first | (with_reducible change am_tI _ _) | (change Ret _ _) | (change Ret _ _ _) | (change Exists _)
        all_goals try dsimp only at *
        all_goals try (with_reducible exact absurd ‹(1000 : Int64) = 0› am_z1000)
        all_goals exact h _ g_sc.rf hR
      · skip
        have q1 : ¬ ((if 0 ≤ y ∧ y < 40 then (1 : Int32) else 0) = 0) := by rw [if_pos z1]; decide
        have y1 : 0 ≤ y ∧ y < 40 := by first | exact z1 | (rw [← le1]; exact z1) | (rw [← le0]; exact z1)
        by_cases z2 : 0 ≤ k ∧ k < 40
        rotate_left
        · skip
          have q2 : (if 0 ≤ k ∧ k < 40 then (1 : Int32) else 0) = 0 := if_neg z2
          have e : r_overV M p y k = -1000000000000000 := by unfold r_overV; rw [if_pos y0, if_pos y1, if_neg (fun q => z2 (by first | exact q | (rw [le1]; exact q) | (rw [le0]; exact q)))]
          rw [e] at h
          repeat' (first | (with_reducible exact hmn) | apply And.intro | exact rfl | (intro hx; with_reducible exact absurd hx q0) | (intro hx; with_reducible exact absurd hx q1) | (intro hx; with_reducible exact absurd q2 hx) | (intro hx; exact absurd hx (by decide)) | (intro hx; exact absurd (by decide) hx) | decide | intro hx | (refine Exists.intro _ (And.intro rfl ?_)))
          all_goals try first | (with_reducible change am_tI _ _) | (change Ret _ _) | (change Ret _ _ _) | (change Exists _)
          all_goals try dsimp only at *
          all_goals try (with_reducible exact absurd ‹(1000 : Int64) = 0› am_z1000)
          all_goals exact h _ g_sc.rf hR
        · skip
          have q2 : ¬ ((if 0 ≤ k ∧ k < 40 then (1 : Int32) else 0) = 0) := by rw [if_pos z2]; decide
          have y2 : 0 ≤ k ∧ k < 40 := by first | exact z2 | (rw [← le1]; exact z2) | (rw [← le0]; exact z2)
          have e : r_overV M p y k = z_tog (r_R M p y (y.toNatClampNeg + 1)).1 30 (r_mine M p (r_n M)) - z_tog (r_R M p k (y.toNatClampNeg + 1)).1 30 (r_mine M p (r_n M)) := by unfold r_overV; rw [if_pos y0, if_pos y1, if_pos y2]
          rw [e] at h
          have hp : am_in p 12 := ⟨by have q := y0.1; simp only [i_le, Int32.reduceToInt, Int32.toInt_zero] at q; omega, by have q := y0.2; simp only [i_lt] at q; omega⟩
          have hy : am_in y 40 := ⟨by have q := y1.1; simp only [i_le, Int32.reduceToInt, Int32.toInt_zero] at q; omega, by have q := y1.2; simp only [i_lt, Int32.reduceToInt] at q; omega⟩
          have hk : am_in k 40 := ⟨by have q := y2.1; simp only [i_le, Int32.reduceToInt, Int32.toInt_zero] at q; omega, by have q := y2.2; simp only [i_lt, Int32.reduceToInt] at q; omega⟩
          have w1 : am_in (1 : Int32) 6 := ⟨by decide, by decide⟩
          have hp2 : p.toInt < (M.1 201 0).toInt := by have q := y0.2; rw [i_lt] at q; exact q
          repeat' (first | (with_reducible exact hmn) | (with_reducible exact hp) | (with_reducible exact hp2) | (with_reducible exact hy) | (with_reducible exact hk) | (with_reducible exact w1) | apply And.intro | exact rfl | (intro hx; with_reducible exact absurd hx q0) | (intro hx; with_reducible exact absurd hx q1) | (intro hx; with_reducible exact absurd hx q2) | (intro hx; exact absurd hx (by decide)) | (intro hx; exact absurd (by decide) hx) | decide | intro hx | (refine Exists.intro _ (And.intro rfl ?_)))
          all_goals try first | (with_reducible change am_tI _ _) | (change Ret _ _) | (change Ret _ _ _) | (change Exists _)
          all_goals try dsimp only at *
          all_goals try (with_reducible exact absurd ‹(1000 : Int64) = 0› am_z1000)
          all_goals first
            | exact ⟨_, _, hX⟩
            | exact ⟨_, _, hX.sc (by with_reducible assumption) (by with_reducible assumption)⟩
            | (rw [g_sc.r1 (by with_reducible assumption) (show 11 ≤ 201 by decide)]; exact hp2)
            | skip
          rename_i N c1 r1 N2 c2
          have r2 := hx
          refine am_rL (h N2 (c1.tr c2) r2) ?_
          rw [r_R_cg (c1.r1 (by decide)) (c1.r1 (by decide)) p k, r_mine_cg (c1.r1 (by decide))]
          rfl
  · exact h.elim
def kX8_overE (live : am_E) (Ret : am_R) : am_code := [(0, am_aload 0 1), (1, am_iload 1 2), (2, am_callV live 8 1 TX8_isPerson 5), (5, am_if1 (fun x => x = 0) 22 8), (8, am_iload 2 9), (9, am_callS live 1 TX8_isYear 12), (12, am_if1 (fun x => x = 0) 22 15), (15, am_iload 3 16), (16, am_callS live 1 TX8_isYear 19), (19, am_if1 (fun x => x = 0) 22 26), (22, am_const (.long (-1000000000000000)) 25), (25, am_retL Ret), (26, am_aload 0 27), (27, am_iload 1 28), (28, am_iload 2 29), (29, am_iload 2 30), (30, am_callV live 8 3 TE8_run 33), (33, am_aload 0 34), (34, am_iload 1 35), (35, am_const (.int 1) 36), (36, am_callV live 8 2 TE8_allOf 39), (39, am_lstore 4 6 41), (41, am_aload 0 42), (42, am_iload 1 43), (43, am_iload 2 44), (44, am_iload 3 45), (45, am_callV live 8 3 TE8_run 48), (48, am_lload 4 50), (50, am_aload 0 51), (51, am_iload 1 52), (52, am_const (.int 1) 53), (53, am_callV live 8 2 TE8_allOf 56), (56, am_l2 (fun x y => x - y) 57), (57, am_retL Ret)]
theorem koX8_overE (live : am_E) (Ret : am_R) : ∀ q ∈ kX8_overE live Ret, am_ok RX8 cX8_over 6 (some .long) 10 253 live Ret q.1 q.2 :=
  am_kz dzX8_over <|
  am_kd (fun d => ak_aload_n d rfl rfl) <|
  am_kd (fun d => ak_iload_n d rfl rfl) <|
  am_kd (fun d => ak_callV (C := RX8) (F := TX8) (N := 27) metX8_isPerson rfl ⟨rfl, hy_X8_isPerson⟩ (am_w5 wd_993 wd_995 wd_27 wd_67 wd_996) (by decide) d rfl) <|
  am_kd (fun d => ak_if_eq d (by decide +kernel) rfl) <|
  am_kd (fun d => ak_iload_n d rfl rfl) <|
  am_kd (fun d => ak_callS metX8_isYear ⟨rfl, hy_X8_isYear⟩ (am_w4 wd_982 wd_983 wd_67 wd_984) (by decide) d rfl) <|
  am_kd (fun d => ak_if_eq d (by decide +kernel) rfl) <|
  am_kd (fun d => ak_iload_n d rfl rfl) <|
  am_kd (fun d => ak_callS metX8_isYear ⟨rfl, hy_X8_isYear⟩ (am_w4 wd_982 wd_983 wd_67 wd_984) (by decide) d rfl) <|
  am_kd (fun d => ak_if_ne d (by decide +kernel) rfl) <|
  am_kd (fun d => ak_ldc2 wd_1207 d rfl) <|
  am_kd (fun d => ak_retL d) <|
  am_kd (fun d => ak_aload_n d rfl rfl) <|
  am_kd (fun d => ak_iload_n d rfl rfl) <|
  am_kd (fun d => ak_iload_n d rfl rfl) <|
  am_kd (fun d => ak_iload_n d rfl rfl) <|
  am_kd (fun d => ak_callV (C := RX8) (F := TX8) (N := 27) metX8_runE rfl ⟨rfl, hy_X8_run⟩ (am_w5 wd_1158 wd_1160 wd_42 wd_67 wd_1161) (by decide) d rfl) <|
  am_kd (fun d => ak_aload_n d rfl rfl) <|
  am_kd (fun d => ak_iload_n d rfl rfl) <|
  am_kd (fun d => ak_iconst d (by decide +kernel) rfl) <|
  am_kd (fun d => ak_callV (C := RX8) (F := TX8) (N := 27) metX8_allOfE rfl ⟨rfl, hy_X8_allOf⟩ (am_w5 wd_1195 wd_1197 wd_50 wd_67 wd_1198) (by decide) d rfl) <|
  am_kd (fun d => ak_lstore d rfl) <|
  am_kd (fun d => ak_aload_n d rfl rfl) <|
  am_kd (fun d => ak_iload_n d rfl rfl) <|
  am_kd (fun d => ak_iload_n d rfl rfl) <|
  am_kd (fun d => ak_iload_n d rfl rfl) <|
  am_kd (fun d => ak_callV (C := RX8) (F := TX8) (N := 27) metX8_runE rfl ⟨rfl, hy_X8_run⟩ (am_w5 wd_1158 wd_1160 wd_42 wd_67 wd_1161) (by decide) d rfl) <|
  am_kd (fun d => ak_lload d rfl) <|
  am_kd (fun d => ak_aload_n d rfl rfl) <|
  am_kd (fun d => ak_iload_n d rfl rfl) <|
  am_kd (fun d => ak_iconst d (by decide +kernel) rfl) <|
  am_kd (fun d => ak_callV (C := RX8) (F := TX8) (N := 27) metX8_allOfE rfl ⟨rfl, hy_X8_allOf⟩ (am_w5 wd_1195 wd_1197 wd_50 wd_67 wd_1198) (by decide) d rfl) <|
  am_kd (fun d => ak_lsub d rfl) <|
  am_kd (fun d => ak_retL d) <| am_kdn
def TE8_over : am_T := fun live as M R => match as with
  | [.ref n, .int p, .int y, .int k] => am_mn live ∧ n = 200 ∧ (∃ i1 i2, LX i1 i2 M) ∧ ∀ M', r_sc M M' → r_I M' → R (some (.long (r_overV M p y k))) M'
  | _ => False
set_option maxRecDepth 100000 in
set_option maxHeartbeats 4000000 in
theorem metX8_overE : am_Met yX8_over cX8_over 6 (some .long) (10) (253) TE8_over := by
  refine am_met (own := RX8) (by decide +kernel) rfl kX8_overE koX8_overE 200 (fun _ _ _ _ _ => none) (fun live as M Ret h => ?_) (fun _ _ _ _ _ _ _ _ hI => by cases hI)
  unfold TE8_over at h
  split at h
  · next n p y k =>
    refine ⟨Nat.le_of_ble_eq_true rfl, ?_⟩
    change am_wp _ _ _ _ [(0, Value.ref n), (1, Value.int p), (2, Value.int y), (3, Value.int k)] _ _
    obtain ⟨hmn, rfl, ⟨j1, j2, hX⟩, h⟩ := h
    have hmn2 := hmn
    obtain ⟨i1, i2, rfl⟩ := hmn2
    have l201 : am_len 201 = 3760 := rfl
    have hR := hX.li.i
    have le1 := hX.li.e1
    have le0 := hX.li.e0
    have n0 := hR.n0
    have n1 := hR.n1
    have n030 : 0 ≤ (M.1 201 0).toInt ∧ (M.1 201 0).toInt ≤ 30 := ⟨n0.1, by omega⟩
    by_cases z0 : 0 ≤ p ∧ p < M.1 201 0
    rotate_left
    · skip
      have q0 : (if 0 ≤ p ∧ p < M.1 201 0 then (1 : Int32) else 0) = 0 := if_neg z0
      have e : r_overV M p y k = -1000000000000000 := by unfold r_overV; rw [if_neg (fun q => z0 (by first | exact q | (rw [le1]; exact q) | (rw [le0]; exact q)))]
      rw [e] at h
      repeat' (first | (with_reducible exact hmn) | (with_reducible exact n030) | (with_reducible exact n1) | apply And.intro | exact rfl | (intro hx; with_reducible exact absurd q0 hx) | (intro hx; exact absurd hx (by decide)) | (intro hx; exact absurd (by decide) hx) | decide | intro hx | (refine Exists.intro _ (And.intro rfl ?_)))
      all_goals try first | (with_reducible change am_tI _ _) | (change Ret _ _) | (change Ret _ _ _) | (change Exists _)
      all_goals try dsimp only at *
      all_goals try (with_reducible exact absurd ‹(1000 : Int64) = 0› am_z1000)
      all_goals exact h _ r_sc.rf hR
    · skip
      have q0 : ¬ ((if 0 ≤ p ∧ p < M.1 201 0 then (1 : Int32) else 0) = 0) := by rw [if_pos z0]; decide
      have y0 : 0 ≤ p ∧ p < M.1 201 0 := by first | exact z0 | (rw [← le1]; exact z0) | (rw [← le0]; exact z0)
      by_cases z1 : 0 ≤ y ∧ y < 40
      rotate_left
      · skip
        have q1 : (if 0 ≤ y ∧ y < 40 then (1 : Int32) else 0) = 0 := if_neg z1
        have e : r_overV M p y k = -1000000000000000 := by unfold r_overV; rw [if_pos y0, if_neg (fun q => z1 (by first | exact q | (rw [le1]; exact q) | (rw [le0]; exact q)))]
        rw [e] at h
        repeat' (first | (with_reducible exact hmn) | (with_reducible exact n030) | (with_reducible exact n1) | apply And.intro | exact rfl | (intro hx; with_reducible exact absurd hx q0) | (intro hx; with_reducible exact absurd q1 hx) | (intro hx; exact absurd hx (by decide)) | (intro hx; exact absurd (by decide) hx) | decide | intro hx | (refine Exists.intro _ (And.intro rfl ?_)))
        all_goals try first | (with_reducible change am_tI _ _) | (change Ret _ _) | (change Ret _ _ _) | (change Exists _)
        all_goals try dsimp only at *
        all_goals try (with_reducible exact absurd ‹(1000 : Int64) = 0› am_z1000)
        all_goals exact h _ r_sc.rf hR
      · skip
        have q1 : ¬ ((if 0 ≤ y ∧ y < 40 then (1 : Int32) else 0) = 0) := by rw [if_pos z1]; decide
        have y1 : 0 ≤ y ∧ y < 40 := by first | exact z1 | (rw [← le1]; exact z1) | (rw [← le0]; exact z1)
        by_cases z2 : 0 ≤ k ∧ k < 40
        rotate_left
        · skip
          have q2 : (if 0 ≤ k ∧ k < 40 then (1 : Int32) else 0) = 0 := if_neg z2
          have e : r_overV M p y k = -1000000000000000 := by unfold r_overV; rw [if_pos y0, if_pos y1, if_neg (fun q => z2 (by first | exact q | (rw [le1]; exact q) | (rw [le0]; exact q)))]
          rw [e] at h
          repeat' (first | (with_reducible exact hmn) | (with_reducible exact n030) | (with_reducible exact n1) | apply And.intro | exact rfl | (intro hx; with_reducible exact absurd hx q0) | (intro hx; with_reducible exact absurd hx q1) | (intro hx; with_reducible exact absurd q2 hx) | (intro hx; exact absurd hx (by decide)) | (intro hx; exact absurd (by decide) hx) | decide | intro hx | (refine Exists.intro _ (And.intro rfl ?_)))
          all_goals try first | (with_reducible change am_tI _ _) | (change Ret _ _) | (change Ret _ _ _) | (change Exists _)
          all_goals try dsimp only at *
          all_goals try (with_reducible exact absurd ‹(1000 : Int64) = 0› am_z1000)
          all_goals exact h _ r_sc.rf hR
        · skip
          have q2 : ¬ ((if 0 ≤ k ∧ k < 40 then (1 : Int32) else 0) = 0) := by rw [if_pos z2]; decide
          have y2 : 0 ≤ k ∧ k < 40 := by first | exact z2 | (rw [← le1]; exact z2) | (rw [← le0]; exact z2)
          have e : r_overV M p y k = z_tog (r_R M p y (y.toNatClampNeg + 1)).1 30 (r_mine M p (r_n M)) - z_tog (r_R M p k (y.toNatClampNeg + 1)).1 30 (r_mine M p (r_n M)) := by unfold r_overV; rw [if_pos y0, if_pos y1, if_pos y2]
          rw [e] at h
          have hp : am_in p 12 := ⟨by have q := y0.1; simp only [i_le, Int32.reduceToInt, Int32.toInt_zero] at q; omega, by have q := y0.2; simp only [i_lt] at q; omega⟩
          have hy : am_in y 40 := ⟨by have q := y1.1; simp only [i_le, Int32.reduceToInt, Int32.toInt_zero] at q; omega, by have q := y1.2; simp only [i_lt, Int32.reduceToInt] at q; omega⟩
          have hk : am_in k 40 := ⟨by have q := y2.1; simp only [i_le, Int32.reduceToInt, Int32.toInt_zero] at q; omega, by have q := y2.2; simp only [i_lt, Int32.reduceToInt] at q; omega⟩
          have w1 : am_in (1 : Int32) 5 := ⟨by decide, by decide⟩
          have hoa := hX.roa (p := p)
          have cy := i_clamp hy.1
          have y39 : -1 ≤ y.toInt ∧ y.toInt ≤ 39 := ⟨by have := hy.1; omega, by have := hy.2; omega⟩
          repeat' (first | (with_reducible exact hmn) | (with_reducible exact n030) | (with_reducible exact n1) | (with_reducible exact hp) | (with_reducible exact w1) | (with_reducible exact y39) | (with_reducible exact hR) | (with_reducible exact hoa) | apply And.intro | exact rfl | (intro hx; with_reducible exact absurd hx q0) | (intro hx; with_reducible exact absurd hx q1) | (intro hx; with_reducible exact absurd hx q2) | ((with_reducible change r_I _); (with_reducible assumption)) | (intro hx; exact absurd hx (by decide)) | (intro hx; exact absurd (by decide) hx) | decide | intro hx | (refine Exists.intro _ (And.intro rfl ?_)))
          all_goals try first | (with_reducible change am_tI _ _) | (change Ret _ _) | (change Ret _ _ _) | (change Exists _)
          all_goals try dsimp only at *
          all_goals try (with_reducible exact absurd ‹(1000 : Int64) = 0› am_z1000)
          all_goals first
            | exact ⟨(), fun z hz => (show r_ky M _ by with_reducible assumption).oo (hoa.v hz)⟩
            | skip
          rename_i N s0 ky rN z0 e0 N2 s2 ky2 rN2 z2
          have e2 := hx
          refine am_rL (h N2 (ky.sc.tr ky2.sc) rN2) ?_
          have c1 : N.1 201 = M.1 201 := funext fun b => ky.i (by decide) (by decide) (Or.inl (by decide))
          have c2 : N2.1 201 = M.1 201 := (funext fun b => ky2.i (by decide) (by decide) (Or.inl (by decide))).trans c1
          have ey : r_yr N p k = r_yr M p k := funext fun z => ky.f (fun K => r_yr K p k z) (fun _ _ _ => rfl) (fun _ _ _ _ _ _ => rfl)
          rw [ey] at e2
          have f1 : z_tog (r_fl N) 30 (r_mine M p (r_n M)) = z_tog (r_R M p y (y.toInt + 1).toNat).1 30 (r_mine M p (r_n M)) := z_tog_cg (fun x hxm => (r_R_of n1 e0 z0).1 _ (by have q := g_cl (r_mine_z n1 hxm).1; omega))
          have f2 : z_tog (r_fl N2) 30 (r_mine M p (r_n M)) = z_tog (r_R M p k (y.toInt + 1).toNat).1 30 (r_mine M p (r_n M)) := z_tog_cg (fun x hxm => (r_R_of n1 e2 z2).1 _ (by have q := g_cl (r_mine_z n1 hxm).1; omega))
          rw [r_mine_cg c1, r_mine_cg c2, show 30 * (1 : Int32).toNatClampNeg = 30 from rfl, f1, f2, show (y.toInt + 1).toNat = y.toNatClampNeg + 1 by omega]
  · exact h.elim
end
