/-! runs, exact: the reference: a year's step -/
/-- loans in their order, as far as a turn of the reference's loop -/
def z_pf (own : Int32 → Bool) (f : Int32 → Nat) (n k : Nat) : List Int32 := z_q f (z_mine own n) (k / n) ++ (z_mine own (k % n)).filter (fun l => decide (f l = k / n))
theorem z_pf_s {own : Int32 → Bool} {f : Int32 → Nat} {n k : Nat} (hn : 0 < n) : z_pf own f n (k + 1) = z_pf own f n k ++ (if own (Int32.ofNat (k % n)) = true ∧ f (Int32.ofNat (k % n)) = k / n then [Int32.ofNat (k % n)] else []) := by
  have hk := Nat.div_add_mod k n
  have hm := Nat.mod_lt k hn
  have ef : ∀ o, (z_mine own (k % n + 1)).filter (fun l => decide (f l = o)) = (z_mine own (k % n)).filter (fun l => decide (f l = o)) ++ (if own (Int32.ofNat (k % n)) = true ∧ f (Int32.ofNat (k % n)) = o then [Int32.ofNat (k % n)] else []) := fun o => by
    rw [z_mine_s, List.filter_append]
    congr 1
    by_cases z1 : own (Int32.ofNat (k % n)) = true
    · rw [if_pos z1, List.filter_cons]
      by_cases z2 : f (Int32.ofNat (k % n)) = o
      · rw [if_pos (decide_eq_true z2), if_pos ⟨z1, z2⟩]
        rfl
      · rw [if_neg (fun q => z2 (of_decide_eq_true q)), if_neg (fun q => z2 q.2)]
        rfl
    · rw [if_neg z1, if_neg (fun q => z1 q.1)]
      rfl
  by_cases hz : k % n + 1 < n
  · have e0 : k + 1 = n * (k / n) + (k % n + 1) := by omega
    have e1 : (k + 1) / n = k / n := by
      rw [e0, Nat.mul_add_div hn, Nat.div_eq_of_lt hz, Nat.add_zero]
    have e2 : (k + 1) % n = k % n + 1 := by
      rw [e0, Nat.mul_add_mod, Nat.mod_eq_of_lt hz]
    unfold z_pf
    rw [e1, e2, ef, List.append_assoc]
  · have en : k % n + 1 = n := by omega
    have e0 : k + 1 = n * (k / n + 1) := by rw [Nat.mul_add, Nat.mul_one]; omega
    have e1 : (k + 1) / n = k / n + 1 := by
      rw [e0, Nat.mul_div_cancel_left _ hn]
    have e2 : (k + 1) % n = 0 := by
      rw [e0]
      exact Nat.mul_mod_right _ _
    have e3 := ef (k / n)
    rw [en] at e3
    unfold z_pf
    rw [e1, e2]
    show (z_q f (z_mine own n) (k / n) ++ (z_mine own n).filter (fun l => decide (f l = k / n))) ++ [] = _
    rw [List.append_nil, e3, List.append_assoc]
theorem z_pf_0 {own : Int32 → Bool} {f : Int32 → Nat} {n : Nat} : z_pf own f n 0 = [] := by
  unfold z_pf
  rw [Nat.zero_div, Nat.zero_mod]
  rfl
theorem z_pf_e {own : Int32 → Bool} {f : Int32 → Nat} {n o : Nat} (hn : 0 < n) : z_pf own f n (o * n) = z_q f (z_mine own n) o := by
  unfold z_pf
  rw [Nat.mul_div_cancel _ hn, Nat.mul_mod_left]
  exact List.append_nil _
def r_of (M : am_M) (p y l : Int32) : Nat := (r_inF M (r_pl M l y) 4 p y).toNatClampNeg
def r_sd (M : am_M) (y l : Int32) : Bool := decide (¬ r_lo M l 7 < 0 ∧ ¬ y < r_lo M l 7)
/-- paid ahead, as the reference does -/
def z_rp (b : Nat → Int32) (p : (Nat → Int64) × Int64) (l : Int32) : (Nat → Int64) × Int64 := if 0 < p.2 ∧ b l.toNatClampNeg = 0 then (z_u p.1 l.toNatClampNeg (p.1 l.toNatClampNeg - z_mn p.2 (p.1 l.toNatClampNeg)), p.2 - z_mn p.2 (p.1 l.toNatClampNeg)) else p
def z_rk (ask : Int32 → Int64) (sd : Int32 → Bool) (b : Nat → Int32) (p : (Nat → Int64) × Int64) (l : Int32) : (Nat → Int64) × Int64 := if b l.toNatClampNeg = 0 then z_tk ask sd p l else p
theorem z_mn_l {a b : Int64} (h : a < b) : z_mn a b = a := if_neg (fun q => by rw [Int64.lt_iff_toInt_lt] at h q; omega)
theorem z_mn_r {a b : Int64} (h : ¬ a < b) : z_mn a b = b := by
  unfold z_mn
  split
  · rfl
  · next q =>
    apply Int64.toInt_inj.mp
    rw [Int64.lt_iff_toInt_lt] at h q
    omega
theorem r_remx {x y : Int32} (hx : 0 ≤ x.toInt) (hy : 0 < y.toInt) : (x - x / y * y).toInt = x.toInt % y.toInt ∧ (x / y).toInt = x.toInt / y.toInt := by
  have e := i_div hx hy
  have hh := i_hi x
  have h1 := Int.mul_ediv_add_emod x.toInt y.toInt
  have h2 := Int.emod_nonneg x.toInt (show y.toInt ≠ 0 by omega)
  have h3 := Int.emod_lt_of_pos x.toInt hy
  have h4 : (x.toInt / y.toInt) * y.toInt = y.toInt * (x.toInt / y.toInt) := Int.mul_comm _ _
  have h5 := Int.mul_nonneg (Int.le_of_lt hy) (Int.ediv_nonneg hx (Int.le_of_lt hy))
  have e2 := i_mul (x := x / y) (y := y) (by rw [e, h4]; omega) (by rw [e, h4]; omega)
  rw [e, h4] at e2
  have e3 := i_sub (x := x) (y := x / y * y) (by omega) (by omega)
  exact ⟨by omega, e⟩
/-- loan and order of a turn -/
theorem r_lk {i N : Int32} {n : Nat} (hi : 0 ≤ i.toInt) (hN : N.toInt = (n : Int)) (hn : 0 < n) (hn30 : n ≤ 30) : am_in (i - i / N * N) 30 ∧ (i - i / N * N).toNatClampNeg = i.toNatClampNeg % n ∧ i - i / N * N = Int32.ofNat (i.toNatClampNeg % n) ∧ 0 ≤ (i / N).toInt ∧ (i / N).toNatClampNeg = i.toNatClampNeg / n := by
  obtain ⟨e1, e2⟩ := r_remx (x := i) (y := N) hi (by omega)
  have ci := i_clamp hi
  have m1 := Nat.mod_lt i.toNatClampNeg hn
  have m2 : (i - i / N * N).toInt = ((i.toNatClampNeg % n : Nat) : Int) := by rw [e1, hN, ← ci]; rfl
  have m3 : (i / N).toInt = ((i.toNatClampNeg / n : Nat) : Int) := by rw [e2, hN, ← ci]; rfl
  have m2p : 0 ≤ (i - i / N * N).toInt := by rw [m2]; exact Int.natCast_nonneg _
  have m3p : 0 ≤ (i / N).toInt := by rw [m3]; exact Int.natCast_nonneg _
  have c1 : (i - i / N * N).toNatClampNeg = i.toNatClampNeg % n := Int.ofNat.inj ((i_clamp m2p).trans m2)
  have c2 : (i / N).toNatClampNeg = i.toNatClampNeg / n := Int.ofNat.inj ((i_clamp m3p).trans m3)
  have h30 : am_in (i - i / N * N) 30 := ⟨m2p, by rw [m2]; have := Int.ofNat_lt.mpr m1; omega⟩
  exact ⟨h30, c1, by rw [← o_cl h30 (by decide), c1], m3p, c2⟩
abbrev r_S1 (M : am_M) (p y e a d : Int32) : (Nat → Int64) × (Nat → Int32) := (r_mine M p (r_n M)).foldl (r_bg M y e a d) (r_s2 M)
abbrev r_Q (M : am_M) (p y : Int32) (k : Nat) : List Int32 := z_pf (r_own M p) (r_of M p y) (r_n M) k
abbrev r_S2 (M : am_M) (p y e a d : Int32) (q : Int64) (k : Nat) : (Nat → Int64) × Int64 := (r_Q M p y k).foldl (z_rp (r_S1 M p y e a d).2) ((r_S1 M p y e a d).1, q)
abbrev r_S3 (M : am_M) (p y e a d : Int32) (q : Int64) (k : Nat) : (Nat → Int64) × Int64 := (r_Q M p y k).foldl (z_rk (r_due M y e a) (r_sd M y) (r_S1 M p y e a d).2) ((r_S2 M p y e a d q (10 * r_n M)).1, 0)
/-- orders are such -/
def r_oo (M : am_M) (p y : Int32) : Prop := ∃ _ : Unit, ∀ pl, am_in pl 5 → 0 ≤ (r_inF M pl 4 p y).toInt ∧ (r_inF M pl 4 p y).toInt ≤ 9
theorem r_oo.v {M : am_M} {p y : Int32} (h : r_oo M p y) {pl : Int32} (hp : am_in pl 5) : 0 ≤ (r_inF M pl 4 p y).toInt ∧ (r_inF M pl 4 p y).toInt ≤ 9 := by obtain ⟨-, h⟩ := h; exact h pl hp
theorem r_isin_iff {M0 M : am_M} {p y o l : Int32} {b : Nat → Int32} (k : r_ky M0 M) (hR : r_I M0) (hl : am_in l 30) (hb : M.1 213 = b) (ho : r_oo M0 p y) (h0 : 0 ≤ o.toInt) : r_isin M p y o l ↔ (r_own M0 p l = true ∧ r_of M0 p y l = o.toNatClampNeg) ∧ b l.toNatClampNeg = 0 := by
  have e1 : r_lo M l 0 = r_lo M0 l 0 := k.f (fun K => r_lo K l 0) (fun _ _ _ => rfl) (fun _ _ _ _ _ _ => rfl)
  have e2 : r_inF M (r_pl M l y) 4 p y = r_inF M0 (r_pl M0 l y) 4 p y := k.f (fun K => r_inF K (r_pl K l y) 4 p y) (fun _ _ _ => rfl) (fun _ _ _ _ _ _ => rfl)
  have b1 := (ho.v (r_pl_in hR (y := y) hl)).1
  have c1 := i_clamp b1
  have c2 := i_clamp h0
  unfold r_isin
  rw [e1, e2, hb]
  constructor
  · rintro ⟨x1, x2, x3⟩
    exact ⟨⟨r_own_iff.mpr x1, by unfold r_of; rw [x3]⟩, x2⟩
  · rintro ⟨⟨x1, x2⟩, x3⟩
    have x2 : (r_inF M0 (r_pl M0 l y) 4 p y).toNatClampNeg = o.toNatClampNeg := x2
    exact ⟨r_own_iff.mp x1, x3, by rw [i_eq]; omega⟩
def TE8_stepYear : am_T := fun live as M R => match as with
  | [.ref n, .int p, .int y, .int e, .int a, .int d, .long q] => am_mn live ∧ n = 200 ∧ am_in p 12 ∧ am_in y 40 ∧ am_in a 4 ∧ r_I M ∧ r_oo M p y ∧ ∀ M', r_ky M M' → r_I M' → r_fl M' = (r_S3 M p y e a d q (10 * r_n M)).1 → M'.1 213 = (r_S1 M p y e a d).2 → M'.2 200 22 = q - (r_S2 M p y e a d q (10 * r_n M)).2 → R none M'
  | _ => False
def kX8_stepYearE (live : am_E) (Ret : am_R) : am_code := [(0, am_const (.int 0) 1), (1, am_istore 8 16 3), (3, am_iload 8 5), (5, am_aload 0 6), (6, am_getR live 8 0 9), (9, am_const (.int 1) 10), (10, am_ald live 0 11), (11, am_if2 (fun x y => y ≤ x) 43 14), (14, am_aload 0 15), (15, am_iload 8 17), (17, am_const (.int 0) 18), (18, am_callV live 8 2 TX8_ofLoan 21), (21, am_iload 1 22), (22, am_if2 (fun x y => x = y) 25 37), (25, am_aload 0 26), (26, am_iload 8 28), (28, am_iload 2 29), (29, am_iload 3 30), (30, am_iload 4 32), (32, am_iload 5 34), (34, am_callV live 8 5 TE8_begin 37), (37, am_iinc 8 16 1 40), (40, am_goto 3), (43, am_lload 6 45), (45, am_lstore 8 16 47), (47, am_const (.int 0) 48), (48, am_istore 10 16 50), (50, am_iload 10 52), (52, am_const (.int 10) 54), (54, am_aload 0 55), (55, am_getR live 8 0 58), (58, am_const (.int 1) 59), (59, am_ald live 0 60), (60, am_i2 (fun x y => x * y) 61), (61, am_if2 (fun x y => y ≤ x) 154 64), (64, am_iload 10 66), (66, am_aload 0 67), (67, am_getR live 8 0 70), (70, am_const (.int 1) 71), (71, am_ald live 0 72), (72, am_i2z (fun x y => x - x / y * y) 73), (73, am_istore 11 16 75), (75, am_lload 8 77), (77, am_const (.long 0) 78), (78, am_lcmp 79), (79, am_if1 (fun x => x ≤ 0) 148 82), (82, am_aload 0 83), (83, am_iload 11 85), (85, am_iload 1 86), (86, am_iload 2 87), (87, am_iload 10 89), (89, am_aload 0 90), (90, am_getR live 8 0 93), (93, am_const (.int 1) 94), (94, am_ald live 0 95), (95, am_i2z (fun x y => x / y) 96), (96, am_callV live 8 4 TE8_isIn 99), (99, am_if1 (fun x => x = 0) 148 102), (102, am_lload 8 104), (104, am_aload 0 105), (105, am_getR live 8 15 108), (108, am_iload 11 110), (110, am_lald live 1 111), (111, am_lcmp 112), (112, am_if1 (fun x => 0 ≤ x) 120 115), (115, am_lload 8 117), (117, am_goto 127), (120, am_aload 0 121), (121, am_getR live 8 15 124), (124, am_iload 11 126), (126, am_lald live 1 127), (127, am_lstore 12 16 129), (129, am_aload 0 130), (130, am_getR live 8 15 133), (133, am_iload 11 135), (135, am_dup2 136), (136, am_lald live 1 137), (137, am_lload 12 139), (139, am_l2 (fun x y => x - y) 140), (140, am_last live 1 141), (141, am_lload 8 143), (143, am_lload 12 145), (145, am_l2 (fun x y => x - y) 146), (146, am_lstore 8 16 148), (148, am_iinc 10 16 1 151), (151, am_goto 50), (154, am_aload 0 155), (155, am_lload 6 157), (157, am_lload 8 159), (159, am_l2 (fun x y => x - y) 160), (160, am_putJ live 8 22 163), (163, am_const (.long 0) 164), (164, am_lstore 10 16 166), (166, am_const (.int 0) 167), (167, am_istore 12 16 169), (169, am_iload 12 171), (171, am_const (.int 10) 173), (173, am_aload 0 174), (174, am_getR live 8 0 177), (177, am_const (.int 1) 178), (178, am_ald live 0 179), (179, am_i2 (fun x y => x * y) 180), (180, am_if2 (fun x y => y ≤ x) 372 183), (183, am_iload 12 185), (185, am_aload 0 186), (186, am_getR live 8 0 189), (189, am_const (.int 1) 190), (190, am_ald live 0 191), (191, am_i2z (fun x y => x - x / y * y) 192), (192, am_istore 13 16 194), (194, am_aload 0 195), (195, am_iload 13 197), (197, am_iload 1 198), (198, am_iload 2 199), (199, am_iload 12 201), (201, am_aload 0 202), (202, am_getR live 8 0 205), (205, am_const (.int 1) 206), (206, am_ald live 0 207), (207, am_i2z (fun x y => x / y) 208), (208, am_callV live 8 4 TE8_isIn 211), (211, am_if1 (fun x => x = 0) 366 214), (214, am_aload 0 215), (215, am_iload 13 217), (217, am_iload 2 218), (218, am_iload 3 219), (219, am_iload 4 221), (221, am_callV live 8 4 TE8_dueOf 224), (224, am_lload 10 226), (226, am_l2 (fun x y => x - y) 227), (227, am_lstore 14 16 229), (229, am_lload 14 231), (231, am_const (.long 0) 232), (232, am_lcmp 233), (233, am_if1 (fun x => 0 ≤ x) 240 236), (236, am_const (.long 0) 237), (237, am_goto 242), (240, am_lload 14 242), (242, am_lstore 14 16 244), (244, am_aload 0 245), (245, am_getR live 8 16 248), (248, am_iload 13 250), (250, am_lload 14 252), (252, am_aload 0 253), (253, am_getR live 8 15 256), (256, am_iload 13 258), (258, am_lald live 1 259), (259, am_lcmp 260), (260, am_if1 (fun x => 0 ≤ x) 268 263), (263, am_lload 14 265), (265, am_goto 275), (268, am_aload 0 269), (269, am_getR live 8 15 272), (272, am_iload 13 274), (274, am_lald live 1 275), (275, am_last live 1 276), (276, am_aload 0 277), (277, am_getR live 8 15 280), (280, am_iload 13 282), (282, am_dup2 283), (283, am_lald live 1 284), (284, am_aload 0 285), (285, am_getR live 8 16 288), (288, am_iload 13 290), (290, am_lald live 1 291), (291, am_l2 (fun x y => x - y) 292), (292, am_last live 1 293), (293, am_lload 10 295), (295, am_aload 0 296), (296, am_getR live 8 16 299), (299, am_iload 13 301), (301, am_lald live 1 302), (302, am_l2 (fun x y => x + y) 303), (303, am_lstore 10 16 305), (305, am_aload 0 306), (306, am_getR live 8 17 309), (309, am_iload 13 311), (311, am_dup2 312), (312, am_lald live 1 313), (313, am_aload 0 314), (314, am_getR live 8 16 317), (317, am_iload 13 319), (319, am_lald live 1 320), (320, am_l2 (fun x y => x + y) 321), (321, am_last live 1 322), (322, am_aload 0 323), (323, am_getR live 8 18 326), (326, am_iload 13 328), (328, am_dup2 329), (329, am_lald live 1 330), (330, am_aload 0 331), (331, am_iload 13 333), (333, am_const (.int 7) 335), (335, am_callV live 8 2 TX8_ofLoan 338), (338, am_if1 (fun x => x < 0) 363 341), (341, am_iload 2 342), (342, am_aload 0 343), (343, am_iload 13 345), (345, am_const (.int 7) 347), (347, am_callV live 8 2 TX8_ofLoan 350), (350, am_if2 (fun x y => x < y) 363 353), (353, am_aload 0 354), (354, am_getR live 8 16 357), (357, am_iload 13 359), (359, am_lald live 1 360), (360, am_goto 364), (363, am_const (.long 0) 364), (364, am_l2 (fun x y => x + y) 365), (365, am_last live 1 366), (366, am_iinc 12 16 1 369), (369, am_goto 169), (372, am_retV Ret)]
theorem koX8_stepYearE (live : am_E) (Ret : am_R) : ∀ q ∈ kX8_stepYearE live Ret, am_ok RX8 cX8_stepYear 16 none 8 193 live Ret q.1 q.2 :=
  am_kc (ak_iconst dX8_stepYear_0 (by decide +kernel) rfl) <|
  am_kc (ak_istore dX8_stepYear_1 rfl) <|
  am_kc (ak_iload dX8_stepYear_3 rfl) <|
  am_kc (ak_aload_n dX8_stepYear_5 rfl rfl) <|
  am_kc (ak_getR (C := RX8) (T := TX8) (N := 27) rfl inX8w (by decide) rfl rfl rfl wd_895 dX8_stepYear_6 rfl) <|
  am_kc (ak_iconst dX8_stepYear_9 (by decide +kernel) rfl) <|
  am_kc (ak_iald (t := 0) (fun _ => rfl) rfl dX8_stepYear_10 rfl) <|
  am_kc (ak_icmp_ge dX8_stepYear_11 (by decide +kernel) rfl) <|
  am_kc (ak_aload_n dX8_stepYear_14 rfl rfl) <|
  am_kc (ak_iload dX8_stepYear_15 rfl) <|
  am_kc (ak_iconst dX8_stepYear_17 (by decide +kernel) rfl) <|
  am_kc (ak_callV (C := RX8) (F := TX8) (N := 27) metX8_ofLoan rfl ⟨rfl, by decide +kernel, by decide +kernel, by decide +kernel⟩ (am_w5 wd_1154 wd_1156 wd_41 wd_67 wd_1157) (by decide) dX8_stepYear_18 rfl) <|
  am_kc (ak_iload_n dX8_stepYear_21 rfl rfl) <|
  am_kc (ak_icmp_ne dX8_stepYear_22 (by decide +kernel) rfl) <|
  am_kc (ak_aload_n dX8_stepYear_25 rfl rfl) <|
  am_kc (ak_iload dX8_stepYear_26 rfl) <|
  am_kc (ak_iload_n dX8_stepYear_28 rfl rfl) <|
  am_kc (ak_iload_n dX8_stepYear_29 rfl rfl) <|
  am_kc (ak_iload dX8_stepYear_30 rfl) <|
  am_kc (ak_iload dX8_stepYear_32 rfl) <|
  am_kc (ak_callV (C := RX8) (F := TX8) (N := 27) metX8_beginE rfl ⟨rfl, by decide +kernel, by decide +kernel, by decide +kernel⟩ (am_w5 wd_1170 wd_1172 wd_45 wd_67 wd_1173) (by decide) dX8_stepYear_34 rfl) <|
  am_kc (ak_iinc dX8_stepYear_37 (by decide +kernel) rfl) <|
  am_kc (ak_goto dX8_stepYear_40 (by decide +kernel)) <|
  am_kc (ak_lload dX8_stepYear_43 rfl) <|
  am_kc (ak_lstore dX8_stepYear_45 rfl) <|
  am_kc (ak_iconst dX8_stepYear_47 (by decide +kernel) rfl) <|
  am_kc (ak_istore dX8_stepYear_48 rfl) <|
  am_kc (ak_iload dX8_stepYear_50 rfl) <|
  am_kc (ak_bipush dX8_stepYear_52 (by decide +kernel) rfl) <|
  am_kc (ak_aload_n dX8_stepYear_54 rfl rfl) <|
  am_kc (ak_getR (C := RX8) (T := TX8) (N := 27) rfl inX8w (by decide) rfl rfl rfl wd_895 dX8_stepYear_55 rfl) <|
  am_kc (ak_iconst dX8_stepYear_58 (by decide +kernel) rfl) <|
  am_kc (ak_iald (t := 0) (fun _ => rfl) rfl dX8_stepYear_59 rfl) <|
  am_kc (ak_imul dX8_stepYear_60 rfl) <|
  am_kc (ak_icmp_ge dX8_stepYear_61 (by decide +kernel) rfl) <|
  am_kc (ak_iload dX8_stepYear_64 rfl) <|
  am_kc (ak_aload_n dX8_stepYear_66 rfl rfl) <|
  am_kc (ak_getR (C := RX8) (T := TX8) (N := 27) rfl inX8w (by decide) rfl rfl rfl wd_895 dX8_stepYear_67 rfl) <|
  am_kc (ak_iconst dX8_stepYear_70 (by decide +kernel) rfl) <|
  am_kc (ak_iald (t := 0) (fun _ => rfl) rfl dX8_stepYear_71 rfl) <|
  am_kc (ak_irem dX8_stepYear_72 rfl) <|
  am_kc (ak_istore dX8_stepYear_73 rfl) <|
  am_kc (ak_lload dX8_stepYear_75 rfl) <|
  am_kc (ak_lconst dX8_stepYear_77 (by decide +kernel) rfl) <|
  am_kc (ak_lcmp dX8_stepYear_78 rfl) <|
  am_kc (ak_if_le dX8_stepYear_79 (by decide +kernel) rfl) <|
  am_kc (ak_aload_n dX8_stepYear_82 rfl rfl) <|
  am_kc (ak_iload dX8_stepYear_83 rfl) <|
  am_kc (ak_iload_n dX8_stepYear_85 rfl rfl) <|
  am_kc (ak_iload_n dX8_stepYear_86 rfl rfl) <|
  am_kc (ak_iload dX8_stepYear_87 rfl) <|
  am_kc (ak_aload_n dX8_stepYear_89 rfl rfl) <|
  am_kc (ak_getR (C := RX8) (T := TX8) (N := 27) rfl inX8w (by decide) rfl rfl rfl wd_895 dX8_stepYear_90 rfl) <|
  am_kc (ak_iconst dX8_stepYear_93 (by decide +kernel) rfl) <|
  am_kc (ak_iald (t := 0) (fun _ => rfl) rfl dX8_stepYear_94 rfl) <|
  am_kc (ak_idiv dX8_stepYear_95 rfl) <|
  am_kc (ak_callV (C := RX8) (F := TX8) (N := 27) metX8_isInE rfl ⟨rfl, by decide +kernel, by decide +kernel, by decide +kernel⟩ (am_w5 wd_1179 wd_1181 wd_47 wd_67 wd_1182) (by decide) dX8_stepYear_96 rfl) <|
  am_kc (ak_if_eq dX8_stepYear_99 (by decide +kernel) rfl) <|
  am_kc (ak_lload dX8_stepYear_102 rfl) <|
  am_kc (ak_aload_n dX8_stepYear_104 rfl rfl) <|
  am_kc (ak_getR (C := RX8) (T := TX8) (N := 27) rfl inX8w (by decide) rfl rfl rfl wd_910 dX8_stepYear_105 rfl) <|
  am_kc (ak_iload dX8_stepYear_108 rfl) <|
  am_kc (ak_lald (t := 1) (fun _ => rfl) rfl dX8_stepYear_110 rfl) <|
  am_kc (ak_lcmp dX8_stepYear_111 rfl) <|
  am_kc (ak_if_ge dX8_stepYear_112 (by decide +kernel) rfl) <|
  am_kc (ak_lload dX8_stepYear_115 rfl) <|
  am_kc (ak_goto dX8_stepYear_117 (by decide +kernel)) <|
  am_kc (ak_aload_n dX8_stepYear_120 rfl rfl) <|
  am_kc (ak_getR (C := RX8) (T := TX8) (N := 27) rfl inX8w (by decide) rfl rfl rfl wd_910 dX8_stepYear_121 rfl) <|
  am_kc (ak_iload dX8_stepYear_124 rfl) <|
  am_kc (ak_lald (t := 1) (fun _ => rfl) rfl dX8_stepYear_126 rfl) <|
  am_kc (ak_lstore dX8_stepYear_127 rfl) <|
  am_kc (ak_aload_n dX8_stepYear_129 rfl rfl) <|
  am_kc (ak_getR (C := RX8) (T := TX8) (N := 27) rfl inX8w (by decide) rfl rfl rfl wd_910 dX8_stepYear_130 rfl) <|
  am_kc (ak_iload dX8_stepYear_133 rfl) <|
  am_kc (ak_dup2 dX8_stepYear_135 rfl) <|
  am_kc (ak_lald (t := 1) (fun _ => rfl) rfl dX8_stepYear_136 rfl) <|
  am_kc (ak_lload dX8_stepYear_137 rfl) <|
  am_kc (ak_lsub dX8_stepYear_139 rfl) <|
  am_kc (ak_last (t := 1) (fun _ => rfl) rfl dX8_stepYear_140 rfl) <|
  am_kc (ak_lload dX8_stepYear_141 rfl) <|
  am_kc (ak_lload dX8_stepYear_143 rfl) <|
  am_kc (ak_lsub dX8_stepYear_145 rfl) <|
  am_kc (ak_lstore dX8_stepYear_146 rfl) <|
  am_kc (ak_iinc dX8_stepYear_148 (by decide +kernel) rfl) <|
  am_kc (ak_goto dX8_stepYear_151 (by decide +kernel)) <|
  am_kc (ak_aload_n dX8_stepYear_154 rfl rfl) <|
  am_kc (ak_lload dX8_stepYear_155 rfl) <|
  am_kc (ak_lload dX8_stepYear_157 rfl) <|
  am_kc (ak_lsub dX8_stepYear_159 rfl) <|
  am_kc (ak_putJ (C := RX8) (T := TX8) (N := 27) rfl inX8w tyX8_ok nmX8 (by decide) rfl rfl rfl rfl (by decide +kernel) wd_917 dX8_stepYear_160 rfl) <|
  am_kc (ak_lconst dX8_stepYear_163 (by decide +kernel) rfl) <|
  am_kc (ak_lstore dX8_stepYear_164 rfl) <|
  am_kc (ak_iconst dX8_stepYear_166 (by decide +kernel) rfl) <|
  am_kc (ak_istore dX8_stepYear_167 rfl) <|
  am_kc (ak_iload dX8_stepYear_169 rfl) <|
  am_kc (ak_bipush dX8_stepYear_171 (by decide +kernel) rfl) <|
  am_kc (ak_aload_n dX8_stepYear_173 rfl rfl) <|
  am_kc (ak_getR (C := RX8) (T := TX8) (N := 27) rfl inX8w (by decide) rfl rfl rfl wd_895 dX8_stepYear_174 rfl) <|
  am_kc (ak_iconst dX8_stepYear_177 (by decide +kernel) rfl) <|
  am_kc (ak_iald (t := 0) (fun _ => rfl) rfl dX8_stepYear_178 rfl) <|
  am_kc (ak_imul dX8_stepYear_179 rfl) <|
  am_kc (ak_icmp_ge dX8_stepYear_180 (by decide +kernel) rfl) <|
  am_kc (ak_iload dX8_stepYear_183 rfl) <|
  am_kc (ak_aload_n dX8_stepYear_185 rfl rfl) <|
  am_kc (ak_getR (C := RX8) (T := TX8) (N := 27) rfl inX8w (by decide) rfl rfl rfl wd_895 dX8_stepYear_186 rfl) <|
  am_kc (ak_iconst dX8_stepYear_189 (by decide +kernel) rfl) <|
  am_kc (ak_iald (t := 0) (fun _ => rfl) rfl dX8_stepYear_190 rfl) <|
  am_kc (ak_irem dX8_stepYear_191 rfl) <|
  am_kc (ak_istore dX8_stepYear_192 rfl) <|
  am_kc (ak_aload_n dX8_stepYear_194 rfl rfl) <|
  am_kc (ak_iload dX8_stepYear_195 rfl) <|
  am_kc (ak_iload_n dX8_stepYear_197 rfl rfl) <|
  am_kc (ak_iload_n dX8_stepYear_198 rfl rfl) <|
  am_kc (ak_iload dX8_stepYear_199 rfl) <|
  am_kc (ak_aload_n dX8_stepYear_201 rfl rfl) <|
  am_kc (ak_getR (C := RX8) (T := TX8) (N := 27) rfl inX8w (by decide) rfl rfl rfl wd_895 dX8_stepYear_202 rfl) <|
  am_kc (ak_iconst dX8_stepYear_205 (by decide +kernel) rfl) <|
  am_kc (ak_iald (t := 0) (fun _ => rfl) rfl dX8_stepYear_206 rfl) <|
  am_kc (ak_idiv dX8_stepYear_207 rfl) <|
  am_kc (ak_callV (C := RX8) (F := TX8) (N := 27) metX8_isInE rfl ⟨rfl, by decide +kernel, by decide +kernel, by decide +kernel⟩ (am_w5 wd_1179 wd_1181 wd_47 wd_67 wd_1182) (by decide) dX8_stepYear_208 rfl) <|
  am_kc (ak_if_eq dX8_stepYear_211 (by decide +kernel) rfl) <|
  am_kc (ak_aload_n dX8_stepYear_214 rfl rfl) <|
  am_kc (ak_iload dX8_stepYear_215 rfl) <|
  am_kc (ak_iload_n dX8_stepYear_217 rfl rfl) <|
  am_kc (ak_iload_n dX8_stepYear_218 rfl rfl) <|
  am_kc (ak_iload dX8_stepYear_219 rfl) <|
  am_kc (ak_callV (C := RX8) (F := TX8) (N := 27) metX8_dueOfE rfl ⟨rfl, by decide +kernel, by decide +kernel, by decide +kernel⟩ (am_w5 wd_1183 wd_1185 wd_48 wd_67 wd_1186) (by decide) dX8_stepYear_221 rfl) <|
  am_kc (ak_lload dX8_stepYear_224 rfl) <|
  am_kc (ak_lsub dX8_stepYear_226 rfl) <|
  am_kc (ak_lstore dX8_stepYear_227 rfl) <|
  am_kc (ak_lload dX8_stepYear_229 rfl) <|
  am_kc (ak_lconst dX8_stepYear_231 (by decide +kernel) rfl) <|
  am_kc (ak_lcmp dX8_stepYear_232 rfl) <|
  am_kc (ak_if_ge dX8_stepYear_233 (by decide +kernel) rfl) <|
  am_kc (ak_lconst dX8_stepYear_236 (by decide +kernel) rfl) <|
  am_kc (ak_goto dX8_stepYear_237 (by decide +kernel)) <|
  am_kc (ak_lload dX8_stepYear_240 rfl) <|
  am_kc (ak_lstore dX8_stepYear_242 rfl) <|
  am_kc (ak_aload_n dX8_stepYear_244 rfl rfl) <|
  am_kc (ak_getR (C := RX8) (T := TX8) (N := 27) rfl inX8w (by decide) rfl rfl rfl wd_911 dX8_stepYear_245 rfl) <|
  am_kc (ak_iload dX8_stepYear_248 rfl) <|
  am_kc (ak_lload dX8_stepYear_250 rfl) <|
  am_kc (ak_aload_n dX8_stepYear_252 rfl rfl) <|
  am_kc (ak_getR (C := RX8) (T := TX8) (N := 27) rfl inX8w (by decide) rfl rfl rfl wd_910 dX8_stepYear_253 rfl) <|
  am_kc (ak_iload dX8_stepYear_256 rfl) <|
  am_kc (ak_lald (t := 1) (fun _ => rfl) rfl dX8_stepYear_258 rfl) <|
  am_kc (ak_lcmp dX8_stepYear_259 rfl) <|
  am_kc (ak_if_ge dX8_stepYear_260 (by decide +kernel) rfl) <|
  am_kc (ak_lload dX8_stepYear_263 rfl) <|
  am_kc (ak_goto dX8_stepYear_265 (by decide +kernel)) <|
  am_kc (ak_aload_n dX8_stepYear_268 rfl rfl) <|
  am_kc (ak_getR (C := RX8) (T := TX8) (N := 27) rfl inX8w (by decide) rfl rfl rfl wd_910 dX8_stepYear_269 rfl) <|
  am_kc (ak_iload dX8_stepYear_272 rfl) <|
  am_kc (ak_lald (t := 1) (fun _ => rfl) rfl dX8_stepYear_274 rfl) <|
  am_kc (ak_last (t := 1) (fun _ => rfl) rfl dX8_stepYear_275 rfl) <|
  am_kc (ak_aload_n dX8_stepYear_276 rfl rfl) <|
  am_kc (ak_getR (C := RX8) (T := TX8) (N := 27) rfl inX8w (by decide) rfl rfl rfl wd_910 dX8_stepYear_277 rfl) <|
  am_kc (ak_iload dX8_stepYear_280 rfl) <|
  am_kc (ak_dup2 dX8_stepYear_282 rfl) <|
  am_kc (ak_lald (t := 1) (fun _ => rfl) rfl dX8_stepYear_283 rfl) <|
  am_kc (ak_aload_n dX8_stepYear_284 rfl rfl) <|
  am_kc (ak_getR (C := RX8) (T := TX8) (N := 27) rfl inX8w (by decide) rfl rfl rfl wd_911 dX8_stepYear_285 rfl) <|
  am_kc (ak_iload dX8_stepYear_288 rfl) <|
  am_kc (ak_lald (t := 1) (fun _ => rfl) rfl dX8_stepYear_290 rfl) <|
  am_kc (ak_lsub dX8_stepYear_291 rfl) <|
  am_kc (ak_last (t := 1) (fun _ => rfl) rfl dX8_stepYear_292 rfl) <|
  am_kc (ak_lload dX8_stepYear_293 rfl) <|
  am_kc (ak_aload_n dX8_stepYear_295 rfl rfl) <|
  am_kc (ak_getR (C := RX8) (T := TX8) (N := 27) rfl inX8w (by decide) rfl rfl rfl wd_911 dX8_stepYear_296 rfl) <|
  am_kc (ak_iload dX8_stepYear_299 rfl) <|
  am_kc (ak_lald (t := 1) (fun _ => rfl) rfl dX8_stepYear_301 rfl) <|
  am_kc (ak_ladd dX8_stepYear_302 rfl) <|
  am_kc (ak_lstore dX8_stepYear_303 rfl) <|
  am_kc (ak_aload_n dX8_stepYear_305 rfl rfl) <|
  am_kc (ak_getR (C := RX8) (T := TX8) (N := 27) rfl inX8w (by decide) rfl rfl rfl wd_912 dX8_stepYear_306 rfl) <|
  am_kc (ak_iload dX8_stepYear_309 rfl) <|
  am_kc (ak_dup2 dX8_stepYear_311 rfl) <|
  am_kc (ak_lald (t := 1) (fun _ => rfl) rfl dX8_stepYear_312 rfl) <|
  am_kc (ak_aload_n dX8_stepYear_313 rfl rfl) <|
  am_kc (ak_getR (C := RX8) (T := TX8) (N := 27) rfl inX8w (by decide) rfl rfl rfl wd_911 dX8_stepYear_314 rfl) <|
  am_kc (ak_iload dX8_stepYear_317 rfl) <|
  am_kc (ak_lald (t := 1) (fun _ => rfl) rfl dX8_stepYear_319 rfl) <|
  am_kc (ak_ladd dX8_stepYear_320 rfl) <|
  am_kc (ak_last (t := 1) (fun _ => rfl) rfl dX8_stepYear_321 rfl) <|
  am_kc (ak_aload_n dX8_stepYear_322 rfl rfl) <|
  am_kc (ak_getR (C := RX8) (T := TX8) (N := 27) rfl inX8w (by decide) rfl rfl rfl wd_913 dX8_stepYear_323 rfl) <|
  am_kc (ak_iload dX8_stepYear_326 rfl) <|
  am_kc (ak_dup2 dX8_stepYear_328 rfl) <|
  am_kc (ak_lald (t := 1) (fun _ => rfl) rfl dX8_stepYear_329 rfl) <|
  am_kc (ak_aload_n dX8_stepYear_330 rfl rfl) <|
  am_kc (ak_iload dX8_stepYear_331 rfl) <|
  am_kc (ak_bipush dX8_stepYear_333 (by decide +kernel) rfl) <|
  am_kc (ak_callV (C := RX8) (F := TX8) (N := 27) metX8_ofLoan rfl ⟨rfl, by decide +kernel, by decide +kernel, by decide +kernel⟩ (am_w5 wd_1154 wd_1156 wd_41 wd_67 wd_1157) (by decide) dX8_stepYear_335 rfl) <|
  am_kc (ak_if_lt dX8_stepYear_338 (by decide +kernel) rfl) <|
  am_kc (ak_iload_n dX8_stepYear_341 rfl rfl) <|
  am_kc (ak_aload_n dX8_stepYear_342 rfl rfl) <|
  am_kc (ak_iload dX8_stepYear_343 rfl) <|
  am_kc (ak_bipush dX8_stepYear_345 (by decide +kernel) rfl) <|
  am_kc (ak_callV (C := RX8) (F := TX8) (N := 27) metX8_ofLoan rfl ⟨rfl, by decide +kernel, by decide +kernel, by decide +kernel⟩ (am_w5 wd_1154 wd_1156 wd_41 wd_67 wd_1157) (by decide) dX8_stepYear_347 rfl) <|
  am_kc (ak_icmp_lt dX8_stepYear_350 (by decide +kernel) rfl) <|
  am_kc (ak_aload_n dX8_stepYear_353 rfl rfl) <|
  am_kc (ak_getR (C := RX8) (T := TX8) (N := 27) rfl inX8w (by decide) rfl rfl rfl wd_911 dX8_stepYear_354 rfl) <|
  am_kc (ak_iload dX8_stepYear_357 rfl) <|
  am_kc (ak_lald (t := 1) (fun _ => rfl) rfl dX8_stepYear_359 rfl) <|
  am_kc (ak_goto dX8_stepYear_360 (by decide +kernel)) <|
  am_kc (ak_lconst dX8_stepYear_363 (by decide +kernel) rfl) <|
  am_kc (ak_ladd dX8_stepYear_364 rfl) <|
  am_kc (ak_last (t := 1) (fun _ => rfl) rfl dX8_stepYear_365 rfl) <|
  am_kc (ak_iinc dX8_stepYear_366 (by decide +kernel) rfl) <|
  am_kc (ak_goto dX8_stepYear_369 (by decide +kernel)) <|
  am_kc (ak_retV dX8_stepYear_372) <| am_kn
def JE8_stepYear : am_E → List Value → am_M → am_R → am_inv := fun live as M0 _ pc => match as with
  | [.ref n, .int p, .int y, .int e, .int a, .int d, .long q] => (match pc with
    | 3 => some ([0, 1, 2, 3, 4, 5, 6, 8], fun k L st M => ∃ i : Int32, L = [(0, .ref 200), (1, .int p), (2, .int y), (3, .int e), (4, .int a), (5, .int d), (6, .long q), (8, .int i)] ∧ st = [] ∧ k = (3000 + (31 - i.toInt).toNat, 0) ∧ (0 ≤ i.toInt ∧ i.toInt ≤ (M0.1 201 1).toInt) ∧ r_ky M0 M ∧ r_I M ∧ r_s2 M = (r_mine M0 p i.toNatClampNeg).foldl (r_bg M0 y e a d) (r_s2 M0))
    | 50 => some ([0, 1, 2, 3, 4, 6, 8, 10], fun k L st M => ∃ (u : Int64) (i : Int32), L = [(0, .ref 200), (1, .int p), (2, .int y), (3, .int e), (4, .int a), (6, .long q), (8, .long u), (10, .int i)] ∧ st = [] ∧ k = (2000 + (310 - i.toInt).toNat, 0) ∧ (0 ≤ i.toInt ∧ i.toInt ≤ 10 * (M0.1 201 1).toInt) ∧ r_ky M0 M ∧ r_I M ∧ M.1 213 = (r_S1 M0 p y e a d).2 ∧ (r_fl M, u) = r_S2 M0 p y e a d q i.toNatClampNeg)
    | 169 => some ([0, 1, 2, 3, 4, 10, 12], fun k L st M => ∃ (u : Int64) (i : Int32), L = [(0, .ref 200), (1, .int p), (2, .int y), (3, .int e), (4, .int a), (10, .long u), (12, .int i)] ∧ st = [] ∧ k = ((310 - i.toInt).toNat, 3) ∧ (0 ≤ i.toInt ∧ i.toInt ≤ 10 * (M0.1 201 1).toInt) ∧ r_ky M0 M ∧ r_I M ∧ M.1 213 = (r_S1 M0 p y e a d).2 ∧ M.2 200 22 = q - (r_S2 M0 p y e a d q (10 * r_n M0)).2 ∧ (r_fl M, u) = r_S3 M0 p y e a d q i.toNatClampNeg)
    | 244 => some ([0, 1, 2, 3, 4, 10, 12, 13, 14], fun k L st M => ∃ (u w : Int64) (i l : Int32), L = [(0, .ref 200), (1, .int p), (2, .int y), (3, .int e), (4, .int a), (10, .long u), (12, .int i), (13, .int l), (14, .long w)] ∧ st = [] ∧ k = ((310 - i.toInt).toNat, 2) ∧ (0 ≤ i.toInt ∧ i.toInt < 10 * (M0.1 201 1).toInt) ∧ r_ky M0 M ∧ r_I M ∧ M.1 213 = (r_S1 M0 p y e a d).2 ∧ M.2 200 22 = q - (r_S2 M0 p y e a d q (10 * r_n M0)).2 ∧ am_in l 30 ∧ w = (if r_due M0 y e a l - u < 0 then 0 else r_due M0 y e a l - u) ∧ z_tk (r_due M0 y e a) (r_sd M0 y) (r_fl M, u) l = r_S3 M0 p y e a d q (i.toNatClampNeg + 1))
    | 276 => some ([0, 1, 2, 3, 4, 10, 12, 13], fun k L st M => ∃ (u : Int64) (i l : Int32) (s : Nat → Int64), L = [(0, .ref 200), (1, .int p), (2, .int y), (3, .int e), (4, .int a), (10, .long u), (12, .int i), (13, .int l)] ∧ st = [] ∧ k = ((310 - i.toInt).toNat, 1) ∧ (0 ≤ i.toInt ∧ i.toInt < 10 * (M0.1 201 1).toInt) ∧ r_ky M0 M ∧ r_I M ∧ M.1 213 = (r_S1 M0 p y e a d).2 ∧ M.2 200 22 = q - (r_S2 M0 p y e a d q (10 * r_n M0)).2 ∧ am_in l 30 ∧ r_fl M = z_u s (30 + l.toNatClampNeg) (z_tn (r_due M0 y e a l) u (s l.toNatClampNeg)) ∧ z_tk (r_due M0 y e a) (r_sd M0 y) (s, u) l = r_S3 M0 p y e a d q (i.toNatClampNeg + 1))
    | _ => none)
  | _ => none
/-- what is taken of a loan stands -/
theorem z_tk_x {ask : Int32 → Int64} {sd : Int32 → Bool} {s : Nat → Int64} {u t x : Int64} {l : Int32} (ht : t = z_tn (ask l) u (s l.toNatClampNeg)) (hx : x = if sd l = true then t else 0) : (fun s1 : Nat → Int64 => (fun s2 : Nat → Int64 => z_u s2 (150 + l.toNatClampNeg) (s2 (150 + l.toNatClampNeg) + x)) (z_u s1 (90 + l.toNatClampNeg) (s1 (90 + l.toNatClampNeg) + t))) (z_u (z_u s (30 + l.toNatClampNeg) t) l.toNatClampNeg (z_u s (30 + l.toNatClampNeg) t l.toNatClampNeg - t)) = (z_tk ask sd (s, u) l).1 := by
  subst hx
  unfold z_tk
  dsimp only
  rw [← ht]
  generalize l.toNatClampNeg = n
  have sw : z_u (z_u s (30 + n) t) n (z_u s (30 + n) t n - t) = z_u (z_u s n (s n - t)) (30 + n) t := by
    funext j
    unfold z_u
    by_cases z : j = n
    · subst z; rw [if_pos rfl, if_neg (by omega), if_neg (by omega), if_pos rfl]
    · rw [if_neg z]
      by_cases y : j = 30 + n
      · rw [if_pos y, if_pos y]
      · rw [if_neg y, if_neg y, if_neg z]
  rw [sw]
  by_cases z : sd l = true
  · rw [if_pos z, if_pos z]
  · rw [if_neg z, if_neg z]
    funext j
    unfold z_u
    by_cases y : j = 150 + n
    · subst y; rw [if_pos rfl, Int64.add_zero]
    · rw [if_neg y]
set_option maxRecDepth 100000 in
set_option maxHeartbeats 4000000 in
theorem metX8_stepYearE : am_Met yX8_stepYear cX8_stepYear 16 none (8) (193) TE8_stepYear := by
  refine am_met (own := RX8) (by decide +kernel) rfl kX8_stepYearE koX8_stepYearE 150 JE8_stepYear ?_ ?_
  · intro live as M Ret h
    unfold TE8_stepYear at h
    split at h
    · next n p y e a d q =>
      refine ⟨Nat.le_of_ble_eq_true rfl, ?_⟩
      change am_wp _ _ _ _ [(0, Value.ref n), (1, Value.int p), (2, Value.int y), (3, Value.int e), (4, Value.int a), (5, Value.int d), (6, Value.long q)] _ _
      obtain ⟨hmn, rfl, hp, hy, ha, hR, hoo, h⟩ := h
      have n1 := hR.n1
      repeat' (first | apply And.intro | exact rfl | intro hx | (refine Exists.intro _ (And.intro rfl ?_)))
      all_goals try first | (with_reducible change am_tI _ _) | (change Ret _ _) | (change Ret _ _ _) | (change Exists _)
      all_goals try dsimp only at *
      all_goals try exact absurd ‹(1000 : Int64) = 0› (by decide)
      exact ⟨_, _, rfl, rfl, rfl, ⟨by decide, n1.1⟩, r_ky.rf, hR, rfl⟩
    · exact h.elim
  · intro live as M0 Ret h k pc I hI L st M hi
    unfold TE8_stepYear at h
    split at h
    · next n p y e a d q =>
      obtain ⟨hmn, rfl, hp, hy, ha, hR, hoo, h⟩ := h
      have hmn2 := hmn
      obtain ⟨i1, i2, rfl⟩ := hmn2
      have l201 : am_len 201 = 3760 := rfl
      have w0 : 0 ≤ (0 : Int32).toInt ∧ (0 : Int32).toInt ≤ 7 := ⟨by decide, by decide⟩
      have w7 : 0 ≤ (7 : Int32).toInt ∧ (7 : Int32).toInt ≤ 7 := ⟨by decide, by decide⟩
      have x1l : (1 : Int32).toInt < (am_len 201 : Int) := by rw [l201]; decide
      have y1 := hy.1
      have n1 := hR.n1
      have cn : (r_n M0 : Int) = (M0.1 201 1).toInt := i_clamp n1.1
      change (match pc with | 3 => _ | 50 => _ | 169 => _ | 244 => _ | 276 => _ | _ => none) = _ at hI
      split at hI
      · cases hI
        obtain ⟨i, rfl, rfl, rfl, ⟨e1, e4⟩, e2, e3, es⟩ := hi
        have em : M.1 201 (Int32.toNatClampNeg 1) = M0.1 201 1 := e2.i (by decide) (by decide) (Or.inl (by decide))
        have ci := i_clamp e1
        by_cases hz : M.1 201 (Int32.toNatClampNeg 1) ≤ i
        · have hz2 := hz
          rw [em] at hz2
          simp only [i_le] at hz2
          rw [show i.toNatClampNeg = r_n M0 by omega] at es
          repeat' (first | (with_reducible exact x1l) | apply And.intro | exact rfl | (intro hx; with_reducible exact absurd hz hx) | (intro hx; exact absurd hx (by decide)) | (intro hx; exact absurd (by decide) hx) | decide | intro hx | (refine Exists.intro _ (And.intro rfl ?_)))
          all_goals try first | (with_reducible change am_tI _ _) | (change Ret _ _) | (change Ret _ _ _) | (change Exists _)
          all_goals try dsimp only at *
          all_goals try exact absurd ‹(1000 : Int64) = 0› (by decide)
          all_goals exact ⟨_, am_lt_l (by simp only [Int32.reduceToInt]; omega), _, _, rfl, rfl, rfl, ⟨by decide, by simp only [Int32.toInt_zero]; omega⟩, e2, e3, congrArg Prod.snd es, by rw [show r_fl M = (r_S1 M0 p y e a d).1 from congrArg Prod.fst es]; unfold r_S2 r_Q; rw [show (0 : Int32).toNatClampNeg = 0 from rfl, z_pf_0]; rfl⟩
        · have hz2 := hz
          rw [em] at hz2
          simp only [i_le] at hz2
          have hl : am_in i 30 := ⟨e1, by omega⟩
          have hi := i_inc (x := i) (by omega) (by omega)
          have ci1 := i_clamp (x := i + 1) (by omega)
          have ol := o_cl hl (by decide)
          have eo : M.1 201 (2838 + 8 * i + 0).toNatClampNeg = r_lo M0 i 0 := e2.i (by decide) (by decide) (Or.inl (by decide))
          have mm : r_mine M0 p (i + 1).toNatClampNeg = r_mine M0 p i.toNatClampNeg ++ (if r_own M0 p i = true then [i] else []) := by
            rw [show (i + 1).toNatClampNeg = i.toNatClampNeg + 1 by omega]
            show z_mine _ (_ + 1) = _
            rw [z_mine_s, ol]
          by_cases hm : M.1 201 (2838 + 8 * i + 0).toNatClampNeg = p
          · rw [if_pos (r_own_iff.mpr (by rw [← eo]; exact hm))] at mm
            repeat' (first | (with_reducible exact x1l) | (with_reducible exact hmn) | (with_reducible exact hl) | (with_reducible exact hy) | (with_reducible exact w0) | (with_reducible exact e3) | apply And.intro | exact rfl | (intro hx; with_reducible exact absurd hx hz) | (intro hx; with_reducible exact absurd hm hx) | ((with_reducible change r_I _); (with_reducible assumption)) | (intro hx; exact absurd hx (by decide)) | (intro hx; exact absurd (by decide) hx) | decide | intro hx | (refine Exists.intro _ (And.intro rfl ?_)))
            all_goals try first | (with_reducible change am_tI _ _) | (change Ret _ _) | (change Ret _ _ _) | (change Exists _)
            all_goals try dsimp only at *
            all_goals try exact absurd ‹(1000 : Int64) = 0› (by decide)
            all_goals
              rename_i N ky hRN
              have en := hx
              refine ⟨_, am_lt_l (by omega), _, rfl, rfl, rfl, ⟨by omega, by omega⟩, e2.tr ky, hRN, ?_⟩
              rw [mm, List.foldl_append, ← es, en]
              exact e2.f (fun K => r_bg K y e a d (r_s2 M) i) (fun _ _ _ => rfl) (fun _ _ _ _ _ _ => rfl)
          · rw [if_neg (fun z => hm (by rw [eo]; exact r_own_iff.mp z)), List.append_nil] at mm
            repeat' (first | (with_reducible exact x1l) | (with_reducible exact hmn) | (with_reducible exact hl) | (with_reducible exact hy) | (with_reducible exact w0) | (with_reducible exact e3) | apply And.intro | exact rfl | (intro hx; with_reducible exact absurd hx hz) | (intro hx; with_reducible exact absurd hx hm) | ((with_reducible change r_I _); (with_reducible assumption)) | (intro hx; exact absurd hx (by decide)) | (intro hx; exact absurd (by decide) hx) | decide | intro hx | (refine Exists.intro _ (And.intro rfl ?_)))
            all_goals try first | (with_reducible change am_tI _ _) | (change Ret _ _) | (change Ret _ _ _) | (change Exists _)
            all_goals try dsimp only at *
            all_goals try exact absurd ‹(1000 : Int64) = 0› (by decide)
            all_goals exact ⟨_, am_lt_l (by omega), _, rfl, rfl, rfl, ⟨by omega, by omega⟩, e2, e3, by rw [mm]; exact es⟩
      · cases hI
        obtain ⟨u, i, rfl, rfl, rfl, ⟨e1, e4⟩, e2, e3, eb, es⟩ := hi
        have em : M.1 201 (Int32.toNatClampNeg 1) = M0.1 201 1 := e2.i (by decide) (by decide) (Or.inl (by decide))
        have n1 : 0 ≤ (M.1 201 (Int32.toNatClampNeg 1)).toInt ∧ (M.1 201 (Int32.toNatClampNeg 1)).toInt ≤ 30 := by rw [em]; exact hR.n1
        have e10 := r_mul (c := 10) (x := M.1 201 (Int32.toNatClampNeg 1)) ⟨by decide, by decide⟩ ⟨n1.1, by omega⟩
        simp only [Int32.reduceToInt] at e10
        have ci := i_clamp e1
        by_cases hz : 10 * M.1 201 (Int32.toNatClampNeg 1) ≤ i
        · have hz2 := hz
          simp only [i_le] at hz2
          rw [em] at hz2 e10
          rw [show i.toNatClampNeg = 10 * r_n M0 by omega] at es
          have eu : u = (r_S2 M0 p y e a d q (10 * r_n M0)).2 := congrArg Prod.snd es
          have hRw : r_I (am_wJ M 200 22 (q - u)) := e3.wJ
          repeat' (first | (with_reducible exact x1l) | apply And.intro | exact rfl | (intro hx; with_reducible exact absurd hz hx) | (intro hx; exact absurd hx (by decide)) | (intro hx; exact absurd (by decide) hx) | decide | intro hx | (refine Exists.intro _ (And.intro rfl ?_)))
          all_goals try first | (with_reducible change am_tI _ _) | (change Ret _ _) | (change Ret _ _ _) | (change Exists _)
          all_goals try dsimp only at *
          all_goals try exact absurd ‹(1000 : Int64) = 0› (by decide)
          all_goals exact ⟨_, am_lt_l (by simp only [Int32.reduceToInt]; omega), _, _, rfl, rfl, rfl, ⟨by decide, by simp only [Int32.toInt_zero]; omega⟩, e2.wp, hRw, eb, by rw [am_wJ_1, if_pos ⟨rfl, rfl⟩, eu], by rw [show r_fl (am_wJ M 200 22 (q - u)) = r_fl M from r_fl_cg (fun a x1 x2 => z_wJo (by omega)), show r_fl M = (r_S2 M0 p y e a d q (10 * r_n M0)).1 from congrArg Prod.fst es]; unfold r_S3 r_Q; rw [show (0 : Int32).toNatClampNeg = 0 from rfl, z_pf_0]; rfl⟩
        · have hz2 := hz
          simp only [i_le] at hz2
          have hi := i_inc (x := i) (by omega) (by omega)
          have ci1 := i_clamp (x := i + 1) (by omega)
          have hc : 0 < (M.1 201 (Int32.toNatClampNeg 1)).toInt := by omega
          have hc0 : ¬ M.1 201 (Int32.toNatClampNeg 1) = 0 := fun z => by rw [z] at hc; exact absurd hc (by decide)
          obtain ⟨hl, k1, k2, k3, k4⟩ := r_lk (i := i) (N := M.1 201 (Int32.toNatClampNeg 1)) (n := r_n M0) e1 (by rw [em]; exact cn.symm) (by rw [em] at hc; omega) (by rw [em] at n1; omega)
          have iff := r_isin_iff e2 hR hl eb hoo k3
          rw [k4] at iff
          have st : r_Q M0 p y (i + 1).toNatClampNeg = r_Q M0 p y i.toNatClampNeg ++ (if r_own M0 p (Int32.ofNat (i.toNatClampNeg % r_n M0)) = true ∧ r_of M0 p y (Int32.ofNat (i.toNatClampNeg % r_n M0)) = i.toNatClampNeg / r_n M0 then [Int32.ofNat (i.toNatClampNeg % r_n M0)] else []) := by
            rw [show (i + 1).toNatClampNeg = i.toNatClampNeg + 1 by omega]
            exact z_pf_s (by rw [em] at hc; omega)
          rw [← k2] at st
          rw [em] at e10
          have hz3 : i.toInt < 10 * (M0.1 201 1).toInt := by rw [em] at hz2; omega
          have x1 := hl.1
          have x2 : (i - i / M.1 201 (Int32.toNatClampNeg 1) * M.1 201 (Int32.toNatClampNeg 1)).toInt < ((30 : Nat) : Int) := hl.2
          have gl := g_cl hl
          have es1 : r_fl M = (r_S2 M0 p y e a d q i.toNatClampNeg).1 := congrArg Prod.fst es
          have es2 : u = (r_S2 M0 p y e a d q i.toNatClampNeg).2 := congrArg Prod.snd es
          have no : ¬ (0 < u ∧ (r_own M0 p (i - i / M.1 201 (Int32.toNatClampNeg 1) * M.1 201 (Int32.toNatClampNeg 1)) = true ∧ r_of M0 p y (i - i / M.1 201 (Int32.toNatClampNeg 1) * M.1 201 (Int32.toNatClampNeg 1)) = i.toNatClampNeg / r_n M0) ∧ (r_S1 M0 p y e a d).2 (i - i / M.1 201 (Int32.toNatClampNeg 1) * M.1 201 (Int32.toNatClampNeg 1)).toNatClampNeg = 0) → (r_fl M, u) = r_S2 M0 p y e a d q (i + 1).toNatClampNeg := fun z => by
            rw [es]
            unfold r_S2
            rw [st, List.foldl_append]
            split
            · next w =>
              show _ = z_rp _ _ _
              unfold z_rp
              rw [if_neg]
              intro w2
              refine z ⟨?_, w, w2.2⟩
              rw [es2]
              exact w2.1
            · rfl
          by_cases hu : lg_cmp u 0 ≤ 0
          · have hu2 : ¬ 0 < u := fun z => by rw [lc_le, j_le] at hu; rw [Int64.lt_iff_toInt_lt] at z; omega
            have nx := no (fun z => hu2 z.1)
            repeat' (first | (with_reducible exact x1l) | (with_reducible exact hmn) | (with_reducible exact hl) | (with_reducible exact hp) | (with_reducible exact y1) | (with_reducible exact e3) | (with_reducible exact x1) | (with_reducible exact hc0) | apply And.intro | exact rfl | (intro hx; with_reducible exact absurd hx hz) | (intro hx; with_reducible exact absurd hu hx) | ((with_reducible change r_I _); (with_reducible assumption)) | (intro hx; exact absurd hx (by decide)) | (intro hx; exact absurd (by decide) hx) | decide | intro hx | (refine Exists.intro _ (And.intro rfl ?_)))
            all_goals try first | (with_reducible change am_tI _ _) | (change Ret _ _) | (change Ret _ _ _) | (change Exists _)
            all_goals try dsimp only at *
            all_goals try exact absurd ‹(1000 : Int64) = 0› (by decide)
            all_goals first
              | exact x2
              | exact hc0 (by with_reducible assumption)
              | exact ⟨_, am_lt_l (by omega), _, _, rfl, rfl, rfl, ⟨by omega, by omega⟩, e2, e3, eb, nx⟩
              | skip
          · have hu2 : 0 < u := by rw [lc_le, j_le] at hu; rw [Int64.lt_iff_toInt_lt]; omega
            by_cases hin : r_isin M p y (i / M.1 201 (Int32.toNatClampNeg 1)) (i - i / M.1 201 (Int32.toNatClampNeg 1) * M.1 201 (Int32.toNatClampNeg 1))
            · have w := iff.mp hin
              have vl : r_fl M (i - i / M.1 201 (Int32.toNatClampNeg 1) * M.1 201 (Int32.toNatClampNeg 1)).toNatClampNeg = M.2 207 (i - i / M.1 201 (Int32.toNatClampNeg 1) * M.1 201 (Int32.toNatClampNeg 1)).toNatClampNeg := r_fl_v gl
              have nx : ∀ t, t = z_mn u (M.2 207 (i - i / M.1 201 (Int32.toNatClampNeg 1) * M.1 201 (Int32.toNatClampNeg 1)).toNatClampNeg) → (r_fl (am_wJ M 207 (i - i / M.1 201 (Int32.toNatClampNeg 1) * M.1 201 (Int32.toNatClampNeg 1)).toNatClampNeg (M.2 207 (i - i / M.1 201 (Int32.toNatClampNeg 1) * M.1 201 (Int32.toNatClampNeg 1)).toNatClampNeg - t)), u - t) = r_S2 M0 p y e a d q (i + 1).toNatClampNeg := fun t ht => by
                unfold r_S2
                rw [st, List.foldl_append, if_pos w.1]
                show _ = z_rp _ (r_S2 M0 p y e a d q i.toNatClampNeg) _
                rw [← es]
                unfold z_rp
                rw [if_pos ⟨hu2, w.2⟩]
                dsimp only
                rw [r_fl_w (b := 0) gl (by simp), Nat.zero_add, vl, ht]
              by_cases hc2 : 0 ≤ lg_cmp u (M.2 207 (i - i / M.1 201 (Int32.toNatClampNeg 1) * M.1 201 (Int32.toNatClampNeg 1)).toNatClampNeg)
              · have nx2 := nx _ (z_mn_r (fun z => by rw [lc_ge, j_le] at hc2; rw [Int64.lt_iff_toInt_lt] at z; omega)).symm
                repeat' (first | (with_reducible exact x1l) | (with_reducible exact hmn) | (with_reducible exact hl) | (with_reducible exact hp) | (with_reducible exact y1) | (with_reducible exact e3) | (with_reducible exact x1) | (with_reducible exact hc0) | apply And.intro | exact rfl | (intro hx; with_reducible exact absurd hx hz) | (intro hx; with_reducible exact absurd hx hu) | (intro hx; with_reducible exact absurd hin hx) | (intro hx; with_reducible exact absurd hc2 hx) | ((with_reducible change r_I _); (with_reducible assumption)) | (intro hx; exact absurd hx (by decide)) | (intro hx; exact absurd (by decide) hx) | decide | intro hx | (refine Exists.intro _ (And.intro rfl ?_)))
                all_goals try first | (with_reducible change am_tI _ _) | (change Ret _ _) | (change Ret _ _ _) | (change Exists _)
                all_goals try dsimp only at *
                all_goals try exact absurd ‹(1000 : Int64) = 0› (by decide)
                all_goals first
                  | exact x2
                  | exact hc0 (by with_reducible assumption)
                  | exact ⟨_, am_lt_l (by omega), _, _, rfl, rfl, rfl, ⟨by omega, by omega⟩, e2.w ⟨by decide, by decide⟩, e3.wJ, eb, nx2⟩
                  | skip
              · have nx2 := nx _ (z_mn_l (by rw [lc_ge, j_le] at hc2; rw [Int64.lt_iff_toInt_lt]; omega)).symm
                repeat' (first | (with_reducible exact x1l) | (with_reducible exact hmn) | (with_reducible exact hl) | (with_reducible exact hp) | (with_reducible exact y1) | (with_reducible exact e3) | (with_reducible exact x1) | (with_reducible exact hc0) | apply And.intro | exact rfl | (intro hx; with_reducible exact absurd hx hz) | (intro hx; with_reducible exact absurd hx hu) | (intro hx; with_reducible exact absurd hx hc2) | (intro hx; with_reducible exact absurd hin hx) | ((with_reducible change r_I _); (with_reducible assumption)) | (intro hx; exact absurd hx (by decide)) | (intro hx; exact absurd (by decide) hx) | decide | intro hx | (refine Exists.intro _ (And.intro rfl ?_)))
                all_goals try first | (with_reducible change am_tI _ _) | (change Ret _ _) | (change Ret _ _ _) | (change Exists _)
                all_goals try dsimp only at *
                all_goals try exact absurd ‹(1000 : Int64) = 0› (by decide)
                all_goals first
                  | exact x2
                  | exact hc0 (by with_reducible assumption)
                  | exact ⟨_, am_lt_l (by omega), _, _, rfl, rfl, rfl, ⟨by omega, by omega⟩, e2.w ⟨by decide, by decide⟩, e3.wJ, eb, nx2⟩
                  | skip
            · have nx := no (fun z => hin (iff.mpr z.2))
              repeat' (first | (with_reducible exact x1l) | (with_reducible exact hmn) | (with_reducible exact hl) | (with_reducible exact hp) | (with_reducible exact y1) | (with_reducible exact e3) | (with_reducible exact x1) | (with_reducible exact hc0) | apply And.intro | exact rfl | (intro hx; with_reducible exact absurd hx hz) | (intro hx; with_reducible exact absurd hx hu) | (intro hx; with_reducible exact absurd hx hin) | ((with_reducible change r_I _); (with_reducible assumption)) | (intro hx; exact absurd hx (by decide)) | (intro hx; exact absurd (by decide) hx) | decide | intro hx | (refine Exists.intro _ (And.intro rfl ?_)))
              all_goals try first | (with_reducible change am_tI _ _) | (change Ret _ _) | (change Ret _ _ _) | (change Exists _)
              all_goals try dsimp only at *
              all_goals try exact absurd ‹(1000 : Int64) = 0› (by decide)
              all_goals first
                | exact x2
                | exact hc0 (by with_reducible assumption)
                | exact ⟨_, am_lt_l (by omega), _, _, rfl, rfl, rfl, ⟨by omega, by omega⟩, e2, e3, eb, nx⟩
                | skip
      · cases hI
        obtain ⟨u, i, rfl, rfl, rfl, ⟨e1, e4⟩, e2, e3, eb, ep, es⟩ := hi
        have em : M.1 201 (Int32.toNatClampNeg 1) = M0.1 201 1 := e2.i (by decide) (by decide) (Or.inl (by decide))
        have n1 : 0 ≤ (M.1 201 (Int32.toNatClampNeg 1)).toInt ∧ (M.1 201 (Int32.toNatClampNeg 1)).toInt ≤ 30 := by rw [em]; exact hR.n1
        have e10 := r_mul (c := 10) (x := M.1 201 (Int32.toNatClampNeg 1)) ⟨by decide, by decide⟩ ⟨n1.1, by omega⟩
        simp only [Int32.reduceToInt] at e10
        have ci := i_clamp e1
        by_cases hz : 10 * M.1 201 (Int32.toNatClampNeg 1) ≤ i
        · have hz2 := hz
          simp only [i_le] at hz2
          rw [em] at hz2 e10
          rw [show i.toNatClampNeg = 10 * r_n M0 by omega] at es
          have hh := h M e2 e3 (congrArg Prod.fst es) eb ep
          repeat' (first | (with_reducible exact x1l) | apply And.intro | exact rfl | (intro hx; with_reducible exact absurd hz hx) | (intro hx; exact absurd hx (by decide)) | (intro hx; exact absurd (by decide) hx) | decide | intro hx | (refine Exists.intro _ (And.intro rfl ?_)))
          all_goals try first | (with_reducible change am_tI _ _) | (change Ret _ _) | (change Ret _ _ _) | (change Exists _)
          all_goals try dsimp only at *
          all_goals try exact absurd ‹(1000 : Int64) = 0› (by decide)
          all_goals exact hh
        · have hz2 := hz
          simp only [i_le] at hz2
          have hi := i_inc (x := i) (by omega) (by omega)
          have ci1 := i_clamp (x := i + 1) (by omega)
          have hc : 0 < (M.1 201 (Int32.toNatClampNeg 1)).toInt := by omega
          have hc0 : ¬ M.1 201 (Int32.toNatClampNeg 1) = 0 := fun z => by rw [z] at hc; exact absurd hc (by decide)
          obtain ⟨hl, k1, k2, k3, k4⟩ := r_lk (i := i) (N := M.1 201 (Int32.toNatClampNeg 1)) (n := r_n M0) e1 (by rw [em]; exact cn.symm) (by rw [em] at hc; omega) (by rw [em] at n1; omega)
          have iff := r_isin_iff e2 hR hl eb hoo k3
          rw [k4] at iff
          have st : r_Q M0 p y (i.toNatClampNeg + 1) = r_Q M0 p y i.toNatClampNeg ++ (if r_own M0 p (Int32.ofNat (i.toNatClampNeg % r_n M0)) = true ∧ r_of M0 p y (Int32.ofNat (i.toNatClampNeg % r_n M0)) = i.toNatClampNeg / r_n M0 then [Int32.ofNat (i.toNatClampNeg % r_n M0)] else []) := z_pf_s (by rw [em] at hc; omega)
          rw [← k2] at st
          rw [em] at e10
          have hz3 : i.toInt < 10 * (M0.1 201 1).toInt := by rw [em] at hz2; omega
          have x1 := hl.1
          have x2 : (i - i / M.1 201 (Int32.toNatClampNeg 1) * M.1 201 (Int32.toNatClampNeg 1)).toInt < ((30 : Nat) : Int) := hl.2
          by_cases hin : r_isin M p y (i / M.1 201 (Int32.toNatClampNeg 1)) (i - i / M.1 201 (Int32.toNatClampNeg 1) * M.1 201 (Int32.toNatClampNeg 1))
          · have w := iff.mp hin
            have ed : ∀ l, r_due M y e a l = r_due M0 y e a l := fun l => e2.f (fun K => r_due K y e a l) (fun _ _ _ => rfl) (fun _ _ _ _ _ _ => rfl)
            have nx : z_tk (r_due M0 y e a) (r_sd M0 y) (r_fl M, u) (i - i / M.1 201 (Int32.toNatClampNeg 1) * M.1 201 (Int32.toNatClampNeg 1)) = r_S3 M0 p y e a d q (i.toNatClampNeg + 1) := by
              unfold r_S3
              rw [st, List.foldl_append, if_pos w.1]
              show _ = z_rk _ _ _ (r_S3 M0 p y e a d q i.toNatClampNeg) _
              rw [← es]
              unfold z_rk
              rw [if_pos w.2]
            by_cases hc2 : 0 ≤ lg_cmp (r_due M y e a (i - i / M.1 201 (Int32.toNatClampNeg 1) * M.1 201 (Int32.toNatClampNeg 1)) - u) 0
            · have ew : r_due M y e a (i - i / M.1 201 (Int32.toNatClampNeg 1) * M.1 201 (Int32.toNatClampNeg 1)) - u = (if r_due M0 y e a (i - i / M.1 201 (Int32.toNatClampNeg 1) * M.1 201 (Int32.toNatClampNeg 1)) - u < 0 then 0 else r_due M0 y e a (i - i / M.1 201 (Int32.toNatClampNeg 1) * M.1 201 (Int32.toNatClampNeg 1)) - u) := by
                rw [← ed]
                exact (if_neg (fun z => by rw [lc_ge, j_le] at hc2; rw [Int64.lt_iff_toInt_lt] at z; omega)).symm
              repeat' (first | (with_reducible exact x1l) | (with_reducible exact hmn) | (with_reducible exact hl) | (with_reducible exact hp) | (with_reducible exact ha) | (with_reducible exact y1) | (with_reducible exact e3) | (with_reducible exact x1) | (with_reducible exact hc0) | apply And.intro | exact rfl | (intro hx; with_reducible exact absurd hx hz) | (intro hx; with_reducible exact absurd hin hx) | (intro hx; with_reducible exact absurd hc2 hx) | ((with_reducible change r_I _); (with_reducible assumption)) | (intro hx; exact absurd hx (by decide)) | (intro hx; exact absurd (by decide) hx) | decide | intro hx | (refine Exists.intro _ (And.intro rfl ?_)))
              all_goals try first | (with_reducible change am_tI _ _) | (change Ret _ _) | (change Ret _ _ _) | (change Exists _)
              all_goals try dsimp only at *
              all_goals try exact absurd ‹(1000 : Int64) = 0› (by decide)
              all_goals first
                | exact x2
                | exact hc0 (by with_reducible assumption)
                | exact ⟨_, am_lt_r (by omega), _, _, _, _, rfl, rfl, rfl, ⟨by omega, by omega⟩, e2, e3, eb, ep, hl, ew, nx⟩
                | skip
            · have ew : (0 : Int64) = (if r_due M0 y e a (i - i / M.1 201 (Int32.toNatClampNeg 1) * M.1 201 (Int32.toNatClampNeg 1)) - u < 0 then 0 else r_due M0 y e a (i - i / M.1 201 (Int32.toNatClampNeg 1) * M.1 201 (Int32.toNatClampNeg 1)) - u) := by
                rw [← ed]
                exact (if_pos (by rw [lc_ge, j_le] at hc2; rw [Int64.lt_iff_toInt_lt]; omega)).symm
              repeat' (first | (with_reducible exact x1l) | (with_reducible exact hmn) | (with_reducible exact hl) | (with_reducible exact hp) | (with_reducible exact ha) | (with_reducible exact y1) | (with_reducible exact e3) | (with_reducible exact x1) | (with_reducible exact hc0) | apply And.intro | exact rfl | (intro hx; with_reducible exact absurd hx hz) | (intro hx; with_reducible exact absurd hx hc2) | (intro hx; with_reducible exact absurd hin hx) | ((with_reducible change r_I _); (with_reducible assumption)) | (intro hx; exact absurd hx (by decide)) | (intro hx; exact absurd (by decide) hx) | decide | intro hx | (refine Exists.intro _ (And.intro rfl ?_)))
              all_goals try first | (with_reducible change am_tI _ _) | (change Ret _ _) | (change Ret _ _ _) | (change Exists _)
              all_goals try dsimp only at *
              all_goals try exact absurd ‹(1000 : Int64) = 0› (by decide)
              all_goals first
                | exact x2
                | exact hc0 (by with_reducible assumption)
                | exact ⟨_, am_lt_r (by omega), _, _, _, _, rfl, rfl, rfl, ⟨by omega, by omega⟩, e2, e3, eb, ep, hl, ew, nx⟩
                | skip
          · have nx : (r_fl M, u) = r_S3 M0 p y e a d q (i.toNatClampNeg + 1) := by
              rw [es]
              unfold r_S3
              rw [st, List.foldl_append]
              split
              · next w =>
                show _ = z_rk _ _ _ _ _
                unfold z_rk
                rw [if_neg]
                intro w2
                exact hin (iff.mpr ⟨w, w2⟩)
              · rfl
            rw [show i.toNatClampNeg + 1 = (i + 1).toNatClampNeg by omega] at nx
            repeat' (first | (with_reducible exact x1l) | (with_reducible exact hmn) | (with_reducible exact hl) | (with_reducible exact hp) | (with_reducible exact ha) | (with_reducible exact y1) | (with_reducible exact e3) | (with_reducible exact x1) | (with_reducible exact hc0) | apply And.intro | exact rfl | (intro hx; with_reducible exact absurd hx hz) | (intro hx; with_reducible exact absurd hx hin) | ((with_reducible change r_I _); (with_reducible assumption)) | (intro hx; exact absurd hx (by decide)) | (intro hx; exact absurd (by decide) hx) | decide | intro hx | (refine Exists.intro _ (And.intro rfl ?_)))
            all_goals try first | (with_reducible change am_tI _ _) | (change Ret _ _) | (change Ret _ _ _) | (change Exists _)
            all_goals try dsimp only at *
            all_goals try exact absurd ‹(1000 : Int64) = 0› (by decide)
            all_goals first
              | exact x2
              | exact hc0 (by with_reducible assumption)
              | exact ⟨_, am_lt_l (by omega), _, _, rfl, rfl, rfl, ⟨by omega, by omega⟩, e2, e3, eb, ep, nx⟩
              | skip
      · cases hI
        obtain ⟨u, w, i, l, rfl, rfl, rfl, ⟨e1, e4⟩, e2, e3, eb, ep, hl, ew, es⟩ := hi
        have x1 := hl.1
        have x2 : l.toInt < ((30 : Nat) : Int) := hl.2
        have gl := g_cl hl
        have vl : r_fl M l.toNatClampNeg = M.2 207 l.toNatClampNeg := r_fl_v gl
        have nx : ∀ t, t = z_mn w (M.2 207 l.toNatClampNeg) → r_fl (am_wJ M 208 l.toNatClampNeg t) = z_u (r_fl M) (30 + l.toNatClampNeg) (z_tn (r_due M0 y e a l) u (r_fl M l.toNatClampNeg)) := fun t ht => by
          rw [r_fl_w (b := 30) gl (by simp), ht, vl, ew]
          rfl
        by_cases hc2 : 0 ≤ lg_cmp w (M.2 207 l.toNatClampNeg)
        · have nx2 := nx _ (z_mn_r (fun z => by rw [lc_ge, j_le] at hc2; rw [Int64.lt_iff_toInt_lt] at z; omega)).symm
          repeat' (first | (with_reducible exact hmn) | (with_reducible exact x1) | apply And.intro | exact rfl | (intro hx; with_reducible exact absurd hc2 hx) | (intro hx; exact absurd hx (by decide)) | (intro hx; exact absurd (by decide) hx) | decide | intro hx | (refine Exists.intro _ (And.intro rfl ?_)))
          all_goals try first | (with_reducible change am_tI _ _) | (change Ret _ _) | (change Ret _ _ _) | (change Exists _)
          all_goals try dsimp only at *
          all_goals try exact absurd ‹(1000 : Int64) = 0› (by decide)
          all_goals first
            | exact x2
            | exact ⟨_, am_lt_r (by omega), _, _, _, _, rfl, rfl, rfl, ⟨e1, e4⟩, e2.w ⟨by decide, by decide⟩, e3.wJ, eb, ep, hl, nx2, es⟩
            | skip
        · have nx2 := nx _ (z_mn_l (by rw [lc_ge, j_le] at hc2; rw [Int64.lt_iff_toInt_lt]; omega)).symm
          repeat' (first | (with_reducible exact hmn) | (with_reducible exact x1) | apply And.intro | exact rfl | (intro hx; with_reducible exact absurd hx hc2) | (intro hx; exact absurd hx (by decide)) | (intro hx; exact absurd (by decide) hx) | decide | intro hx | (refine Exists.intro _ (And.intro rfl ?_)))
          all_goals try first | (with_reducible change am_tI _ _) | (change Ret _ _) | (change Ret _ _ _) | (change Exists _)
          all_goals try dsimp only at *
          all_goals try exact absurd ‹(1000 : Int64) = 0› (by decide)
          all_goals first
            | exact x2
            | exact ⟨_, am_lt_r (by omega), _, _, _, _, rfl, rfl, rfl, ⟨e1, e4⟩, e2.w ⟨by decide, by decide⟩, e3.wJ, eb, ep, hl, nx2, es⟩
            | skip
      · cases hI
        obtain ⟨u, i, l, s, rfl, rfl, rfl, ⟨e1, e4⟩, e2, e3, eb, ep, hl, ef, es⟩ := hi
        have x1 := hl.1
        have x2 : l.toInt < ((30 : Nat) : Int) := hl.2
        have gl := g_cl hl
        have ci := i_clamp e1
        have n1 := hR.n1
        have hi := i_inc (x := i) (by omega) (by omega)
        have ci1 := i_clamp (x := i + 1) (by omega)
        rw [show i.toNatClampNeg + 1 = (i + 1).toNatClampNeg by omega] at es
        have f7 : M.1 201 (2838 + 8 * l + 7).toNatClampNeg = r_lo M0 l 7 := e2.i (by decide) (by decide) (Or.inl (by decide))
        have v8 : M.2 208 l.toNatClampNeg = z_tn (r_due M0 y e a l) u (s l.toNatClampNeg) := by
          have q1 : r_fl M (30 + l.toNatClampNeg) = M.2 208 l.toNatClampNeg := by
            unfold r_fl
            rw [if_neg (by omega), if_pos (by omega), show 30 + l.toNatClampNeg - 30 = l.toNatClampNeg by omega]
          rw [← q1, ef, z_u_e]
        have v7 : M.2 207 l.toNatClampNeg = z_u s (30 + l.toNatClampNeg) (z_tn (r_due M0 y e a l) u (s l.toNatClampNeg)) l.toNatClampNeg := by
          rw [← r_fl_v (M := M) gl, ef]
        have nx : ∀ x : Int64, x = (if r_sd M0 y l = true then M.2 208 l.toNatClampNeg else 0) → ∀ N, N = am_wJ (am_wJ (am_wJ M 207 l.toNatClampNeg (M.2 207 l.toNatClampNeg - M.2 208 l.toNatClampNeg)) 209 l.toNatClampNeg (M.2 209 l.toNatClampNeg + M.2 208 l.toNatClampNeg)) 210 l.toNatClampNeg (M.2 210 l.toNatClampNeg + x) → (r_fl N, u + M.2 208 l.toNatClampNeg) = r_S3 M0 p y e a d q (i + 1).toNatClampNeg := fun x hx N hN => by
          rw [← es, hN]
          refine Prod.ext ?_ ?_
          · show r_fl _ = _
            rw [← z_tk_x (x := x) (t := z_tn (r_due M0 y e a l) u (s l.toNatClampNeg)) rfl (by rw [hx, v8]), r_fl_w (b := 150) gl (by simp), r_fl_w (b := 90) gl (by simp), r_fl_w (b := 0) gl (by simp), Nat.zero_add, ef, ← v7, ← v8]
            have q9 : z_u (z_u s (30 + l.toNatClampNeg) (M.2 208 l.toNatClampNeg)) l.toNatClampNeg (M.2 207 l.toNatClampNeg - M.2 208 l.toNatClampNeg) (90 + l.toNatClampNeg) = M.2 209 l.toNatClampNeg := by
              rw [z_u_n (by omega), v8, ← ef]
              unfold r_fl
              rw [if_neg (by omega), if_neg (by omega), if_neg (by omega), if_pos (by omega), show 90 + l.toNatClampNeg - 90 = l.toNatClampNeg by omega]
            have q10 : z_u (z_u (z_u s (30 + l.toNatClampNeg) (M.2 208 l.toNatClampNeg)) l.toNatClampNeg (M.2 207 l.toNatClampNeg - M.2 208 l.toNatClampNeg)) (90 + l.toNatClampNeg) (M.2 209 l.toNatClampNeg + M.2 208 l.toNatClampNeg) (150 + l.toNatClampNeg) = M.2 210 l.toNatClampNeg := by
              rw [z_u_n (by omega), z_u_n (by omega), v8, ← ef]
              unfold r_fl
              rw [if_neg (by omega), if_neg (by omega), if_neg (by omega), if_neg (by omega), if_neg (by omega), show 150 + l.toNatClampNeg - 150 = l.toNatClampNeg by omega]
            dsimp only
            rw [q9, q10]
          · show u + M.2 208 l.toNatClampNeg = u + _
            rw [v8]
        by_cases z1 : M.1 201 (2838 + 8 * l + 7).toNatClampNeg < 0
        · have hs : r_sd M0 y l = false := decide_eq_false (fun z => z.1 (by rw [← f7]; exact z1))
          repeat' (first | ((with_reducible change ¬ (_ : Int32) < 0 → _); intro hx; exact absurd z1 hx) | (with_reducible exact hmn) | (with_reducible exact hl) | (with_reducible exact w7) | (with_reducible exact x1) | apply And.intro | exact rfl | (intro hx; exact absurd hx (by decide)) | (intro hx; exact absurd (by decide) hx) | decide | intro hx | (refine Exists.intro _ (And.intro rfl ?_)))
          all_goals try first | (with_reducible change am_tI _ _) | (change Ret _ _) | (change Ret _ _ _) | (change Exists _)
          all_goals try dsimp only at *
          all_goals try exact absurd ‹(1000 : Int64) = 0› (by decide)
          all_goals first
            | exact x2
            | exact ⟨_, am_lt_l (by omega), _, _, rfl, rfl, rfl, ⟨by omega, by omega⟩, ((e2.w ⟨by decide, by decide⟩).w ⟨by decide, by decide⟩).w ⟨by decide, by decide⟩, ((e3.wJ).wJ).wJ, eb, ep, nx _ (by rw [hs, if_neg (by decide)]) _ rfl⟩
            | skip
        · by_cases z2 : y < M.1 201 (2838 + 8 * l + 7).toNatClampNeg
          · have hs : r_sd M0 y l = false := decide_eq_false (fun z => z.2 (by rw [← f7]; exact z2))
            repeat' (first | ((with_reducible change (_ : Int32) < 0 → _); intro hx; exact absurd hx z1) | ((with_reducible change ¬ y < _ → _); intro hx; exact absurd z2 hx) | (with_reducible exact hmn) | (with_reducible exact hl) | (with_reducible exact w7) | (with_reducible exact x1) | apply And.intro | exact rfl | (intro hx; exact absurd hx (by decide)) | (intro hx; exact absurd (by decide) hx) | decide | intro hx | (refine Exists.intro _ (And.intro rfl ?_)))
            all_goals try first | (with_reducible change am_tI _ _) | (change Ret _ _) | (change Ret _ _ _) | (change Exists _)
            all_goals try dsimp only at *
            all_goals try exact absurd ‹(1000 : Int64) = 0› (by decide)
            all_goals first
              | exact x2
              | exact ⟨_, am_lt_l (by omega), _, _, rfl, rfl, rfl, ⟨by omega, by omega⟩, ((e2.w ⟨by decide, by decide⟩).w ⟨by decide, by decide⟩).w ⟨by decide, by decide⟩, ((e3.wJ).wJ).wJ, eb, ep, nx _ (by rw [hs, if_neg (by decide)]) _ rfl⟩
              | skip
          · have hs : r_sd M0 y l = true := decide_eq_true ⟨by rw [← f7]; exact z1, by rw [← f7]; exact z2⟩
            repeat' (first | ((with_reducible change (_ : Int32) < 0 → _); intro hx; exact absurd hx z1) | ((with_reducible change y < _ → _); intro hx; exact absurd hx z2) | (with_reducible exact hmn) | (with_reducible exact hl) | (with_reducible exact w7) | (with_reducible exact x1) | apply And.intro | exact rfl | (intro hx; exact absurd hx (by decide)) | (intro hx; exact absurd (by decide) hx) | decide | intro hx | (refine Exists.intro _ (And.intro rfl ?_)))
            all_goals try first | (with_reducible change am_tI _ _) | (change Ret _ _) | (change Ret _ _ _) | (change Exists _)
            all_goals try dsimp only at *
            all_goals try exact absurd ‹(1000 : Int64) = 0› (by decide)
            all_goals first
              | exact x2
              | exact ⟨_, am_lt_l (by omega), _, _, rfl, rfl, rfl, ⟨by omega, by omega⟩, ((e2.w ⟨by decide, by decide⟩).w ⟨by decide, by decide⟩).w ⟨by decide, by decide⟩, ((e3.wJ).wJ).wJ, eb, ep, nx _ (by rw [hs, if_pos rfl]; rfl) _ rfl⟩
              | skip
      · cases hI
    · exact h.elim
