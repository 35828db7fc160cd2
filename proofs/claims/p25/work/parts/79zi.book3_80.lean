-- part 79zi.book3.lean.txt
section
/-! exact: book, the reference -/
/-- what a loan adds in a person's turn -/
def r_h2 (M : am_M) (b y k : Int32) (p l : Nat) : Int64 := if r_lo M (Int32.ofNat l) 0 = Int32.ofNat p then (if r_lo M (Int32.ofNat l) 6 = b then (r_R M (Int32.ofNat p) k (y.toNatClampNeg + 1)).1 (150 + l) else 0) else 0
abbrev r_h3 (M : am_M) (b y k : Int32) (p : Nat) : Int64 := z_sum (r_h2 M b y k p) (r_n M)
theorem LX.bkx {i1 i2 : Bool} {M : am_M} {b y k : Int32} (h : LX i1 i2 M) : z_sum (r_h3 M b y k) (M.1 201 0).toNatClampNeg = r_hasV M b y k := by
  have n1 := h.li.n1
  have n0 := h.li.n0
  have cn : (r_n M : Int) = (M.1 201 1).toInt := i_clamp n1.1
  have c0 := i_clamp n0.1
  have sw := z_sum_sw (F := r_h2 M b y k) (n := r_n M) (m := (M.1 201 0).toNatClampNeg)
  refine Eq.trans sw (z_sum_cg (fun l hl => ?_))
  have ol := o_nat (n := l) (by omega)
  have hl30 : am_in (Int32.ofNat l) 30 := ⟨by omega, by omega⟩
  obtain ⟨pp, pp2, -⟩ := h.li.pe hl30 (by omega)
  have gp := i_clamp pp.1
  have one := z_sum_one (f := fun p => r_h2 M b y k p l) (a := (r_lo M (Int32.ofNat l) 0).toNatClampNeg) (n := (M.1 201 0).toNatClampNeg) (by omega) (fun p hp hne => by
    show r_h2 M b y k p l = 0
    unfold r_h2
    have op := o_nat (n := p) (by omega)
    exact if_neg (fun q => hne (by rw [q, op.2])))
  refine Eq.trans one ?_
  show r_h2 M b y k (r_lo M (Int32.ofNat l) 0).toNatClampNeg l = r_hf M b y k l
  unfold r_h2 r_hf
  rw [o_cl pp (by decide), if_pos rfl]
def kX8_bookE (live : am_E) (Ret : am_R) : am_code := [(0, am_iload 1 1), (1, am_i2l 2), (2, am_const (.long 0) 3), (3, am_const (.long 3) 6), (6, am_callS live 3 TX8_in 9), (9, am_if1 (fun x => x = 0) 37 12), (12, am_iload 2 13), (13, am_callS live 1 TX8_isYear 16), (16, am_if1 (fun x => x = 0) 37 19), (19, am_iload 3 20), (20, am_callS live 1 TX8_isYear 23), (23, am_if1 (fun x => x = 0) 37 26), (26, am_iload 4 28), (28, am_i2l 29), (29, am_const (.long 0) 30), (30, am_const (.long 1) 31), (31, am_callS live 3 TX8_in 34), (34, am_if1 (fun x => x = 0) 37 41), (37, am_const (.long (-2)) 40), (40, am_retL Ret), (41, am_const (.long 0) 42), (42, am_lstore 5 10 44), (44, am_const (.int 0) 45), (45, am_istore 7 10 47), (47, am_iload 7 49), (49, am_aload 0 50), (50, am_getR live 8 0 53), (53, am_const (.int 0) 54), (54, am_ald live 0 55), (55, am_if2 (fun x y => y ≤ x) 132 58), (58, am_aload 0 59), (59, am_iload 7 61), (61, am_iload 2 62), (62, am_iload 3 63), (63, am_callV live 8 3 TE8_run 66), (66, am_const (.int 0) 67), (67, am_istore 8 10 69), (69, am_iload 8 71), (71, am_aload 0 72), (72, am_getR live 8 0 75), (75, am_const (.int 1) 76), (76, am_ald live 0 77), (77, am_if2 (fun x y => y ≤ x) 126 80), (80, am_lload 5 82), (82, am_aload 0 83), (83, am_iload 8 85), (85, am_const (.int 0) 86), (86, am_callV live 8 2 TX8_ofLoan 89), (89, am_iload 7 91), (91, am_if2 (fun x y => x = y) 94 116), (94, am_aload 0 95), (95, am_iload 8 97), (97, am_const (.int 6) 99), (99, am_callV live 8 2 TX8_ofLoan 102), (102, am_iload 1 103), (103, am_if2 (fun x y => x = y) 106 116), (106, am_aload 0 107), (107, am_getR live 8 18 110), (110, am_iload 8 112), (112, am_lald live 1 113), (113, am_goto 117), (116, am_const (.long 0) 117), (117, am_l2 (fun x y => x + y) 118), (118, am_lstore 5 10 120), (120, am_iinc 8 10 1 123), (123, am_goto 69), (126, am_iinc 7 10 1 129), (129, am_goto 47), (132, am_const (.long 0) 133), (133, am_lstore 7 10 135), (135, am_const (.int 3513) 138), (138, am_istore 9 10 140), (140, am_iload 9 142), (142, am_const (.int 3513) 145), (145, am_const (.int 3) 146), (146, am_aload 0 147), (147, am_getR live 8 0 150), (150, am_const (.int 4) 151), (151, am_ald live 0 152), (152, am_i2 (fun x y => x * y) 153), (153, am_i2 (fun x y => x + y) 154), (154, am_if2 (fun x y => y ≤ x) 206 157), (157, am_lload 7 159), (159, am_aload 0 160), (160, am_getR live 8 0 163), (163, am_iload 9 165), (165, am_ald live 0 166), (166, am_iload 1 167), (167, am_if2 (fun x y => x = y) 170 196), (170, am_aload 0 171), (171, am_getR live 8 0 174), (174, am_iload 9 176), (176, am_const (.int 1) 177), (177, am_i2 (fun x y => x + y) 178), (178, am_ald live 0 179), (179, am_iload 2 180), (180, am_if2 (fun x y => y < x) 196 183), (183, am_aload 0 184), (184, am_getR live 8 0 187), (187, am_iload 9 189), (189, am_const (.int 2) 190), (190, am_i2 (fun x y => x + y) 191), (191, am_ald live 0 192), (192, am_i2l 193), (193, am_goto 197), (196, am_const (.long 0) 197), (197, am_l2 (fun x y => x + y) 198), (198, am_lstore 7 10 200), (200, am_iinc 9 10 3 203), (203, am_goto 140), (206, am_iload 4 208), (208, am_if1 (fun x => x = 0) 211 216), (211, am_lload 5 213), (213, am_goto 233), (216, am_lload 7 218), (218, am_lload 5 220), (220, am_lcmp 221), (221, am_if1 (fun x => x ≤ 0) 232 224), (224, am_lload 7 226), (226, am_lload 5 228), (228, am_l2 (fun x y => x - y) 229), (229, am_goto 233), (232, am_const (.long 0) 233), (233, am_retL Ret)]
theorem koX8_bookE (live : am_E) (Ret : am_R) : ∀ q ∈ kX8_bookE live Ret, am_ok RX8 cX8_book 10 (some .long) 10 253 live Ret q.1 q.2 :=
  am_kz dzX8_book <|
  am_kd (fun d => ak_iload_n d rfl rfl) <|
  am_kd (fun d => ak_i2l d rfl) <|
  am_kd (fun d => ak_lconst d (by decide +kernel) rfl) <|
  am_kd (fun d => ak_ldc2 wd_997 d rfl) <|
  am_kd (fun d => ak_callS metX8_in ⟨rfl, hy_X8_in⟩ (am_w4 wd_986 wd_987 wd_67 wd_988) (by decide) d rfl) <|
  am_kd (fun d => ak_if_eq d (by decide +kernel) rfl) <|
  am_kd (fun d => ak_iload_n d rfl rfl) <|
  am_kd (fun d => ak_callS metX8_isYear ⟨rfl, hy_X8_isYear⟩ (am_w4 wd_982 wd_983 wd_67 wd_984) (by decide) d rfl) <|
  am_kd (fun d => ak_if_eq d (by decide +kernel) rfl) <|
  am_kd (fun d => ak_iload_n d rfl rfl) <|
  am_kd (fun d => ak_callS metX8_isYear ⟨rfl, hy_X8_isYear⟩ (am_w4 wd_982 wd_983 wd_67 wd_984) (by decide) d rfl) <|
  am_kd (fun d => ak_if_eq d (by decide +kernel) rfl) <|
  am_kd (fun d => ak_iload d rfl) <|
  am_kd (fun d => ak_i2l d rfl) <|
  am_kd (fun d => ak_lconst d (by decide +kernel) rfl) <|
  am_kd (fun d => ak_lconst d (by decide +kernel) rfl) <|
  am_kd (fun d => ak_callS metX8_in ⟨rfl, hy_X8_in⟩ (am_w4 wd_986 wd_987 wd_67 wd_988) (by decide) d rfl) <|
  am_kd (fun d => ak_if_ne d (by decide +kernel) rfl) <|
  am_kd (fun d => ak_ldc2 wd_1153 d rfl) <|
  am_kd (fun d => ak_retL d) <|
  am_kd (fun d => ak_lconst d (by decide +kernel) rfl) <|
  am_kd (fun d => ak_lstore d rfl) <|
  am_kd (fun d => ak_iconst d (by decide +kernel) rfl) <|
  am_kd (fun d => ak_istore d rfl) <|
  am_kd (fun d => ak_iload d rfl) <|
  am_kd (fun d => ak_aload_n d rfl rfl) <|
  am_kd (fun d => ak_getR (C := RX8) (T := TX8) (N := 27) rfl inX8w (by decide) rfl rfl rfl wd_895 d rfl) <|
  am_kd (fun d => ak_iconst d (by decide +kernel) rfl) <|
  am_kd (fun d => ak_iald (t := 0) (fun _ => rfl) rfl d rfl) <|
  am_kd (fun d => ak_icmp_ge d (by decide +kernel) rfl) <|
  am_kd (fun d => ak_aload_n d rfl rfl) <|
  am_kd (fun d => ak_iload d rfl) <|
  am_kd (fun d => ak_iload_n d rfl rfl) <|
  am_kd (fun d => ak_iload_n d rfl rfl) <|
  am_kd (fun d => ak_callV (C := RX8) (F := TX8) (N := 27) metX8_runE rfl ⟨rfl, hy_X8_run⟩ (am_w5 wd_1158 wd_1160 wd_42 wd_67 wd_1161) (by decide) d rfl) <|
  am_kd (fun d => ak_iconst d (by decide +kernel) rfl) <|
  am_kd (fun d => ak_istore d rfl) <|
  am_kd (fun d => ak_iload d rfl) <|
  am_kd (fun d => ak_aload_n d rfl rfl) <|
  am_kd (fun d => ak_getR (C := RX8) (T := TX8) (N := 27) rfl inX8w (by decide) rfl rfl rfl wd_895 d rfl) <|
  am_kd (fun d => ak_iconst d (by decide +kernel) rfl) <|
  am_kd (fun d => ak_iald (t := 0) (fun _ => rfl) rfl d rfl) <|
  am_kd (fun d => ak_icmp_ge d (by decide +kernel) rfl) <|
  am_kd (fun d => ak_lload d rfl) <|
  am_kd (fun d => ak_aload_n d rfl rfl) <|
  am_kd (fun d => ak_iload d rfl) <|
  am_kd (fun d => ak_iconst d (by decide +kernel) rfl) <|
  am_kd (fun d => ak_callV (C := RX8) (F := TX8) (N := 27) metX8_ofLoan rfl ⟨rfl, hy_X8_ofLoan⟩ (am_w5 wd_1154 wd_1156 wd_41 wd_67 wd_1157) (by decide) d rfl) <|
  am_kd (fun d => ak_iload d rfl) <|
  am_kd (fun d => ak_icmp_ne d (by decide +kernel) rfl) <|
  am_kd (fun d => ak_aload_n d rfl rfl) <|
  am_kd (fun d => ak_iload d rfl) <|
  am_kd (fun d => ak_bipush d (by decide +kernel) rfl) <|
  am_kd (fun d => ak_callV (C := RX8) (F := TX8) (N := 27) metX8_ofLoan rfl ⟨rfl, hy_X8_ofLoan⟩ (am_w5 wd_1154 wd_1156 wd_41 wd_67 wd_1157) (by decide) d rfl) <|
  am_kd (fun d => ak_iload_n d rfl rfl) <|
  am_kd (fun d => ak_icmp_ne d (by decide +kernel) rfl) <|
  am_kd (fun d => ak_aload_n d rfl rfl) <|
  am_kd (fun d => ak_getR (C := RX8) (T := TX8) (N := 27) rfl inX8w (by decide) rfl rfl rfl wd_913 d rfl) <|
  am_kd (fun d => ak_iload d rfl) <|
  am_kd (fun d => ak_lald (t := 1) (fun _ => rfl) rfl d rfl) <|
  am_kd (fun d => ak_goto d (by decide +kernel)) <|
  am_kd (fun d => ak_lconst d (by decide +kernel) rfl) <|
  am_kd (fun d => ak_ladd d rfl) <|
  am_kd (fun d => ak_lstore d rfl) <|
  am_kd (fun d => ak_iinc d (by decide +kernel) rfl) <|
  am_kd (fun d => ak_goto d (by decide +kernel)) <|
  am_kd (fun d => ak_iinc d (by decide +kernel) rfl) <|
  am_kd (fun d => ak_goto d (by decide +kernel)) <|
  am_kd (fun d => ak_lconst d (by decide +kernel) rfl) <|
  am_kd (fun d => ak_lstore d rfl) <|
  am_kd (fun d => ak_sipush d (by decide +kernel) rfl) <|
  am_kd (fun d => ak_istore d rfl) <|
  am_kd (fun d => ak_iload d rfl) <|
  am_kd (fun d => ak_sipush d (by decide +kernel) rfl) <|
  am_kd (fun d => ak_iconst d (by decide +kernel) rfl) <|
  am_kd (fun d => ak_aload_n d rfl rfl) <|
  am_kd (fun d => ak_getR (C := RX8) (T := TX8) (N := 27) rfl inX8w (by decide) rfl rfl rfl wd_895 d rfl) <|
  am_kd (fun d => ak_iconst d (by decide +kernel) rfl) <|
  am_kd (fun d => ak_iald (t := 0) (fun _ => rfl) rfl d rfl) <|
  am_kd (fun d => ak_imul d rfl) <|
  am_kd (fun d => ak_iadd d rfl) <|
  am_kd (fun d => ak_icmp_ge d (by decide +kernel) rfl) <|
  am_kd (fun d => ak_lload d rfl) <|
  am_kd (fun d => ak_aload_n d rfl rfl) <|
  am_kd (fun d => ak_getR (C := RX8) (T := TX8) (N := 27) rfl inX8w (by decide) rfl rfl rfl wd_895 d rfl) <|
  am_kd (fun d => ak_iload d rfl) <|
  am_kd (fun d => ak_iald (t := 0) (fun _ => rfl) rfl d rfl) <|
  am_kd (fun d => ak_iload_n d rfl rfl) <|
  am_kd (fun d => ak_icmp_ne d (by decide +kernel) rfl) <|
  am_kd (fun d => ak_aload_n d rfl rfl) <|
  am_kd (fun d => ak_getR (C := RX8) (T := TX8) (N := 27) rfl inX8w (by decide) rfl rfl rfl wd_895 d rfl) <|
  am_kd (fun d => ak_iload d rfl) <|
  am_kd (fun d => ak_iconst d (by decide +kernel) rfl) <|
  am_kd (fun d => ak_iadd d rfl) <|
  am_kd (fun d => ak_iald (t := 0) (fun _ => rfl) rfl d rfl) <|
  am_kd (fun d => ak_iload_n d rfl rfl) <|
  am_kd (fun d => ak_icmp_gt d (by decide +kernel) rfl) <|
  am_kd (fun d => ak_aload_n d rfl rfl) <|
  am_kd (fun d => ak_getR (C := RX8) (T := TX8) (N := 27) rfl inX8w (by decide) rfl rfl rfl wd_895 d rfl) <|
  am_kd (fun d => ak_iload d rfl) <|
  am_kd (fun d => ak_iconst d (by decide +kernel) rfl) <|
  am_kd (fun d => ak_iadd d rfl) <|
  am_kd (fun d => ak_iald (t := 0) (fun _ => rfl) rfl d rfl) <|
  am_kd (fun d => ak_i2l d rfl) <|
  am_kd (fun d => ak_goto d (by decide +kernel)) <|
  am_kd (fun d => ak_lconst d (by decide +kernel) rfl) <|
  am_kd (fun d => ak_ladd d rfl) <|
  am_kd (fun d => ak_lstore d rfl) <|
  am_kd (fun d => ak_iinc d (by decide +kernel) rfl) <|
  am_kd (fun d => ak_goto d (by decide +kernel)) <|
  am_kd (fun d => ak_iload d rfl) <|
  am_kd (fun d => ak_if_ne d (by decide +kernel) rfl) <|
  am_kd (fun d => ak_lload d rfl) <|
  am_kd (fun d => ak_goto d (by decide +kernel)) <|
  am_kd (fun d => ak_lload d rfl) <|
  am_kd (fun d => ak_lload d rfl) <|
  am_kd (fun d => ak_lcmp d rfl) <|
  am_kd (fun d => ak_if_le d (by decide +kernel) rfl) <|
  am_kd (fun d => ak_lload d rfl) <|
  am_kd (fun d => ak_lload d rfl) <|
  am_kd (fun d => ak_lsub d rfl) <|
  am_kd (fun d => ak_goto d (by decide +kernel)) <|
  am_kd (fun d => ak_lconst d (by decide +kernel) rfl) <|
  am_kd (fun d => ak_retL d) <| am_kdn
def TE8_book : am_T := fun live as M R => match as with
  | [.ref n, .int b, .int y, .int k, .int w] => am_mn live ∧ n = 200 ∧ (∃ i1 i2, LX i1 i2 M) ∧ ∀ M', r_sc M M' → r_I M' → R (some (.long (r_bookV M b y k w))) M'
  | _ => False
def JE8_book : am_E → List Value → am_M → am_R → am_inv := fun live as M0 _ pc => match as with
  | [.ref n, .int b, .int y, .int k, .int w] => (match pc with
    | 47 => some ([0, 1, 2, 3, 4, 5, 7], fun u L st M => ∃ (v : Int64) (i : Int32), L = [(0, .ref 200), (1, .int b), (2, .int y), (3, .int k), (4, .int w), (5, .long v), (7, .int i)] ∧ st = [] ∧ u = (5000 + (13 - i.toInt).toNat * 2, 0) ∧ (0 ≤ i.toInt ∧ i.toInt ≤ (M0.1 201 0).toInt) ∧ (am_in y 40 ∧ am_in k 40) ∧ r_ky M0 M ∧ r_I M ∧ v = z_sum (r_h3 M0 b y k) i.toNatClampNeg ∧ r_bookV M0 b y k w = (if w = 0 then r_hasV M0 b y k else if r_hasV M0 b y k < r_prV M0 b y then r_prV M0 b y - r_hasV M0 b y k else 0))
    | 69 => some ([0, 1, 2, 3, 4, 5, 7, 8], fun u L st M => ∃ (v : Int64) (i l : Int32), L = [(0, .ref 200), (1, .int b), (2, .int y), (3, .int k), (4, .int w), (5, .long v), (7, .int i), (8, .int l)] ∧ st = [] ∧ u = (5000 + ((13 - i.toInt).toNat * 2 - 1), (31 - l.toInt).toNat) ∧ (0 ≤ i.toInt ∧ i.toInt < (M0.1 201 0).toInt) ∧ (0 ≤ l.toInt ∧ l.toInt ≤ (M0.1 201 1).toInt) ∧ (am_in y 40 ∧ am_in k 40) ∧ r_ky M0 M ∧ r_I M ∧ (∀ j, j < 30 → M.2 210 j = (r_R M0 i k (y.toNatClampNeg + 1)).1 (150 + j)) ∧ v = z_sum (r_h3 M0 b y k) i.toNatClampNeg + z_sum (r_h2 M0 b y k i.toNatClampNeg) l.toNatClampNeg ∧ r_bookV M0 b y k w = (if w = 0 then r_hasV M0 b y k else if r_hasV M0 b y k < r_prV M0 b y then r_prV M0 b y - r_hasV M0 b y k else 0))
    | 140 => some ([0, 1, 2, 4, 5, 7, 9], fun u L st M => ∃ (v q : Int64) (a : Int32) (j : Nat), L = [(0, .ref 200), (1, .int b), (2, .int y), (4, .int w), (5, .long v), (7, .long q), (9, .int a)] ∧ st = [] ∧ u = ((4000 - a.toInt).toNat, 0) ∧ (a.toInt = 3513 + 3 * (j : Int) ∧ (j : Int) ≤ (M0.1 201 4).toInt) ∧ r_ky M0 M ∧ r_I M ∧ v = r_hasV M0 b y k ∧ q = z_sum (r_pf M0 b y) j ∧ r_bookV M0 b y k w = (if w = 0 then r_hasV M0 b y k else if r_hasV M0 b y k < r_prV M0 b y then r_prV M0 b y - r_hasV M0 b y k else 0))
    | _ => none)
  | _ => none
set_option maxRecDepth 100000 in
set_option maxHeartbeats 4000000 in
theorem metX8_bookE : am_Met yX8_book cX8_book 10 (some .long) (10) (253) TE8_book := by
  refine am_met (own := RX8) (by decide +kernel) rfl kX8_bookE koX8_bookE 150 JE8_book ?_ ?_
  · intro live as M Ret h
    unfold TE8_book at h
    split at h
    · next n b y k w =>
      refine ⟨Nat.le_of_ble_eq_true rfl, ?_⟩
      change am_wp _ _ _ _ [(0, Value.ref n), (1, Value.int b), (2, Value.int y), (3, Value.int k), (4, Value.int w)] _ _
      obtain ⟨hmn, rfl, ⟨j1, j2, hX⟩, h⟩ := h
      have hmn2 := hmn
      obtain ⟨i1, i2, rfl⟩ := hmn2
      have l201 : am_len 201 = 3760 := rfl
      have hR := hX.li.i
      have n0 := hR.n0
      have n1 := hR.n1
      have n030 : 0 ≤ (M.1 201 0).toInt ∧ (M.1 201 0).toInt ≤ 30 := ⟨n0.1, by omega⟩
      by_cases z0 : 0 ≤ b ∧ b ≤ 3
      rotate_left
      · skip
        have q0 : (if (0 : Int64) ≤ b.toInt64 ∧ b.toInt64 ≤ (3 : Int64) then (1 : Int32) else 0) = 0 := if_neg (fun r => z0 (by simp only [i_le, i_lt, j_le, Int32.toInt_toInt64, Int32.reduceToInt, Int64.reduceToInt, Int32.toInt_zero] at r ⊢; omega))
        have e : r_bookV M b y k w = -2 := by unfold r_bookV; rw [if_neg (fun q => z0 (by first | exact q | (rw [le1]; exact q) | (rw [le0]; exact q)))]
        rw [e] at h
        repeat' (first | (with_reducible exact hmn) | (with_reducible exact n030) | (with_reducible exact n1) | apply And.intro | exact rfl | (intro hx; with_reducible exact absurd q0 hx) | (intro hx; exact absurd hx (by decide)) | (intro hx; exact absurd (by decide) hx) | decide | intro hx | (refine Exists.intro _ (And.intro rfl ?_)))
        all_goals try first | (with_reducible change am_tI _ _) | (change Ret _ _) | (change Ret _ _ _) | (change Exists _)
        all_goals try dsimp only at *
        all_goals try (with_reducible exact absurd ‹(1000 : Int64) = 0› am_z1000)
        all_goals exact h _ r_sc.rf hR
      · skip
        have q0 : ¬ ((if (0 : Int64) ≤ b.toInt64 ∧ b.toInt64 ≤ (3 : Int64) then (1 : Int32) else 0) = 0) := by rw [if_pos (by have q := z0; simp only [i_le, i_lt, j_le, Int32.toInt_toInt64, Int32.reduceToInt, Int64.reduceToInt, Int32.toInt_zero] at q ⊢; omega)]; decide
        have y0 : 0 ≤ b ∧ b ≤ 3 := by first | exact z0 | (rw [← le1]; exact z0) | (rw [← le0]; exact z0)
        by_cases z1 : 0 ≤ y ∧ y < 40
        rotate_left
        · skip
          have q1 : (if 0 ≤ y ∧ y < 40 then (1 : Int32) else 0) = 0 := if_neg z1
          have e : r_bookV M b y k w = -2 := by unfold r_bookV; rw [if_pos y0, if_neg (fun q => z1 (by first | exact q | (rw [le1]; exact q) | (rw [le0]; exact q)))]
          rw [e] at h
          repeat' (first | (with_reducible exact hmn) | (with_reducible exact n030) | (with_reducible exact n1) | apply And.intro | exact rfl | (intro hx; with_reducible exact absurd hx q0) | (intro hx; with_reducible exact absurd q1 hx) | (intro hx; exact absurd hx (by decide)) | (intro hx; exact absurd (by decide) hx) | decide | intro hx | (refine Exists.intro _ (And.intro rfl ?_)))
          all_goals try first | (with_reducible change am_tI _ _) | (change Ret _ _) | (change Ret _ _ _) | (change Exists _)
          all_goals try dsimp only at *
          all_goals try (with_reducible exact absurd ‹(1000 : Int64) = 0› am_z1000)
          all_goals exact h _ r_sc.rf hR
        · skip
          have q1 : ¬ ((if 0 ≤ y ∧ y < 40 then (1 : Int32) else 0) = 0) := by rw [if_pos z1]; decide
          have y1 : 0 ≤ y ∧ y < 40 := by first | exact z1 | (rw [← le1]; exact z1) | (rw [← le0]; exact z1)
          by_cases z2 : 0 ≤ k ∧ k < 40
          rotate_left
          · skip
            have q2 : (if 0 ≤ k ∧ k < 40 then (1 : Int32) else 0) = 0 := if_neg z2
            have e : r_bookV M b y k w = -2 := by unfold r_bookV; rw [if_pos y0, if_pos y1, if_neg (fun q => z2 (by first | exact q | (rw [le1]; exact q) | (rw [le0]; exact q)))]
            rw [e] at h
            repeat' (first | (with_reducible exact hmn) | (with_reducible exact n030) | (with_reducible exact n1) | apply And.intro | exact rfl | (intro hx; with_reducible exact absurd hx q0) | (intro hx; with_reducible exact absurd hx q1) | (intro hx; with_reducible exact absurd q2 hx) | (intro hx; exact absurd hx (by decide)) | (intro hx; exact absurd (by decide) hx) | decide | intro hx | (refine Exists.intro _ (And.intro rfl ?_)))
            all_goals try first | (with_reducible change am_tI _ _) | (change Ret _ _) | (change Ret _ _ _) | (change Exists _)
            all_goals try dsimp only at *
            all_goals try (with_reducible exact absurd ‹(1000 : Int64) = 0› am_z1000)
            all_goals exact h _ r_sc.rf hR
          · skip
            have q2 : ¬ ((if 0 ≤ k ∧ k < 40 then (1 : Int32) else 0) = 0) := by rw [if_pos z2]; decide
            have y2 : 0 ≤ k ∧ k < 40 := by first | exact z2 | (rw [← le1]; exact z2) | (rw [← le0]; exact z2)
            by_cases z3 : 0 ≤ w ∧ w ≤ 1
            rotate_left
            · skip
              have q3 : (if (0 : Int64) ≤ w.toInt64 ∧ w.toInt64 ≤ (1 : Int64) then (1 : Int32) else 0) = 0 := if_neg (fun r => z3 (by simp only [i_le, i_lt, j_le, Int32.toInt_toInt64, Int32.reduceToInt, Int64.reduceToInt, Int32.toInt_zero] at r ⊢; omega))
              have e : r_bookV M b y k w = -2 := by unfold r_bookV; rw [if_pos y0, if_pos y1, if_pos y2, if_neg (fun q => z3 (by first | exact q | (rw [le1]; exact q) | (rw [le0]; exact q)))]
              rw [e] at h
              repeat' (first | (with_reducible exact hmn) | (with_reducible exact n030) | (with_reducible exact n1) | apply And.intro | exact rfl | (intro hx; with_reducible exact absurd hx q0) | (intro hx; with_reducible exact absurd hx q1) | (intro hx; with_reducible exact absurd hx q2) | (intro hx; with_reducible exact absurd q3 hx) | (intro hx; exact absurd hx (by decide)) | (intro hx; exact absurd (by decide) hx) | decide | intro hx | (refine Exists.intro _ (And.intro rfl ?_)))
              all_goals try first | (with_reducible change am_tI _ _) | (change Ret _ _) | (change Ret _ _ _) | (change Exists _)
              all_goals try dsimp only at *
              all_goals try (with_reducible exact absurd ‹(1000 : Int64) = 0› am_z1000)
              all_goals exact h _ r_sc.rf hR
            · skip
              have q3 : ¬ ((if (0 : Int64) ≤ w.toInt64 ∧ w.toInt64 ≤ (1 : Int64) then (1 : Int32) else 0) = 0) := by rw [if_pos (by have q := z3; simp only [i_le, i_lt, j_le, Int32.toInt_toInt64, Int32.reduceToInt, Int64.reduceToInt, Int32.toInt_zero] at q ⊢; omega)]; decide
              have y3 : 0 ≤ w ∧ w ≤ 1 := by first | exact z3 | (rw [← le1]; exact z3) | (rw [← le0]; exact z3)
              have e : r_bookV M b y k w = (if w = 0 then r_hasV M b y k else if r_hasV M b y k < r_prV M b y then r_prV M b y - r_hasV M b y k else 0) := by unfold r_bookV; rw [if_pos y0, if_pos y1, if_pos y2, if_pos y3]
              have hy : am_in y 40 := ⟨by have q := y1.1; simp only [i_le, Int32.reduceToInt, Int32.toInt_zero] at q; omega, by have q := y1.2; simp only [i_lt, Int32.reduceToInt] at q; omega⟩
              have hk : am_in k 40 := ⟨by have q := y2.1; simp only [i_le, Int32.reduceToInt, Int32.toInt_zero] at q; omega, by have q := y2.2; simp only [i_lt, Int32.reduceToInt] at q; omega⟩
              have y39 : y.toInt ≤ 39 := by have := hy.2; omega
              repeat' (first | (with_reducible exact hmn) | (with_reducible exact n030) | (with_reducible exact n1) | (with_reducible exact hy) | (with_reducible exact hk) | apply And.intro | exact rfl | (intro hx; with_reducible exact absurd hx q0) | (intro hx; with_reducible exact absurd hx q1) | (intro hx; with_reducible exact absurd hx q2) | (intro hx; with_reducible exact absurd hx q3) | ((with_reducible change r_I _); (with_reducible assumption)) | (intro hx; exact absurd hx (by decide)) | (intro hx; exact absurd (by decide) hx) | decide | intro hx | (refine Exists.intro _ (And.intro rfl ?_)))
              all_goals try first | (with_reducible change am_tI _ _) | (change Ret _ _) | (change Ret _ _ _) | (change Exists _)
              all_goals try dsimp only at *
              all_goals try (with_reducible exact absurd ‹(1000 : Int64) = 0› am_z1000)
              all_goals exact ⟨_, _, _, rfl, rfl, rfl, ⟨by decide, n0.1⟩, ⟨hy, hk⟩, r_ky.rf, hR, rfl, e⟩
    · exact h.elim
  · intro live as M0 Ret h k pc I hI L st M hi
    unfold TE8_book at h
    split at h
    · next n b y k w =>
      obtain ⟨hmn, rfl, ⟨j1, j2, hX⟩, h⟩ := h
      have hmn2 := hmn
      obtain ⟨i1, i2, rfl⟩ := hmn2
      have l201 : am_len 201 = 3760 := rfl
      have w0 : 0 ≤ (0 : Int32).toInt ∧ (0 : Int32).toInt ≤ 7 := ⟨by decide, by decide⟩
      have w6 : 0 ≤ (6 : Int32).toInt ∧ (6 : Int32).toInt ≤ 7 := ⟨by decide, by decide⟩
      have x0l : (0 : Int32).toInt < (am_len 201 : Int) := by rw [l201]; decide
      have x1l : (1 : Int32).toInt < (am_len 201 : Int) := by rw [l201]; decide
      have x4l : (4 : Int32).toInt < (am_len 201 : Int) := by rw [l201]; decide
      have n00 := hX.li.n0
      have n11 := hX.li.n1
      have n44 := hX.li.n4
      have cn0 := i_clamp n00.1
      have cn1 : (r_n M0 : Int) = (M0.1 201 1).toInt := i_clamp n11.1
      have cn4 := i_clamp n44.1
      change (match pc with | 47 => _ | 69 => _ | 140 => _ | _ => none) = _ at hI
      split at hI
      · cases hI
        obtain ⟨v, i, rfl, rfl, rfl, ⟨e1, e6⟩, ⟨hy, hk⟩, ky, e3, rfl, eb⟩ := hi
        have c201 : M.1 201 = M0.1 201 := funext fun b => ky.i (by decide) (by decide) (Or.inl (by decide))
        have n0 : 0 ≤ (M.1 201 (Int32.toNatClampNeg 0)).toInt ∧ (M.1 201 (Int32.toNatClampNeg 0)).toInt ≤ 12 := e3.n0
        have ci := i_clamp e1
        have cy := i_clamp hy.1
        have y39 : -1 ≤ y.toInt ∧ y.toInt ≤ 39 := ⟨by have := hy.1; omega, by have := hy.2; omega⟩
        by_cases hz : M.1 201 (Int32.toNatClampNeg 0) ≤ i
        · have hz2 := hz
          rw [c201] at hz2
          simp only [i_le] at hz2
          have hz3 : (M0.1 201 0).toInt ≤ i.toInt := hz2
          have en : z_sum (r_h3 M0 b y k) i.toNatClampNeg = r_hasV M0 b y k := by
            rw [← hX.bkx, show i.toNatClampNeg = (M0.1 201 0).toNatClampNeg by omega]
          rw [en]
          repeat' (first | (with_reducible exact x0l) | apply And.intro | exact rfl | (intro hx; with_reducible exact absurd hz hx) | (intro hx; exact absurd hx (by decide)) | (intro hx; exact absurd (by decide) hx) | decide | intro hx | (refine Exists.intro _ (And.intro rfl ?_)))
          all_goals try first | (with_reducible change am_tI _ _) | (change Ret _ _) | (change Ret _ _ _) | (change Exists _)
          all_goals try dsimp only at *
          all_goals try (with_reducible exact absurd ‹(1000 : Int64) = 0› am_z1000)
          all_goals exact ⟨_, am_lt_l (by first | omega | (simp only [Int32.reduceToInt]; omega)), _, _, _, 0, rfl, rfl, rfl, ⟨by decide, by omega⟩, ky, e3, rfl, rfl, eb⟩
        · have hz2 := hz
          rw [c201] at hz2
          simp only [i_le] at hz2
          have hz3 : ¬ (M0.1 201 0).toInt ≤ i.toInt := hz2
          have hp : am_in i 12 := ⟨e1, by omega⟩
          have hoa0 : r_oa M0 i := hX.roa
          have hoa : r_oa M i := ⟨(), fun z hz => ky.oo (hoa0.v hz)⟩
          repeat' (first | (with_reducible exact x0l) | (with_reducible exact hmn) | (with_reducible exact hp) | (with_reducible exact y39) | (with_reducible exact e3) | (with_reducible exact hoa) | apply And.intro | exact rfl | (intro hx; with_reducible exact absurd hx hz) | ((with_reducible change r_I _); (with_reducible assumption)) | (intro hx; exact absurd hx (by decide)) | (intro hx; exact absurd (by decide) hx) | decide | intro hx | (refine Exists.intro _ (And.intro rfl ?_)))
          all_goals try first | (with_reducible change am_tI _ _) | (change Ret _ _) | (change Ret _ _ _) | (change Exists _)
          all_goals try dsimp only at *
          all_goals try (with_reducible exact absurd ‹(1000 : Int64) = 0› am_z1000)
          all_goals
            rename_i N s0 ky2 rN z0
            have e0 := hx
            have ey : r_yr M i k = r_yr M0 i k := funext fun z => ky.f (fun K => r_yr K i k z) (fun _ _ _ => rfl) (fun _ _ _ _ _ _ => rfl)
            rw [ey] at e0
            refine ⟨_, am_lt_l (by omega), _, _, _, rfl, rfl, rfl, ⟨e1, by omega⟩, ⟨by decide, n11.1⟩, ⟨hy, hk⟩, ky.tr ky2, rN, fun j hj => ?_, ?_, eb⟩
            · have q := (r_R_of n11 e0 z0).1 (150 + j) (by omega)
              rw [show (y.toInt + 1).toNat = y.toNatClampNeg + 1 by omega] at q
              rw [← q]
              unfold r_fl
              rw [if_neg (by omega), if_neg (by omega), if_neg (by omega), if_neg (by omega), if_neg (by omega), show 150 + j - 150 = j by omega]
            · show _ = _ + (0 : Int64)
              rw [Int64.add_zero]
      · cases hI
        obtain ⟨v, i, l, rfl, rfl, rfl, ⟨e1, e4⟩, ⟨e5, e7⟩, ⟨hy, hk⟩, ky, e3, rows, rfl, eb⟩ := hi
        have c201 : M.1 201 = M0.1 201 := funext fun b => ky.i (by decide) (by decide) (Or.inl (by decide))
        have hi := i_inc (x := i) (by omega) (by omega)
        have ci := i_clamp e1
        have ci1 := i_clamp (x := i + 1) (by omega)
        have cl := i_clamp e5
        have n1 : 0 ≤ (M.1 201 (Int32.toNatClampNeg 1)).toInt ∧ (M.1 201 (Int32.toNatClampNeg 1)).toInt ≤ 30 := e3.n1
        by_cases hz : M.1 201 (Int32.toNatClampNeg 1) ≤ l
        · have hz2 := hz
          rw [c201] at hz2
          simp only [i_le] at hz2
          have hz3 : (M0.1 201 1).toInt ≤ l.toInt := hz2
          have s : z_sum (r_h3 M0 b y k) (i + 1).toNatClampNeg = z_sum (r_h3 M0 b y k) i.toNatClampNeg + z_sum (r_h2 M0 b y k i.toNatClampNeg) l.toNatClampNeg := by
            rw [show (i + 1).toNatClampNeg = i.toNatClampNeg + 1 by omega, show l.toNatClampNeg = r_n M0 by omega]
            rfl
          repeat' (first | (with_reducible exact x1l) | apply And.intro | exact rfl | (intro hx; with_reducible exact absurd hz hx) | (intro hx; exact absurd hx (by decide)) | (intro hx; exact absurd (by decide) hx) | decide | intro hx | (refine Exists.intro _ (And.intro rfl ?_)))
          all_goals try first | (with_reducible change am_tI _ _) | (change Ret _ _) | (change Ret _ _ _) | (change Exists _)
          all_goals try dsimp only at *
          all_goals try (with_reducible exact absurd ‹(1000 : Int64) = 0› am_z1000)
          all_goals exact ⟨_, am_lt_l (by omega), _, _, rfl, rfl, rfl, ⟨by omega, by omega⟩, ⟨hy, hk⟩, ky, e3, s.symm, eb⟩
        · have hz2 := hz
          rw [c201] at hz2
          simp only [i_le] at hz2
          have hz3 : ¬ (M0.1 201 1).toInt ≤ l.toInt := hz2
          have hl : am_in l 30 := ⟨e5, by omega⟩
          have gl := g_cl hl
          have hli := i_inc (x := l) (by omega) (by omega)
          have cl1 := i_clamp (x := l + 1) (by omega)
          have nx : (l + 1).toNatClampNeg = l.toNatClampNeg + 1 := by omega
          have x2 : l.toInt < ((30 : Nat) : Int) := by omega
          have ol := o_cl hl (by decide)
          have oi := o_cl (x := i) (n := 12) ⟨e1, by omega⟩ (by decide)
          have rw0 : r_lo M0 l 0 = M.1 201 (2838 + 8 * l + 0).toNatClampNeg := by unfold r_lo; rw [c201]
          have rw6 : r_lo M0 l 6 = M.1 201 (2838 + 8 * l + 6).toNatClampNeg := by unfold r_lo; rw [c201]
          have st : z_sum (r_h2 M0 b y k i.toNatClampNeg) (l + 1).toNatClampNeg = z_sum (r_h2 M0 b y k i.toNatClampNeg) l.toNatClampNeg + r_h2 M0 b y k i.toNatClampNeg l.toNatClampNeg := by rw [nx]; rfl
          by_cases y0 : M.1 201 (2838 + 8 * l + 0).toNatClampNeg = i
          · by_cases y6 : M.1 201 (2838 + 8 * l + 6).toNatClampNeg = b
            · have s : r_h2 M0 b y k i.toNatClampNeg l.toNatClampNeg = M.2 210 l.toNatClampNeg := by
                unfold r_h2
                rw [ol, oi, if_pos (rw0.trans y0), if_pos (rw6.trans y6), rows _ gl]
              rw [s] at st
              repeat' (first | (with_reducible exact x1l) | (with_reducible exact hmn) | (with_reducible exact hl) | (with_reducible exact w0) | (with_reducible exact w6) | (with_reducible exact e5) | apply And.intro | exact rfl | (intro hx; with_reducible exact absurd hx hz) | (intro hx; with_reducible exact absurd y0 hx) | (intro hx; with_reducible exact absurd y6 hx) | (intro hx; exact absurd hx (by decide)) | (intro hx; exact absurd (by decide) hx) | decide | intro hx | (refine Exists.intro _ (And.intro rfl ?_)))
              all_goals try first | (with_reducible change am_tI _ _) | (change Ret _ _) | (change Ret _ _ _) | (change Exists _)
              all_goals try dsimp only at *
              all_goals try (with_reducible exact absurd ‹(1000 : Int64) = 0› am_z1000)
              all_goals first
                | (with_reducible exact x2)
                | exact x2
                | exact ⟨_, am_lt_r (by omega), _, _, _, rfl, rfl, rfl, ⟨e1, e4⟩, ⟨by omega, by omega⟩, ⟨hy, hk⟩, ky, e3, rows, by rw [st, Int64.add_assoc], eb⟩
            · have s : r_h2 M0 b y k i.toNatClampNeg l.toNatClampNeg = 0 := by
                unfold r_h2
                rw [ol, oi, if_pos (rw0.trans y0), if_neg (fun q => y6 (rw6.symm.trans q))]
              rw [s] at st
              repeat' (first | (with_reducible exact x1l) | (with_reducible exact hmn) | (with_reducible exact hl) | (with_reducible exact w0) | (with_reducible exact w6) | (with_reducible exact e5) | apply And.intro | exact rfl | (intro hx; with_reducible exact absurd hx hz) | (intro hx; with_reducible exact absurd hx y6) | (intro hx; with_reducible exact absurd y0 hx) | (intro hx; exact absurd hx (by decide)) | (intro hx; exact absurd (by decide) hx) | decide | intro hx | (refine Exists.intro _ (And.intro rfl ?_)))
              all_goals try first | (with_reducible change am_tI _ _) | (change Ret _ _) | (change Ret _ _ _) | (change Exists _)
              all_goals try dsimp only at *
              all_goals try (with_reducible exact absurd ‹(1000 : Int64) = 0› am_z1000)
              all_goals first
                | (with_reducible exact x2)
                | exact x2
                | exact ⟨_, am_lt_r (by omega), _, _, _, rfl, rfl, rfl, ⟨e1, e4⟩, ⟨by omega, by omega⟩, ⟨hy, hk⟩, ky, e3, rows, by rw [st, Int64.add_assoc], eb⟩
          · have s : r_h2 M0 b y k i.toNatClampNeg l.toNatClampNeg = 0 := by
              unfold r_h2
              rw [ol, oi, if_neg (fun q => y0 (rw0.symm.trans q))]
            rw [s] at st
            repeat' (first | (with_reducible exact x1l) | (with_reducible exact hmn) | (with_reducible exact hl) | (with_reducible exact w0) | (with_reducible exact w6) | (with_reducible exact e5) | apply And.intro | exact rfl | (intro hx; with_reducible exact absurd hx hz) | (intro hx; with_reducible exact absurd hx y0) | (intro hx; exact absurd hx (by decide)) | (intro hx; exact absurd (by decide) hx) | decide | intro hx | (refine Exists.intro _ (And.intro rfl ?_)))
            all_goals try first | (with_reducible change am_tI _ _) | (change Ret _ _) | (change Ret _ _ _) | (change Exists _)
            all_goals try dsimp only at *
            all_goals try (with_reducible exact absurd ‹(1000 : Int64) = 0› am_z1000)
            all_goals first
              | (with_reducible exact x2)
              | exact x2
              | exact ⟨_, am_lt_r (by omega), _, _, _, rfl, rfl, rfl, ⟨e1, e4⟩, ⟨by omega, by omega⟩, ⟨hy, hk⟩, ky, e3, rows, by rw [st, Int64.add_assoc], eb⟩
      · cases hI
        obtain ⟨v, q, a, j, rfl, rfl, rfl, ⟨e1, e4⟩, ky, e3, rfl, rfl, eb⟩ := hi
        rw [eb] at h
        have c201 : M.1 201 = M0.1 201 := funext fun b => ky.i (by decide) (by decide) (Or.inl (by decide))
        have n4 : 0 ≤ (M.1 201 (Int32.toNatClampNeg 4)).toInt ∧ (M.1 201 (Int32.toNatClampNeg 4)).toInt ≤ 20 := e3.n4
        have em := r_mul (c := 3) (x := M.1 201 (Int32.toNatClampNeg 4)) ⟨by decide, by decide⟩ ⟨n4.1, by omega⟩
        simp only [Int32.reduceToInt] at em
        have eo := r_off (c := 3513) (x := 3 * M.1 201 (Int32.toNatClampNeg 4)) ⟨by decide, by decide⟩ ⟨by omega, by omega⟩
        simp only [em, Int32.reduceToInt] at eo
        have e44 : (M.1 201 (Int32.toNatClampNeg 4)).toInt = (M0.1 201 4).toInt := by rw [c201]; rfl
        by_cases hz : 3513 + 3 * M.1 201 (Int32.toNatClampNeg 4) ≤ a
        · have hz2 := hz
          simp only [i_le] at hz2
          have ej : z_sum (r_pf M0 b y) j = r_prV M0 b y := by
            unfold r_prV
            rw [show j = (M0.1 201 4).toNatClampNeg by omega]
          rw [ej]
          by_cases zw : w = 0
          · rw [if_pos zw] at h
            repeat' (first | (with_reducible exact x4l) | apply And.intro | exact rfl | (intro hx; with_reducible exact absurd hz hx) | (intro hx; with_reducible exact absurd zw hx) | (intro hx; exact absurd hx (by decide)) | (intro hx; exact absurd (by decide) hx) | decide | intro hx | (refine Exists.intro _ (And.intro rfl ?_)))
            all_goals try first | (with_reducible change am_tI _ _) | (change Ret _ _) | (change Ret _ _ _) | (change Exists _)
            all_goals try dsimp only at *
            all_goals try (with_reducible exact absurd ‹(1000 : Int64) = 0› am_z1000)
            all_goals exact h _ ky.sc e3
          · rw [if_neg zw] at h
            by_cases zq : lg_cmp (r_prV M0 b y) (r_hasV M0 b y k) ≤ 0
            · have zh : ¬ r_hasV M0 b y k < r_prV M0 b y := fun q => by
                rw [lc_le, Int64.le_iff_toInt_le] at zq
                rw [Int64.lt_iff_toInt_lt] at q
                omega
              rw [if_neg zh] at h
              repeat' (first | (with_reducible exact x4l) | apply And.intro | exact rfl | (intro hx; with_reducible exact absurd hx zw) | (intro hx; with_reducible exact absurd hz hx) | (intro hx; with_reducible exact absurd zq hx) | (intro hx; exact absurd hx (by decide)) | (intro hx; exact absurd (by decide) hx) | decide | intro hx | (refine Exists.intro _ (And.intro rfl ?_)))
              all_goals try first | (with_reducible change am_tI _ _) | (change Ret _ _) | (change Ret _ _ _) | (change Exists _)
              all_goals try dsimp only at *
              all_goals try (with_reducible exact absurd ‹(1000 : Int64) = 0› am_z1000)
              all_goals exact h _ ky.sc e3
            · have zh : r_hasV M0 b y k < r_prV M0 b y := by
                rw [lc_le, Int64.le_iff_toInt_le] at zq
                rw [Int64.lt_iff_toInt_lt]
                omega
              rw [if_pos zh] at h
              repeat' (first | (with_reducible exact x4l) | apply And.intro | exact rfl | (intro hx; with_reducible exact absurd hx zw) | (intro hx; with_reducible exact absurd hx zq) | (intro hx; with_reducible exact absurd hz hx) | (intro hx; exact absurd hx (by decide)) | (intro hx; exact absurd (by decide) hx) | decide | intro hx | (refine Exists.intro _ (And.intro rfl ?_)))
              all_goals try first | (with_reducible change am_tI _ _) | (change Ret _ _) | (change Ret _ _ _) | (change Exists _)
              all_goals try dsimp only at *
              all_goals try (with_reducible exact absurd ‹(1000 : Int64) = 0› am_z1000)
              all_goals exact h _ ky.sc e3
        · have hz2 := hz
          simp only [i_le] at hz2
          have a1 := r_off (c := a) (x := 1) ⟨by omega, by omega⟩ ⟨by decide, by decide⟩
          have a2 := r_off (c := a) (x := 2) ⟨by omega, by omega⟩ ⟨by decide, by decide⟩
          have a3 := r_off (c := a) (x := 3) ⟨by omega, by omega⟩ ⟨by decide, by decide⟩
          simp only [Int32.reduceToInt] at a1 a2 a3
          have ca := i_clamp (x := a) (by omega)
          have ca1 := i_clamp (x := a + 1) (by omega)
          have ca2 := i_clamp (x := a + 2) (by omega)
          have p0 : M0.1 201 (3513 + (3 * j + 0)) = M.1 201 a.toNatClampNeg := by rw [c201, show a.toNatClampNeg = 3513 + (3 * j + 0) by omega]
          have p1 : M0.1 201 (3513 + (3 * j + 1)) = M.1 201 (a + 1).toNatClampNeg := by rw [c201, show (a + 1).toNatClampNeg = 3513 + (3 * j + 1) by omega]
          have p2 : M0.1 201 (3513 + (3 * j + 2)) = M.1 201 (a + 2).toNatClampNeg := by rw [c201, show (a + 2).toNatClampNeg = 3513 + (3 * j + 2) by omega]
          have st : z_sum (r_pf M0 b y) (j + 1) = z_sum (r_pf M0 b y) j + r_pf M0 b y j := rfl
          by_cases y0 : M.1 201 a.toNatClampNeg = b
          · by_cases y1 : y < M.1 201 (a + 1).toNatClampNeg
            · have y2 : ¬ M.1 201 (a + 1).toNatClampNeg ≤ y := fun q => by rw [i_le] at q; rw [i_lt] at y1; omega
              have s : r_pf M0 b y j = 0 := by
                unfold r_pf
                rw [p0, p1, if_pos y0, if_neg y2]
              rw [s] at st
              repeat' (first | (with_reducible exact x4l) | apply And.intro | exact rfl | (intro hx; with_reducible exact absurd hx hz) | (intro hx; with_reducible exact absurd y0 hx) | (intro hx; with_reducible exact absurd y1 hx) | (intro hx; exact absurd hx (by decide)) | (intro hx; exact absurd (by decide) hx) | decide | intro hx | (refine Exists.intro _ (And.intro rfl ?_)))
              all_goals try first | (with_reducible change am_tI _ _) | (change Ret _ _) | (change Ret _ _ _) | (change Exists _)
              all_goals try dsimp only at *
              all_goals try (with_reducible exact absurd ‹(1000 : Int64) = 0› am_z1000)
              all_goals first
                | omega
                | (rw [l201]; omega)
                | exact ⟨_, am_lt_l (by omega), _, _, _, j + 1, rfl, rfl, rfl, ⟨by omega, by omega⟩, ky, e3, rfl, st.symm, eb⟩
            · have y2 : M.1 201 (a + 1).toNatClampNeg ≤ y := by rw [i_le]; rw [i_lt] at y1; omega
              have s : r_pf M0 b y j = (M.1 201 (a + 2).toNatClampNeg).toInt64 := by
                unfold r_pf
                rw [p0, p1, p2, if_pos y0, if_pos y2]
              rw [s] at st
              repeat' (first | (with_reducible exact x4l) | apply And.intro | exact rfl | (intro hx; with_reducible exact absurd hx hz) | (intro hx; with_reducible exact absurd hx y1) | (intro hx; with_reducible exact absurd y0 hx) | (intro hx; exact absurd hx (by decide)) | (intro hx; exact absurd (by decide) hx) | decide | intro hx | (refine Exists.intro _ (And.intro rfl ?_)))
              all_goals try first | (with_reducible change am_tI _ _) | (change Ret _ _) | (change Ret _ _ _) | (change Exists _)
              all_goals try dsimp only at *
              all_goals try (with_reducible exact absurd ‹(1000 : Int64) = 0› am_z1000)
              all_goals first
                | omega
                | (rw [l201]; omega)
                | exact ⟨_, am_lt_l (by omega), _, _, _, j + 1, rfl, rfl, rfl, ⟨by omega, by omega⟩, ky, e3, rfl, st.symm, eb⟩
          · have s : r_pf M0 b y j = 0 := by
              unfold r_pf
              rw [p0, if_neg y0]
            rw [s] at st
            repeat' (first | (with_reducible exact x4l) | apply And.intro | exact rfl | (intro hx; with_reducible exact absurd hx hz) | (intro hx; with_reducible exact absurd hx y0) | (intro hx; exact absurd hx (by decide)) | (intro hx; exact absurd (by decide) hx) | decide | intro hx | (refine Exists.intro _ (And.intro rfl ?_)))
            all_goals try first | (with_reducible change am_tI _ _) | (change Ret _ _) | (change Ret _ _ _) | (change Exists _)
            all_goals try dsimp only at *
            all_goals try (with_reducible exact absurd ‹(1000 : Int64) = 0› am_z1000)
            all_goals first
              | omega
              | (rw [l201]; omega)
              | exact ⟨_, am_lt_l (by omega), _, _, _, j + 1, rfl, rfl, rfl, ⟨by omega, by omega⟩, ky, e3, rfl, st.symm, eb⟩
      · cases hI
    · exact h.elim
end
-- part 79zj.pure2.lean.txt
section
/-! runs exact, pure: TOTAL and TAKEN (for early, choice) -/
/-- a loan taken from once: TOTAL grows by TAKEN -/
theorem z_tks_9 {ask : Int32 → Int64} {sd : Int32 → Bool} {l : Int32} (hl : am_in l 30) : ∀ (Q : List Int32) (s : Nat → Int64) (v : Int64), (∀ x ∈ Q, am_in x 30) → z_nd Q →
    (l.toNatClampNeg ∉ Q.map Int32.toNatClampNeg → ∀ w, (Q.foldl (z_tk ask sd) (s, v)).1 (30 * w + l.toNatClampNeg) = s (30 * w + l.toNatClampNeg)) ∧ (l.toNatClampNeg ∈ Q.map Int32.toNatClampNeg → (Q.foldl (z_tk ask sd) (s, v)).1 (90 + l.toNatClampNeg) = s (90 + l.toNatClampNeg) + (Q.foldl (z_tk ask sd) (s, v)).1 (30 + l.toNatClampNeg))
  | [], s, v, _, _ => ⟨fun _ _ => rfl, fun q => absurd q List.not_mem_nil⟩
  | x :: Q, s, v, hin, hnd => by
    have hx := hin x List.mem_cons_self
    have gx := g_cl hx
    have gl := g_cl hl
    obtain ⟨hap, hnd2⟩ := List.pairwise_cons.mp hnd
    obtain ⟨i1, i2⟩ := z_tks_9 (ask := ask) (sd := sd) hl Q (z_tk ask sd (s, v) x).1 (z_tk ask sd (s, v) x).2 (fun y hy => hin y (List.mem_cons_of_mem _ hy)) hnd2
    obtain ⟨-, -, t3, t4, -, t6⟩ := z_tk_v (ask := ask) (sd := sd) (s := s) (v := v) (x := x)
    show (_ → ∀ w, (Q.foldl (z_tk ask sd) (z_tk ask sd (s, v) x)).1 (30 * w + l.toNatClampNeg) = _) ∧ (_ → (Q.foldl (z_tk ask sd) (z_tk ask sd (s, v) x)).1 (90 + l.toNatClampNeg) = s (90 + l.toNatClampNeg) + (Q.foldl (z_tk ask sd) (z_tk ask sd (s, v) x)).1 (30 + l.toNatClampNeg))
    refine ⟨fun no w => ?_, fun yes => ?_⟩
    · have n1 : l.toNatClampNeg ≠ x.toNatClampNeg := fun q => no (by rw [q]; exact List.mem_map.mpr ⟨x, List.mem_cons_self, rfl⟩)
      have n2 : l.toNatClampNeg ∉ Q.map Int32.toNatClampNeg := fun q => no (by rw [List.map_cons]; exact List.mem_cons_of_mem _ q)
      refine (i1 n2 w).trans (t6 _ ?_ ?_ ?_ ?_) <;> omega
    · by_cases z : l.toNatClampNeg = x.toNatClampNeg
      · have n2 : l.toNatClampNeg ∉ Q.map Int32.toNatClampNeg := fun q => by
          obtain ⟨y, hy, e⟩ := List.mem_map.mp q
          exact hap y hy (z.symm.trans e.symm)
        have a3 := i1 n2 3
        have a1 := i1 n2 1
        have a3 : (Q.foldl (z_tk ask sd) (z_tk ask sd (s, v) x)).1 (90 + l.toNatClampNeg) = (z_tk ask sd (s, v) x).1 (90 + l.toNatClampNeg) := a3
        have a1 : (Q.foldl (z_tk ask sd) (z_tk ask sd (s, v) x)).1 (30 + l.toNatClampNeg) = (z_tk ask sd (s, v) x).1 (30 + l.toNatClampNeg) := a1
        rw [a3, a1, z, t3, t4]
      · have yes2 : l.toNatClampNeg ∈ Q.map Int32.toNatClampNeg := by
          rw [List.map_cons] at yes
          rcases List.mem_cons.mp yes with q | q
          · exact absurd q z
          · exact q
        rw [t6 (90 + l.toNatClampNeg) (by omega) (by omega) (by omega) (by omega)] at i2
        exact i2 yes2
theorem z_in_eq {a b : Int32} (ha : am_in a 30) (hb : am_in b 30) (e : a.toNatClampNeg = b.toNatClampNeg) : a = b := by rw [← o_cl ha (by decide), e, o_cl hb (by decide)]
theorem z_q_f {f : Int32 → Nat} {ms : List Int32} : ∀ {o : Nat} {l : Int32}, l ∈ z_q f ms o → f l < o
  | 0, _, h => absurd h List.not_mem_nil
  | o + 1, l, h => by
    rcases List.mem_append.mp h with q | q
    · have := z_q_f q
      omega
    · have := of_decide_eq_true (List.mem_filter.mp q).2
      omega
theorem z_q_nd {f : Int32 → Nat} {ms : List Int32} (hin : ∀ l ∈ ms, am_in l 30) (hnd : z_nd ms) : ∀ o : Nat, z_nd (z_q f ms o)
  | 0 => List.Pairwise.nil
  | o + 1 => by
    show (z_q f ms o ++ ms.filter (fun l => decide (f l = o))).Pairwise _
    refine List.pairwise_append.mpr ⟨z_q_nd hin hnd o, List.Pairwise.filter _ hnd, fun a ha b hb e => ?_⟩
    have fb := of_decide_eq_true (List.mem_filter.mp hb).2
    have fa := z_q_f ha
    rw [z_in_eq (hin a (z_q_in ha)) (hin b (List.mem_filter.mp hb).1) e] at fa
    omega
theorem z_q_mem {f : Int32 → Nat} {ms : List Int32} {l : Int32} (hl : l ∈ ms) : ∀ {o : Nat}, f l < o → l ∈ z_q f ms o
  | 0, h => absurd h (by omega)
  | o + 1, h => by
    show l ∈ z_q f ms o ++ ms.filter (fun l => decide (f l = o))
    by_cases z : f l = o
    · exact List.mem_append_right _ (List.mem_filter.mpr ⟨hl, decide_eq_true z⟩)
    · exact List.mem_append_left _ (z_q_mem hl (by omega))
theorem z_T_9 {stk : Int32 → Bool} {gr dr : Int32 → Int64 → Int64} {f : Int32 → Nat} {ask : Int32 → Int64} {sd : Int32 → Bool} {ms : List Int32} {p : z_S} (hin : ∀ x ∈ ms, am_in x 30) (hnd : z_nd ms) {l : Int32} (hl : l ∈ ms) (hf : f l < 10) : (z_T (z_b stk gr dr) f ask sd ms p).1 (90 + l.toNatClampNeg) = p.1 (90 + l.toNatClampNeg) + (z_T (z_b stk gr dr) f ask sd ms p).1 (30 + l.toNatClampNeg) := by
  have gl := g_cl (hin l hl)
  have bb : ∀ s : Nat → Int64, (ms.foldl (z_b stk gr dr) s) (90 + l.toNatClampNeg) = s (90 + l.toNatClampNeg) := fun s => z_fold_o (z_b stk gr dr) (fun s => s (90 + l.toNatClampNeg)) ms s (fun x hx s => by
    have gx := g_cl (hin x hx)
    exact z_b_o (by omega) (by omega) (by omega))
  have py : ∀ s : z_S, ((z_q f ms 10).foldl z_pay s).1 (90 + l.toNatClampNeg) = s.1 (90 + l.toNatClampNeg) := fun s => z_fold_o z_pay (fun s => s.1 (90 + l.toNatClampNeg)) _ s (fun x hx s => by
    have gx := g_cl (hin x (z_q_in hx))
    show z_u _ _ _ _ = _
    exact z_u_n (by omega))
  have yes : l.toNatClampNeg ∈ (z_q f ms 10).map Int32.toNatClampNeg := List.mem_map.mpr ⟨l, z_q_mem hl hf, rfl⟩
  have key : ∀ s : Nat → Int64, ((z_q f ms 10).foldl (z_tk ask sd) (s, 0)).1 (90 + l.toNatClampNeg) = s (90 + l.toNatClampNeg) + ((z_q f ms 10).foldl (z_tk ask sd) (s, 0)).1 (30 + l.toNatClampNeg) := fun s => (z_tks_9 (ask := ask) (sd := sd) (hin l hl) (z_q f ms 10) s 0 (fun x hx => hin x (z_q_in hx)) (z_q_nd hin hnd 10)).2 yes
  unfold z_T
  dsimp only
  refine (key _).trans ?_
  congr 1
  by_cases z : 0 < p.2.1
  · rw [if_pos z]
    exact (py _).trans (bb _)
  · rw [if_neg z]
    exact bb _
theorem z_tog_add {s s' t : Nat → Int64} {w u x : Nat} : ∀ {ms : List Int32} {a b : Int64}, (∀ l ∈ ms, s' (w + l.toNatClampNeg) = s (x + l.toNatClampNeg) + t (u + l.toNatClampNeg)) → ms.foldl (fun v l => v + s' (w + l.toNatClampNeg)) (a + b) = ms.foldl (fun v l => v + s (x + l.toNatClampNeg)) a + ms.foldl (fun v l => v + t (u + l.toNatClampNeg)) b
  | [], _, _, _ => rfl
  | l :: ms, a, b, h => by
    show ms.foldl _ (a + b + s' (w + l.toNatClampNeg)) = ms.foldl _ (a + s (x + l.toNatClampNeg)) + ms.foldl _ (b + t (u + l.toNatClampNeg))
    rw [h l List.mem_cons_self, z_add4]
    exact z_tog_add (fun y hy => h y (List.mem_cons_of_mem _ hy))
/-- all loans' TOTAL grows by all loans' TAKEN -/
theorem z_T_tog {stk : Int32 → Bool} {gr dr : Int32 → Int64 → Int64} {f : Int32 → Nat} {ask : Int32 → Int64} {sd : Int32 → Bool} {ms : List Int32} {p : z_S} (hin : ∀ x ∈ ms, am_in x 30) (hnd : z_nd ms) (hf : ∀ l ∈ ms, f l < 10) : z_tog (z_T (z_b stk gr dr) f ask sd ms p).1 90 ms = z_tog p.1 90 ms + z_tog (z_T (z_b stk gr dr) f ask sd ms p).1 30 ms := by
  unfold z_tog
  have q := z_tog_add (s := p.1) (s' := (z_T (z_b stk gr dr) f ask sd ms p).1) (t := (z_T (z_b stk gr dr) f ask sd ms p).1) (w := 90) (u := 30) (x := 90) (ms := ms) (a := 0) (b := 0) (fun l hl => z_T_9 hin hnd hl (hf l hl))
  rw [Int64.add_zero] at q
  exact q
theorem z_it_tog {F : Nat → z_S → z_S} {ms : List Int32} (h : ∀ y s, z_tog (F y s).1 90 ms = z_tog s.1 90 ms + z_tog (F y s).1 30 ms) (a : Nat) (s : z_S) : ∀ n : Nat, z_tog (z_it F a n s).1 90 ms = z_tog s.1 90 ms + z_sum (fun i => z_tog (z_it F a (i + 1) s).1 30 ms) n
  | 0 => by
    show z_tog s.1 90 ms = z_tog s.1 90 ms + 0
    rw [Int64.add_zero]
  | n + 1 => by
    show z_tog (F (a + n) (z_it F a n s)).1 90 ms = z_tog s.1 90 ms + (z_sum (fun i => z_tog (z_it F a (i + 1) s).1 30 ms) n + z_tog (z_it F a (n + 1) s).1 30 ms)
    rw [h, z_it_tog h a s n, Int64.add_assoc]
    rfl
end
-- part 80.law.lean.txt
section
/-! the law: the calls as the law sees them -/
theorem am_Met.imp {y : MethodName} {cc : ByteArray} {nL : Nat} {rt : Option FieldType} {rf rl : Nat} {T T' : am_T} (h : am_Met y cc nL rt rf rl T) (e : ∀ live as M R, T' live as M R → T live as M R) : am_Met y cc nL rt rf rl T' := fun l D cA al B live as M R q => h l D cA al B live as M R (e _ _ _ _ q)
theorem an_Met.imp {y : MethodName} {cc : ByteArray} {nL : Nat} {rt : Option FieldType} {rf rl mc ms : Nat} {T T' : an_T} (h : an_Met y cc nL rt rf rl mc ms T) (e : ∀ live as M R, T' live as M R → T live as M R) : an_Met y cc nL rt rf rl mc ms T' := fun l D cA al B live as M R hc q => h l D cA al B live as M R hc (e _ _ _ _ q)
def TW_person : am_T := fun live as M R => match as with
  | [.ref n, .int a] => ∃ i1 i2, live = (am_lv i1 i2, am_q i1 i2) ∧ n = 0 ∧ LX i1 i2 M ∧ ∀ v N, v = (r_person N a).1 → LX i1 i2 (r_person N a).2 → r_I N → R (some (.int v)) N
  | _ => False
theorem metW_person : am_Met yX7_person cX7_person 3 (some .int) (1) (20) TW_person := metX7_person.imp (fun live as M R q => by
  unfold TW_person at q
  split at q
  · next n a =>
    obtain ⟨i1, i2, rfl, rfl, h, q⟩ := q
    have hs := st_person h.li a
    exact ⟨⟨_, _, rfl⟩, rfl, ⟨h.li.h, h.li.g⟩, q _ _ hs.e (h.mv hs.l ((kc_person _ a).tr (kr_person _ a))) (h.li.ri hs.c)⟩
  · exact q.elim)
def TW_land : am_T := fun live as M R => match as with
  | [.ref n, .int a, .int b, .int c, .int d] => ∃ i1 i2, live = (am_lv i1 i2, am_q i1 i2) ∧ n = 0 ∧ LX i1 i2 M ∧ ∀ v N, v = (r_land N a b c d).1 → LX i1 i2 (r_land N a b c d).2 → r_I N → R (some (.int v)) N
  | _ => False
theorem metW_land : am_Met yX7_land cX7_land 5 (some .int) (2) (47) TW_land := metX7_land.imp (fun live as M R q => by
  unfold TW_land at q
  split at q
  · next n a b c d =>
    obtain ⟨i1, i2, rfl, rfl, h, q⟩ := q
    have hs := st_land h.li a b c d
    exact ⟨⟨_, _, rfl⟩, rfl, ⟨h.li.h, h.li.g⟩, q _ _ hs.e (h.mv hs.l ((kc_land _ a b c d).tr (kr_land _ a b c d))) (h.li.ri hs.c)⟩
  · exact q.elim)
def TW_scale : am_T := fun live as M R => match as with
  | [.ref n, .int a, .int b] => ∃ i1 i2, live = (am_lv i1 i2, am_q i1 i2) ∧ n = 0 ∧ LX i1 i2 M ∧ ∀ v N, v = (r_scale N a b).1 → LX i1 i2 (r_scale N a b).2 → r_I N → R (some (.int v)) N
  | _ => False
theorem metW_scale : am_Met yX7_scale cX7_scale 4 (some .int) (1) (22) TW_scale := metX7_scale.imp (fun live as M R q => by
  unfold TW_scale at q
  split at q
  · next n a b =>
    obtain ⟨i1, i2, rfl, rfl, h, q⟩ := q
    have hs := st_scale h.li a b
    exact ⟨⟨_, _, rfl⟩, rfl, ⟨h.li.h, h.li.g⟩, q _ _ hs.e (h.mv hs.l ((kc_scale _ a b).tr (kr_scale _ a b))) (h.li.ri hs.c)⟩
  · exact q.elim)
def TW_prices : am_T := fun live as M R => match as with
  | [.ref n, .int a, .int b] => ∃ i1 i2, live = (am_lv i1 i2, am_q i1 i2) ∧ n = 0 ∧ LX i1 i2 M ∧ ∀ v N, v = (r_prices N a b).1 → LX i1 i2 (r_prices N a b).2 → r_I N → R (some (.int v)) N
  | _ => False
theorem metW_prices : am_Met yX7_prices cX7_prices 4 (some .int) (1) (22) TW_prices := metX7_prices.imp (fun live as M R q => by
  unfold TW_prices at q
  split at q
  · next n a b =>
    obtain ⟨i1, i2, rfl, rfl, h, q⟩ := q
    have hs := st_prices h.li a b
    exact ⟨⟨_, _, rfl⟩, rfl, ⟨h.li.h, h.li.g⟩, q _ _ hs.e (h.mv hs.l ((kc_prices _ a b).tr (kr_prices _ a b))) (h.li.ri hs.c)⟩
  · exact q.elim)
def TW_dies : am_T := fun live as M R => match as with
  | [.ref n, .int a, .int b] => ∃ i1 i2, live = (am_lv i1 i2, am_q i1 i2) ∧ n = 0 ∧ LX i1 i2 M ∧ ∀ v N, v = (r_dies N a b).1 → LX i1 i2 (r_dies N a b).2 → r_I N → R (some (.int v)) N
  | _ => False
theorem metW_dies : am_Met yX7_dies cX7_dies 3 (some .int) (1) (21) TW_dies := metX7_dies.imp (fun live as M R q => by
  unfold TW_dies at q
  split at q
  · next n a b =>
    obtain ⟨i1, i2, rfl, rfl, h, q⟩ := q
    have hs := st_dies h.li a b
    exact ⟨⟨_, _, rfl⟩, rfl, ⟨h.li.h, h.li.g⟩, q _ _ hs.e (h.mv hs.l ((kc_dies _ a b).tr (kr_dies _ a b))) (h.li.ri hs.c)⟩
  · exact q.elim)
def TW_earn : am_T := fun live as M R => match as with
  | [.ref n, .int a, .int b, .int c, .int d] => ∃ i1 i2, live = (am_lv i1 i2, am_q i1 i2) ∧ n = 0 ∧ LX i1 i2 M ∧ ∀ v N, v = (r_earn N a b c d).1 → LX i1 i2 (r_earn N a b c d).2 → r_I N → R (some (.int v)) N
  | _ => False
theorem metW_earn : am_Met yX7_earn cX7_earn 7 (some .int) (1) (21) TW_earn := metX7_earn.imp (fun live as M R q => by
  unfold TW_earn at q
  split at q
  · next n a b c d =>
    obtain ⟨i1, i2, rfl, rfl, h, q⟩ := q
    have hs := st_earn h.li a b c d
    exact ⟨⟨_, _, rfl⟩, rfl, ⟨h.li.h, h.li.g⟩, q _ _ hs.e (h.mv hs.l ((kc_earn _ a b c d).tr (kr_earn _ a b c d))) (h.li.ri hs.c)⟩
  · exact q.elim)
def TW_right : am_T := fun live as M R => match as with
  | [.ref n, .int a, .int b, .int c, .int d] => ∃ i1 i2, live = (am_lv i1 i2, am_q i1 i2) ∧ n = 0 ∧ LX i1 i2 M ∧ ∀ v N, v = (r_right N a b c d).1 → LX i1 i2 (r_right N a b c d).2 → r_I N → R (some (.int v)) N
  | _ => False
theorem metW_right : am_Met yX7_right cX7_right 7 (some .int) (1) (21) TW_right := metX7_right.imp (fun live as M R q => by
  unfold TW_right at q
  split at q
  · next n a b c d =>
    obtain ⟨i1, i2, rfl, rfl, h, q⟩ := q
    have hs := st_right h.li a b c d
    exact ⟨⟨_, _, rfl⟩, rfl, ⟨h.li.h, h.li.g⟩, q _ _ hs.e (h.mv hs.l ((kc_right _ a b c d).tr (kr_right _ a b c d))) (h.li.ri hs.c)⟩
  · exact q.elim)
def TW_earnings : am_T := fun live as M R => match as with
  | [.ref n, .int a, .int b, .int c] => ∃ i1 i2, live = (am_lv i1 i2, am_q i1 i2) ∧ n = 0 ∧ LX i1 i2 M ∧ ∀ v N, v = (r_earnings N a b c).1 → LX i1 i2 (r_earnings N a b c).2 → r_I N → R (some (.int v)) N
  | _ => False
theorem metW_earnings : am_Met yX7_earnings cX7_earnings 4 (some .int) (1) (24) TW_earnings := metX7_earnings.imp (fun live as M R q => by
  unfold TW_earnings at q
  split at q
  · next n a b c =>
    obtain ⟨i1, i2, rfl, rfl, h, q⟩ := q
    have hs := st_earnings h.li a b c
    exact ⟨⟨_, _, rfl⟩, rfl, ⟨h.li.h, h.li.g⟩, q _ _ hs.e (h.mv hs.l ((kc_earnings _ a b c).tr (kr_earnings _ a b c))) (h.li.ri hs.c)⟩
  · exact q.elim)
def TW_act : am_T := fun live as M R => match as with
  | [.ref n, .int a, .int b, .int c, .int d, .int e, .int f] => ∃ i1 i2, live = (am_lv i1 i2, am_q i1 i2) ∧ n = 0 ∧ LX i1 i2 M ∧ ∀ v N, v = (r_act N a b c d e f).1 → LX i1 i2 (r_act N a b c d e f).2 → r_I N → R (some (.int v)) N
  | _ => False
theorem metW_act : am_Met yX7_act cX7_act 7 (some .int) (3) (74) TW_act := metX7_act.imp (fun live as M R q => by
  unfold TW_act at q
  split at q
  · next n a b c d e f =>
    obtain ⟨i1, i2, rfl, rfl, h, q⟩ := q
    have hs := st_act h.li a b c d e f
    exact ⟨⟨_, _, rfl⟩, rfl, ⟨h.li.h, h.li.g⟩, q _ _ hs.e (h.mv hs.l ((kc_act _ a b c d e f).tr (kr_act _ a b c d e f))) (h.li.ri hs.c)⟩
  · exact q.elim)
def TW_force : am_T := fun live as M R => match as with
  | [.ref n, .int a, .int b, .int c, .int d] => ∃ i1 i2, live = (am_lv i1 i2, am_q i1 i2) ∧ n = 0 ∧ LX i1 i2 M ∧ ∀ v N, v = (r_force N a b c d).1 → LX i1 i2 N → r_I N → R (some (.int v)) N
  | _ => False
theorem metW_force : am_Met yX7_force cX7_force 5 (some .int) (3) (72) TW_force := metX7_forceE.imp (fun live as M R q => by
  unfold TW_force at q
  split at q
  · next n a b c d =>
    obtain ⟨i1, i2, rfl, rfl, h, q⟩ := q
    refine ⟨⟨_, _, rfl⟩, rfl, ⟨h.li.h, h.li.g⟩, h.li.cA, fun N e hg => ?_⟩
    have l := h.sc e.sc hg
    exact q _ _ (by rw [← c_forceV_cg e]; exact (l.li.force a b c d).1) l l.li.i
  · exact q.elim)
def TV_force : am_T := fun live as M R => match as with
  | [.ref n, .int a, .int b, .int c, .int d] => ∃ i1 i2, live = (am_lv i1 i2, am_q i1 i2) ∧ n = 200 ∧ LX i1 i2 M ∧ R (some (.int (r_force M a b c d).1)) M
  | _ => False
theorem metV_force : am_Met yX8_force cX8_force 5 (some .int) (2) (53) TV_force := metX8_forceE.imp (fun live as M R q => by
  unfold TV_force at q
  split at q
  · next n a b c d =>
    obtain ⟨i1, i2, rfl, rfl, h, q⟩ := q
    refine ⟨⟨_, _, rfl⟩, rfl, h.li.i, ?_⟩
    rw [(h.li.force a b c d).2]
    exact q
  · exact q.elim)
def TW_loan : am_T := fun live as M R => match as with
  | [.ref n, .int a, .int b, .int c, .int d, .int e] => ∃ i1 i2, live = (am_lv i1 i2, am_q i1 i2) ∧ n = 0 ∧ LX i1 i2 M ∧ (e = 0 ∨ e = 1) ∧ ∀ v N, v = (r_loan N a b c d e).1 → LX i1 i2 (r_loan N a b c d e).2 → r_I N → R (some (.int v)) N
  | _ => False
theorem metW_loan : am_Met yX7_loan cX7_loan 8 (some .int) (2) (47) TW_loan := metX7_loan.imp (fun live as M R q => by
  unfold TW_loan at q
  split at q
  · next n a b c d e =>
    obtain ⟨i1, i2, rfl, rfl, h, hfe, q⟩ := q
    have hs := st_loan h.li a b c d e hfe
    exact ⟨⟨_, _, rfl⟩, rfl, ⟨h.li.h, h.li.g⟩, hfe, q _ _ hs.e (h.mv hs.l ((kc_loan _ a b c d e).tr (kr_loan _ a b c d e))) (h.li.ri hs.c)⟩
  · exact q.elim)
def TW_leave : am_T := fun live as M R => match as with
  | [.ref n, .int a, .int b] => ∃ i1 i2, live = (am_lv i1 i2, am_q i1 i2) ∧ n = 0 ∧ LX i1 i2 M ∧ ∀ v N, v = (r_leave N a b).1 → LX i1 i2 (r_leave N a b).2 → r_I N → R (some (.int v)) N
  | _ => False
theorem metW_leave : am_Met yX7_leave cX7_leave 4 (some .int) (2) (47) TW_leave := metX7_leave.imp (fun live as M R q => by
  unfold TW_leave at q
  split at q
  · next n a b =>
    obtain ⟨i1, i2, rfl, rfl, h, q⟩ := q
    have hs := st_leave h.li a b
    exact ⟨⟨_, _, rfl⟩, rfl, ⟨h.li.h, h.li.g⟩, q _ _ hs.e (h.mv hs.l ((kc_leave _ a b).tr (kr_leave _ a b))) (h.li.ri hs.c)⟩
  · exact q.elim)
def TW_move : am_T := fun live as M R => match as with
  | [.ref n, .int a, .int b, .int c] => ∃ i1 i2, live = (am_lv i1 i2, am_q i1 i2) ∧ n = 0 ∧ LX i1 i2 M ∧ ∀ v N, v = (r_move N a b c).1 → LX i1 i2 (r_move N a b c).2 → r_I N → R (some (.int v)) N
  | _ => False
theorem metW_move : am_Met yX7_move cX7_move 4 (some .int) (2) (47) TW_move := metX7_move.imp (fun live as M R q => by
  unfold TW_move at q
  split at q
  · next n a b c =>
    obtain ⟨i1, i2, rfl, rfl, h, q⟩ := q
    have hs := st_move h.li a b c
    exact ⟨⟨_, _, rfl⟩, rfl, ⟨h.li.h, h.li.g⟩, q _ _ hs.e (h.mv hs.l ((kc_move _ a b c).tr (kr_move _ a b c))) (h.li.ri hs.c)⟩
  · exact q.elim)
def TW_planOf : am_T := fun live as M R => match as with
  | [.ref n, .int a, .int b] => ∃ i1 i2, live = (am_lv i1 i2, am_q i1 i2) ∧ n = 0 ∧ LX i1 i2 M ∧ ∀ v N, v = (r_planOf N a b).1 → LX i1 i2 N → r_I N → R (some (.int v)) N
  | _ => False
theorem metW_planOf : am_Met yX7_planOf cX7_planOf 3 (some .int) (1) (21) TW_planOf := metX7_planOf.imp (fun live as M R q => by
  unfold TW_planOf at q
  split at q
  · next n a b =>
    obtain ⟨i1, i2, rfl, rfl, h, q⟩ := q
    refine ⟨⟨_, _, rfl⟩, rfl, ⟨h.li.h, h.li.g⟩, ?_⟩
    rw [(h.li.planOf a b).2.1]
    exact q _ _ (h.li.planOf a b).1 h h.li.i
  · exact q.elim)
def TV_planOf : am_T := fun live as M R => match as with
  | [.ref n, .int a, .int b] => ∃ i1 i2, live = (am_lv i1 i2, am_q i1 i2) ∧ n = 200 ∧ LX i1 i2 M ∧ R (some (.int (r_planOf M a b).1)) M
  | _ => False
theorem metV_planOf : am_Met yX8_planOf cX8_planOf 3 (some .int) (2) (46) TV_planOf := metX8_planOfE.imp (fun live as M R q => by
  unfold TV_planOf at q
  split at q
  · next n a b =>
    obtain ⟨i1, i2, rfl, rfl, h, q⟩ := q
    refine ⟨⟨_, _, rfl⟩, rfl, h.li.i, ?_⟩
    rw [(h.li.planOf a b).2.2]
    exact q
  · exact q.elim)
def TW_owes : am_T := fun live as M R => match as with
  | [.ref n, .int a, .int b, .int c, .int d] => ∃ i1 i2, live = (am_lv i1 i2, am_q i1 i2) ∧ n = 0 ∧ LX i1 i2 M ∧ ∀ v N, LX i1 i2 N → R (some (.long v)) N
  | _ => False
theorem metW_owes : am_Met yX7_owes cX7_owes 5 (some .long) (5) (124) TW_owes := metX7_owes.imp (fun live as M R q => by
  unfold TW_owes at q
  split at q
  · next n a b c d =>
    obtain ⟨i1, i2, rfl, rfl, h, q⟩ := q
    exact ⟨⟨_, _, rfl⟩, rfl, ⟨h.li.h, h.li.g⟩, fun v N c hg => q v N (h.sc c hg)⟩
  · exact q.elim)
def TV_owes : am_T := fun live as M R => match as with
  | [.ref n, .int a, .int b, .int c, .int d] => ∃ i1 i2, live = (am_lv i1 i2, am_q i1 i2) ∧ n = 200 ∧ LX i1 i2 M ∧ ∀ v N, LX i1 i2 N → R (some (.long v)) N
  | _ => False
theorem metV_owes : am_Met yX8_owes cX8_owes 5 (some .long) (10) (253) TV_owes := metX8_owes.imp (fun live as M R q => by
  unfold TV_owes at q
  split at q
  · next n a b c d =>
    obtain ⟨i1, i2, rfl, rfl, h, q⟩ := q
    exact ⟨⟨_, _, rfl⟩, rfl, h.li.i, fun v N c _ => q v N (h.rc c)⟩
  · exact q.elim)
def TW_all : am_T := fun live as M R => match as with
  | [.ref n, .int a, .int b, .int c, .int d] => ∃ i1 i2, live = (am_lv i1 i2, am_q i1 i2) ∧ n = 0 ∧ LX i1 i2 M ∧ ∀ v N, LX i1 i2 N → R (some (.long v)) N
  | _ => False
theorem metW_all : am_Met yX7_all cX7_all 5 (some .long) (6) (148) TW_all := metX7_all.imp (fun live as M R q => by
  unfold TW_all at q
  split at q
  · next n a b c d =>
    obtain ⟨i1, i2, rfl, rfl, h, q⟩ := q
    exact ⟨⟨_, _, rfl⟩, rfl, ⟨h.li.h, h.li.g⟩, fun v N c hg => q v N (h.sc c hg)⟩
  · exact q.elim)
def TV_all : am_T := fun live as M R => match as with
  | [.ref n, .int a, .int b, .int c, .int d] => ∃ i1 i2, live = (am_lv i1 i2, am_q i1 i2) ∧ n = 200 ∧ LX i1 i2 M ∧ ∀ v N, LX i1 i2 N → R (some (.long v)) N
  | _ => False
theorem metV_all : am_Met yX8_all cX8_all 5 (some .long) (10) (253) TV_all := metX8_all.imp (fun live as M R q => by
  unfold TV_all at q
  split at q
  · next n a b c d =>
    obtain ⟨i1, i2, rfl, rfl, h, q⟩ := q
    exact ⟨⟨_, _, rfl⟩, rfl, h.li.i, fun v N c _ => q v N (h.rc c)⟩
  · exact q.elim)
def TW_rate : am_T := fun live as M R => match as with
  | [.ref n, .int a, .int b, .int c] => ∃ i1 i2, live = (am_lv i1 i2, am_q i1 i2) ∧ n = 0 ∧ LX i1 i2 M ∧ ∀ v N, LX i1 i2 N → R (some (.int v)) N
  | _ => False
theorem metW_rate : am_Met yX7_rate cX7_rate 4 (some .int) (5) (124) TW_rate := metX7_rate.imp (fun live as M R q => by
  unfold TW_rate at q
  split at q
  · next n a b c =>
    obtain ⟨i1, i2, rfl, rfl, h, q⟩ := q
    exact ⟨⟨_, _, rfl⟩, rfl, ⟨h.li.h, h.li.g⟩, fun v N c hg => q v N (h.sc c hg)⟩
  · exact q.elim)
def TV_rate : am_T := fun live as M R => match as with
  | [.ref n, .int a, .int b, .int c] => ∃ i1 i2, live = (am_lv i1 i2, am_q i1 i2) ∧ n = 200 ∧ LX i1 i2 M ∧ ∀ v N, LX i1 i2 N → R (some (.int v)) N
  | _ => False
theorem metV_rate : am_Met yX8_rate cX8_rate 5 (some .int) (10) (253) TV_rate := metX8_rate.imp (fun live as M R q => by
  unfold TV_rate at q
  split at q
  · next n a b c =>
    obtain ⟨i1, i2, rfl, rfl, h, q⟩ := q
    exact ⟨⟨_, _, rfl⟩, rfl, h.li.i, fun v N c _ => q v N (h.rc c)⟩
  · exact q.elim)
def TW_over : am_T := fun live as M R => match as with
  | [.ref n, .int a, .int b, .int c] => ∃ i1 i2, live = (am_lv i1 i2, am_q i1 i2) ∧ n = 0 ∧ LX i1 i2 M ∧ ∀ v N, LX i1 i2 N → R (some (.long v)) N
  | _ => False
theorem metW_over : am_Met yX7_over cX7_over 4 (some .long) (6) (148) TW_over := metX7_over.imp (fun live as M R q => by
  unfold TW_over at q
  split at q
  · next n a b c =>
    obtain ⟨i1, i2, rfl, rfl, h, q⟩ := q
    exact ⟨⟨_, _, rfl⟩, rfl, ⟨h.li.h, h.li.g⟩, fun v N c hg => q v N (h.sc c hg)⟩
  · exact q.elim)
def TV_over : am_T := fun live as M R => match as with
  | [.ref n, .int a, .int b, .int c] => ∃ i1 i2, live = (am_lv i1 i2, am_q i1 i2) ∧ n = 200 ∧ LX i1 i2 M ∧ ∀ v N, LX i1 i2 N → R (some (.long v)) N
  | _ => False
theorem metV_over : am_Met yX8_over cX8_over 6 (some .long) (10) (253) TV_over := metX8_over.imp (fun live as M R q => by
  unfold TV_over at q
  split at q
  · next n a b c =>
    obtain ⟨i1, i2, rfl, rfl, h, q⟩ := q
    exact ⟨⟨_, _, rfl⟩, rfl, h.li.i, fun v N c _ => q v N (h.rc c)⟩
  · exact q.elim)
def TW_write : am_T := fun live as M R => match as with
  | [.ref n, .int a, .int b] => ∃ i1 i2, live = (am_lv i1 i2, am_q i1 i2) ∧ n = 0 ∧ LX i1 i2 M ∧ ∀ v N, v = (r_write N a b).1 → LX i1 i2 (r_write N a b).2 → r_I N → R (some (.int v)) N
  | _ => False
theorem metW_write : am_Met yX7_write cX7_write 4 (some .int) (334) (8442) TW_write := metX7_writeE.imp (fun live as M R q => by
  unfold TW_write at q
  split at q
  · next n a b =>
    obtain ⟨i1, i2, rfl, rfl, h, q⟩ := q
    refine ⟨⟨_, _, rfl⟩, rfl, ⟨h.li.h, h.li.g⟩, fun t ht => h.li.sg ht, fun hz => ?_, fun hz t ht => ?_⟩
    · have e := wr_no h.li hz
      exact q _ _ (by rw [e]) (by rw [e]; exact h) h.li.i
    · subst ht
      refine ⟨fun hf => ?_, fun hf N c h0 hx => ?_⟩
      · have e := wr_fu h.li hz hf
        exact q _ _ (by rw [e]) (by rw [e]; exact h) h.li.i
      · obtain ⟨e, l, far⟩ := wr_yes h.li hz hf c h0
        exact q _ _ e (h.write hz hf c h0 hx) (h.li.ri far)
  · exact q.elim)
def TW_erase : am_T := fun live as M R => match as with
  | [.ref n, .int a] => ∃ i1 i2, live = (am_lv i1 i2, am_q i1 i2) ∧ n = 0 ∧ LX i1 i2 M ∧ ∀ v N, v = (r_erase N a).1 → LX i1 i2 (r_erase N a).2 → r_I N → R (some (.int v)) N
  | _ => False
theorem metW_erase : am_Met yX7_erase cX7_erase 4 (some .int) (1) (20) TW_erase := metX7_erase.imp (fun live as M R q => by
  unfold TW_erase at q
  split at q
  · next n a =>
    obtain ⟨i1, i2, rfl, rfl, h, q⟩ := q
    have hs := st_erase h.li a
    exact ⟨⟨_, _, rfl⟩, rfl, ⟨h.li.h, h.li.g⟩, q _ _ hs.e (h.erase a) (h.li.ri hs.c)⟩
  · exact q.elim)
def TW_fault : am_T := fun live as M R => match as with
  | [.ref n, .int a] => ∃ i1 i2, live = (am_lv i1 i2, am_q i1 i2) ∧ n = 0 ∧ LX i1 i2 M ∧ ∀ v, v = (c_fault M a).1 → R (some (.int v)) M
  | _ => False
theorem c_fault_2 (M : am_M) (a : Int32) : (c_fault M a).2 = M := by
  unfold c_fault
  split <;> rfl
theorem metW_fault : am_Met yX7_fault cX7_fault 2 (some .int) (1) (20) TW_fault := metX7_fault.imp (fun live as M R q => by
  unfold TW_fault at q
  split at q
  · next n a =>
    obtain ⟨i1, i2, rfl, rfl, h, q⟩ := q
    refine ⟨⟨_, _, rfl⟩, rfl, ⟨h.li.h, h.li.g⟩, ?_⟩
    rw [c_fault_2]
    exact q _ rfl
  · exact q.elim)
def TV_fault : am_T := fun live as M R => match as with
  | [.ref n, .int a] => ∃ i1 i2, live = (am_lv i1 i2, am_q i1 i2) ∧ n = 200 ∧ LX i1 i2 M ∧ ∀ N, LX i1 i2 N → R (some (.int (c_fault M a).1)) N
  | _ => False
theorem metV_fault : am_Met yX8_fault cX8_fault 2 (some .int) (6) (135) TV_fault := metX8_faultE.imp (fun live as M R q => by
  unfold TV_fault at q
  split at q
  · next n a =>
    obtain ⟨i1, i2, rfl, rfl, h, q⟩ := q
    refine ⟨⟨_, _, rfl⟩, rfl, h.li.i, fun z => ?_, fun z => ?_⟩
    · have e : (c_fault M a).1 = -2 := by unfold c_fault; rw [if_neg z]
      rw [← e]
      exact q M h
    · have e : (c_fault M a).1 = M.1 (39 + 3 * a.toNatClampNeg) 6 := by unfold c_fault; rw [if_pos z]
      obtain ⟨f1, f2, -⟩ := h.fault z
      rw [e] at q
      refine ⟨fun x hx N c => ?_, fun v hv N c => ?_⟩
      · by_cases w : M.1 (39 + 3 * a.toNatClampNeg) 6 = -1
        · rw [w] at q
          exact q N (h.rc c.sc)
        · rw [f2 w] at hx
          cases hx
      · by_cases w : M.1 (39 + 3 * a.toNatClampNeg) 6 = -1
        · obtain ⟨x, hx⟩ := f1 w
          rw [hx] at hv
          cases hv
        · rw [f2 w] at hv
          have e2 : M.1 (39 + 3 * a.toNatClampNeg) 6 = v := by rw [i_eq]; exact Sum.inr.inj hv
          rw [e2] at q
          exact q N (h.rc c.sc)
  · exact q.elim)
def TW_sell : am_T := fun live as M R => match as with
  | [.ref n, .int a, .int b, .int c] => ∃ i1 i2, live = (am_lv i1 i2, am_q i1 i2) ∧ n = 0 ∧ LX i1 i2 M ∧ ∀ v N, v = (r_sell N a b c).1 → LX i1 i2 (r_sell N a b c).2 → r_I N → R (some (.int v)) N
  | _ => False
theorem metW_sell : am_Met yX7_sell cX7_sell 4 (some .int) (1) (24) TW_sell := metX7_sell.imp (fun live as M R q => by
  unfold TW_sell at q
  split at q
  · next n a b c =>
    obtain ⟨i1, i2, rfl, rfl, h, q⟩ := q
    have hs := st_sell h.li a b c
    exact ⟨⟨_, _, rfl⟩, rfl, ⟨h.li.h, h.li.g⟩, q _ _ hs.e (h.mv hs.l ((kc_sell _ a b c).tr (kr_sell _ a b c))) (h.li.ri hs.c)⟩
  · exact q.elim)
def TW_promise : am_T := fun live as M R => match as with
  | [.ref n, .int a, .int b, .int c] => ∃ i1 i2, live = (am_lv i1 i2, am_q i1 i2) ∧ n = 0 ∧ LX i1 i2 M ∧ ∀ v N, v = (r_promise N a b c).1 → LX i1 i2 (r_promise N a b c).2 → r_I N → R (some (.int v)) N
  | _ => False
theorem metW_promise : am_Met yX7_promise cX7_promise 4 (some .int) (2) (47) TW_promise := metX7_promise.imp (fun live as M R q => by
  unfold TW_promise at q
  split at q
  · next n a b c =>
    obtain ⟨i1, i2, rfl, rfl, h, q⟩ := q
    have hs := st_promise h.li a b c
    exact ⟨⟨_, _, rfl⟩, rfl, ⟨h.li.h, h.li.g⟩, q _ _ hs.e (h.mv hs.l ((kc_promise _ a b c).tr (kr_promise _ a b c))) (h.li.ri hs.c)⟩
  · exact q.elim)
theorem r_bookV_cg {M N : am_M} (h1 : N.1 201 = M.1 201) (h2 : N.1 200 = M.1 200) (a b c d : Int32) : r_bookV N a b c d = r_bookV M a b c d := by
  have e1 : r_hasV N a b c = r_hasV M a b c := by
    unfold r_hasV r_n
    rw [show r_hf N a b c = r_hf M a b c from funext fun l => by unfold r_hf r_lo; rw [r_R_cg h1 h2, h1], h1]
  have e2 : r_prV N a b = r_prV M a b := by unfold r_prV; rw [r_pf_cg h1, h1]
  unfold r_bookV
  rw [e1, e2]
def TW_book : am_T := fun live as M R => match as with
  | [.ref n, .int a, .int b, .int c, .int d] => ∃ i1 i2, live = (am_lv i1 i2, am_q i1 i2) ∧ n = 0 ∧ LX i1 i2 M ∧ ∀ v N, v = r_bookV N a b c d → LX i1 i2 N → r_I N → R (some (.long v)) N
  | _ => False
theorem metW_book : am_Met yX7_book cX7_book 8 (some .long) (6) (147) TW_book := metX7_bookE.imp (fun live as M R q => by
  unfold TW_book at q
  split at q
  · next n a b c d =>
    obtain ⟨i1, i2, rfl, rfl, h, q⟩ := q
    exact ⟨⟨_, _, rfl⟩, rfl, ⟨_, _, h⟩, fun N cc hg => q _ N (r_bookV_cg (cc.r1 (by decide)) (cc.r1 (by decide)) a b c d).symm (h.sc cc hg) (h.sc cc hg).li.i⟩
  · exact q.elim)
def TV_book : am_T := fun live as M R => match as with
  | [.ref n, .int a, .int b, .int c, .int d] => ∃ i1 i2, live = (am_lv i1 i2, am_q i1 i2) ∧ n = 200 ∧ LX i1 i2 M ∧ ∀ N, LX i1 i2 N → R (some (.long (r_bookV M a b c d))) N
  | _ => False
theorem metV_book : am_Met yX8_book cX8_book 10 (some .long) (10) (253) TV_book := metX8_bookE.imp (fun live as M R q => by
  unfold TV_book at q
  split at q
  · next n a b c d =>
    obtain ⟨i1, i2, rfl, rfl, h, q⟩ := q
    exact ⟨⟨_, _, rfl⟩, rfl, ⟨_, _, h⟩, fun N c _ => q N (h.rc c)⟩
  · exact q.elim)
def TW_live : am_T := fun live as M R => match as with
  | [.ref n, .int a, .int b, .int c, .int d] => ∃ i1 i2, live = (am_lv i1 i2, am_q i1 i2) ∧ n = 0 ∧ LX i1 i2 M ∧ ∀ v N, v = (r_live N a b c d).1 → LX i1 i2 (r_live N a b c d).2 → r_I N → R (some (.int v)) N
  | _ => False
theorem metW_live : am_Met yX7_live cX7_live 5 (some .int) (2) (47) TW_live := metX7_live.imp (fun live as M R q => by
  unfold TW_live at q
  split at q
  · next n a b c d =>
    obtain ⟨i1, i2, rfl, rfl, h, q⟩ := q
    have hs := st_live h.li a b c d
    exact ⟨⟨_, _, rfl⟩, rfl, ⟨h.li.h, h.li.g⟩, q _ _ hs.e (h.mv hs.l ((kc_live _ a b c d).tr (kr_live _ a b c d))) (h.li.ri hs.c)⟩
  · exact q.elim)
def TW_early : am_T := fun live as M R => match as with
  | [.ref n, .int a, .int b, .int c, .int d] => ∃ i1 i2, live = (am_lv i1 i2, am_q i1 i2) ∧ n = 0 ∧ LX i1 i2 M ∧ ∀ v N, LX i1 i2 N → R (some (.int v)) N
  | _ => False
theorem metW_early : am_Met yX7_early cX7_early 11 (some .int) (6) (152) TW_early := metX7_early.imp (fun live as M R q => by
  unfold TW_early at q
  split at q
  · next n a b c d =>
    obtain ⟨i1, i2, rfl, rfl, h, q⟩ := q
    exact ⟨⟨_, _, rfl⟩, rfl, ⟨h.li.h, h.li.g⟩, fun v N c hg => q v N (h.sc c hg)⟩
  · exact q.elim)
def TV_early : am_T := fun live as M R => match as with
  | [.ref n, .int a, .int b, .int c, .int d] => ∃ i1 i2, live = (am_lv i1 i2, am_q i1 i2) ∧ n = 200 ∧ LX i1 i2 M ∧ ∀ v N, LX i1 i2 N → R (some (.int v)) N
  | _ => False
theorem metV_early : am_Met yX8_early cX8_early 7 (some .int) (11) (282) TV_early := metX8_early.imp (fun live as M R q => by
  unfold TV_early at q
  split at q
  · next n a b c d =>
    obtain ⟨i1, i2, rfl, rfl, h, q⟩ := q
    exact ⟨⟨_, _, rfl⟩, rfl, h.li.i, fun v N c _ => q v N (h.rc c)⟩
  · exact q.elim)
def TW_choice : am_T := fun live as M R => match as with
  | [.ref n, .int a, .int b, .int c, .int d, .int e] => ∃ i1 i2, live = (am_lv i1 i2, am_q i1 i2) ∧ n = 0 ∧ LX i1 i2 M ∧ ∀ v N, LX i1 i2 N → R (some (.long v)) N
  | _ => False
theorem metW_choice : am_Met yX7_choice cX7_choice 6 (some .long) (6) (152) TW_choice := metX7_choice.imp (fun live as M R q => by
  unfold TW_choice at q
  split at q
  · next n a b c d e =>
    obtain ⟨i1, i2, rfl, rfl, h, q⟩ := q
    exact ⟨⟨_, _, rfl⟩, rfl, ⟨h.li.h, h.li.g⟩, fun v N c hg => q v N (h.sc c hg)⟩
  · exact q.elim)
def TV_choice : am_T := fun live as M R => match as with
  | [.ref n, .int a, .int b, .int c, .int d, .int e] => ∃ i1 i2, live = (am_lv i1 i2, am_q i1 i2) ∧ n = 200 ∧ LX i1 i2 M ∧ ∀ v N, LX i1 i2 N → R (some (.long v)) N
  | _ => False
theorem metV_choice : am_Met yX8_choice cX8_choice 8 (some .long) (11) (282) TV_choice := metX8_choice.imp (fun live as M R q => by
  unfold TV_choice at q
  split at q
  · next n a b c d e =>
    obtain ⟨i1, i2, rfl, rfl, h, q⟩ := q
    exact ⟨⟨_, _, rfl⟩, rfl, h.li.i, h.li.n7, fun v N c _ => q v N (h.rc c)⟩
  · exact q.elim)
def TW_chances : am_T := fun live as M R => match as with
  | [.ref n, .int a, .int b, .int c, .int d, .int e] => ∃ i1 i2, live = (am_lv i1 i2, am_q i1 i2) ∧ n = 0 ∧ LX i1 i2 M ∧ ∀ v N, v = (r_chances N a b c d e).1 → LX i1 i2 (r_chances N a b c d e).2 → r_I N → R (some (.int v)) N
  | _ => False
theorem metW_chances : am_Met yX7_chances cX7_chances 7 (some .int) (1) (22) TW_chances := metX7_chances.imp (fun live as M R q => by
  unfold TW_chances at q
  split at q
  · next n a b c d e =>
    obtain ⟨i1, i2, rfl, rfl, h, q⟩ := q
    have hs := st_chances h.li a b c d e
    exact ⟨⟨_, _, rfl⟩, rfl, ⟨h.li.h, h.li.g⟩, q _ _ hs.e (h.mv hs.l ((kc_chances _ a b c d e).tr (kr_chances _ a b c d e))) (h.li.ri hs.c)⟩
  · exact q.elim)
def TW_foretold : am_T := fun live as M R => match as with
  | [.ref n, .int a, .int b, .int c, .int d, .int e, .int f] => ∃ i1 i2, live = (am_lv i1 i2, am_q i1 i2) ∧ n = 0 ∧ LX i1 i2 M ∧ ∀ v N, LX i1 i2 N → R (some (.long v)) N
  | _ => False
theorem metW_foretold : am_Met yX7_foretold cX7_foretold 7 (some .long) (11) (368) TW_foretold := metX7_foretold.imp (fun live as M R q => by
  unfold TW_foretold at q
  split at q
  · next n a b c d e f =>
    obtain ⟨i1, i2, rfl, rfl, h, q⟩ := q
    exact ⟨⟨_, _, rfl⟩, rfl, ⟨h.li.h, h.li.g⟩, fun v N c hg => q v N (h.gv c hg)⟩
  · exact q.elim)
def TV_foretold : am_T := fun live as M R => match as with
  | [.ref n, .int a, .int b, .int c, .int d, .int e, .int f] => ∃ i1 i2, live = (am_lv i1 i2, am_q i1 i2) ∧ n = 200 ∧ LX i1 i2 M ∧ ∀ v N, LX i1 i2 N → R (some (.long v)) N
  | _ => False
theorem metV_foretold : am_Met yX8_foretold cX8_foretold 18 (some .long) (10) (259) TV_foretold := metX8_foretold.imp (fun live as M R q => by
  unfold TV_foretold at q
  split at q
  · next n a b c d e f =>
    obtain ⟨i1, i2, rfl, rfl, h, q⟩ := q
    exact ⟨⟨_, _, rfl⟩, rfl, h.li.i, fun v N c _ => q v N (h.rc c)⟩
  · exact q.elim)
def TW_tried : am_T := fun live as M R => match as with
  | [.ref n, .int a, .int b, .int c, .int d, .int e] => ∃ i1 i2, live = (am_lv i1 i2, am_q i1 i2) ∧ n = 0 ∧ LX i1 i2 M ∧ ∀ v N, LX i1 i2 N → R (some (.long v)) N
  | _ => False
theorem metW_tried : am_Met yX7_tried cX7_tried 6 (some .long) (6) (152) TW_tried := metX7_tried.imp (fun live as M R q => by
  unfold TW_tried at q
  split at q
  · next n a b c d e =>
    obtain ⟨i1, i2, rfl, rfl, h, q⟩ := q
    exact ⟨⟨_, _, rfl⟩, rfl, ⟨h.li.h, h.li.g⟩, fun v N c hg => q v N (h.sa c hg)⟩
  · exact q.elim)
def TV_tried : am_T := fun live as M R => match as with
  | [.ref n, .int a, .int b, .int c, .int d, .int e] => ∃ i1 i2, live = (am_lv i1 i2, am_q i1 i2) ∧ n = 200 ∧ LX i1 i2 M ∧ ∀ v N, LX i1 i2 N → R (some (.long v)) N
  | _ => False
theorem metV_tried : am_Met yX8_tried cX8_tried 6 (some .long) (11) (281) TV_tried := metX8_tried.imp (fun live as M R q => by
  unfold TV_tried at q
  split at q
  · next n a b c d e =>
    obtain ⟨i1, i2, rfl, rfl, h, q⟩ := q
    exact ⟨⟨_, _, rfl⟩, rfl, h.li.i, h.li.n3t, fun v N c _ => q v N (h.rc c)⟩
  · exact q.elim)
def TW_tell : am_T := fun live as M R => match as with
  | [.ref n, .int a] => ∃ i1 i2, live = (am_lv i1 i2, am_q i1 i2) ∧ n = 0 ∧ LX i1 i2 M ∧ ∀ v N, v = (r_tell N a).1 → LX i1 i2 (r_tell N a).2 → r_I N → R (some (.int v)) N
  | _ => False
theorem metW_tell : am_Met yX7_tell cX7_tell 2 (some .int) (1) (20) TW_tell := metX7_tell.imp (fun live as M R q => by
  unfold TW_tell at q
  split at q
  · next n a =>
    obtain ⟨i1, i2, rfl, rfl, h, q⟩ := q
    have hs := st_tell h.li a
    exact ⟨⟨_, _, rfl⟩, rfl, ⟨h.li.h, h.li.g⟩, q _ _ hs.e (h.mv hs.l ((kc_tell _ a).tr (kr_tell _ a))) (h.li.ri hs.c)⟩
  · exact q.elim)
def TW_untell : am_T := fun live as M R => match as with
  | [.ref n] => ∃ i1 i2, live = (am_lv i1 i2, am_q i1 i2) ∧ n = 0 ∧ LX i1 i2 M ∧ ∀ v N, v = (r_untell N).1 → LX i1 i2 (r_untell N).2 → r_I N → R (some (.int v)) N
  | _ => False
theorem metW_untell : am_Met yX7_untell cX7_untell 2 (some .int) (0) (0) TW_untell := metX7_untell.imp (fun live as M R q => by
  unfold TW_untell at q
  split at q
  · next n =>
    obtain ⟨i1, i2, rfl, rfl, h, q⟩ := q
    have hs := st_untell h.li
    exact ⟨⟨_, _, rfl⟩, rfl, ⟨h.li.h, h.li.g⟩, q _ _ hs.e (h.mv hs.l ((kc_untell _).tr (kr_untell _))) (h.li.ri hs.c)⟩
  · exact q.elim)
def TW_best : am_T := fun live as M R => match as with
  | [.ref n, .int a, .int b, .int c, .int d, .int e, .long f] => ∃ i1 i2, live = (am_lv i1 i2, am_q i1 i2) ∧ n = 0 ∧ LX i1 i2 M ∧ ∀ v N, LX i1 i2 N → R (some (.int v)) N
  | _ => False
theorem metW_best : am_Met yX7_best cX7_best 12 (some .int) (6) (152) TW_best := metX7_best.imp (fun live as M R q => by
  unfold TW_best at q
  split at q
  · next n a b c d e f =>
    obtain ⟨i1, i2, rfl, rfl, h, q⟩ := q
    exact ⟨⟨_, _, rfl⟩, rfl, ⟨h.li.h, h.li.g⟩, fun v N c hg => q v N (h.sa c hg)⟩
  · exact q.elim)
def TV_best : am_T := fun live as M R => match as with
  | [.ref n, .int a, .int b, .int c, .int d, .int e, .long f] => ∃ i1 i2, live = (am_lv i1 i2, am_q i1 i2) ∧ n = 200 ∧ LX i1 i2 M ∧ ∀ v N, LX i1 i2 N → R (some (.int v)) N
  | _ => False
theorem metV_best : am_Met yX8_best cX8_best 13 (some .int) (11) (281) TV_best := metX8_best.imp (fun live as M R q => by
  unfold TV_best at q
  split at q
  · next n a b c d e f =>
    obtain ⟨i1, i2, rfl, rfl, h, q⟩ := q
    exact ⟨⟨_, _, rfl⟩, rfl, h.li.i, h.li.n3t, fun v N c _ => q v N (h.rc c)⟩
  · exact q.elim)
def TW_image : an_T := fun E as M R => match as with
  | [.ref n, .int a] => ∃ i1 i2, E = (am_lv i1 i2, am_q i1 i2) ∧ n = 0 ∧ LX i1 i2 M ∧ ∀ v j1 j2 N, v = (r_image N a).1 → LX j1 j2 (r_image N a).2 → r_I N → R (some (.int v)) (am_lv j1 j2, am_q j1 j2) N
  | _ => False
theorem metW_image : an_Met yX7_image cX7_image 2 (some .int) (3) (74) 39 5272 TW_image := metX7_image.imp (fun E as M R q => by
  unfold TW_image at q
  split at q
  · next n a =>
    obtain ⟨i1, i2, rfl, rfl, h, q⟩ := q
    refine ⟨i1, i2, rfl, rfl, fun e N c => ?_, fun e N c => ?_, fun hn => ?_⟩
    · subst e
      obtain ⟨l, e, r⟩ := im_0 h.li c
      exact q _ _ _ N e.symm (h.im0 c) r
    · subst e
      obtain ⟨l, e, r⟩ := im_1 h.li c
      exact q _ _ _ N e.symm (h.im1 c) r
    · have e := (im_no (M := M) hn).1
      exact q _ _ _ M (by rw [e]) (by rw [e]; exact h) h.li.i
  · exact q.elim)
def TW_from : an_T := fun E as M R => match as with
  | [.ref n, .int a] => ∃ i1 i2, E = (am_lv i1 i2, am_q i1 i2) ∧ n = 0 ∧ LX i1 i2 M ∧ ∀ v j1 j2 N, v = (r_from N a).1 → LX j1 j2 (r_from N a).2 → r_I N → R (some (.int v)) (am_lv j1 j2, am_q j1 j2) N
  | _ => False
theorem metW_from : an_Met yX7_from cX7_from 2 (some .int) (3) (74) 0 0 TW_from := metX7_from.imp (fun E as M R q => by
  unfold TW_from at q
  split at q
  · next n a =>
    obtain ⟨i1, i2, rfl, rfl, h, q⟩ := q
    refine ⟨i1, i2, rfl, rfl, fun hn => ?_, fun e z => ?_, fun e z => ?_, fun e z N c => ?_, fun e z N c => ?_⟩
    · have e := (im_no (M := M) hn).2
      exact q _ _ _ M (by rw [e]) (by rw [e]; exact h) h.li.i
    · subst e
      subst z
      have e := fr_no0 h.li
      exact q _ _ _ M (by rw [e]) (by rw [e]; exact h) h.li.i
    · subst e
      subst z
      have e := fr_no1 h.li
      exact q _ _ _ M (by rw [e]) (by rw [e]; exact h) h.li.i
    · subst e
      subst z
      obtain ⟨l, e, r⟩ := fr_0 h.li c
      exact q _ _ _ N e.symm (h.fr0 c) r
    · subst e
      subst z
      obtain ⟨l, e, r⟩ := fr_1 h.li c
      exact q _ _ _ N e.symm (h.fr1 c) r
  · exact q.elim)
def TW_count : am_T := fun live as M R => match as with
  | [.ref n, .int a] => ∃ i1 i2, live = (am_lv i1 i2, am_q i1 i2) ∧ n = 0 ∧ LX i1 i2 M ∧ R (some (.int (r_count M a))) M
  | _ => False
theorem metW_count : am_Met yX7_count cX7_count 2 (some .int) (0) (0) TW_count := metX7_count.imp (fun live as M R q => by
  unfold TW_count at q
  split at q
  · next n a =>
    obtain ⟨i1, i2, rfl, rfl, h, q⟩ := q
    refine ⟨⟨_, _, rfl⟩, rfl, ?_⟩
    rw [ct_eq h.li a]
    exact q
  · exact q.elim)
def TW_digest : am_T := fun live as M R => match as with
  | [.ref n] => ∃ i1 i2, live = (am_lv i1 i2, am_q i1 i2) ∧ n = 0 ∧ LX i1 i2 M ∧ ∀ v N, LX i1 i2 N → R (some (.long v)) N
  | _ => False
theorem metW_digest : am_Met yX7_digest cX7_digest 4 (some .long) (6) (147) TW_digest := metX7_digest.imp (fun live as M R q => by
  unfold TW_digest at q
  split at q
  · next n =>
    obtain ⟨i1, i2, rfl, rfl, h, q⟩ := q
    exact ⟨⟨_, _, rfl⟩, rfl, ⟨h.li.h, h.li.g⟩, fun v N c hg => q v N (h.sc c hg)⟩
  · exact q.elim)
def TV_digest : am_T := fun live as M R => match as with
  | [.ref n] => ∃ i1 i2, live = (am_lv i1 i2, am_q i1 i2) ∧ n = 200 ∧ LX i1 i2 M ∧ ∀ v N, LX i1 i2 N → R (some (.long v)) N
  | _ => False
theorem metV_digest : am_Met yX8_digest cX8_digest 5 (some .long) (10) (253) TV_digest := metX8_digest.imp (fun live as M R q => by
  unfold TV_digest at q
  split at q
  · next n =>
    obtain ⟨i1, i2, rfl, rfl, h, q⟩ := q
    exact ⟨⟨_, _, rfl⟩, rfl, h.li.i, fun v N c _ => q v N (h.rc c)⟩
  · exact q.elim)
end
