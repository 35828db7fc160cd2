/-! runs, exact: the reference: the rate of a loan -/
theorem r_plm_in {M : am_M} (hR : r_I M) {l : Nat} (hl : l < 30) (y : Nat) : ∀ m, m ≤ 60 → am_in (r_plm (M.1 201) l y m) 5
  | 0, _ => (hR.lo hl).2
  | m + 1, h => by
    unfold r_plm
    split
    · exact hR.mv (by omega)
    · exact r_plm_in hR hl y m (by omega)
theorem r_pl_in {M : am_M} (hR : r_I M) {l y : Int32} (hl : am_in l 30) : am_in (r_pl M l y) 5 := by
  unfold r_pl
  split
  · next z =>
    rcases hR.s with q | q
    · rw [q] at z
      exact absurd z.1 (by decide)
    · exact q
  · have n3 := hR.n3
    have c := i_clamp n3.1
    exact r_plm_in hR (g_cl hl) _ _ (by omega)
abbrev r_lo (M : am_M) (l w : Int32) : Int32 := M.1 201 (2838 + 8 * l + w).toNatClampNeg
/-- the facts of a text -/
def r_fx (M : am_M) (l y e a : Int32) (o : Int64) : Int32 → Int64 := fun c => (fun k : Nat => if k = 0 then (r_inF M (r_pl M l y) 2 (r_lo M l 0) y).toInt64 else if k = 1 then (M.1 201 (518 + y).toNatClampNeg).toInt64 else if k = 2 then e.toInt64 else if k = 3 then (r_inF M (r_pl M l y) 0 (r_lo M l 0) y).toInt64 else if k = 4 then (y - r_lo M l 2).toInt64 else if k = 5 then o else a.toInt64) (r_fact c).toNatClampNeg
def r_rt (M : am_M) (l y e a : Int32) (o : Int64) : Int32 := z_rt (r_fx M l y e a o) (r_sg M (r_pl M l y)) (r_sn M (r_pl M l y)) (r_inF M (r_pl M l y) 2 (r_lo M l 0) y)
theorem r_fx_fa {M N : am_M} {l y e a : Int32} {o : Int64} (h0 : N.2 206 0 = (r_inF M (r_pl M l y) 2 (r_lo M l 0) y).toInt64) (h1 : N.2 206 1 = (M.1 201 (518 + y).toNatClampNeg).toInt64) (h2 : N.2 206 2 = e.toInt64) (h3 : N.2 206 3 = (r_inF M (r_pl M l y) 0 (r_lo M l 0) y).toInt64) (h4 : N.2 206 4 = (y - r_lo M l 2).toInt64) (h5 : N.2 206 5 = o) (h6 : N.2 206 6 = a.toInt64) : r_fa N = r_fx M l y e a o := by
  funext c
  have q := r_fact_in c
  have hk : (r_fact c).toNatClampNeg < 7 := by
    show (r_fact c).toInt.toNat < 7
    omega
  unfold r_fa r_fx
  generalize (r_fact c).toNatClampNeg = k at hk ⊢
  match k, hk with
  | 0, _ => exact h0
  | 1, _ => exact h1
  | 2, _ => exact h2
  | 3, _ => exact h3
  | 4, _ => exact h4
  | 5, _ => exact h5
  | 6, _ => exact h6
  | k + 7, hk => exact absurd hk (by omega)
/-- what the rate changes -/
def r_kr (M N : am_M) : Prop := ∃ _ : Unit, (∀ a b, a ≠ 204 → (a ≠ 200 ∨ (b ≠ 11 ∧ b ≠ 12 ∧ b ≠ 14)) → N.1 a b = M.1 a b) ∧ ∀ a, a ≠ 205 → a ≠ 206 → N.2 a = M.2 a
theorem r_kr.rf {M : am_M} : r_kr M M := ⟨(), fun _ _ _ _ => rfl, fun _ _ _ => rfl⟩
theorem r_kr.i {M N : am_M} (h : r_kr M N) {a b : Nat} (h4 : a ≠ 204) (h2 : a ≠ 200 ∨ (b ≠ 11 ∧ b ≠ 12 ∧ b ≠ 14)) : N.1 a b = M.1 a b := by obtain ⟨-, h, -⟩ := h; exact h a b h4 h2
theorem r_kr.j {M N : am_M} (h : r_kr M N) {a : Nat} (h5 : a ≠ 205) (h6 : a ≠ 206) : N.2 a = M.2 a := by obtain ⟨-, -, h⟩ := h; exact h a h5 h6
theorem r_kr.w {M N : am_M} {k : Nat} {v : Int64} (h : r_kr M N) : r_kr M (am_wJ N 206 k v) := ⟨(), fun a b z4 z2 => h.i z4 z2, fun a z5 z6 => by rw [z_wJo z6]; exact h.j z5 z6⟩
theorem r_kr.wh {M N K : am_M} (h : r_kr M N) (h2 : r_wh N K) : r_kr M K := by
  obtain ⟨-, a1, a2⟩ := h2
  exact ⟨(), fun a b z4 z2 => (a1 a b z4 z2).trans (h.i z4 z2), fun a z5 z6 => (funext fun b => a2 a b z5).trans (h.j z5 z6)⟩
theorem z_cl_n {v : Int64} (h : v < 0) : z_cl v = 0 := by
  have h5 : v < 500 := by
    rw [Int64.lt_iff_toInt_lt] at h ⊢
    have : (500 : Int64).toInt = 500 := rfl
    have : (0 : Int64).toInt = 0 := rfl
    omega
  unfold z_cl
  rw [if_pos h5, if_pos h]
  rfl
theorem z_cl_m {v : Int64} (h0 : ¬ v < 0) (h : 500 < v) : z_cl v = 500 := by
  have h5 : ¬ v < 500 := by
    rw [Int64.lt_iff_toInt_lt] at h ⊢
    omega
  unfold z_cl
  rw [if_neg h5, if_neg (by decide)]
  rfl
theorem z_cl_v {v : Int64} (h0 : ¬ v < 0) (h : ¬ 500 < v) : z_cl v = v.toInt32 := by
  unfold z_cl
  by_cases h5 : v < 500
  · rw [if_pos h5, if_neg h0]
  · have e : v = 500 := by
      apply Int64.toInt_inj.mp
      rw [Int64.lt_iff_toInt_lt] at h h5
      omega
    rw [if_neg h5, e, if_neg (by decide)]
def kX8_rateOfE (live : am_E) (Ret : am_R) : am_code := [(0, am_aload 0 1), (1, am_iload 1 2), (2, am_const (.int 0) 3), (3, am_callV live 8 2 TX8_ofLoan 6), (6, am_istore 5 8 8), (8, am_aload 0 9), (9, am_iload 1 10), (10, am_iload 2 11), (11, am_callV live 8 2 TE8_planAt 14), (14, am_istore 6 8 16), (16, am_aload 0 17), (17, am_iload 6 19), (19, am_const (.int 2) 20), (20, am_iload 5 22), (22, am_iload 2 23), (23, am_callV live 8 4 TE8_inForce 26), (26, am_istore 7 8 28), (28, am_aload 0 29), (29, am_getR live 8 0 32), (32, am_const (.int 3508) 35), (35, am_iload 6 37), (37, am_i2 (fun x y => x + y) 38), (38, am_ald live 0 39), (39, am_if1 (fun x => x = 0) 42 45), (42, am_iload 7 44), (44, am_retI Ret), (45, am_aload 0 46), (46, am_getR live 8 13 49), (49, am_const (.int 0) 50), (50, am_iload 7 52), (52, am_i2l 53), (53, am_last live 1 54), (54, am_aload 0 55), (55, am_getR live 8 13 58), (58, am_const (.int 1) 59), (59, am_aload 0 60), (60, am_getR live 8 0 63), (63, am_const (.int 518) 66), (66, am_iload 2 67), (67, am_i2 (fun x y => x + y) 68), (68, am_ald live 0 69), (69, am_i2l 70), (70, am_last live 1 71), (71, am_aload 0 72), (72, am_getR live 8 13 75), (75, am_const (.int 2) 76), (76, am_iload 3 77), (77, am_i2l 78), (78, am_last live 1 79), (79, am_aload 0 80), (80, am_getR live 8 13 83), (83, am_const (.int 3) 84), (84, am_aload 0 85), (85, am_iload 6 87), (87, am_const (.int 0) 88), (88, am_iload 5 90), (90, am_iload 2 91), (91, am_callV live 8 4 TE8_inForce 94), (94, am_i2l 95), (95, am_last live 1 96), (96, am_aload 0 97), (97, am_getR live 8 13 100), (100, am_const (.int 4) 101), (101, am_iload 2 102), (102, am_aload 0 103), (103, am_iload 1 104), (104, am_const (.int 2) 105), (105, am_callV live 8 2 TX8_ofLoan 108), (108, am_i2 (fun x y => x - y) 109), (109, am_i2l 110), (110, am_last live 1 111), (111, am_aload 0 112), (112, am_getR live 8 13 115), (115, am_const (.int 5) 116), (116, am_aload 0 117), (117, am_getR live 8 15 120), (120, am_iload 1 121), (121, am_lald live 1 122), (122, am_last live 1 123), (123, am_aload 0 124), (124, am_getR live 8 13 127), (127, am_const (.int 6) 129), (129, am_iload 4 131), (131, am_i2l 132), (132, am_last live 1 133), (133, am_aload 0 134), (134, am_iload 6 136), (136, am_callV live 8 1 TE8_work 139), (139, am_if1 (fun x => x = 0) 142 145), (142, am_iload 7 144), (144, am_retI Ret), (145, am_aload 0 146), (146, am_getR live 8 10 149), (149, am_const (.int 0) 150), (150, am_lald live 1 151), (151, am_const (.long 0) 152), (152, am_lcmp 153), (153, am_if1 (fun x => 0 ≤ x) 160 156), (156, am_const (.int 0) 157), (157, am_goto 186), (160, am_aload 0 161), (161, am_getR live 8 10 164), (164, am_const (.int 0) 165), (165, am_lald live 1 166), (166, am_const (.long 500) 169), (169, am_lcmp 170), (170, am_if1 (fun x => x ≤ 0) 179 173), (173, am_const (.int 500) 176), (176, am_goto 186), (179, am_aload 0 180), (180, am_getR live 8 10 183), (183, am_const (.int 0) 184), (184, am_lald live 1 185), (185, am_l2i 186), (186, am_retI Ret)]
theorem koX8_rateOfE (live : am_E) (Ret : am_R) : ∀ q ∈ kX8_rateOfE live Ret, am_ok RX8 cX8_rateOf 8 (some .int) 6 135 live Ret q.1 q.2 :=
  am_kc (ak_aload_n dX8_rateOf_0 rfl rfl) <|
  am_kc (ak_iload_n dX8_rateOf_1 rfl rfl) <|
  am_kc (ak_iconst dX8_rateOf_2 (by decide +kernel) rfl) <|
  am_kc (ak_callV (C := RX8) (F := TX8) (N := 27) metX8_ofLoan rfl ⟨rfl, by decide +kernel, by decide +kernel, by decide +kernel⟩ (am_w5 wd_1154 wd_1156 wd_41 wd_67 wd_1157) (by decide) dX8_rateOf_3 rfl) <|
  am_kc (ak_istore dX8_rateOf_6 rfl) <|
  am_kc (ak_aload_n dX8_rateOf_8 rfl rfl) <|
  am_kc (ak_iload_n dX8_rateOf_9 rfl rfl) <|
  am_kc (ak_iload_n dX8_rateOf_10 rfl rfl) <|
  am_kc (ak_callV (C := RX8) (F := TX8) (N := 27) metX8_planAtE rfl ⟨rfl, by decide +kernel, by decide +kernel, by decide +kernel⟩ (am_w5 wd_1085 wd_1087 wd_32 wd_67 wd_1088) (by decide) dX8_rateOf_11 rfl) <|
  am_kc (ak_istore dX8_rateOf_14 rfl) <|
  am_kc (ak_aload_n dX8_rateOf_16 rfl rfl) <|
  am_kc (ak_iload dX8_rateOf_17 rfl) <|
  am_kc (ak_iconst dX8_rateOf_19 (by decide +kernel) rfl) <|
  am_kc (ak_iload dX8_rateOf_20 rfl) <|
  am_kc (ak_iload_n dX8_rateOf_22 rfl rfl) <|
  am_kc (ak_callV (C := RX8) (F := TX8) (N := 27) metX8_inForceE rfl ⟨rfl, by decide +kernel, by decide +kernel, by decide +kernel⟩ (am_w5 wd_1053 wd_1055 wd_29 wd_67 wd_1056) (by decide) dX8_rateOf_23 rfl) <|
  am_kc (ak_istore dX8_rateOf_26 rfl) <|
  am_kc (ak_aload_n dX8_rateOf_28 rfl rfl) <|
  am_kc (ak_getR (C := RX8) (T := TX8) (N := 27) rfl inX8w (by decide) rfl rfl rfl wd_895 dX8_rateOf_29 rfl) <|
  am_kc (ak_sipush dX8_rateOf_32 (by decide +kernel) rfl) <|
  am_kc (ak_iload dX8_rateOf_35 rfl) <|
  am_kc (ak_iadd dX8_rateOf_37 rfl) <|
  am_kc (ak_iald (t := 0) (fun _ => rfl) rfl dX8_rateOf_38 rfl) <|
  am_kc (ak_if_ne dX8_rateOf_39 (by decide +kernel) rfl) <|
  am_kc (ak_iload dX8_rateOf_42 rfl) <|
  am_kc (ak_retI dX8_rateOf_44) <|
  am_kc (ak_aload_n dX8_rateOf_45 rfl rfl) <|
  am_kc (ak_getR (C := RX8) (T := TX8) (N := 27) rfl inX8w (by decide) rfl rfl rfl wd_908 dX8_rateOf_46 rfl) <|
  am_kc (ak_iconst dX8_rateOf_49 (by decide +kernel) rfl) <|
  am_kc (ak_iload dX8_rateOf_50 rfl) <|
  am_kc (ak_i2l dX8_rateOf_52 rfl) <|
  am_kc (ak_last (t := 1) (fun _ => rfl) rfl dX8_rateOf_53 rfl) <|
  am_kc (ak_aload_n dX8_rateOf_54 rfl rfl) <|
  am_kc (ak_getR (C := RX8) (T := TX8) (N := 27) rfl inX8w (by decide) rfl rfl rfl wd_908 dX8_rateOf_55 rfl) <|
  am_kc (ak_iconst dX8_rateOf_58 (by decide +kernel) rfl) <|
  am_kc (ak_aload_n dX8_rateOf_59 rfl rfl) <|
  am_kc (ak_getR (C := RX8) (T := TX8) (N := 27) rfl inX8w (by decide) rfl rfl rfl wd_895 dX8_rateOf_60 rfl) <|
  am_kc (ak_sipush dX8_rateOf_63 (by decide +kernel) rfl) <|
  am_kc (ak_iload_n dX8_rateOf_66 rfl rfl) <|
  am_kc (ak_iadd dX8_rateOf_67 rfl) <|
  am_kc (ak_iald (t := 0) (fun _ => rfl) rfl dX8_rateOf_68 rfl) <|
  am_kc (ak_i2l dX8_rateOf_69 rfl) <|
  am_kc (ak_last (t := 1) (fun _ => rfl) rfl dX8_rateOf_70 rfl) <|
  am_kc (ak_aload_n dX8_rateOf_71 rfl rfl) <|
  am_kc (ak_getR (C := RX8) (T := TX8) (N := 27) rfl inX8w (by decide) rfl rfl rfl wd_908 dX8_rateOf_72 rfl) <|
  am_kc (ak_iconst dX8_rateOf_75 (by decide +kernel) rfl) <|
  am_kc (ak_iload_n dX8_rateOf_76 rfl rfl) <|
  am_kc (ak_i2l dX8_rateOf_77 rfl) <|
  am_kc (ak_last (t := 1) (fun _ => rfl) rfl dX8_rateOf_78 rfl) <|
  am_kc (ak_aload_n dX8_rateOf_79 rfl rfl) <|
  am_kc (ak_getR (C := RX8) (T := TX8) (N := 27) rfl inX8w (by decide) rfl rfl rfl wd_908 dX8_rateOf_80 rfl) <|
  am_kc (ak_iconst dX8_rateOf_83 (by decide +kernel) rfl) <|
  am_kc (ak_aload_n dX8_rateOf_84 rfl rfl) <|
  am_kc (ak_iload dX8_rateOf_85 rfl) <|
  am_kc (ak_iconst dX8_rateOf_87 (by decide +kernel) rfl) <|
  am_kc (ak_iload dX8_rateOf_88 rfl) <|
  am_kc (ak_iload_n dX8_rateOf_90 rfl rfl) <|
  am_kc (ak_callV (C := RX8) (F := TX8) (N := 27) metX8_inForceE rfl ⟨rfl, by decide +kernel, by decide +kernel, by decide +kernel⟩ (am_w5 wd_1053 wd_1055 wd_29 wd_67 wd_1056) (by decide) dX8_rateOf_91 rfl) <|
  am_kc (ak_i2l dX8_rateOf_94 rfl) <|
  am_kc (ak_last (t := 1) (fun _ => rfl) rfl dX8_rateOf_95 rfl) <|
  am_kc (ak_aload_n dX8_rateOf_96 rfl rfl) <|
  am_kc (ak_getR (C := RX8) (T := TX8) (N := 27) rfl inX8w (by decide) rfl rfl rfl wd_908 dX8_rateOf_97 rfl) <|
  am_kc (ak_iconst dX8_rateOf_100 (by decide +kernel) rfl) <|
  am_kc (ak_iload_n dX8_rateOf_101 rfl rfl) <|
  am_kc (ak_aload_n dX8_rateOf_102 rfl rfl) <|
  am_kc (ak_iload_n dX8_rateOf_103 rfl rfl) <|
  am_kc (ak_iconst dX8_rateOf_104 (by decide +kernel) rfl) <|
  am_kc (ak_callV (C := RX8) (F := TX8) (N := 27) metX8_ofLoan rfl ⟨rfl, by decide +kernel, by decide +kernel, by decide +kernel⟩ (am_w5 wd_1154 wd_1156 wd_41 wd_67 wd_1157) (by decide) dX8_rateOf_105 rfl) <|
  am_kc (ak_isub dX8_rateOf_108 rfl) <|
  am_kc (ak_i2l dX8_rateOf_109 rfl) <|
  am_kc (ak_last (t := 1) (fun _ => rfl) rfl dX8_rateOf_110 rfl) <|
  am_kc (ak_aload_n dX8_rateOf_111 rfl rfl) <|
  am_kc (ak_getR (C := RX8) (T := TX8) (N := 27) rfl inX8w (by decide) rfl rfl rfl wd_908 dX8_rateOf_112 rfl) <|
  am_kc (ak_iconst dX8_rateOf_115 (by decide +kernel) rfl) <|
  am_kc (ak_aload_n dX8_rateOf_116 rfl rfl) <|
  am_kc (ak_getR (C := RX8) (T := TX8) (N := 27) rfl inX8w (by decide) rfl rfl rfl wd_910 dX8_rateOf_117 rfl) <|
  am_kc (ak_iload_n dX8_rateOf_120 rfl rfl) <|
  am_kc (ak_lald (t := 1) (fun _ => rfl) rfl dX8_rateOf_121 rfl) <|
  am_kc (ak_last (t := 1) (fun _ => rfl) rfl dX8_rateOf_122 rfl) <|
  am_kc (ak_aload_n dX8_rateOf_123 rfl rfl) <|
  am_kc (ak_getR (C := RX8) (T := TX8) (N := 27) rfl inX8w (by decide) rfl rfl rfl wd_908 dX8_rateOf_124 rfl) <|
  am_kc (ak_bipush dX8_rateOf_127 (by decide +kernel) rfl) <|
  am_kc (ak_iload dX8_rateOf_129 rfl) <|
  am_kc (ak_i2l dX8_rateOf_131 rfl) <|
  am_kc (ak_last (t := 1) (fun _ => rfl) rfl dX8_rateOf_132 rfl) <|
  am_kc (ak_aload_n dX8_rateOf_133 rfl rfl) <|
  am_kc (ak_iload dX8_rateOf_134 rfl) <|
  am_kc (ak_callV (C := RX8) (F := TX8) (N := 27) metX8_workE rfl ⟨rfl, by decide +kernel, by decide +kernel, by decide +kernel⟩ (am_w5 wd_1102 wd_1104 wd_33 wd_67 wd_1105) (by decide) dX8_rateOf_136 rfl) <|
  am_kc (ak_if_ne dX8_rateOf_139 (by decide +kernel) rfl) <|
  am_kc (ak_iload dX8_rateOf_142 rfl) <|
  am_kc (ak_retI dX8_rateOf_144) <|
  am_kc (ak_aload_n dX8_rateOf_145 rfl rfl) <|
  am_kc (ak_getR (C := RX8) (T := TX8) (N := 27) rfl inX8w (by decide) rfl rfl rfl wd_905 dX8_rateOf_146 rfl) <|
  am_kc (ak_iconst dX8_rateOf_149 (by decide +kernel) rfl) <|
  am_kc (ak_lald (t := 1) (fun _ => rfl) rfl dX8_rateOf_150 rfl) <|
  am_kc (ak_lconst dX8_rateOf_151 (by decide +kernel) rfl) <|
  am_kc (ak_lcmp dX8_rateOf_152 rfl) <|
  am_kc (ak_if_ge dX8_rateOf_153 (by decide +kernel) rfl) <|
  am_kc (ak_iconst dX8_rateOf_156 (by decide +kernel) rfl) <|
  am_kc (ak_goto dX8_rateOf_157 (by decide +kernel)) <|
  am_kc (ak_aload_n dX8_rateOf_160 rfl rfl) <|
  am_kc (ak_getR (C := RX8) (T := TX8) (N := 27) rfl inX8w (by decide) rfl rfl rfl wd_905 dX8_rateOf_161 rfl) <|
  am_kc (ak_iconst dX8_rateOf_164 (by decide +kernel) rfl) <|
  am_kc (ak_lald (t := 1) (fun _ => rfl) rfl dX8_rateOf_165 rfl) <|
  am_kc (ak_ldc2 wd_1008 dX8_rateOf_166 rfl) <|
  am_kc (ak_lcmp dX8_rateOf_169 rfl) <|
  am_kc (ak_if_le dX8_rateOf_170 (by decide +kernel) rfl) <|
  am_kc (ak_sipush dX8_rateOf_173 (by decide +kernel) rfl) <|
  am_kc (ak_goto dX8_rateOf_176 (by decide +kernel)) <|
  am_kc (ak_aload_n dX8_rateOf_179 rfl rfl) <|
  am_kc (ak_getR (C := RX8) (T := TX8) (N := 27) rfl inX8w (by decide) rfl rfl rfl wd_905 dX8_rateOf_180 rfl) <|
  am_kc (ak_iconst dX8_rateOf_183 (by decide +kernel) rfl) <|
  am_kc (ak_lald (t := 1) (fun _ => rfl) rfl dX8_rateOf_184 rfl) <|
  am_kc (ak_l2i dX8_rateOf_185 rfl) <|
  am_kc (ak_retI dX8_rateOf_186) <| am_kn
def TE8_rateOf : am_T := fun live as M R => match as with
  | [.ref n, .int l, .int y, .int e, .int a] => am_mn live ∧ n = 200 ∧ am_in l 30 ∧ am_in y 40 ∧ r_I M ∧ ∀ M', r_kr M M' → r_I M' → R (some (.int (r_rt M l y e a (M.2 207 l.toNatClampNeg)))) M'
  | _ => False
def JE8_rateOf : am_E → List Value → am_M → am_R → am_inv := fun live as M0 _ pc => match as with
  | [.ref n, .int l, .int y, .int e, .int a] => (match pc with
    | 145 => some ([0], fun k L st M => ∃ v : Int64, L = [(0, .ref 200)] ∧ st = [] ∧ k = (5, 0) ∧ r_rt M0 l y e a (M0.2 207 l.toNatClampNeg) = z_cl v ∧ M.2 205 0 = v ∧ r_kr M0 M ∧ r_I M)
    | _ => none)
  | _ => none
set_option maxRecDepth 100000 in
set_option maxHeartbeats 4000000 in
theorem metX8_rateOfE : am_Met yX8_rateOf cX8_rateOf 8 (some .int) (6) (135) TE8_rateOf := by
  refine am_met (own := RX8) (by decide +kernel) rfl kX8_rateOfE koX8_rateOfE 200 JE8_rateOf ?_ ?_
  · intro live as M Ret h
    unfold TE8_rateOf at h
    split at h
    · next n l y e a =>
      refine ⟨Nat.le_of_ble_eq_true rfl, ?_⟩
      change am_wp _ _ _ _ [(0, Value.ref n), (1, Value.int l), (2, Value.int y), (3, Value.int e), (4, Value.int a)] _ _
      obtain ⟨hmn, rfl, hl, hy, hR, h⟩ := h
      have hmn2 := hmn
      obtain ⟨i1, i2, rfl⟩ := hmn2
      have hp := r_pers hR hl
      have hpl := r_pl_in hR (y := y) hl
      have w0 : 0 ≤ (0 : Int32).toInt ∧ (0 : Int32).toInt ≤ 7 := ⟨by decide, by decide⟩
      have w2 : 0 ≤ (2 : Int32).toInt ∧ (2 : Int32).toInt ≤ 7 := ⟨by decide, by decide⟩
      have w26 : am_in (2 : Int32) 6 := ⟨by decide, by decide⟩
      have w06 : am_in (0 : Int32) 6 := ⟨by decide, by decide⟩
      have l207 : am_len 207 = 30 := rfl
      have l206 : am_len 206 = 7 := rfl
      have y518 := r_in40 hy (c := 518) ⟨by decide, by decide⟩
      have x1 := y518.1
      have x2 := y518.2
      have l1 := hl.1
      have l2 : l.toInt < (am_len 207 : Int) := by rw [l207]; exact hl.2
      have y1 := hy.1
      have p5 := r_in5 hpl (c := 3508) ⟨by decide, by decide⟩
      have x3 := p5.1
      have x4 := p5.2
      have e35 : (3508 + r_pl M l y).toNatClampNeg = 3508 + (r_pl M l y).toNatClampNeg := by
        have q1 := hpl.1
        have q2 := hpl.2
        have c1 := i_clamp q1
        have e := r_off (c := 3508) (x := r_pl M l y) ⟨by decide, by decide⟩ ⟨q1, by omega⟩
        simp only [Int32.reduceToInt] at e
        have c2 := i_clamp x3
        omega
      by_cases z0 : M.1 201 (3508 + r_pl M l y).toNatClampNeg = 0
      · have hh := h M r_kr.rf hR
        unfold r_rt z_rt at hh
        rw [show r_sn M (r_pl M l y) = 0 by unfold r_sn; rw [← e35, z0]; rfl, w_res_e (Nat.le_refl _)] at hh
        repeat' (first | (with_reducible exact hmn) | (with_reducible exact hl) | (with_reducible exact hp) | (with_reducible exact w0) | (with_reducible exact w26) | (with_reducible exact hR) | (with_reducible exact x1) | (with_reducible exact x2) | (with_reducible exact x3) | (with_reducible exact x4) | (with_reducible exact l1) | (with_reducible exact y1) | apply And.intro | exact rfl | (intro hx; with_reducible exact absurd z0 hx) | ((with_reducible change r_I _); (with_reducible assumption)) | (intro hx; exact absurd hx (by decide)) | (intro hx; exact absurd (by decide) hx) | decide | intro hx | (refine Exists.intro _ (And.intro rfl ?_)))
        all_goals try first | (with_reducible change am_tI _ _) | (change Ret _ _) | (change Ret _ _ _) | (change Exists _)
        all_goals try dsimp only at *
        all_goals try exact absurd ‹(1000 : Int64) = 0› (by decide)
        all_goals exact hh
      · skip
        repeat' (first | (with_reducible exact hmn) | (with_reducible exact hl) | (with_reducible exact hp) | (with_reducible exact w0) | (with_reducible exact w2) | (with_reducible exact w26) | (with_reducible exact w06) | (with_reducible exact hpl) | (with_reducible exact hR) | (with_reducible exact x1) | (with_reducible exact x2) | (with_reducible exact x3) | (with_reducible exact x4) | (with_reducible exact l1) | (with_reducible exact l2) | (with_reducible exact y1) | apply And.intro | exact rfl | (intro hx; with_reducible exact absurd hx z0) | ((with_reducible change r_I _); (with_reducible assumption)) | (intro hx; exact absurd hx (by decide)) | (intro hx; exact absurd (by decide) hx) | decide | intro hx | (refine Exists.intro _ (And.intro rfl ?_)))
        all_goals try first | (with_reducible change am_tI _ _) | (change Ret _ _) | (change Ret _ _ _) | (change Exists _)
        all_goals try dsimp only at *
        all_goals try exact absurd ‹(1000 : Int64) = 0› (by decide)
        all_goals first
          | decide
          | (rw [l206]; decide)
          | (change r_I _; (repeat' (first | (with_reducible assumption) | ((with_reducible change r_I (am_wJ _ _ _ _)); refine r_I.wJ ?_) | ((with_reducible change r_I (am_wI _ _ _ _)); refine r_I.wI ?_ rfl))))
          | skip
        · rename_i v hv N hN h5
          refine ⟨_, v, rfl, rfl, rfl, ?_, h5, r_kr.wh (((((((r_kr.rf.w).w).w).w).w).w).w) hN, ?_⟩
          · unfold r_rt z_rt
            have hv2 : w_res (r_fx M l y e a (M.2 207 l.toNatClampNeg)) (r_sg M (r_pl M l y)) (r_sn M (r_pl M l y)) 0 true [] [] = .inl v := by
              refine Eq.trans (congrArg (fun f => w_res f _ _ 0 true [] []) (Eq.symm (r_fx_fa ?_ ?_ ?_ ?_ ?_ ?_ ?_))) hv
              all_goals rfl
            rw [hv2]
          · exact r_I.sc (((((((hR.wJ).wJ).wJ).wJ).wJ).wJ).wJ) hN.sc
        · rename_i f hf N hN h14
          have hh := h N (r_kr.wh (((((((r_kr.rf.w).w).w).w).w).w).w) hN) (r_I.sc (((((((hR.wJ).wJ).wJ).wJ).wJ).wJ).wJ) hN.sc)
          unfold r_rt z_rt at hh
          have hv2 : w_res (r_fx M l y e a (M.2 207 l.toNatClampNeg)) (r_sg M (r_pl M l y)) (r_sn M (r_pl M l y)) 0 true [] [] = .inr f := by
            refine Eq.trans (congrArg (fun f => w_res f _ _ 0 true [] []) (Eq.symm (r_fx_fa ?_ ?_ ?_ ?_ ?_ ?_ ?_))) hf
            all_goals rfl
          rw [hv2] at hh
          exact hh
    · exact h.elim
  · intro live as M0 Ret h k pc I hI L st M hi
    unfold TE8_rateOf at h
    split at h
    · next n l y e a =>
      obtain ⟨hmn, rfl, hl, hy, hR, h⟩ := h
      have hmn2 := hmn
      obtain ⟨i1, i2, rfl⟩ := hmn2
      have d0 : (0 : Int64).toInt = 0 := rfl
      have d5 : (500 : Int64).toInt = 500 := rfl
      change (match pc with | 145 => _ | _ => none) = _ at hI
      split at hI
      · cases hI
        obtain ⟨v, rfl, rfl, rfl, er, ev, hk, hRM⟩ := hi
        have hh := h M hk hRM
        rw [er] at hh
        by_cases z1 : 0 ≤ lg_cmp (M.2 205 (0 : Int32).toNatClampNeg) 0
        · have y1 : ¬ v < 0 := fun q => by
            rw [lc_ge, show M.2 205 (0 : Int32).toNatClampNeg = v from ev] at z1
            rw [j_le] at z1
            rw [Int64.lt_iff_toInt_lt] at q
            omega
          by_cases z2 : lg_cmp (M.2 205 (0 : Int32).toNatClampNeg) 500 ≤ 0
          · have y2 : ¬ 500 < v := fun q => by
              rw [lc_le, show M.2 205 (0 : Int32).toNatClampNeg = v from ev] at z2
              rw [j_le] at z2
              rw [Int64.lt_iff_toInt_lt] at q
              omega
            rw [z_cl_v y1 y2, ← ev] at hh
            repeat' (first | apply And.intro | exact rfl | (intro hx; with_reducible exact absurd z1 hx) | (intro hx; with_reducible exact absurd z2 hx) | (intro hx; exact absurd hx (by decide)) | (intro hx; exact absurd (by decide) hx) | decide | intro hx | (refine Exists.intro _ (And.intro rfl ?_)))
            all_goals try first | (with_reducible change am_tI _ _) | (change Ret _ _) | (change Ret _ _ _) | (change Exists _)
            all_goals try dsimp only at *
            all_goals try exact absurd ‹(1000 : Int64) = 0› (by decide)
            all_goals exact hh
          · have y2 : 500 < v := by
              rw [lc_le, show M.2 205 (0 : Int32).toNatClampNeg = v from ev] at z2
              rw [j_le] at z2
              rw [Int64.lt_iff_toInt_lt]
              omega
            rw [z_cl_m y1 y2] at hh
            repeat' (first | apply And.intro | exact rfl | (intro hx; with_reducible exact absurd hx z2) | (intro hx; with_reducible exact absurd z1 hx) | (intro hx; exact absurd hx (by decide)) | (intro hx; exact absurd (by decide) hx) | decide | intro hx | (refine Exists.intro _ (And.intro rfl ?_)))
            all_goals try first | (with_reducible change am_tI _ _) | (change Ret _ _) | (change Ret _ _ _) | (change Exists _)
            all_goals try dsimp only at *
            all_goals try exact absurd ‹(1000 : Int64) = 0› (by decide)
            all_goals exact hh
        · have y1 : v < 0 := by
            rw [lc_ge, show M.2 205 (0 : Int32).toNatClampNeg = v from ev] at z1
            rw [j_le] at z1
            rw [Int64.lt_iff_toInt_lt]
            omega
          rw [z_cl_n y1] at hh
          repeat' (first | apply And.intro | exact rfl | (intro hx; with_reducible exact absurd hx z1) | (intro hx; exact absurd hx (by decide)) | (intro hx; exact absurd (by decide) hx) | decide | intro hx | (refine Exists.intro _ (And.intro rfl ?_)))
          all_goals try first | (with_reducible change am_tI _ _) | (change Ret _ _) | (change Ret _ _ _) | (change Exists _)
          all_goals try dsimp only at *
          all_goals try exact absurd ‹(1000 : Int64) = 0› (by decide)
          all_goals exact hh
      · cases hI
    · exact h.elim
