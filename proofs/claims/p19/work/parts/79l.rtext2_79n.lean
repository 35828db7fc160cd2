-- part 79l.rtext2.lean.txt
section
/-! texts: the reference's reader, exact, III -/
def kX8_behindE (live : am_E) (Ret : am_R) : am_code := [(0, am_iload 1 1), (1, am_callS live 1 TX8_closeness 4), (4, am_const (.int 4) 5), (5, am_if2 (fun x y => x ≤ y) 23 8), (8, am_aload 0 9), (9, am_iload 1 10), (10, am_callS live 1 TX8_closeness 13), (13, am_callV live 8 1 TE8_reduce 16), (16, am_aload 0 17), (17, am_iload 1 18), (18, am_callV live 8 1 TX8_wait 21), (21, am_const (.int 1) 22), (22, am_retZ Ret), (23, am_iload 1 24), (24, am_callS live 1 TX8_closeness 27), (27, am_const (.int 4) 28), (28, am_if2 (fun x y => x = y) 31 56), (31, am_aload 0 32), (32, am_const (.int 5) 33), (33, am_callV live 8 1 TE8_reduce 36), (36, am_aload 0 37), (37, am_callV live 8 0 TX8_top 40), (40, am_callS live 1 TX8_closeness 43), (43, am_const (.int 4) 44), (44, am_if2 (fun x y => x = y) 47 49), (47, am_const (.int 0) 48), (48, am_retZ Ret), (49, am_aload 0 50), (50, am_iload 1 51), (51, am_callV live 8 1 TX8_wait 54), (54, am_const (.int 1) 55), (55, am_retZ Ret), (56, am_iload 1 57), (57, am_callS live 1 TX8_closeness 60), (60, am_if1 (fun x => x ≤ 0) 78 63), (63, am_aload 0 64), (64, am_iload 1 65), (65, am_callS live 1 TX8_closeness 68), (68, am_callV live 8 1 TE8_reduce 71), (71, am_aload 0 72), (72, am_iload 1 73), (73, am_callV live 8 1 TX8_wait 76), (76, am_const (.int 1) 77), (77, am_retZ Ret), (78, am_iload 1 79), (79, am_const (.int 63) 81), (81, am_if2 (fun x y => x = y) 84 96), (84, am_aload 0 85), (85, am_const (.int 2) 86), (86, am_callV live 8 1 TE8_reduce 89), (89, am_aload 0 90), (90, am_iload 1 91), (91, am_callV live 8 1 TX8_wait 94), (94, am_const (.int 1) 95), (95, am_retZ Ret), (96, am_iload 1 97), (97, am_const (.int 58) 99), (99, am_if2 (fun x y => x = y) 110 102), (102, am_iload 1 103), (103, am_const (.int 41) 105), (105, am_if2 (fun x y => x = y) 110 108), (108, am_const (.int 0) 109), (109, am_retZ Ret), (110, am_aload 0 111), (111, am_callV live 8 0 TE8_choose 114), (114, am_aload 0 115), (115, am_callV live 8 0 TX8_top 118), (118, am_iload 1 119), (119, am_const (.int 58) 121), (121, am_if2 (fun x y => x = y) 124 129), (124, am_const (.int 63) 126), (126, am_goto 131), (129, am_const (.int 40) 131), (131, am_if2 (fun x y => x = y) 136 134), (134, am_const (.int 0) 135), (135, am_retZ Ret), (136, am_aload 0 137), (137, am_dup 138), (138, am_getI live 8 11 141), (141, am_const (.int 1) 142), (142, am_i2 (fun x y => x - y) 143), (143, am_putI live 8 11 146), (146, am_iload 1 147), (147, am_const (.int 58) 149), (149, am_if2 (fun x y => x = y) 152 161), (152, am_aload 0 153), (153, am_const (.int 58) 155), (155, am_callV live 8 1 TX8_wait 158), (158, am_goto 184), (161, am_aload 0 162), (162, am_dup 163), (163, am_getI live 8 12 166), (166, am_const (.int 1) 167), (167, am_i2 (fun x y => x - y) 168), (168, am_putI live 8 12 171), (171, am_aload 0 172), (172, am_aload 0 173), (173, am_getR live 8 10 176), (176, am_aload 0 177), (177, am_getI live 8 12 180), (180, am_lald live 1 181), (181, am_callV live 8 1 TE8_lay 184), (184, am_const (.int 1) 185), (185, am_retZ Ret)]
theorem koX8_behindE (live : am_E) (Ret : am_R) : ∀ q ∈ kX8_behindE live Ret, am_ok RX8 cX8_behind 2 (some .boolean) 4 85 live Ret q.1 q.2 :=
  am_kz dzX8_behind <|
  am_kd (fun d => ak_iload_n d rfl rfl) <|
  am_kd (fun d => ak_callS metX8_closeness ⟨rfl, hy_X8_closeness⟩ (am_w4 wd_1135 wd_1136 wd_67 wd_1137) (by decide) d rfl) <|
  am_kd (fun d => ak_iconst d (by decide +kernel) rfl) <|
  am_kd (fun d => ak_icmp_le d (by decide +kernel) rfl) <|
  am_kd (fun d => ak_aload_n d rfl rfl) <|
  am_kd (fun d => ak_iload_n d rfl rfl) <|
  am_kd (fun d => ak_callS metX8_closeness ⟨rfl, hy_X8_closeness⟩ (am_w4 wd_1135 wd_1136 wd_67 wd_1137) (by decide) d rfl) <|
  am_kd (fun d => ak_callV (C := RX8) (F := TX8) (N := 27) metX8_reduceE rfl ⟨rfl, hy_X8_reduce⟩ (am_w5 wd_1138 wd_1140 wd_39 wd_67 wd_1141) (by decide) d rfl) <|
  am_kd (fun d => ak_aload_n d rfl rfl) <|
  am_kd (fun d => ak_iload_n d rfl rfl) <|
  am_kd (fun d => ak_callV (C := RX8) (F := TX8) (N := 27) metX8_wait rfl ⟨rfl, hy_X8_wait⟩ (am_w5 wd_1127 wd_1129 wd_37 wd_67 wd_1130) (by decide) d rfl) <|
  am_kd (fun d => ak_iconst d (by decide +kernel) rfl) <|
  am_kd (fun d => ak_retZ d) <|
  am_kd (fun d => ak_iload_n d rfl rfl) <|
  am_kd (fun d => ak_callS metX8_closeness ⟨rfl, hy_X8_closeness⟩ (am_w4 wd_1135 wd_1136 wd_67 wd_1137) (by decide) d rfl) <|
  am_kd (fun d => ak_iconst d (by decide +kernel) rfl) <|
  am_kd (fun d => ak_icmp_ne d (by decide +kernel) rfl) <|
  am_kd (fun d => ak_aload_n d rfl rfl) <|
  am_kd (fun d => ak_iconst d (by decide +kernel) rfl) <|
  am_kd (fun d => ak_callV (C := RX8) (F := TX8) (N := 27) metX8_reduceE rfl ⟨rfl, hy_X8_reduce⟩ (am_w5 wd_1138 wd_1140 wd_39 wd_67 wd_1141) (by decide) d rfl) <|
  am_kd (fun d => ak_aload_n d rfl rfl) <|
  am_kd (fun d => ak_callV (C := RX8) (F := TX8) (N := 27) metX8_top rfl ⟨rfl, hy_X8_top⟩ (am_w5 wd_1113 wd_1115 wd_35 wd_67 wd_1116) (by decide) d rfl) <|
  am_kd (fun d => ak_callS metX8_closeness ⟨rfl, hy_X8_closeness⟩ (am_w4 wd_1135 wd_1136 wd_67 wd_1137) (by decide) d rfl) <|
  am_kd (fun d => ak_iconst d (by decide +kernel) rfl) <|
  am_kd (fun d => ak_icmp_ne d (by decide +kernel) rfl) <|
  am_kd (fun d => ak_iconst d (by decide +kernel) rfl) <|
  am_kd (fun d => ak_retZ d) <|
  am_kd (fun d => ak_aload_n d rfl rfl) <|
  am_kd (fun d => ak_iload_n d rfl rfl) <|
  am_kd (fun d => ak_callV (C := RX8) (F := TX8) (N := 27) metX8_wait rfl ⟨rfl, hy_X8_wait⟩ (am_w5 wd_1127 wd_1129 wd_37 wd_67 wd_1130) (by decide) d rfl) <|
  am_kd (fun d => ak_iconst d (by decide +kernel) rfl) <|
  am_kd (fun d => ak_retZ d) <|
  am_kd (fun d => ak_iload_n d rfl rfl) <|
  am_kd (fun d => ak_callS metX8_closeness ⟨rfl, hy_X8_closeness⟩ (am_w4 wd_1135 wd_1136 wd_67 wd_1137) (by decide) d rfl) <|
  am_kd (fun d => ak_if_le d (by decide +kernel) rfl) <|
  am_kd (fun d => ak_aload_n d rfl rfl) <|
  am_kd (fun d => ak_iload_n d rfl rfl) <|
  am_kd (fun d => ak_callS metX8_closeness ⟨rfl, hy_X8_closeness⟩ (am_w4 wd_1135 wd_1136 wd_67 wd_1137) (by decide) d rfl) <|
  am_kd (fun d => ak_callV (C := RX8) (F := TX8) (N := 27) metX8_reduceE rfl ⟨rfl, hy_X8_reduce⟩ (am_w5 wd_1138 wd_1140 wd_39 wd_67 wd_1141) (by decide) d rfl) <|
  am_kd (fun d => ak_aload_n d rfl rfl) <|
  am_kd (fun d => ak_iload_n d rfl rfl) <|
  am_kd (fun d => ak_callV (C := RX8) (F := TX8) (N := 27) metX8_wait rfl ⟨rfl, hy_X8_wait⟩ (am_w5 wd_1127 wd_1129 wd_37 wd_67 wd_1130) (by decide) d rfl) <|
  am_kd (fun d => ak_iconst d (by decide +kernel) rfl) <|
  am_kd (fun d => ak_retZ d) <|
  am_kd (fun d => ak_iload_n d rfl rfl) <|
  am_kd (fun d => ak_bipush d (by decide +kernel) rfl) <|
  am_kd (fun d => ak_icmp_ne d (by decide +kernel) rfl) <|
  am_kd (fun d => ak_aload_n d rfl rfl) <|
  am_kd (fun d => ak_iconst d (by decide +kernel) rfl) <|
  am_kd (fun d => ak_callV (C := RX8) (F := TX8) (N := 27) metX8_reduceE rfl ⟨rfl, hy_X8_reduce⟩ (am_w5 wd_1138 wd_1140 wd_39 wd_67 wd_1141) (by decide) d rfl) <|
  am_kd (fun d => ak_aload_n d rfl rfl) <|
  am_kd (fun d => ak_iload_n d rfl rfl) <|
  am_kd (fun d => ak_callV (C := RX8) (F := TX8) (N := 27) metX8_wait rfl ⟨rfl, hy_X8_wait⟩ (am_w5 wd_1127 wd_1129 wd_37 wd_67 wd_1130) (by decide) d rfl) <|
  am_kd (fun d => ak_iconst d (by decide +kernel) rfl) <|
  am_kd (fun d => ak_retZ d) <|
  am_kd (fun d => ak_iload_n d rfl rfl) <|
  am_kd (fun d => ak_bipush d (by decide +kernel) rfl) <|
  am_kd (fun d => ak_icmp_eq d (by decide +kernel) rfl) <|
  am_kd (fun d => ak_iload_n d rfl rfl) <|
  am_kd (fun d => ak_bipush d (by decide +kernel) rfl) <|
  am_kd (fun d => ak_icmp_eq d (by decide +kernel) rfl) <|
  am_kd (fun d => ak_iconst d (by decide +kernel) rfl) <|
  am_kd (fun d => ak_retZ d) <|
  am_kd (fun d => ak_aload_n d rfl rfl) <|
  am_kd (fun d => ak_callV (C := RX8) (F := TX8) (N := 27) metX8_chooseE rfl ⟨rfl, hy_X8_choose⟩ (am_w5 wd_1145 wd_1147 wd_40 wd_67 wd_1148) (by decide) d rfl) <|
  am_kd (fun d => ak_aload_n d rfl rfl) <|
  am_kd (fun d => ak_callV (C := RX8) (F := TX8) (N := 27) metX8_top rfl ⟨rfl, hy_X8_top⟩ (am_w5 wd_1113 wd_1115 wd_35 wd_67 wd_1116) (by decide) d rfl) <|
  am_kd (fun d => ak_iload_n d rfl rfl) <|
  am_kd (fun d => ak_bipush d (by decide +kernel) rfl) <|
  am_kd (fun d => ak_icmp_ne d (by decide +kernel) rfl) <|
  am_kd (fun d => ak_bipush d (by decide +kernel) rfl) <|
  am_kd (fun d => ak_goto d (by decide +kernel)) <|
  am_kd (fun d => ak_bipush d (by decide +kernel) rfl) <|
  am_kd (fun d => ak_icmp_eq d (by decide +kernel) rfl) <|
  am_kd (fun d => ak_iconst d (by decide +kernel) rfl) <|
  am_kd (fun d => ak_retZ d) <|
  am_kd (fun d => ak_aload_n d rfl rfl) <|
  am_kd (fun d => ak_dup d rfl) <|
  am_kd (fun d => ak_getI (C := RX8) (T := TX8) (N := 27) rfl inX8w (by decide) rfl rfl rfl wd_906 d rfl) <|
  am_kd (fun d => ak_iconst d (by decide +kernel) rfl) <|
  am_kd (fun d => ak_isub d rfl) <|
  am_kd (fun d => ak_putI (C := RX8) (T := TX8) (N := 27) rfl inX8w tyX8_ok nmX8 (by decide) rfl rfl rfl rfl (by decide +kernel) wd_906 d rfl) <|
  am_kd (fun d => ak_iload_n d rfl rfl) <|
  am_kd (fun d => ak_bipush d (by decide +kernel) rfl) <|
  am_kd (fun d => ak_icmp_ne d (by decide +kernel) rfl) <|
  am_kd (fun d => ak_aload_n d rfl rfl) <|
  am_kd (fun d => ak_bipush d (by decide +kernel) rfl) <|
  am_kd (fun d => ak_callV (C := RX8) (F := TX8) (N := 27) metX8_wait rfl ⟨rfl, hy_X8_wait⟩ (am_w5 wd_1127 wd_1129 wd_37 wd_67 wd_1130) (by decide) d rfl) <|
  am_kd (fun d => ak_goto d (by decide +kernel)) <|
  am_kd (fun d => ak_aload_n d rfl rfl) <|
  am_kd (fun d => ak_dup d rfl) <|
  am_kd (fun d => ak_getI (C := RX8) (T := TX8) (N := 27) rfl inX8w (by decide) rfl rfl rfl wd_907 d rfl) <|
  am_kd (fun d => ak_iconst d (by decide +kernel) rfl) <|
  am_kd (fun d => ak_isub d rfl) <|
  am_kd (fun d => ak_putI (C := RX8) (T := TX8) (N := 27) rfl inX8w tyX8_ok nmX8 (by decide) rfl rfl rfl rfl (by decide +kernel) wd_907 d rfl) <|
  am_kd (fun d => ak_aload_n d rfl rfl) <|
  am_kd (fun d => ak_aload_n d rfl rfl) <|
  am_kd (fun d => ak_getR (C := RX8) (T := TX8) (N := 27) rfl inX8w (by decide) rfl rfl rfl wd_905 d rfl) <|
  am_kd (fun d => ak_aload_n d rfl rfl) <|
  am_kd (fun d => ak_getI (C := RX8) (T := TX8) (N := 27) rfl inX8w (by decide) rfl rfl rfl wd_907 d rfl) <|
  am_kd (fun d => ak_lald (t := 1) (fun _ => rfl) rfl d rfl) <|
  am_kd (fun d => ak_callV (C := RX8) (F := TX8) (N := 27) metX8_layE rfl ⟨rfl, hy_X8_lay⟩ (am_w5 wd_1109 wd_1111 wd_34 wd_67 wd_1112) (by decide) d rfl) <|
  am_kd (fun d => ak_iconst d (by decide +kernel) rfl) <|
  am_kd (fun d => ak_retZ d) <| am_kdn
def TE8_behind : am_T := fun live as M R => match as with
  | [.ref n, .int c] => am_mn live ∧ n = 200 ∧ r_cl M 1 (fun W V => (W.length ≤ 58 ∧ V.length ≤ 58) ∧ (w_beh c W V = none → ∀ M', r_wg M M' → R (some (.int 0)) M') ∧ ∀ W' V', w_beh c W V = some (W', V') → ∀ M', r_wg M M' → r_ls M' W' V' → R (some (.int 1)) M')
  | _ => False
def JE8_behind : am_E → List Value → am_M → am_R → am_inv := fun live as M0 R pc => match as with
  | [.ref n, .int c] => (match pc with
    | 16 => some ([0, 1], fun k L st M => ∃ (W : List Int32) (V : List Int64), L = [(0, .ref 200), (1, .int c)] ∧ st = [] ∧ k = (5, 0) ∧ r_ls M W V ∧ W.length ≤ 58 ∧ r_wg M0 M ∧ ∀ M', r_wg M0 M' → r_ls M' (c :: W) V → R (some (.int 1)) M')
    | 36 => some ([0, 1], fun k L st M => ∃ (W : List Int32) (V : List Int64), L = [(0, .ref 200), (1, .int c)] ∧ st = [] ∧ k = (5, 0) ∧ r_ls M W V ∧ W.length ≤ 58 ∧ r_wg M0 M ∧ (r_clo (w_hdc W) = 4 → ∀ M', r_wg M0 M' → R (some (.int 0)) M') ∧ (¬ r_clo (w_hdc W) = 4 → ∀ M', r_wg M0 M' → r_ls M' (c :: W) V → R (some (.int 1)) M'))
    | 71 => some ([0, 1], fun k L st M => ∃ (W : List Int32) (V : List Int64), L = [(0, .ref 200), (1, .int c)] ∧ st = [] ∧ k = (5, 0) ∧ r_ls M W V ∧ W.length ≤ 58 ∧ r_wg M0 M ∧ ∀ M', r_wg M0 M' → r_ls M' (c :: W) V → R (some (.int 1)) M')
    | 89 => some ([0, 1], fun k L st M => ∃ (W : List Int32) (V : List Int64), L = [(0, .ref 200), (1, .int c)] ∧ st = [] ∧ k = (5, 0) ∧ r_ls M W V ∧ W.length ≤ 58 ∧ r_wg M0 M ∧ ∀ M', r_wg M0 M' → r_ls M' (c :: W) V → R (some (.int 1)) M')
    | 114 => some ([0, 1], fun k L st M => ∃ (W : List Int32) (V : List Int64), L = [(0, .ref 200), (1, .int c)] ∧ st = [] ∧ k = (5, 0) ∧ r_ls M W V ∧ (V.length = w_ws W + 1 ∧ W.length ≤ 58 ∧ V.length ≤ 58) ∧ r_wg M0 M ∧ (c = 58 ∨ c = 41) ∧ (c = 58 → (¬ w_hdc W = 63 → ∀ M', r_wg M0 M' → R (some (.int 0)) M') ∧ (w_hdc W = 63 → ∀ M', r_wg M0 M' → r_ls M' (58 :: W.tail) V → R (some (.int 1)) M')) ∧ (c = 41 → (¬ w_hdc W = 40 → ∀ M', r_wg M0 M' → R (some (.int 0)) M') ∧ (w_hdc W = 40 → ∀ v V', V = v :: V' → ∀ M', r_wg M0 M' → r_ls M' (w_lay W.tail v V').1 (w_lay W.tail v V').2 → R (some (.int 1)) M')))
    | _ => none)
  | _ => none
theorem r_ls.off {M : am_M} {c : Int32} {W : List Int32} {V : List Int64} (h : r_ls M (c :: W) V) (hl : W.length ≤ 100) : r_ls (am_wI M 200 11 (M.1 200 11 - 1)) W V := by
  have a := h.a
  simp only [List.length_cons] at a
  have e := i_sub (x := M.1 200 11) (y := 1) (by simp only [Int32.reduceToInt]; omega) (by simp only [Int32.reduceToInt]; omega)
  simp only [Int32.reduceToInt] at e
  refine ⟨(), ?_, h.b.2.cg (fun k _ => ?_), ?_, h.d⟩
  · rw [am_wI_self]; omega
  · rw [am_wI_1, if_neg (fun q => absurd q.1 (by decide))]
  · rw [am_wI_1, if_neg (fun q => absurd q.2 (by decide))]
    exact h.c
theorem r_ls.offv {M : am_M} {x : Int64} {W : List Int32} {V : List Int64} (h : r_ls M W (x :: V)) (hl : V.length ≤ 100) : r_ls (am_wI M 200 12 (M.1 200 12 - 1)) W V ∧ M.2 205 (M.1 200 12 - 1).toNatClampNeg = x ∧ (M.1 200 12 - 1).toInt = (V.length : Int) := by
  have a := h.c
  simp only [List.length_cons] at a
  have e := i_sub (x := M.1 200 12) (y := 1) (by simp only [Int32.reduceToInt]; omega) (by simp only [Int32.reduceToInt]; omega)
  simp only [Int32.reduceToInt] at e
  have c1 := i_clamp (x := M.1 200 12 - 1) (by omega)
  refine ⟨⟨(), ?_, h.b.cg (fun k _ => ?_), ?_, h.d.2⟩, ?_, by omega⟩
  · rw [am_wI_1, if_neg (fun q => absurd q.2 (by decide))]
    exact h.a
  · rw [am_wI_1, if_neg (fun q => absurd q.1 (by decide))]
  · rw [am_wI_self]; omega
  · rw [show (M.1 200 12 - 1).toNatClampNeg = V.length by omega]
    exact h.d.1
set_option maxRecDepth 100000 in
set_option maxHeartbeats 4000000 in
theorem metX8_behindE : am_Met yX8_behind cX8_behind 2 (some .boolean) (4) (85) TE8_behind := by
  refine am_met (own := RX8) (by decide +kernel) rfl kX8_behindE koX8_behindE 150 JE8_behind ?_ ?_
  · intro live as M Ret h
    unfold TE8_behind at h
    split at h
    · next n c =>
      refine ⟨Nat.le_of_ble_eq_true rfl, ?_⟩
      change am_wp _ _ _ _ [(0, Value.ref n), (1, Value.int c)] _ _
      obtain ⟨hmn, rfl, W, V, hl, hd, ⟨h58, h58v⟩, h0, h1⟩ := h
      have hmn2 := hmn
      obtain ⟨i1, i2, rfl⟩ := hmn2
      by_cases z1 : r_clo c ≤ 4
      · by_cases z2 : r_clo c = 4
        · have eb : w_beh c W V = if r_clo (w_hdc (w_red 5 W V).1) = 4 then none else some (c :: (w_red 5 W V).1, (w_red 5 W V).2) := by
            unfold w_beh
            rw [if_neg (by rw [z2]; decide), if_pos z2]
          obtain ⟨w1, w2, w3⟩ := w_red_ws (t := 5) (by decide) hd.1
          repeat' (first | (with_reducible exact hmn) | apply And.intro | exact rfl | (intro hx; with_reducible exact absurd z1 hx) | (intro hx; with_reducible exact absurd z2 hx) | (intro hx; exact absurd hx (by decide)) | (intro hx; exact absurd (by decide) hx) | decide | intro hx | (refine Exists.intro _ (And.intro rfl ?_)) | (refine r_cl_in hl hd (fun M1 c1 d1 => ?_)))
          all_goals try first | (with_reducible change am_tI _ _) | (change Ret _ _) | (change Ret _ _ _) | (change Exists _)
          all_goals try dsimp only at *
          all_goals try (with_reducible exact absurd ‹(1000 : Int64) = 0› am_z1000)
          all_goals first
            | decide
            | exact ⟨_, _, _, rfl, rfl, rfl, d1, by omega, c1, fun q M' c' => h0 (by rw [eb, if_pos q]) M' c', fun q M' c' => h1 _ _ (by rw [eb, if_neg q]) M' c'⟩
            | skip
        · by_cases z3 : r_clo c ≤ 0
          · have z30 : r_clo c = 0 := by
              have q := r_clo_nn c
              simp only [i_le, i_eq, Int32.reduceToInt] at z3 ⊢
              omega
            obtain ⟨w1, w2, w3⟩ := w_red_ws (t := 2) (by decide) hd.1
            obtain ⟨v1, v2, v3⟩ := w_chs_ws hd.1
            by_cases z4 : c = 63
            · have eb : w_beh c W V = some (c :: (w_red 2 W V).1, (w_red 2 W V).2) := by
                unfold w_beh
                rw [if_neg (by rw [z30]; decide), if_neg z2, if_neg (by rw [z30]; decide), if_pos z4]
              repeat' (first | (with_reducible exact hmn) | apply And.intro | exact rfl | (intro hx; with_reducible exact absurd hx z2) | (intro hx; with_reducible exact absurd z1 hx) | (intro hx; with_reducible exact absurd z3 hx) | (intro hx; with_reducible exact absurd z4 hx) | (intro hx; exact absurd hx (by decide)) | (intro hx; exact absurd (by decide) hx) | decide | intro hx | (refine Exists.intro _ (And.intro rfl ?_)) | (refine r_cl_in hl hd (fun M1 c1 d1 => ?_)))
              all_goals try first | (with_reducible change am_tI _ _) | (change Ret _ _) | (change Ret _ _ _) | (change Exists _)
              all_goals try dsimp only at *
              all_goals try (with_reducible exact absurd ‹(1000 : Int64) = 0› am_z1000)
              all_goals first
                | decide
                | exact ⟨_, _, _, rfl, rfl, rfl, d1, by omega, c1, fun M' c' => h1 _ _ eb M' c'⟩
                | skip
            · by_cases z5 : c = 58
              · have eb : w_beh c W V = if w_hdc (w_chs W V).1 = 63 then some (58 :: (w_chs W V).1.tail, (w_chs W V).2) else none := by
                  unfold w_beh
                  rw [if_neg (by rw [z30]; decide), if_neg z2, if_neg (by rw [z30]; decide), if_neg z4, if_pos z5]
                have n41 : ¬ c = 41 := fun q => by rw [z5] at q; exact absurd q (by decide)
                repeat' (first | (with_reducible exact hmn) | apply And.intro | exact rfl | (intro hx; with_reducible exact absurd hx z2) | (intro hx; with_reducible exact absurd hx z4) | (intro hx; with_reducible exact absurd z1 hx) | (intro hx; with_reducible exact absurd z3 hx) | (intro hx; with_reducible exact absurd z5 hx) | (intro hx; exact absurd hx (by decide)) | (intro hx; exact absurd (by decide) hx) | decide | intro hx | (refine Exists.intro _ (And.intro rfl ?_)) | (refine r_cl_in hl hd (fun M1 c1 d1 => ?_)))
                all_goals try first | (with_reducible change am_tI _ _) | (change Ret _ _) | (change Ret _ _ _) | (change Exists _)
                all_goals try dsimp only at *
                all_goals try (with_reducible exact absurd ‹(1000 : Int64) = 0› am_z1000)
                all_goals first
                  | exact ⟨_, _, _, rfl, rfl, rfl, d1, ⟨v1, by omega, by omega⟩, c1, Or.inl z5, fun _ => ⟨fun q M' c' => h0 (by rw [eb, if_neg q]) M' c', fun q M' c' => h1 _ _ (by rw [eb, if_pos q]) M' c'⟩, fun q => absurd q n41⟩
                  | skip
              · by_cases z6 : c = 41
                · have eb : w_beh c W V = if w_hdc (w_chs W V).1 = 40 then (match (w_chs W V).2 with | v :: V' => some (w_lay (w_chs W V).1.tail v V') | [] => none) else none := by
                    unfold w_beh
                    rw [if_neg (by rw [z30]; decide), if_neg z2, if_neg (by rw [z30]; decide), if_neg z4, if_neg z5, if_pos z6]
                    rfl
                  repeat' (first | (with_reducible exact hmn) | apply And.intro | exact rfl | (intro hx; with_reducible exact absurd hx z2) | (intro hx; with_reducible exact absurd hx z4) | (intro hx; with_reducible exact absurd hx z5) | (intro hx; with_reducible exact absurd z1 hx) | (intro hx; with_reducible exact absurd z3 hx) | (intro hx; with_reducible exact absurd z6 hx) | (intro hx; exact absurd hx (by decide)) | (intro hx; exact absurd (by decide) hx) | decide | intro hx | (refine Exists.intro _ (And.intro rfl ?_)) | (refine r_cl_in hl hd (fun M1 c1 d1 => ?_)))
                  all_goals try first | (with_reducible change am_tI _ _) | (change Ret _ _) | (change Ret _ _ _) | (change Exists _)
                  all_goals try dsimp only at *
                  all_goals try (with_reducible exact absurd ‹(1000 : Int64) = 0› am_z1000)
                  all_goals first
                    | exact ⟨_, _, _, rfl, rfl, rfl, d1, ⟨v1, by omega, by omega⟩, c1, Or.inr z6, fun q => absurd q z5, fun _ => ⟨fun q M' c' => h0 (by rw [eb, if_neg q]) M' c', fun q v V' e M' c' => h1 _ _ (by rw [eb, if_pos q, e]) M' c'⟩⟩
                    | skip
                · have eb : w_beh c W V = none := by
                    unfold w_beh
                    rw [if_neg (by rw [z30]; decide), if_neg z2, if_neg (by rw [z30]; decide), if_neg z4, if_neg z5, if_neg z6]
                  repeat' (first | (with_reducible exact hmn) | apply And.intro | exact rfl | (intro hx; with_reducible exact absurd hx z2) | (intro hx; with_reducible exact absurd hx z4) | (intro hx; with_reducible exact absurd hx z5) | (intro hx; with_reducible exact absurd hx z6) | (intro hx; with_reducible exact absurd z1 hx) | (intro hx; with_reducible exact absurd z3 hx) | (intro hx; exact absurd hx (by decide)) | (intro hx; exact absurd (by decide) hx) | decide | intro hx | (refine Exists.intro _ (And.intro rfl ?_)))
                  all_goals try first | (with_reducible change am_tI _ _) | (change Ret _ _) | (change Ret _ _ _) | (change Exists _)
                  all_goals try dsimp only at *
                  all_goals try (with_reducible exact absurd ‹(1000 : Int64) = 0› am_z1000)
                  all_goals first
                    | (left; rfl)
                    | (with_reducible exact h0 eb _ r_wg.rf)
                    | exact h0 eb _ r_wg.rf
                    | skip
          · have hg : 1 ≤ (r_clo c).toInt := by simp only [i_le, Int32.reduceToInt] at z3; omega
            have z1b := z1
            simp only [i_le, Int32.reduceToInt] at z1b
            have eb : w_beh c W V = some (c :: (w_red (r_clo c) W V).1, (w_red (r_clo c) W V).2) := by
              unfold w_beh
              rw [if_neg (by omega), if_neg z2, if_pos (by omega)]
            obtain ⟨w1, w2, w3⟩ := w_red_ws (t := r_clo c) hg hd.1
            repeat' (first | (with_reducible exact hmn) | (with_reducible exact hg) | apply And.intro | exact rfl | (intro hx; with_reducible exact absurd hx z2) | (intro hx; with_reducible exact absurd hx z3) | (intro hx; with_reducible exact absurd z1 hx) | (intro hx; exact absurd hx (by decide)) | (intro hx; exact absurd (by decide) hx) | decide | intro hx | (refine Exists.intro _ (And.intro rfl ?_)) | (refine r_cl_in hl hd (fun M1 c1 d1 => ?_)))
            all_goals try first | (with_reducible change am_tI _ _) | (change Ret _ _) | (change Ret _ _ _) | (change Exists _)
            all_goals try dsimp only at *
            all_goals try (with_reducible exact absurd ‹(1000 : Int64) = 0› am_z1000)
            all_goals first
              | (with_reducible exact hg)
              | exact hg
              | exact ⟨_, _, _, rfl, rfl, rfl, d1, by omega, c1, fun M' c' => h1 _ _ eb M' c'⟩
              | skip
      · have hg : 1 ≤ (r_clo c).toInt := by simp only [i_le, Int32.reduceToInt] at z1; omega
        have z1b := z1
        simp only [i_le, Int32.reduceToInt] at z1b
        have eb : w_beh c W V = some (c :: (w_red (r_clo c) W V).1, (w_red (r_clo c) W V).2) := by
          unfold w_beh
          rw [if_pos (by omega)]
        obtain ⟨w1, w2, w3⟩ := w_red_ws (t := r_clo c) hg hd.1
        repeat' (first | (with_reducible exact hmn) | (with_reducible exact hg) | apply And.intro | exact rfl | (intro hx; with_reducible exact absurd hx z1) | (intro hx; exact absurd hx (by decide)) | (intro hx; exact absurd (by decide) hx) | decide | intro hx | (refine Exists.intro _ (And.intro rfl ?_)) | (refine r_cl_in hl hd (fun M1 c1 d1 => ?_)))
        all_goals try first | (with_reducible change am_tI _ _) | (change Ret _ _) | (change Ret _ _ _) | (change Exists _)
        all_goals try dsimp only at *
        all_goals try (with_reducible exact absurd ‹(1000 : Int64) = 0› am_z1000)
        all_goals first
          | (with_reducible exact hg)
          | exact hg
          | exact ⟨_, _, _, rfl, rfl, rfl, d1, by omega, c1, fun M' c' => h1 _ _ eb M' c'⟩
          | skip
    · exact h.elim
  · intro live as M0 Ret h k pc I hI L st M hi
    unfold TE8_behind at h
    split at h
    · next n c =>
      obtain ⟨hmn, rfl, W9, V9, hl9, hd9, h589, h09, h19⟩ := h
      have hmn2 := hmn
      obtain ⟨i1, i2, rfl⟩ := hmn2
      have l205 : am_len 205 = 120 := rfl
      change (match pc with | 16 => _ | 36 => _ | 71 => _ | 89 => _ | 114 => _ | _ => none) = _ at hI
      split at hI
      · cases hI
        obtain ⟨W, V, rfl, rfl, rfl, hl, hw, hk, h⟩ := hi
        have a := hl.a
        have x1 : 0 ≤ (M.1 200 11).toInt := by omega
        have x2 : (M.1 200 11).toInt < 120 := by omega
        have hh := h _ (hk.w204.w11) (hl.push (by omega))
        repeat' (first | (with_reducible exact hmn) | (with_reducible exact x1) | (with_reducible exact x2) | apply And.intro | exact rfl | (intro hx; exact absurd hx (by decide)) | (intro hx; exact absurd (by decide) hx) | decide | intro hx | (refine Exists.intro _ (And.intro rfl ?_)))
        all_goals try first | (with_reducible change am_tI _ _) | (change Ret _ _) | (change Ret _ _ _) | (change Exists _)
        all_goals try dsimp only at *
        all_goals try (with_reducible exact absurd ‹(1000 : Int64) = 0› am_z1000)
        all_goals first
          | (right; rfl)
          | (with_reducible exact hh)
          | exact hh
          | skip
      · cases hI
        obtain ⟨W, V, rfl, rfl, rfl, hl, hw, hk, h0, h1⟩ := hi
        have a := hl.a
        have u120 := hl.bd (by omega)
        have ht := hl.top (by omega)
        have x1 : 0 ≤ (M.1 200 11).toInt := by omega
        have x2 : (M.1 200 11).toInt < 120 := by omega
        by_cases z : r_clo (r_top M) = 4
        · have hh := h0 (by rw [← ht]; exact z) M hk
          repeat' (first | (with_reducible exact hmn) | (with_reducible exact u120) | apply And.intro | exact rfl | (intro hx; with_reducible exact absurd z hx) | (intro hx; exact absurd hx (by decide)) | (intro hx; exact absurd (by decide) hx) | decide | intro hx | (refine Exists.intro _ (And.intro rfl ?_)))
          all_goals try first | (with_reducible change am_tI _ _) | (change Ret _ _) | (change Ret _ _ _) | (change Exists _)
          all_goals try dsimp only at *
          all_goals try (with_reducible exact absurd ‹(1000 : Int64) = 0› am_z1000)
          all_goals first
            | (left; rfl)
            | (with_reducible exact hh)
            | exact hh
            | skip
        · have hh := h1 (by rw [← ht]; exact z) _ (hk.w204.w11) (hl.push (by omega))
          repeat' (first | (with_reducible exact hmn) | (with_reducible exact u120) | (with_reducible exact x1) | (with_reducible exact x2) | apply And.intro | exact rfl | (intro hx; with_reducible exact absurd hx z) | (intro hx; exact absurd hx (by decide)) | (intro hx; exact absurd (by decide) hx) | decide | intro hx | (refine Exists.intro _ (And.intro rfl ?_)))
          all_goals try first | (with_reducible change am_tI _ _) | (change Ret _ _) | (change Ret _ _ _) | (change Exists _)
          all_goals try dsimp only at *
          all_goals try (with_reducible exact absurd ‹(1000 : Int64) = 0› am_z1000)
          all_goals first
            | (right; rfl)
            | (with_reducible exact hh)
            | exact hh
            | skip
      · cases hI
        obtain ⟨W, V, rfl, rfl, rfl, hl, hw, hk, h⟩ := hi
        have a := hl.a
        have x1 : 0 ≤ (M.1 200 11).toInt := by omega
        have x2 : (M.1 200 11).toInt < 120 := by omega
        have hh := h _ (hk.w204.w11) (hl.push (by omega))
        repeat' (first | (with_reducible exact hmn) | (with_reducible exact x1) | (with_reducible exact x2) | apply And.intro | exact rfl | (intro hx; exact absurd hx (by decide)) | (intro hx; exact absurd (by decide) hx) | decide | intro hx | (refine Exists.intro _ (And.intro rfl ?_)))
        all_goals try first | (with_reducible change am_tI _ _) | (change Ret _ _) | (change Ret _ _ _) | (change Exists _)
        all_goals try dsimp only at *
        all_goals try (with_reducible exact absurd ‹(1000 : Int64) = 0› am_z1000)
        all_goals first
          | (right; rfl)
          | (with_reducible exact hh)
          | exact hh
          | skip
      · cases hI
        obtain ⟨W, V, rfl, rfl, rfl, hl, hw, hk, h⟩ := hi
        have a := hl.a
        have x1 : 0 ≤ (M.1 200 11).toInt := by omega
        have x2 : (M.1 200 11).toInt < 120 := by omega
        have hh := h _ (hk.w204.w11) (hl.push (by omega))
        repeat' (first | (with_reducible exact hmn) | (with_reducible exact x1) | (with_reducible exact x2) | apply And.intro | exact rfl | (intro hx; exact absurd hx (by decide)) | (intro hx; exact absurd (by decide) hx) | decide | intro hx | (refine Exists.intro _ (And.intro rfl ?_)))
        all_goals try first | (with_reducible change am_tI _ _) | (change Ret _ _) | (change Ret _ _ _) | (change Exists _)
        all_goals try dsimp only at *
        all_goals try (with_reducible exact absurd ‹(1000 : Int64) = 0› am_z1000)
        all_goals first
          | (right; rfl)
          | (with_reducible exact hh)
          | exact hh
          | skip
      · cases hI
        obtain ⟨W, V, rfl, rfl, rfl, hl, ⟨d1, d2, d3⟩, hk, hc, h58, h41⟩ := hi
        have a := hl.a
        have u120 := hl.bd (by omega)
        have ht := hl.top (by omega)
        rcases hc with rfl | rfl
        · obtain ⟨g0, g1⟩ := h58 rfl
          by_cases z : r_top M = 63
          · have hz : w_hdc W = 63 := by rw [← ht]; exact z
            have g1 := g1 hz
            cases W with
            | nil => exact absurd (show (0 : Int32) = 63 from hz) (by decide)
            | cons c W =>
              simp only [List.length_cons] at a d2
              have lo := hl.off (by omega)
              have e11 := i_sub (x := M.1 200 11) (y := 1) (by simp only [Int32.reduceToInt]; omega) (by simp only [Int32.reduceToInt]; omega)
              simp only [Int32.reduceToInt] at e11
              have x1 : 0 ≤ ((am_wI M 200 11 (M.1 200 11 - 1)).1 200 11).toInt := by rw [am_wI_self]; omega
              have x2 : ((am_wI M 200 11 (M.1 200 11 - 1)).1 200 11).toInt < 120 := by rw [am_wI_self]; omega
              have hh := g1 _ (hk.w11.w204.w11) (lo.push (c := 58) (by omega))
              repeat' (first | (with_reducible exact hmn) | (with_reducible exact u120) | (with_reducible exact x1) | (with_reducible exact x2) | apply And.intro | exact rfl | (intro hx; with_reducible exact absurd z hx) | (intro hx; exact absurd hx (by decide)) | (intro hx; exact absurd (by decide) hx) | decide | intro hx | (refine Exists.intro _ (And.intro rfl ?_)))
              all_goals try first | (with_reducible change am_tI _ _) | (change Ret _ _) | (change Ret _ _ _) | (change Exists _)
              all_goals try dsimp only at *
              all_goals try (with_reducible exact absurd ‹(1000 : Int64) = 0› am_z1000)
              all_goals first
                | (right; rfl)
                | (with_reducible exact hh)
                | exact hh
                | skip
          · have hh := g0 (by rw [← ht]; exact z) M hk
            repeat' (first | (with_reducible exact hmn) | (with_reducible exact u120) | apply And.intro | exact rfl | (intro hx; with_reducible exact absurd hx z) | (intro hx; exact absurd hx (by decide)) | (intro hx; exact absurd (by decide) hx) | decide | intro hx | (refine Exists.intro _ (And.intro rfl ?_)))
            all_goals try first | (with_reducible change am_tI _ _) | (change Ret _ _) | (change Ret _ _ _) | (change Exists _)
            all_goals try dsimp only at *
            all_goals try (with_reducible exact absurd ‹(1000 : Int64) = 0› am_z1000)
            all_goals first
              | (left; rfl)
              | (with_reducible exact hh)
              | exact hh
              | skip
        · obtain ⟨g0, g1⟩ := h41 rfl
          by_cases z : r_top M = 40
          · have hz : w_hdc W = 40 := by rw [← ht]; exact z
            have g1 := g1 hz
            cases W with
            | nil => exact absurd (show (0 : Int32) = 40 from hz) (by decide)
            | cons c W =>
              have hc : c = 40 := hz
              subst hc
              cases V with
              | nil => simp only [List.length_nil] at d1; omega
              | cons v V =>
                simp only [List.length_cons] at a d2 d3
                have d1b : V.length + 1 = r_wt 40 + w_ws W + 1 := d1
                rw [show r_wt 40 = 0 by decide] at d1b
                have lo := hl.off (by omega)
                obtain ⟨lv, ev, nv⟩ := lo.offv (by omega)
                have x3 : 0 ≤ ((am_wI (am_wI M 200 11 (M.1 200 11 - 1)) 200 12 ((am_wI M 200 11 (M.1 200 11 - 1)).1 200 12 - 1)).1 200 12).toInt := by rw [am_wI_self, nv]; omega
                have x4 : ((am_wI (am_wI M 200 11 (M.1 200 11 - 1)) 200 12 ((am_wI M 200 11 (M.1 200 11 - 1)).1 200 12 - 1)).1 200 12).toInt < (am_len 205 : Int) := by rw [am_wI_self, nv, l205]; omega
                have ev2 : (am_wI (am_wI M 200 11 (M.1 200 11 - 1)) 200 12 ((am_wI M 200 11 (M.1 200 11 - 1)).1 200 12 - 1)).2 205 ((am_wI (am_wI M 200 11 (M.1 200 11 - 1)) 200 12 ((am_wI M 200 11 (M.1 200 11 - 1)).1 200 12 - 1)).1 200 12).toNatClampNeg = v := by rw [am_wI_self]; exact ev
                have g1 := g1 v V rfl
                repeat' (first | (with_reducible exact hmn) | (with_reducible exact u120) | (with_reducible exact x3) | (with_reducible exact x4) | apply And.intro | exact rfl | (intro hx; with_reducible exact absurd z hx) | (intro hx; exact absurd hx (by decide)) | (intro hx; exact absurd (by decide) hx) | decide | intro hx | (refine Exists.intro _ (And.intro rfl ?_)) | (refine r_cl_in lv ⟨by omega, by omega, by omega⟩ ⟨by omega, fun M2 c2 d2 => ?_⟩))
                all_goals try first | (with_reducible change am_tI _ _) | (change Ret _ _) | (change Ret _ _ _) | (change Exists _)
                all_goals try dsimp only at *
                all_goals try (with_reducible exact absurd ‹(1000 : Int64) = 0› am_z1000)
                all_goals first
                  | (right; rfl)
                  | (rw [ev2] at d2; exact g1 _ ((hk.w11.w12).tr c2) d2)
                  | skip
          · have hh := g0 (by rw [← ht]; exact z) M hk
            repeat' (first | (with_reducible exact hmn) | (with_reducible exact u120) | apply And.intro | exact rfl | (intro hx; with_reducible exact absurd hx z) | (intro hx; exact absurd hx (by decide)) | (intro hx; exact absurd (by decide) hx) | decide | intro hx | (refine Exists.intro _ (And.intro rfl ?_)))
            all_goals try first | (with_reducible change am_tI _ _) | (change Ret _ _) | (change Ret _ _ _) | (change Exists _)
            all_goals try dsimp only at *
            all_goals try (with_reducible exact absurd ‹(1000 : Int64) = 0› am_z1000)
            all_goals first
              | (left; rfl)
              | (with_reducible exact hh)
              | exact hh
              | skip
      · cases hI
    · exact h.elim
end
-- part 79m.rtext3.lean.txt
section
/-! texts: the reference's reader, exact, IV: work, fault -/
def kX8_workE (live : am_E) (Ret : am_R) : am_code := [(0, am_const (.int 3258) 3), (3, am_const (.int 50) 5), (5, am_iload 1 6), (6, am_i2 (fun x y => x * y) 7), (7, am_i2 (fun x y => x + y) 8), (8, am_istore 2 10 9), (9, am_aload 0 10), (10, am_getR live 8 0 13), (13, am_const (.int 3508) 16), (16, am_iload 1 17), (17, am_i2 (fun x y => x + y) 18), (18, am_ald live 0 19), (19, am_istore 3 10 20), (20, am_aload 0 21), (21, am_const (.int 0) 22), (22, am_putI live 8 11 25), (25, am_aload 0 26), (26, am_const (.int 0) 27), (27, am_putI live 8 12 30), (30, am_const (.int 1) 31), (31, am_istore 4 10 33), (33, am_const (.int 0) 34), (34, am_istore 5 10 36), (36, am_iload 5 38), (38, am_iload 3 39), (39, am_if2 (fun x y => y ≤ x) 358 42), (42, am_aload 0 43), (43, am_getR live 8 0 46), (46, am_iload 2 47), (47, am_iload 5 49), (49, am_i2 (fun x y => x + y) 50), (50, am_ald live 0 51), (51, am_istore 6 10 53), (53, am_iload 6 55), (55, am_const (.int 32) 57), (57, am_if2 (fun x y => x = y) 60 66), (60, am_iinc 5 10 1 63), (63, am_goto 355), (66, am_iload 4 68), (68, am_if1 (fun x => x = 0) 185 71), (71, am_iload 6 73), (73, am_i2l 74), (74, am_const (.long 48) 77), (77, am_const (.long 57) 80), (80, am_callS live 3 TX8_in 83), (83, am_if1 (fun x => x = 0) 185 86), (86, am_iload 5 88), (88, am_istore 7 10 90), (90, am_const (.long 0) 91), (91, am_lstore 8 10 93), (93, am_iload 5 95), (95, am_iload 3 96), (96, am_if2 (fun x y => y ≤ x) 173 99), (99, am_aload 0 100), (100, am_getR live 8 0 103), (103, am_iload 2 104), (104, am_iload 5 106), (106, am_i2 (fun x y => x + y) 107), (107, am_ald live 0 108), (108, am_i2l 109), (109, am_const (.long 48) 112), (112, am_const (.long 57) 115), (115, am_callS live 3 TX8_in 118), (118, am_if1 (fun x => x = 0) 173 121), (121, am_iload 5 123), (123, am_iload 7 125), (125, am_i2 (fun x y => x - y) 126), (126, am_const (.int 6) 128), (128, am_if2 (fun x y => x = y) 131 144), (131, am_aload 0 132), (132, am_const (.int 10) 134), (134, am_iload 7 136), (136, am_i2 (fun x y => x * y) 137), (137, am_const (.int 2) 138), (138, am_i2 (fun x y => x + y) 139), (139, am_putI live 8 14 142), (142, am_const (.int 0) 143), (143, am_retZ Ret), (144, am_const (.long 10) 147), (147, am_lload 8 149), (149, am_l2 (fun x y => x * y) 150), (150, am_aload 0 151), (151, am_getR live 8 0 154), (154, am_iload 2 155), (155, am_iload 5 157), (157, am_i2 (fun x y => x + y) 158), (158, am_ald live 0 159), (159, am_i2l 160), (160, am_l2 (fun x y => x + y) 161), (161, am_const (.long 48) 164), (164, am_l2 (fun x y => x - y) 165), (165, am_lstore 8 10 167), (167, am_iinc 5 10 1 170), (170, am_goto 93), (173, am_aload 0 174), (174, am_lload 8 176), (176, am_callV live 8 1 TE8_lay 179), (179, am_const (.int 0) 180), (180, am_istore 4 10 182), (182, am_goto 355), (185, am_iload 4 187), (187, am_if1 (fun x => x = 0) 221 190), (190, am_iload 6 192), (192, am_callS live 1 TX8_factOf 195), (195, am_if1 (fun x => x < 0) 221 198), (198, am_aload 0 199), (199, am_aload 0 200), (200, am_getR live 8 13 203), (203, am_iload 6 205), (205, am_callS live 1 TX8_factOf 208), (208, am_lald live 1 209), (209, am_callV live 8 1 TE8_lay 212), (212, am_const (.int 0) 213), (213, am_istore 4 10 215), (215, am_iinc 5 10 1 218), (218, am_goto 355), (221, am_iload 4 223), (223, am_if1 (fun x => x = 0) 267 226), (226, am_iload 6 228), (228, am_const (.int 40) 230), (230, am_if2 (fun x y => x = y) 233 267), (233, am_aload 0 234), (234, am_callV live 8 0 TE8_opened 237), (237, am_const (.int 8) 239), (239, am_if2 (fun x y => x = y) 242 255), (242, am_aload 0 243), (243, am_const (.int 10) 245), (245, am_iload 5 247), (247, am_i2 (fun x y => x * y) 248), (248, am_const (.int 3) 249), (249, am_i2 (fun x y => x + y) 250), (250, am_putI live 8 14 253), (253, am_const (.int 0) 254), (254, am_retZ Ret), (255, am_aload 0 256), (256, am_const (.int 40) 258), (258, am_callV live 8 1 TX8_wait 261), (261, am_iinc 5 10 1 264), (264, am_goto 355), (267, am_iload 4 269), (269, am_if1 (fun x => x = 0) 308 272), (272, am_iload 6 274), (274, am_const (.int 33) 276), (276, am_if2 (fun x y => x = y) 286 279), (279, am_iload 6 281), (281, am_const (.int 45) 283), (283, am_if2 (fun x y => x = y) 286 308), (286, am_aload 0 287), (287, am_iload 6 289), (289, am_const (.int 33) 291), (291, am_if2 (fun x y => x = y) 294 298), (294, am_const (.int 1) 295), (295, am_goto 299), (298, am_const (.int 2) 299), (299, am_callV live 8 1 TX8_wait 302), (302, am_iinc 5 10 1 305), (305, am_goto 355), (308, am_iload 4 310), (310, am_if1 (fun x => x = 0) 313 342), (313, am_aload 0 314), (314, am_iload 6 316), (316, am_callV live 8 1 TE8_behind 319), (319, am_if1 (fun x => x = 0) 342 322), (322, am_iload 6 324), (324, am_const (.int 41) 326), (326, am_if2 (fun x y => x = y) 333 329), (329, am_const (.int 1) 330), (330, am_goto 334), (333, am_const (.int 0) 334), (334, am_istore 4 10 336), (336, am_iinc 5 10 1 339), (339, am_goto 355), (342, am_aload 0 343), (343, am_const (.int 10) 345), (345, am_iload 5 347), (347, am_i2 (fun x y => x * y) 348), (348, am_const (.int 1) 349), (349, am_i2 (fun x y => x + y) 350), (350, am_putI live 8 14 353), (353, am_const (.int 0) 354), (354, am_retZ Ret), (355, am_goto 36), (358, am_iload 4 360), (360, am_if1 (fun x => x = 0) 363 367), (363, am_aload 0 364), (364, am_callV live 8 0 TE8_choose 367), (367, am_aload 0 368), (368, am_const (.int 10) 370), (370, am_iload 3 371), (371, am_i2 (fun x y => x * y) 372), (372, am_const (.int 1) 373), (373, am_i2 (fun x y => x + y) 374), (374, am_putI live 8 14 377), (377, am_iload 4 379), (379, am_if1 (fun x => x = 0) 382 393), (382, am_aload 0 383), (383, am_getI live 8 11 386), (386, am_if1 (fun x => x = 0) 389 393), (389, am_const (.int 1) 390), (390, am_goto 394), (393, am_const (.int 0) 394), (394, am_retZ Ret)]
theorem koX8_workE (live : am_E) (Ret : am_R) : ∀ q ∈ kX8_workE live Ret, am_ok RX8 cX8_work 10 (some .boolean) 5 106 live Ret q.1 q.2 :=
  am_kz dzX8_work <|
  am_kd (fun d => ak_sipush d (by decide +kernel) rfl) <|
  am_kd (fun d => ak_bipush d (by decide +kernel) rfl) <|
  am_kd (fun d => ak_iload_n d rfl rfl) <|
  am_kd (fun d => ak_imul d rfl) <|
  am_kd (fun d => ak_iadd d rfl) <|
  am_kd (fun d => ak_istore_n d rfl rfl) <|
  am_kd (fun d => ak_aload_n d rfl rfl) <|
  am_kd (fun d => ak_getR (C := RX8) (T := TX8) (N := 27) rfl inX8w (by decide) rfl rfl rfl wd_895 d rfl) <|
  am_kd (fun d => ak_sipush d (by decide +kernel) rfl) <|
  am_kd (fun d => ak_iload_n d rfl rfl) <|
  am_kd (fun d => ak_iadd d rfl) <|
  am_kd (fun d => ak_iald (t := 0) (fun _ => rfl) rfl d rfl) <|
  am_kd (fun d => ak_istore_n d rfl rfl) <|
  am_kd (fun d => ak_aload_n d rfl rfl) <|
  am_kd (fun d => ak_iconst d (by decide +kernel) rfl) <|
  am_kd (fun d => ak_putI (C := RX8) (T := TX8) (N := 27) rfl inX8w tyX8_ok nmX8 (by decide) rfl rfl rfl rfl (by decide +kernel) wd_906 d rfl) <|
  am_kd (fun d => ak_aload_n d rfl rfl) <|
  am_kd (fun d => ak_iconst d (by decide +kernel) rfl) <|
  am_kd (fun d => ak_putI (C := RX8) (T := TX8) (N := 27) rfl inX8w tyX8_ok nmX8 (by decide) rfl rfl rfl rfl (by decide +kernel) wd_907 d rfl) <|
  am_kd (fun d => ak_iconst d (by decide +kernel) rfl) <|
  am_kd (fun d => ak_istore d rfl) <|
  am_kd (fun d => ak_iconst d (by decide +kernel) rfl) <|
  am_kd (fun d => ak_istore d rfl) <|
  am_kd (fun d => ak_iload d rfl) <|
  am_kd (fun d => ak_iload_n d rfl rfl) <|
  am_kd (fun d => ak_icmp_ge d (by decide +kernel) rfl) <|
  am_kd (fun d => ak_aload_n d rfl rfl) <|
  am_kd (fun d => ak_getR (C := RX8) (T := TX8) (N := 27) rfl inX8w (by decide) rfl rfl rfl wd_895 d rfl) <|
  am_kd (fun d => ak_iload_n d rfl rfl) <|
  am_kd (fun d => ak_iload d rfl) <|
  am_kd (fun d => ak_iadd d rfl) <|
  am_kd (fun d => ak_iald (t := 0) (fun _ => rfl) rfl d rfl) <|
  am_kd (fun d => ak_istore d rfl) <|
  am_kd (fun d => ak_iload d rfl) <|
  am_kd (fun d => ak_bipush d (by decide +kernel) rfl) <|
  am_kd (fun d => ak_icmp_ne d (by decide +kernel) rfl) <|
  am_kd (fun d => ak_iinc d (by decide +kernel) rfl) <|
  am_kd (fun d => ak_goto d (by decide +kernel)) <|
  am_kd (fun d => ak_iload d rfl) <|
  am_kd (fun d => ak_if_eq d (by decide +kernel) rfl) <|
  am_kd (fun d => ak_iload d rfl) <|
  am_kd (fun d => ak_i2l d rfl) <|
  am_kd (fun d => ak_ldc2 wd_1106 d rfl) <|
  am_kd (fun d => ak_ldc2 wd_1107 d rfl) <|
  am_kd (fun d => ak_callS metX8_in ⟨rfl, hy_X8_in⟩ (am_w4 wd_986 wd_987 wd_67 wd_988) (by decide) d rfl) <|
  am_kd (fun d => ak_if_eq d (by decide +kernel) rfl) <|
  am_kd (fun d => ak_iload d rfl) <|
  am_kd (fun d => ak_istore d rfl) <|
  am_kd (fun d => ak_lconst d (by decide +kernel) rfl) <|
  am_kd (fun d => ak_lstore d rfl) <|
  am_kd (fun d => ak_iload d rfl) <|
  am_kd (fun d => ak_iload_n d rfl rfl) <|
  am_kd (fun d => ak_icmp_ge d (by decide +kernel) rfl) <|
  am_kd (fun d => ak_aload_n d rfl rfl) <|
  am_kd (fun d => ak_getR (C := RX8) (T := TX8) (N := 27) rfl inX8w (by decide) rfl rfl rfl wd_895 d rfl) <|
  am_kd (fun d => ak_iload_n d rfl rfl) <|
  am_kd (fun d => ak_iload d rfl) <|
  am_kd (fun d => ak_iadd d rfl) <|
  am_kd (fun d => ak_iald (t := 0) (fun _ => rfl) rfl d rfl) <|
  am_kd (fun d => ak_i2l d rfl) <|
  am_kd (fun d => ak_ldc2 wd_1106 d rfl) <|
  am_kd (fun d => ak_ldc2 wd_1107 d rfl) <|
  am_kd (fun d => ak_callS metX8_in ⟨rfl, hy_X8_in⟩ (am_w4 wd_986 wd_987 wd_67 wd_988) (by decide) d rfl) <|
  am_kd (fun d => ak_if_eq d (by decide +kernel) rfl) <|
  am_kd (fun d => ak_iload d rfl) <|
  am_kd (fun d => ak_iload d rfl) <|
  am_kd (fun d => ak_isub d rfl) <|
  am_kd (fun d => ak_bipush d (by decide +kernel) rfl) <|
  am_kd (fun d => ak_icmp_ne d (by decide +kernel) rfl) <|
  am_kd (fun d => ak_aload_n d rfl rfl) <|
  am_kd (fun d => ak_bipush d (by decide +kernel) rfl) <|
  am_kd (fun d => ak_iload d rfl) <|
  am_kd (fun d => ak_imul d rfl) <|
  am_kd (fun d => ak_iconst d (by decide +kernel) rfl) <|
  am_kd (fun d => ak_iadd d rfl) <|
  am_kd (fun d => ak_putI (C := RX8) (T := TX8) (N := 27) rfl inX8w tyX8_ok nmX8 (by decide) rfl rfl rfl rfl (by decide +kernel) wd_909 d rfl) <|
  am_kd (fun d => ak_iconst d (by decide +kernel) rfl) <|
  am_kd (fun d => ak_retZ d) <|
  am_kd (fun d => ak_ldc2 wd_1108 d rfl) <|
  am_kd (fun d => ak_lload d rfl) <|
  am_kd (fun d => ak_lmul d rfl) <|
  am_kd (fun d => ak_aload_n d rfl rfl) <|
  am_kd (fun d => ak_getR (C := RX8) (T := TX8) (N := 27) rfl inX8w (by decide) rfl rfl rfl wd_895 d rfl) <|
  am_kd (fun d => ak_iload_n d rfl rfl) <|
  am_kd (fun d => ak_iload d rfl) <|
  am_kd (fun d => ak_iadd d rfl) <|
  am_kd (fun d => ak_iald (t := 0) (fun _ => rfl) rfl d rfl) <|
  am_kd (fun d => ak_i2l d rfl) <|
  am_kd (fun d => ak_ladd d rfl) <|
  am_kd (fun d => ak_ldc2 wd_1106 d rfl) <|
  am_kd (fun d => ak_lsub d rfl) <|
  am_kd (fun d => ak_lstore d rfl) <|
  am_kd (fun d => ak_iinc d (by decide +kernel) rfl) <|
  am_kd (fun d => ak_goto d (by decide +kernel)) <|
  am_kd (fun d => ak_aload_n d rfl rfl) <|
  am_kd (fun d => ak_lload d rfl) <|
  am_kd (fun d => ak_callV (C := RX8) (F := TX8) (N := 27) metX8_layE rfl ⟨rfl, hy_X8_lay⟩ (am_w5 wd_1109 wd_1111 wd_34 wd_67 wd_1112) (by decide) d rfl) <|
  am_kd (fun d => ak_iconst d (by decide +kernel) rfl) <|
  am_kd (fun d => ak_istore d rfl) <|
  am_kd (fun d => ak_goto d (by decide +kernel)) <|
  am_kd (fun d => ak_iload d rfl) <|
  am_kd (fun d => ak_if_eq d (by decide +kernel) rfl) <|
  am_kd (fun d => ak_iload d rfl) <|
  am_kd (fun d => ak_callS metX8_factOf ⟨rfl, hy_X8_factOf⟩ (am_w4 wd_1120 wd_1121 wd_67 wd_1122) (by decide) d rfl) <|
  am_kd (fun d => ak_if_lt d (by decide +kernel) rfl) <|
  am_kd (fun d => ak_aload_n d rfl rfl) <|
  am_kd (fun d => ak_aload_n d rfl rfl) <|
  am_kd (fun d => ak_getR (C := RX8) (T := TX8) (N := 27) rfl inX8w (by decide) rfl rfl rfl wd_908 d rfl) <|
  am_kd (fun d => ak_iload d rfl) <|
  am_kd (fun d => ak_callS metX8_factOf ⟨rfl, hy_X8_factOf⟩ (am_w4 wd_1120 wd_1121 wd_67 wd_1122) (by decide) d rfl) <|
  am_kd (fun d => ak_lald (t := 1) (fun _ => rfl) rfl d rfl) <|
  am_kd (fun d => ak_callV (C := RX8) (F := TX8) (N := 27) metX8_layE rfl ⟨rfl, hy_X8_lay⟩ (am_w5 wd_1109 wd_1111 wd_34 wd_67 wd_1112) (by decide) d rfl) <|
  am_kd (fun d => ak_iconst d (by decide +kernel) rfl) <|
  am_kd (fun d => ak_istore d rfl) <|
  am_kd (fun d => ak_iinc d (by decide +kernel) rfl) <|
  am_kd (fun d => ak_goto d (by decide +kernel)) <|
  am_kd (fun d => ak_iload d rfl) <|
  am_kd (fun d => ak_if_eq d (by decide +kernel) rfl) <|
  am_kd (fun d => ak_iload d rfl) <|
  am_kd (fun d => ak_bipush d (by decide +kernel) rfl) <|
  am_kd (fun d => ak_icmp_ne d (by decide +kernel) rfl) <|
  am_kd (fun d => ak_aload_n d rfl rfl) <|
  am_kd (fun d => ak_callV (C := RX8) (F := TX8) (N := 27) metX8_openedE rfl ⟨rfl, hy_X8_opened⟩ (am_w5 wd_1123 wd_1125 wd_36 wd_67 wd_1126) (by decide) d rfl) <|
  am_kd (fun d => ak_bipush d (by decide +kernel) rfl) <|
  am_kd (fun d => ak_icmp_ne d (by decide +kernel) rfl) <|
  am_kd (fun d => ak_aload_n d rfl rfl) <|
  am_kd (fun d => ak_bipush d (by decide +kernel) rfl) <|
  am_kd (fun d => ak_iload d rfl) <|
  am_kd (fun d => ak_imul d rfl) <|
  am_kd (fun d => ak_iconst d (by decide +kernel) rfl) <|
  am_kd (fun d => ak_iadd d rfl) <|
  am_kd (fun d => ak_putI (C := RX8) (T := TX8) (N := 27) rfl inX8w tyX8_ok nmX8 (by decide) rfl rfl rfl rfl (by decide +kernel) wd_909 d rfl) <|
  am_kd (fun d => ak_iconst d (by decide +kernel) rfl) <|
  am_kd (fun d => ak_retZ d) <|
  am_kd (fun d => ak_aload_n d rfl rfl) <|
  am_kd (fun d => ak_bipush d (by decide +kernel) rfl) <|
  am_kd (fun d => ak_callV (C := RX8) (F := TX8) (N := 27) metX8_wait rfl ⟨rfl, hy_X8_wait⟩ (am_w5 wd_1127 wd_1129 wd_37 wd_67 wd_1130) (by decide) d rfl) <|
  am_kd (fun d => ak_iinc d (by decide +kernel) rfl) <|
  am_kd (fun d => ak_goto d (by decide +kernel)) <|
  am_kd (fun d => ak_iload d rfl) <|
  am_kd (fun d => ak_if_eq d (by decide +kernel) rfl) <|
  am_kd (fun d => ak_iload d rfl) <|
  am_kd (fun d => ak_bipush d (by decide +kernel) rfl) <|
  am_kd (fun d => ak_icmp_eq d (by decide +kernel) rfl) <|
  am_kd (fun d => ak_iload d rfl) <|
  am_kd (fun d => ak_bipush d (by decide +kernel) rfl) <|
  am_kd (fun d => ak_icmp_ne d (by decide +kernel) rfl) <|
  am_kd (fun d => ak_aload_n d rfl rfl) <|
  am_kd (fun d => ak_iload d rfl) <|
  am_kd (fun d => ak_bipush d (by decide +kernel) rfl) <|
  am_kd (fun d => ak_icmp_ne d (by decide +kernel) rfl) <|
  am_kd (fun d => ak_iconst d (by decide +kernel) rfl) <|
  am_kd (fun d => ak_goto d (by decide +kernel)) <|
  am_kd (fun d => ak_iconst d (by decide +kernel) rfl) <|
  am_kd (fun d => ak_callV (C := RX8) (F := TX8) (N := 27) metX8_wait rfl ⟨rfl, hy_X8_wait⟩ (am_w5 wd_1127 wd_1129 wd_37 wd_67 wd_1130) (by decide) d rfl) <|
  am_kd (fun d => ak_iinc d (by decide +kernel) rfl) <|
  am_kd (fun d => ak_goto d (by decide +kernel)) <|
  am_kd (fun d => ak_iload d rfl) <|
  am_kd (fun d => ak_if_ne d (by decide +kernel) rfl) <|
  am_kd (fun d => ak_aload_n d rfl rfl) <|
  am_kd (fun d => ak_iload d rfl) <|
  am_kd (fun d => ak_callV (C := RX8) (F := TX8) (N := 27) metX8_behindE rfl ⟨rfl, hy_X8_behind⟩ (am_w5 wd_1131 wd_1133 wd_38 wd_67 wd_1134) (by decide) d rfl) <|
  am_kd (fun d => ak_if_eq d (by decide +kernel) rfl) <|
  am_kd (fun d => ak_iload d rfl) <|
  am_kd (fun d => ak_bipush d (by decide +kernel) rfl) <|
  am_kd (fun d => ak_icmp_eq d (by decide +kernel) rfl) <|
  am_kd (fun d => ak_iconst d (by decide +kernel) rfl) <|
  am_kd (fun d => ak_goto d (by decide +kernel)) <|
  am_kd (fun d => ak_iconst d (by decide +kernel) rfl) <|
  am_kd (fun d => ak_istore d rfl) <|
  am_kd (fun d => ak_iinc d (by decide +kernel) rfl) <|
  am_kd (fun d => ak_goto d (by decide +kernel)) <|
  am_kd (fun d => ak_aload_n d rfl rfl) <|
  am_kd (fun d => ak_bipush d (by decide +kernel) rfl) <|
  am_kd (fun d => ak_iload d rfl) <|
  am_kd (fun d => ak_imul d rfl) <|
  am_kd (fun d => ak_iconst d (by decide +kernel) rfl) <|
  am_kd (fun d => ak_iadd d rfl) <|
  am_kd (fun d => ak_putI (C := RX8) (T := TX8) (N := 27) rfl inX8w tyX8_ok nmX8 (by decide) rfl rfl rfl rfl (by decide +kernel) wd_909 d rfl) <|
  am_kd (fun d => ak_iconst d (by decide +kernel) rfl) <|
  am_kd (fun d => ak_retZ d) <|
  am_kd (fun d => ak_goto d (by decide +kernel)) <|
  am_kd (fun d => ak_iload d rfl) <|
  am_kd (fun d => ak_if_ne d (by decide +kernel) rfl) <|
  am_kd (fun d => ak_aload_n d rfl rfl) <|
  am_kd (fun d => ak_callV (C := RX8) (F := TX8) (N := 27) metX8_chooseE rfl ⟨rfl, hy_X8_choose⟩ (am_w5 wd_1145 wd_1147 wd_40 wd_67 wd_1148) (by decide) d rfl) <|
  am_kd (fun d => ak_aload_n d rfl rfl) <|
  am_kd (fun d => ak_bipush d (by decide +kernel) rfl) <|
  am_kd (fun d => ak_iload_n d rfl rfl) <|
  am_kd (fun d => ak_imul d rfl) <|
  am_kd (fun d => ak_iconst d (by decide +kernel) rfl) <|
  am_kd (fun d => ak_iadd d rfl) <|
  am_kd (fun d => ak_putI (C := RX8) (T := TX8) (N := 27) rfl inX8w tyX8_ok nmX8 (by decide) rfl rfl rfl rfl (by decide +kernel) wd_909 d rfl) <|
  am_kd (fun d => ak_iload d rfl) <|
  am_kd (fun d => ak_if_ne d (by decide +kernel) rfl) <|
  am_kd (fun d => ak_aload_n d rfl rfl) <|
  am_kd (fun d => ak_getI (C := RX8) (T := TX8) (N := 27) rfl inX8w (by decide) rfl rfl rfl wd_906 d rfl) <|
  am_kd (fun d => ak_if_ne d (by decide +kernel) rfl) <|
  am_kd (fun d => ak_iconst d (by decide +kernel) rfl) <|
  am_kd (fun d => ak_goto d (by decide +kernel)) <|
  am_kd (fun d => ak_iconst d (by decide +kernel) rfl) <|
  am_kd (fun d => ak_retZ d) <| am_kdn
def r_fa (M : am_M) : Int32 → Int64 := fun c => M.2 206 (r_fact c).toNatClampNeg
def r_sg (M : am_M) (pl : Int32) : Nat → Int32 := fun j => M.1 201 (3258 + 50 * pl.toNatClampNeg + j)
def r_sn (M : am_M) (pl : Int32) : Nat := (M.1 201 (3508 + pl.toNatClampNeg)).toNatClampNeg
abbrev r_wr (M : am_M) (pl : Int32) : Sum Int64 Int := w_res (r_fa M) (r_sg M pl) (r_sn M pl) 0 true [] []
/-- what the reader changes -/
def r_wh (M M' : am_M) : Prop := ∃ _ : Unit, (∀ a b, a ≠ 204 → (a ≠ 200 ∨ (b ≠ 11 ∧ b ≠ 12 ∧ b ≠ 14)) → M'.1 a b = M.1 a b) ∧ (∀ a b, a ≠ 205 → M'.2 a b = M.2 a b)
theorem r_wh.rf {M : am_M} : r_wh M M := ⟨(), fun _ _ _ _ => rfl, fun _ _ _ => rfl⟩
theorem r_wh.tr {M M' M'' : am_M} (h : r_wh M M') (h2 : r_wh M' M'') : r_wh M M'' := by
  obtain ⟨-, a1, a2⟩ := h
  obtain ⟨-, b1, b2⟩ := h2
  exact ⟨(), fun a b z y => (b1 a b z y).trans (a1 a b z y), fun a b z => (b2 a b z).trans (a2 a b z)⟩
theorem r_wg.h {M M' : am_M} (h : r_wg M M') : r_wh M M' := by
  obtain ⟨-, a1, a2⟩ := h
  exact ⟨(), fun a b z y => a1 a b z (y.imp id (fun q => ⟨q.1, q.2.1⟩)), a2⟩
theorem r_wh.w14 {M M' : am_M} {v : Int32} (h : r_wh M M') : r_wh M (am_wI M' 200 14 v) := h.tr ⟨(), fun a b _ y => by rw [am_wI_1, if_neg (fun q => by omega)], fun _ _ _ => rfl⟩
theorem r_wh.sc {M M' : am_M} (h : r_wh M M') : r_sc M M' := by
  obtain ⟨-, a1, a2⟩ := h
  exact ⟨(), fun a b z => ⟨a1 a b (by omega) (Or.inl (by omega)), a2 a b (by omega)⟩, a1 _ _ (by decide) (Or.inr ⟨by decide, by decide, by decide⟩), a1 _ _ (by decide) (Or.inr ⟨by decide, by decide, by decide⟩)⟩
theorem r_wh.c {M M' : am_M} (h : r_wh M M') (k : Nat) : M'.1 201 k = M.1 201 k := h.sc.i k
theorem r_wh.f {M M' : am_M} (h : r_wh M M') : r_fa M' = r_fa M := by
  obtain ⟨-, -, a2⟩ := h
  exact funext fun c => a2 206 _ (by decide)
def TE8_work : am_T := fun live as M R => match as with
  | [.ref n, .int pl] => am_mn live ∧ n = 200 ∧ am_in pl 5 ∧ r_I M ∧ (∀ v, r_wr M pl = .inl v → ∀ M', r_wh M M' → M'.2 205 0 = v → R (some (.int 1)) M') ∧ (∀ f, r_wr M pl = .inr f → ∀ M', r_wh M M' → (M'.1 200 14).toInt = f → R (some (.int 0)) M')
  | _ => False
def r_36E (M0 M : am_M) (pl m du i : Int32) : Prop := ∃ (W : List Int32) (V : List Int64), (m = M0.1 201 (3508 + pl.toNatClampNeg) ∧ 0 ≤ i.toInt ∧ i.toInt ≤ m.toInt ∧ m.toInt ≤ 50) ∧ (du = 0 ∨ du = 1) ∧ r_ls M W V ∧ (V.length = w_ws W + (if du = 0 then 1 else 0) ∧ (W.length : Int) ≤ i.toInt ∧ (V.length : Int) ≤ i.toInt) ∧ r_wh M0 M ∧ w_res (r_fa M0) (r_sg M0 pl) (r_sn M0 pl) i.toNatClampNeg (decide (du = 1)) W V = r_wr M0 pl
def r_93E (M0 M : am_M) (pl m i f : Int32) (v : Int64) : Prop := ∃ (W : List Int32) (V : List Int64) (u : Nat), (m = M0.1 201 (3508 + pl.toNatClampNeg) ∧ 0 ≤ f.toInt ∧ f.toInt < m.toInt ∧ m.toInt ≤ 50) ∧ (i.toInt = f.toInt + u ∧ u ≤ 6 ∧ i.toInt ≤ m.toInt) ∧ (0 ≤ v.toInt ∧ v.toInt + 1 ≤ (10 ^ u : Nat)) ∧ (w_dgt (r_sg M0 pl f.toNatClampNeg) = true ∧ w_dig (r_sg M0 pl) (r_sn M0 pl) (8 - u) i.toNatClampNeg u v.toInt = w_dig (r_sg M0 pl) (r_sn M0 pl) 8 f.toNatClampNeg 0 0) ∧ r_ls M W V ∧ (V.length = w_ws W ∧ (W.length : Int) ≤ f.toInt ∧ (V.length : Int) ≤ f.toInt) ∧ r_wh M0 M ∧ w_res (r_fa M0) (r_sg M0 pl) (r_sn M0 pl) f.toNatClampNeg true W V = r_wr M0 pl
def r_67E (M0 M : am_M) (pl m du : Int32) : Prop := ∃ _ : Unit, (m = M0.1 201 (3508 + pl.toNatClampNeg) ∧ 0 ≤ m.toInt ∧ m.toInt ≤ 50) ∧ (du = 0 ∨ du = 1) ∧ r_wh M0 M ∧ (du = 1 → r_wr M0 pl = .inr (10 * m.toInt + 1)) ∧ (du = 0 → ∃ (W : List Int32) (V : List Int64), r_ls M W V ∧ (W.length ≤ 60 ∧ V.length ≤ 60) ∧ r_wr M0 pl = (match W, V with | [], v :: _ => .inl v | _, _ => .inr (10 * m.toInt + 1)) ∧ V.length = w_ws W + 1)
def JE8_work : am_E → List Value → am_M → am_R → am_inv := fun live as M0 R pc => match as with
  | [.ref n, .int pl] => (match pc with
    | 36 => some ([0, 2, 3, 4, 5], fun k L st M => ∃ m du i : Int32, L = [(0, .ref 200), (2, .int (3258 + 50 * pl)), (3, .int m), (4, .int du), (5, .int i)] ∧ st = [] ∧ k = ((60 - i.toInt).toNat * 2 + 1, 0) ∧ r_36E M0 M pl m du i)
    | 93 => some ([0, 2, 3, 5, 7, 8], fun k L st M => ∃ (m i f : Int32) (v : Int64), L = [(0, .ref 200), (2, .int (3258 + 50 * pl)), (3, .int m), (5, .int i), (7, .int f), (8, .long v)] ∧ st = [] ∧ k = ((60 - f.toInt).toNat * 2, (60 - i.toInt).toNat) ∧ r_93E M0 M pl m i f v)
    | 367 => some ([0, 3, 4], fun k L st M => ∃ m du : Int32, L = [(0, .ref 200), (3, .int m), (4, .int du)] ∧ st = [] ∧ k = (1, 0) ∧ r_67E M0 M pl m du)
    | _ => none)
  | _ => none
theorem l_add {x y : Int64} (h1 : -9223372036854775808 ≤ x.toInt + y.toInt) (h2 : x.toInt + y.toInt < 9223372036854775808) : (x + y).toInt = x.toInt + y.toInt := by
  rw [Int64.toInt_add]
  exact Int.bmod_eq_of_le (by omega) (by omega)
theorem l_sub {x y : Int64} (h1 : -9223372036854775808 ≤ x.toInt - y.toInt) (h2 : x.toInt - y.toInt < 9223372036854775808) : (x - y).toInt = x.toInt - y.toInt := by
  rw [Int64.toInt_sub]
  exact Int.bmod_eq_of_le (by omega) (by omega)
theorem l_mul {x y : Int64} (h1 : -9223372036854775808 ≤ x.toInt * y.toInt) (h2 : x.toInt * y.toInt < 9223372036854775808) : (x * y).toInt = x.toInt * y.toInt := by
  rw [Int64.toInt_mul]
  exact Int.bmod_eq_of_le (by omega) (by omega)
theorem l_of (v : Int64) : Int64.ofInt v.toInt = v := Int64.ofInt_toInt v
theorem r_dgt {c : Int32} : ((48 : Int64) ≤ c.toInt64 ∧ c.toInt64 ≤ (57 : Int64)) ↔ w_dgt c = true := by
  unfold w_dgt
  rw [decide_eq_true_iff, j_le, j_le, Int32.toInt_toInt64]
  rfl
section STP
variable {fa : Int32 → Int64} {σ : Nat → Int32} {n i : Nat} {W : List Int32} {V : List Int64}
theorem ws_b {due : Bool} (h : σ i = 32) (hi : i < n) : w_res fa σ n i due W V = w_res fa σ n (i + 1) due W V := w_res_s hi (by unfold w_stp; rw [if_pos h])
theorem ws_d {j : Nat} {v : Int} (h : w_dgt (σ i) = true) (hi : i < n) (e : w_dig σ n 8 i 0 0 = some (j, v)) : w_res fa σ n i true W V = w_res fa σ n j false (w_lay W (Int64.ofInt v) V).1 (w_lay W (Int64.ofInt v) V).2 := w_res_s hi (by unfold w_stp; rw [if_neg (w_dgt_clo h).1, if_pos ⟨rfl, h⟩, e])
theorem ws_df (h : w_dgt (σ i) = true) (hi : i < n) (e : w_dig σ n 8 i 0 0 = none) : w_res fa σ n i true W V = .inr (10 * (i : Int) + 2) := w_res_f hi (by unfold w_stp; rw [if_neg (w_dgt_clo h).1, if_pos ⟨rfl, h⟩, e])
theorem ws_l (h : 0 ≤ (r_fact (σ i)).toInt) (hi : i < n) : w_res fa σ n i true W V = w_res fa σ n (i + 1) false (w_lay W (fa (σ i)) V).1 (w_lay W (fa (σ i)) V).2 := w_res_s hi (by
  have hf := w_fact_no h
  unfold w_stp
  rw [if_neg hf.1, if_neg (fun z => by rw [hf.2.2] at z; exact absurd z.2 (by decide)), if_pos ⟨rfl, h⟩])
theorem ws_o (h : σ i = 40) (hi : i < n) : w_res fa σ n i true W V = if w_opn W = 8 then .inr (10 * (i : Int) + 3) else w_res fa σ n (i + 1) true (40 :: W) V := by
  by_cases z : w_opn W = 8
  · rw [if_pos z]
    exact w_res_f hi (by unfold w_stp; rw [h, if_neg (by decide), if_neg (by decide), if_neg (by decide), if_pos ⟨rfl, rfl⟩, if_pos z])
  · rw [if_neg z]
    exact w_res_s hi (by unfold w_stp; rw [h, if_neg (by decide), if_neg (by decide), if_neg (by decide), if_pos ⟨rfl, rfl⟩, if_neg z])
theorem ws_u {c : Int32} (h : σ i = c) (hc : c = 33 ∨ c = 45) (hi : i < n) : w_res fa σ n i true W V = w_res fa σ n (i + 1) true ((if c = 33 then 1 else 2) :: W) V := w_res_s hi (by
  unfold w_stp
  rw [h, if_neg (by rcases hc with rfl | rfl <;> decide), if_neg (by rcases hc with rfl | rfl <;> decide), if_neg (by rcases hc with rfl | rfl <;> decide), if_neg (by rcases hc with rfl | rfl <;> decide), if_pos ⟨rfl, hc⟩])
theorem ws_x (h32 : σ i ≠ 32) (hd : w_dgt (σ i) = false) (hf : (r_fact (σ i)).toInt < 0) (h40 : σ i ≠ 40) (h33 : σ i ≠ 33) (h45 : σ i ≠ 45) (hi : i < n) : w_res fa σ n i true W V = .inr (10 * (i : Int) + 1) := w_res_f hi (by
  unfold w_stp
  rw [if_neg h32, if_neg (fun z => by rw [hd] at z; exact absurd z.2 (by decide)), if_neg (fun z => by have := z.2; omega), if_neg (fun z => h40 z.2), if_neg (fun z => z.2.elim h33 h45), if_neg (by decide)])
theorem ws_y (h32 : σ i ≠ 32) (hi : i < n) {W' : List Int32} {V' : List Int64} (e : w_beh (σ i) W V = some (W', V')) : w_res fa σ n i false W V = w_res fa σ n (i + 1) (!(decide (σ i = 41))) W' V' := w_res_s hi (by
  unfold w_stp
  rw [if_neg h32, if_neg (by simp), if_neg (by simp), if_neg (by simp), if_neg (by simp), if_pos rfl, e])
theorem ws_n (h32 : σ i ≠ 32) (hi : i < n) (e : w_beh (σ i) W V = none) : w_res fa σ n i false W V = .inr (10 * (i : Int) + 1) := w_res_f hi (by
  unfold w_stp
  rw [if_neg h32, if_neg (by simp), if_neg (by simp), if_neg (by simp), if_neg (by simp), if_pos rfl, e])
end STP
theorem w_beh_ws {c : Int32} {W W' : List Int32} {V V' : List Int64} (h : V.length = w_ws W + 1) (e : w_beh c W V = some (W', V')) : V'.length = w_ws W' + (if c = 41 then 1 else 0) ∧ W'.length ≤ W.length + 1 ∧ V'.length ≤ V.length := by
  unfold w_beh at e
  split at e
  · next z =>
    cases e
    obtain ⟨a, b, d⟩ := w_red_ws (t := r_clo c) (by omega) h
    have hw := r_wt_clo (c := c) (by omega)
    rw [if_neg (fun q => by rw [q] at z; exact absurd z (by decide))]
    refine ⟨?_, by simp only [List.length_cons]; omega, d⟩
    show _ = r_wt c + w_ws _ + 0
    omega
  · split at e
    · next z1 z =>
      split at e
      · cases e
      · cases e
        obtain ⟨a, b, d⟩ := w_red_ws (t := 5) (by decide) h
        have hw := r_wt_clo (c := c) (by rw [z]; decide)
        rw [if_neg (fun q => by rw [q] at z; exact absurd z (by decide))]
        refine ⟨?_, by simp only [List.length_cons]; omega, d⟩
        show _ = r_wt c + w_ws _ + 0
        omega
    · split at e
      · next z1 z2 z =>
        cases e
        obtain ⟨a, b, d⟩ := w_red_ws (t := r_clo c) (by omega) h
        have hw := r_wt_clo (c := c) (by omega)
        rw [if_neg (fun q => by rw [q] at z; exact absurd z (by decide))]
        refine ⟨?_, by simp only [List.length_cons]; omega, d⟩
        show _ = r_wt c + w_ws _ + 0
        omega
      · split at e
        · next z1 z2 z3 z =>
          cases e
          subst z
          obtain ⟨a, b, d⟩ := w_red_ws (t := 2) (by decide) h
          rw [if_neg (by decide)]
          refine ⟨?_, by simp only [List.length_cons]; omega, d⟩
          show _ = r_wt 63 + w_ws _ + 0
          rw [show r_wt 63 = 1 by decide]
          omega
        · split at e
          · next z1 z2 z3 z4 z =>
            split at e
            · next zh =>
              cases e
              subst z
              obtain ⟨a, b, d⟩ := w_chs_ws h
              rw [if_neg (by decide)]
              generalize w_chs W V = r at *
              obtain ⟨W1, V1⟩ := r
              cases W1 with
              | nil => exact absurd (show (0 : Int32) = 63 from zh) (by decide)
              | cons c1 W1 =>
                have zc : c1 = 63 := zh
                subst zc
                have a2 : V1.length = r_wt 63 + w_ws W1 + 1 := a
                rw [show r_wt 63 = 1 by decide] at a2
                simp only [List.length_cons] at b
                refine ⟨?_, by simp only [List.length_cons, List.tail_cons]; omega, d⟩
                show V1.length = r_wt 58 + w_ws W1 + 0
                rw [show r_wt 58 = 2 by decide]
                omega
            · cases e
          · split at e
            · next z1 z2 z3 z4 z5 z =>
              split at e
              · next zh =>
                obtain ⟨a, b, d⟩ := w_chs_ws h
                generalize w_chs W V = r at *
                obtain ⟨W1, V1⟩ := r
                cases W1 with
                | nil => exact absurd (show (0 : Int32) = 40 from zh) (by decide)
                | cons c1 W1 =>
                  have zc : c1 = 40 := zh
                  subst zc
                  cases V1 with
                  | nil => cases e
                  | cons v V1 =>
                    have a2 : V1.length + 1 = r_wt 40 + w_ws W1 + 1 := a
                    rw [show r_wt 40 = 0 by decide] at a2
                    simp only [List.length_cons] at b d
                    have e2 : some (w_lay W1 v V1) = some (W', V') := e
                    have e3 := Option.some.inj e2
                    obtain ⟨p, q, r⟩ := w_lay_ws (W := W1) (x := v) (V := V1) (by omega)
                    rw [e3] at p q r
                    dsimp only at p q r
                    rw [if_pos z]
                    exact ⟨p, by omega, by omega⟩
              · cases e
            · cases e
theorem r_sg_at {M0 M : am_M} {pl i : Int32} (hk : r_wh M0 M) (hp : am_in pl 5) (hi : 0 ≤ i.toInt ∧ i.toInt ≤ 50) : (3258 + 50 * pl + i).toInt = 3258 + 50 * pl.toInt + i.toInt ∧ M.1 201 (3258 + 50 * pl + i).toNatClampNeg = r_sg M0 pl i.toNatClampNeg := by
  have p1 := hp.1
  have p2 := hp.2
  have e50 := r_mul (c := 50) (x := pl) ⟨by decide, by decide⟩ ⟨by omega, by omega⟩
  simp only [Int32.reduceToInt] at e50
  have eb := r_off (c := 3258) (x := 50 * pl) ⟨by decide, by decide⟩ ⟨by omega, by omega⟩
  simp only [e50, Int32.reduceToInt] at eb
  have ec := r_off (c := 3258 + 50 * pl) (x := i) ⟨by omega, by omega⟩ ⟨by omega, by omega⟩
  rw [eb] at ec
  have c1 := i_clamp (x := 3258 + 50 * pl + i) (by omega)
  have c2 := i_clamp p1
  have c3 := i_clamp hi.1
  refine ⟨ec, ?_⟩
  rw [hk.c]
  show _ = M0.1 201 (3258 + 50 * pl.toNatClampNeg + i.toNatClampNeg)
  rw [show (3258 + 50 * pl + i).toNatClampNeg = 3258 + 50 * pl.toNatClampNeg + i.toNatClampNeg by omega]
theorem f10 {i : Int32} {k : Int32} (hi : 0 ≤ i.toInt ∧ i.toInt ≤ 50) (hk : 0 ≤ k.toInt ∧ k.toInt ≤ 3) : (10 * i + k).toInt = 10 * i.toInt + k.toInt := by
  have m := i_mul (x := 10) (y := i) (by simp only [Int32.reduceToInt]; omega) (by simp only [Int32.reduceToInt]; omega)
  simp only [Int32.reduceToInt] at m
  have a := i_add (x := 10 * i) (y := k) (by omega) (by omega)
  omega
set_option maxRecDepth 100000 in
set_option maxHeartbeats 4000000 in
theorem metX8_workE : am_Met yX8_work cX8_work 10 (some .boolean) (5) (106) TE8_work := by
  refine am_met (own := RX8) (by decide +kernel) rfl kX8_workE koX8_workE 150 JE8_work ?_ ?_
  · intro live as M Ret h
    unfold TE8_work at h
    split at h
    · next n pl =>
      refine ⟨Nat.le_of_ble_eq_true rfl, ?_⟩
      change am_wp _ _ _ _ [(0, Value.ref n), (1, Value.int pl)] _ _
      obtain ⟨hmn, rfl, hp, hR, h1, h0⟩ := h
      have hmn2 := hmn
      obtain ⟨i1, i2, rfl⟩ := hmn2
      have l201 : am_len 201 = 3760 := rfl
      have p1 := hp.1
      have p2 := hp.2
      have ea := r_off (c := 3508) (x := pl) ⟨by decide, by decide⟩ ⟨by omega, by omega⟩
      simp only [Int32.reduceToInt] at ea
      have q2 := i_clamp (x := 3508 + pl) (by omega)
      have q3 := i_clamp (x := pl) p1
      have em : M.1 201 (3508 + pl).toNatClampNeg = M.1 201 (3508 + pl.toNatClampNeg) := by rw [show (3508 + pl).toNatClampNeg = 3508 + pl.toNatClampNeg by omega]
      have htx := hR.tx (g_cl hp)
      repeat' (first | apply And.intro | exact rfl | intro hx | (refine Exists.intro _ (And.intro rfl ?_)))
      all_goals try first | (with_reducible change am_tI _ _) | (change Ret _ _) | (change Ret _ _ _) | (change Exists _)
      all_goals try dsimp only at *
      all_goals try (with_reducible exact absurd ‹(1000 : Int64) = 0› am_z1000)
      all_goals first
        | omega
        | (rw [l201]; omega)
        | skip
      refine ⟨_, _, _, _, rfl, rfl, rfl, [], [], ⟨em, by decide, by rw [em]; exact htx.1, by rw [em]; exact htx.2⟩, Or.inr rfl, ?_, ⟨rfl, by decide, by decide⟩, ?_, rfl⟩
      · exact ⟨(), rfl, trivial, rfl, trivial⟩
      · exact ⟨(), fun a b z y => by rw [am_wI_1, if_neg (fun q => by omega), am_wI_1, if_neg (fun q => by omega)], fun _ _ _ => rfl⟩
    · exact h.elim
  · intro live as M0 Ret h k pc I hI L st M hi
    unfold TE8_work at h
    split at h
    · next n pl =>
      obtain ⟨hmn, rfl, hp, hR, h1, h0⟩ := h
      have hmn2 := hmn
      obtain ⟨i1, i2, rfl⟩ := hmn2
      have l201 : am_len 201 = 3760 := rfl
      have l206 : am_len 206 = 7 := rfl
      have htx := hR.tx (g_cl hp)
      have cn := i_clamp htx.1
      have en : (r_sn M0 pl : Int) = (M0.1 201 (3508 + pl.toNatClampNeg)).toInt := cn
      have p1 := hp.1
      have p2 := hp.2
      change (match pc with | 36 => _ | 93 => _ | 367 => _ | _ => none) = _ at hI
      split at hI
      · cases hI
        obtain ⟨m, du, i, rfl, rfl, rfl, W, V, ⟨hm, g1, g2, g3⟩, hdu, hl, ⟨d1, d2, d3⟩, hk, hw⟩ := hi
        have hi := i_inc (x := i) (by omega) (by omega)
        have ci := i_clamp g1
        have ci1 := i_clamp (x := i + 1) (by omega)
        have u120 := hl.bd (by omega)
        have hmn' : (r_sn M0 pl : Int) = m.toInt := by rw [hm]; exact en
        by_cases hz : m ≤ i
        · have hz2 := hz
          simp only [i_le] at hz2
          rw [w_res_e (by omega)] at hw
          rcases hdu with rfl | rfl
          · have e0 : (decide ((0 : Int32) = 1)) = false := by decide
            rw [e0] at hw
            have d1' : V.length = w_ws W + 1 := d1
            obtain ⟨v1, v2, v3⟩ := w_chs_ws d1'
            unfold w_end at hw
            rw [if_neg (by decide)] at hw
            repeat' (first | (with_reducible exact hmn) | apply And.intro | exact rfl | (intro hx; with_reducible exact absurd hz hx) | (intro hx; exact absurd hx (by decide)) | (intro hx; exact absurd (by decide) hx) | decide | intro hx | (refine Exists.intro _ (And.intro rfl ?_)) | (refine r_cl_in hl ⟨d1', by omega, by omega⟩ (fun M1 c1 k1 => ?_)))
            all_goals try first | (with_reducible change am_tI _ _) | (change Ret _ _) | (change Ret _ _ _) | (change Exists _)
            all_goals try dsimp only at *
            all_goals try (with_reducible exact absurd ‹(1000 : Int64) = 0› am_z1000)
            all_goals first
              | refine ⟨_, am_lt_l (by omega), _, _, rfl, rfl, rfl, (), ⟨hm, by omega, g3⟩, Or.inl rfl, hk.tr c1.h, fun q => absurd q (by decide), fun _ => ⟨_, _, k1, ⟨by omega, by omega⟩, ?_, v1⟩⟩
              | skip
            rw [← hw]
            generalize w_chs W V = r
            obtain ⟨W1, V1⟩ := r
            have en2 : (10 * (r_sn M0 pl : Int) + 1) = 10 * m.toInt + 1 := by omega
            cases W1 with
            | nil =>
              cases V1 with
              | nil => show Sum.inr _ = Sum.inr _; rw [en2]
              | cons v V1 => rfl
            | cons c W1 => show Sum.inr _ = Sum.inr _; rw [en2]
          · have e0 : (decide ((1 : Int32) = 1)) = true := by decide
            rw [e0] at hw
            unfold w_end at hw
            rw [if_pos rfl, show (10 * (r_sn M0 pl : Int) + 1) = 10 * m.toInt + 1 by omega] at hw
            repeat' (first | (with_reducible exact hmn) | apply And.intro | exact rfl | (intro hx; with_reducible exact absurd hz hx) | (intro hx; exact absurd hx (by decide)) | (intro hx; exact absurd (by decide) hx) | decide | intro hx | (refine Exists.intro _ (And.intro rfl ?_)))
            all_goals try first | (with_reducible change am_tI _ _) | (change Ret _ _) | (change Ret _ _ _) | (change Exists _)
            all_goals try dsimp only at *
            all_goals try (with_reducible exact absurd ‹(1000 : Int64) = 0› am_z1000)
            all_goals exact ⟨_, am_lt_l (by omega), _, _, rfl, rfl, rfl, (), ⟨hm, by omega, g3⟩, Or.inr rfl, hk, fun _ => hw.symm, fun q => absurd q (by decide)⟩
        · have hz2 := hz
          simp only [i_le] at hz2
          obtain ⟨ec, es⟩ := r_sg_at (i := i) hk hp ⟨g1, by omega⟩
          have x1 : 0 ≤ (3258 + 50 * pl + i).toInt := by omega
          have x2 : (3258 + 50 * pl + i).toInt < (am_len 201 : Int) := by rw [l201]; omega
          have hin : i.toNatClampNeg < r_sn M0 pl := by omega
          have i1e : (i + 1).toNatClampNeg = i.toNatClampNeg + 1 := by omega
          have f1 := f10 (i := i) (k := 1) ⟨g1, by omega⟩ ⟨by decide, by decide⟩
          have f3 := f10 (i := i) (k := 3) ⟨g1, by omega⟩ ⟨by decide, by decide⟩
          simp only [Int32.reduceToInt] at f1 f3
          have nx : ∀ (M2 : am_M) (d2' : Int32) (W2 : List Int32) (V2 : List Int64), d2' = 0 ∨ d2' = 1 → r_ls M2 W2 V2 → V2.length = w_ws W2 + (if d2' = 0 then 1 else 0) → W2.length ≤ W.length + 1 → V2.length ≤ V.length + 1 → r_wh M0 M2 → w_res (r_fa M0) (r_sg M0 pl) (r_sn M0 pl) (i.toNatClampNeg + 1) (decide (d2' = 1)) W2 V2 = r_wr M0 pl → r_36E M0 M2 pl m d2' (i + 1) := fun M2 d2' W2 V2 a1 a2 a3 a4 a5 a6 a7 => ⟨W2, V2, ⟨hm, by omega, by omega, g3⟩, a1, a2, ⟨a3, by omega, by omega⟩, a6, by rw [i1e]; exact a7⟩
          by_cases z32 : M.1 201 (3258 + 50 * pl + i).toNatClampNeg = 32
          · have zs : r_sg M0 pl i.toNatClampNeg = 32 := by rw [← es]; exact z32
            rw [ws_b zs hin] at hw
            rcases hdu with rfl | rfl
            · skip
              repeat' (first | (with_reducible exact x1) | (with_reducible exact x2) | (with_reducible exact hmn) | apply And.intro | exact rfl | (intro hx; with_reducible exact absurd hx hz) | (intro hx; with_reducible exact absurd z32 hx) | (intro hx; exact absurd hx (by decide)) | (intro hx; exact absurd (by decide) hx) | decide | intro hx | (refine Exists.intro _ (And.intro rfl ?_)))
              all_goals try first | (with_reducible change am_tI _ _) | (change Ret _ _) | (change Ret _ _ _) | (change Exists _)
              all_goals try dsimp only at *
              all_goals try (with_reducible exact absurd ‹(1000 : Int64) = 0› am_z1000)
              all_goals exact ⟨_, am_lt_l (by omega), _, _, _, rfl, rfl, rfl, nx _ _ _ _ (Or.inl rfl) hl d1 (by omega) (by omega) hk hw⟩
            · skip
              repeat' (first | (with_reducible exact x1) | (with_reducible exact x2) | (with_reducible exact hmn) | apply And.intro | exact rfl | (intro hx; with_reducible exact absurd hx hz) | (intro hx; with_reducible exact absurd z32 hx) | (intro hx; exact absurd hx (by decide)) | (intro hx; exact absurd (by decide) hx) | decide | intro hx | (refine Exists.intro _ (And.intro rfl ?_)))
              all_goals try first | (with_reducible change am_tI _ _) | (change Ret _ _) | (change Ret _ _ _) | (change Exists _)
              all_goals try dsimp only at *
              all_goals try (with_reducible exact absurd ‹(1000 : Int64) = 0› am_z1000)
              all_goals exact ⟨_, am_lt_l (by omega), _, _, _, rfl, rfl, rfl, nx _ _ _ _ (Or.inr rfl) hl d1 (by omega) (by omega) hk hw⟩
          · have zs32 : r_sg M0 pl i.toNatClampNeg ≠ 32 := fun q => z32 (es.trans q)
            rcases hdu with rfl | rfl
            · have e0 : (decide ((0 : Int32) = 1)) = false := by decide
              rw [e0] at hw
              have d1' : V.length = w_ws W + 1 := d1
              have kY : ∀ W' V', w_beh (M.1 201 (3258 + 50 * pl + i).toNatClampNeg) W V = some (W', V') → w_res (r_fa M0) (r_sg M0 pl) (r_sn M0 pl) (i.toNatClampNeg + 1) (!(decide (M.1 201 (3258 + 50 * pl + i).toNatClampNeg = 41))) W' V' = r_wr M0 pl := fun W' V' e => by
                rw [es] at e ⊢
                rw [← hw, ws_y zs32 hin e]
              have kN : w_beh (M.1 201 (3258 + 50 * pl + i).toNatClampNeg) W V = none → r_wr M0 pl = .inr (10 * i.toInt + 1) := fun e => by
                rw [es] at e
                rw [← hw, ws_n zs32 hin e, show ((i.toNatClampNeg : Nat) : Int) = i.toInt from ci]
              by_cases z41 : M.1 201 (3258 + 50 * pl + i).toNatClampNeg = 41
              · have ed : (!(decide (M.1 201 (3258 + 50 * pl + i).toNatClampNeg = 41))) = decide ((0 : Int32) = 1) := by rw [z41]; decide
                repeat' (first | (with_reducible exact x1) | (with_reducible exact x2) | (with_reducible exact hmn) | apply And.intro | exact rfl | (intro hx; with_reducible exact absurd hx hz) | (intro hx; with_reducible exact absurd hx z32) | (intro hx; with_reducible exact absurd z41 hx) | (intro hx; exact absurd hx (by decide)) | (intro hx; exact absurd (by decide) hx) | decide | intro hx | (refine Exists.intro _ (And.intro rfl ?_)) | (refine r_cl_in hl ⟨d1', by omega, by omega⟩ ⟨⟨by omega, by omega⟩, fun en M1 c1 => ?_, fun W' V' es' M1 c1 k1 => ?_⟩))
                all_goals try first | (with_reducible change am_tI _ _) | (change Ret _ _) | (change Ret _ _ _) | (change Exists _)
                all_goals try dsimp only at *
                all_goals try (with_reducible exact absurd ‹(1000 : Int64) = 0› am_z1000)
                all_goals first
                  | (left; rfl)
                  | exact h0 _ (kN en) _ ((hk.tr c1.h).w14) (by rw [am_wI_self]; exact f1)
                  | (have wb := w_beh_ws d1' es'
                     rw [if_pos z41] at wb
                     have ky := kY _ _ es'
                     rw [ed] at ky
                     exact ⟨_, am_lt_l (by omega), _, _, _, rfl, rfl, rfl, nx _ 0 _ _ (Or.inl rfl) k1 wb.1 wb.2.1 (by omega) (hk.tr c1.h) ky⟩)
                  | skip
              · have ed : (!(decide (M.1 201 (3258 + 50 * pl + i).toNatClampNeg = 41))) = decide ((1 : Int32) = 1) := by rw [decide_eq_false z41]; decide
                repeat' (first | (with_reducible exact x1) | (with_reducible exact x2) | (with_reducible exact hmn) | apply And.intro | exact rfl | (intro hx; with_reducible exact absurd hx hz) | (intro hx; with_reducible exact absurd hx z32) | (intro hx; with_reducible exact absurd hx z41) | (intro hx; exact absurd hx (by decide)) | (intro hx; exact absurd (by decide) hx) | decide | intro hx | (refine Exists.intro _ (And.intro rfl ?_)) | (refine r_cl_in hl ⟨d1', by omega, by omega⟩ ⟨⟨by omega, by omega⟩, fun en M1 c1 => ?_, fun W' V' es' M1 c1 k1 => ?_⟩))
                all_goals try first | (with_reducible change am_tI _ _) | (change Ret _ _) | (change Ret _ _ _) | (change Exists _)
                all_goals try dsimp only at *
                all_goals try (with_reducible exact absurd ‹(1000 : Int64) = 0› am_z1000)
                all_goals first
                  | (left; rfl)
                  | exact h0 _ (kN en) _ ((hk.tr c1.h).w14) (by rw [am_wI_self]; exact f1)
                  | (have wb := w_beh_ws d1' es'
                     rw [if_neg z41] at wb
                     have ky := kY _ _ es'
                     rw [ed] at ky
                     exact ⟨_, am_lt_l (by omega), _, _, _, rfl, rfl, rfl, nx _ 1 _ _ (Or.inr rfl) k1 wb.1 wb.2.1 (by omega) (hk.tr c1.h) ky⟩)
                  | skip
            · have e0 : (decide ((1 : Int32) = 1)) = true := by decide
              rw [e0] at hw
              have d1' : V.length = w_ws W + 0 := d1
              have a := hl.a
              have hx1 : 0 ≤ (M.1 200 11).toInt := by omega
              have hx2 : (M.1 200 11).toInt < 120 := by omega
              by_cases zd : (48 : Int64) ≤ (M.1 201 (3258 + 50 * pl + i).toNatClampNeg).toInt64 ∧ (M.1 201 (3258 + 50 * pl + i).toNatClampNeg).toInt64 ≤ (57 : Int64)
              · have qd : ¬ ((if (48 : Int64) ≤ (M.1 201 (3258 + 50 * pl + i).toNatClampNeg).toInt64 ∧ (M.1 201 (3258 + 50 * pl + i).toNatClampNeg).toInt64 ≤ (57 : Int64) then (1 : Int32) else 0) = 0) := by rw [if_pos zd]; decide
                have dg : w_dgt (r_sg M0 pl i.toNatClampNeg) = true := by rw [← es]; exact r_dgt.mp zd
                repeat' (first | (with_reducible exact x1) | (with_reducible exact x2) | (with_reducible exact hmn) | apply And.intro | exact rfl | (intro hx; with_reducible exact absurd hx hz) | (intro hx; with_reducible exact absurd hx z32) | (intro hx; with_reducible exact absurd hx qd) | (intro hx; exact absurd hx (by decide)) | (intro hx; exact absurd (by decide) hx) | decide | intro hx | (refine Exists.intro _ (And.intro rfl ?_)))
                all_goals try first | (with_reducible change am_tI _ _) | (change Ret _ _) | (change Ret _ _ _) | (change Exists _)
                all_goals try dsimp only at *
                all_goals try (with_reducible exact absurd ‹(1000 : Int64) = 0› am_z1000)
                all_goals exact ⟨_, am_lt_l (by omega), _, _, _, _, rfl, rfl, rfl, W, V, 0, ⟨hm, g1, by omega, g3⟩, ⟨by omega, by decide, g2⟩, ⟨by decide, by decide⟩, ⟨dg, rfl⟩, hl, ⟨d1', d2, d3⟩, hk, hw⟩
              · have qd : (if (48 : Int64) ≤ (M.1 201 (3258 + 50 * pl + i).toNatClampNeg).toInt64 ∧ (M.1 201 (3258 + 50 * pl + i).toNatClampNeg).toInt64 ≤ (57 : Int64) then (1 : Int32) else 0) = 0 := if_neg zd
                have dg : w_dgt (r_sg M0 pl i.toNatClampNeg) = false := by
                  cases e : w_dgt (r_sg M0 pl i.toNatClampNeg) with
                  | false => rfl
                  | true => exact absurd (r_dgt.mpr (by rw [es]; exact e)) zd
                by_cases zf : r_fact (M.1 201 (3258 + 50 * pl + i).toNatClampNeg) < 0
                · have zf2 := zf
                  simp only [i_lt, es, Int32.reduceToInt] at zf2
                  by_cases z40 : M.1 201 (3258 + 50 * pl + i).toNatClampNeg = 40
                  · have zs : r_sg M0 pl i.toNatClampNeg = 40 := es.symm.trans z40
                    rw [ws_o zs hin] at hw
                    have wo := w_opn_le W
                    have w60 : W.length ≤ 60 := by omega
                    by_cases z8 : w_opn W = 8
                    · rw [if_pos z8, show ((i.toNatClampNeg : Nat) : Int) = i.toInt from ci] at hw
                      have q8 : Int32.ofNat (w_opn W) = 8 := by rw [z8]; rfl
                      repeat' (first | (with_reducible exact x1) | (with_reducible exact x2) | (with_reducible exact hx1) | (with_reducible exact hx2) | (with_reducible exact u120) | (with_reducible exact hmn) | apply And.intro | exact rfl | (intro hx; with_reducible exact absurd hx hz) | (intro hx; with_reducible exact absurd hx z32) | (intro hx; with_reducible exact absurd qd hx) | (intro hx; with_reducible exact absurd zf hx) | (intro hx; with_reducible exact absurd z40 hx) | (intro hx; exact absurd hx (by decide)) | (intro hx; exact absurd (by decide) hx) | decide | intro hx | (refine Exists.intro _ (And.intro rfl ?_)) | (refine Exists.intro W (Exists.intro V (And.intro hl (And.intro w60 ?_)))))
                      all_goals try first | (with_reducible change am_tI _ _) | (change Ret _ _) | (change Ret _ _ _) | (change Exists _)
                      all_goals try dsimp only at *
                      all_goals try (with_reducible exact absurd ‹(1000 : Int64) = 0› am_z1000)
                      all_goals first
                        | (left; rfl)
                        | exact absurd q8 (by with_reducible assumption)
                        | exact h0 _ hw.symm _ (hk.w14) (by rw [am_wI_self]; exact f3)
                        | skip
                    · rw [if_neg z8] at hw
                      have q8 : ¬ Int32.ofNat (w_opn W) = 8 := fun q => z8 (by
                        have e := congrArg Int32.toInt q
                        rw [i_nat (by omega)] at e
                        simp only [Int32.reduceToInt] at e
                        omega)
                      repeat' (first | (with_reducible exact x1) | (with_reducible exact x2) | (with_reducible exact hx1) | (with_reducible exact hx2) | (with_reducible exact u120) | (with_reducible exact hmn) | apply And.intro | exact rfl | (intro hx; with_reducible exact absurd hx hz) | (intro hx; with_reducible exact absurd hx z32) | (intro hx; with_reducible exact absurd qd hx) | (intro hx; with_reducible exact absurd zf hx) | (intro hx; with_reducible exact absurd z40 hx) | (intro hx; exact absurd hx (by decide)) | (intro hx; exact absurd (by decide) hx) | decide | intro hx | (refine Exists.intro _ (And.intro rfl ?_)) | (refine Exists.intro W (Exists.intro V (And.intro hl (And.intro w60 ?_)))))
                      all_goals try first | (with_reducible change am_tI _ _) | (change Ret _ _) | (change Ret _ _ _) | (change Exists _)
                      all_goals try dsimp only at *
                      all_goals try (with_reducible exact absurd ‹(1000 : Int64) = 0› am_z1000)
                      all_goals first
                        | (left; rfl)
                        | exact absurd (by with_reducible assumption) q8
                        | exact ⟨_, am_lt_l (by omega), _, _, _, rfl, rfl, rfl, nx _ 1 _ _ (Or.inr rfl) (hl.push (by omega)) (by show _ = r_wt 40 + w_ws W + 0; rw [show r_wt 40 = 0 by decide]; omega) (by simp only [List.length_cons]; omega) (by omega) (hk.tr ((r_wg.rf.w204).w11).h) hw⟩
                        | skip
                  · have zs40 : r_sg M0 pl i.toNatClampNeg ≠ 40 := fun q => z40 (es.trans q)
                    by_cases z33 : M.1 201 (3258 + 50 * pl + i).toNatClampNeg = 33
                    · have zs : r_sg M0 pl i.toNatClampNeg = 33 := es.symm.trans z33
                      rw [ws_u zs (Or.inl rfl) hin, if_pos rfl] at hw
                      repeat' (first | (with_reducible exact x1) | (with_reducible exact x2) | (with_reducible exact hx1) | (with_reducible exact hx2) | (with_reducible exact hmn) | apply And.intro | exact rfl | (intro hx; with_reducible exact absurd hx hz) | (intro hx; with_reducible exact absurd hx z32) | (intro hx; with_reducible exact absurd hx z40) | (intro hx; with_reducible exact absurd qd hx) | (intro hx; with_reducible exact absurd zf hx) | (intro hx; with_reducible exact absurd z33 hx) | (intro hx; exact absurd hx (by decide)) | (intro hx; exact absurd (by decide) hx) | decide | intro hx | (refine Exists.intro _ (And.intro rfl ?_)))
                      all_goals try first | (with_reducible change am_tI _ _) | (change Ret _ _) | (change Ret _ _ _) | (change Exists _)
                      all_goals try dsimp only at *
                      all_goals try (with_reducible exact absurd ‹(1000 : Int64) = 0› am_z1000)
                      all_goals exact ⟨_, am_lt_l (by omega), _, _, _, rfl, rfl, rfl, nx _ 1 _ _ (Or.inr rfl) (hl.push (by omega)) (by show _ = r_wt 1 + w_ws W + 0; rw [show r_wt 1 = 0 by decide]; omega) (by simp only [List.length_cons]; omega) (by omega) (hk.tr ((r_wg.rf.w204).w11).h) hw⟩
                    · by_cases z45 : M.1 201 (3258 + 50 * pl + i).toNatClampNeg = 45
                      · have zs : r_sg M0 pl i.toNatClampNeg = 45 := es.symm.trans z45
                        rw [ws_u zs (Or.inr rfl) hin, if_neg (by decide)] at hw
                        repeat' (first | (with_reducible exact x1) | (with_reducible exact x2) | (with_reducible exact hx1) | (with_reducible exact hx2) | (with_reducible exact hmn) | apply And.intro | exact rfl | (intro hx; with_reducible exact absurd hx hz) | (intro hx; with_reducible exact absurd hx z32) | (intro hx; with_reducible exact absurd hx z40) | (intro hx; with_reducible exact absurd hx z33) | (intro hx; with_reducible exact absurd qd hx) | (intro hx; with_reducible exact absurd zf hx) | (intro hx; with_reducible exact absurd z45 hx) | (intro hx; exact absurd hx (by decide)) | (intro hx; exact absurd (by decide) hx) | decide | intro hx | (refine Exists.intro _ (And.intro rfl ?_)))
                        all_goals try first | (with_reducible change am_tI _ _) | (change Ret _ _) | (change Ret _ _ _) | (change Exists _)
                        all_goals try dsimp only at *
                        all_goals try (with_reducible exact absurd ‹(1000 : Int64) = 0› am_z1000)
                        all_goals exact ⟨_, am_lt_l (by omega), _, _, _, rfl, rfl, rfl, nx _ 1 _ _ (Or.inr rfl) (hl.push (by omega)) (by show _ = r_wt 2 + w_ws W + 0; rw [show r_wt 2 = 0 by decide]; omega) (by simp only [List.length_cons]; omega) (by omega) (hk.tr ((r_wg.rf.w204).w11).h) hw⟩
                      · rw [ws_x zs32 dg zf2 zs40 (fun q => z33 (es.trans q)) (fun q => z45 (es.trans q)) hin, show ((i.toNatClampNeg : Nat) : Int) = i.toInt from ci] at hw
                        repeat' (first | (with_reducible exact x1) | (with_reducible exact x2) | (with_reducible exact hmn) | apply And.intro | exact rfl | (intro hx; with_reducible exact absurd hx hz) | (intro hx; with_reducible exact absurd hx z32) | (intro hx; with_reducible exact absurd hx z40) | (intro hx; with_reducible exact absurd hx z33) | (intro hx; with_reducible exact absurd hx z45) | (intro hx; with_reducible exact absurd qd hx) | (intro hx; with_reducible exact absurd zf hx) | (intro hx; exact absurd hx (by decide)) | (intro hx; exact absurd (by decide) hx) | decide | intro hx | (refine Exists.intro _ (And.intro rfl ?_)))
                        all_goals try first | (with_reducible change am_tI _ _) | (change Ret _ _) | (change Ret _ _ _) | (change Exists _)
                        all_goals try dsimp only at *
                        all_goals try (with_reducible exact absurd ‹(1000 : Int64) = 0› am_z1000)
                        all_goals first
                          | (left; rfl)
                          | exact h0 _ hw.symm _ (hk.w14) (by rw [am_wI_self]; exact f1)
                          | skip
                · have zf2 := zf
                  simp only [i_lt, Int32.reduceToInt] at zf2
                  have hf := r_fact_in (M.1 201 (3258 + 50 * pl + i).toNatClampNeg)
                  have y1 : 0 ≤ (r_fact (M.1 201 (3258 + 50 * pl + i).toNatClampNeg)).toInt := by omega
                  have y2 : (r_fact (M.1 201 (3258 + 50 * pl + i).toNatClampNeg)).toInt < (am_len 206 : Int) := by rw [l206]; omega
                  have fv : M.2 206 (r_fact (M.1 201 (3258 + 50 * pl + i).toNatClampNeg)).toNatClampNeg = r_fa M0 (r_sg M0 pl i.toNatClampNeg) := by
                    rw [es]
                    exact congrFun hk.f (r_sg M0 pl i.toNatClampNeg)
                  rw [ws_l (by rw [← es]; exact y1) hin, ← fv] at hw
                  obtain ⟨q1, q2, q3⟩ := w_lay_ws (x := M.2 206 (r_fact (M.1 201 (3258 + 50 * pl + i).toNatClampNeg)).toNatClampNeg) (show V.length = w_ws W by omega)
                  repeat' (first | (with_reducible exact x1) | (with_reducible exact x2) | (with_reducible exact y1) | (with_reducible exact y2) | (with_reducible exact hmn) | apply And.intro | exact rfl | (intro hx; with_reducible exact absurd hx hz) | (intro hx; with_reducible exact absurd hx z32) | (intro hx; with_reducible exact absurd hx zf) | (intro hx; with_reducible exact absurd qd hx) | (intro hx; exact absurd hx (by decide)) | (intro hx; exact absurd (by decide) hx) | decide | intro hx | (refine Exists.intro _ (And.intro rfl ?_)) | (refine r_cl_in hl ⟨d1', by omega, by omega⟩ ⟨by omega, fun M1 c1 k1 => ?_⟩))
                  all_goals try first | (with_reducible change am_tI _ _) | (change Ret _ _) | (change Ret _ _ _) | (change Exists _)
                  all_goals try dsimp only at *
                  all_goals try (with_reducible exact absurd ‹(1000 : Int64) = 0› am_z1000)
                  all_goals exact ⟨_, am_lt_l (by omega), _, _, _, rfl, rfl, rfl, nx _ 0 _ _ (Or.inl rfl) k1 q1 (by omega) (by omega) (hk.tr c1.h) hw⟩
      · cases hI
        obtain ⟨m, i, f, v, rfl, rfl, rfl, W, V, u, ⟨hm, g1, g2, g3⟩, ⟨e1, e2, e3⟩, ⟨v1, v2⟩, ⟨dg, ed⟩, hl, ⟨d1, d2, d3⟩, hk, hw⟩ := hi
        have hi := i_inc (x := i) (by omega) (by omega)
        have ci := i_clamp (x := i) (by omega)
        have cf := i_clamp g1
        have hmn' : (r_sn M0 pl : Int) = m.toInt := by rw [hm]; exact en
        have hfn : f.toNatClampNeg < r_sn M0 pl := by omega
        have hv6 : (10 ^ u : Nat) ≤ 1000000 := Nat.le_trans (Nat.pow_le_pow_right (by decide) e2) (by decide)
        obtain ⟨ec, es⟩ := r_sg_at (i := i) hk hp ⟨by omega, by omega⟩
        have done : f.toInt < i.toInt → ¬ (i.toNatClampNeg < r_sn M0 pl ∧ w_dgt (r_sg M0 pl i.toNatClampNeg) = true) → ∀ M1, r_wg M M1 → r_ls M1 (w_lay W v V).1 (w_lay W v V).2 → r_36E M0 M1 pl m 0 i := fun fi hno M1 c1 k1 => by
          have e5 : w_dig (r_sg M0 pl) (r_sn M0 pl) 8 f.toNatClampNeg 0 0 = some (i.toNatClampNeg, v.toInt) := by
            rw [← ed, show 8 - u = (7 - u) + 1 by omega]
            exact w_dig_n hno
          rw [ws_d dg hfn e5, l_of] at hw
          obtain ⟨q1, q2, q3⟩ := w_lay_ws (x := v) d1
          exact ⟨_, _, ⟨hm, by omega, e3, g3⟩, Or.inl rfl, k1, ⟨q1, by omega, by omega⟩, hk.tr c1.h, hw⟩
        by_cases hz : m ≤ i
        · have hz2 := hz
          simp only [i_le] at hz2
          repeat' (first | (with_reducible exact hmn) | apply And.intro | exact rfl | (intro hx; with_reducible exact absurd hz hx) | (intro hx; exact absurd hx (by decide)) | (intro hx; exact absurd (by decide) hx) | decide | intro hx | (refine Exists.intro _ (And.intro rfl ?_)) | (refine r_cl_in hl ⟨by omega, by omega, by omega⟩ ⟨by omega, fun M1 c1 k1 => ?_⟩))
          all_goals try first | (with_reducible change am_tI _ _) | (change Ret _ _) | (change Ret _ _ _) | (change Exists _)
          all_goals try dsimp only at *
          all_goals try (with_reducible exact absurd ‹(1000 : Int64) = 0› am_z1000)
          all_goals exact ⟨_, am_lt_l (by omega), _, _, _, rfl, rfl, rfl, done (by omega) (fun q => by have := q.1; omega) M1 c1 k1⟩
        · have hz2 := hz
          simp only [i_le] at hz2
          have x1 : 0 ≤ (3258 + 50 * pl + i).toInt := by omega
          have x2 : (3258 + 50 * pl + i).toInt < (am_len 201 : Int) := by rw [l201]; omega
          have hin : i.toNatClampNeg < r_sn M0 pl := by omega
          have eif := i_sub (x := i) (y := f) (by omega) (by omega)
          by_cases zd : (48 : Int64) ≤ (M.1 201 (3258 + 50 * pl + i).toNatClampNeg).toInt64 ∧ (M.1 201 (3258 + 50 * pl + i).toNatClampNeg).toInt64 ≤ (57 : Int64)
          · have qd : ¬ ((if (48 : Int64) ≤ (M.1 201 (3258 + 50 * pl + i).toNatClampNeg).toInt64 ∧ (M.1 201 (3258 + 50 * pl + i).toNatClampNeg).toInt64 ≤ (57 : Int64) then (1 : Int32) else 0) = 0) := by rw [if_pos zd]; decide
            have dgi : w_dgt (r_sg M0 pl i.toNatClampNeg) = true := by rw [← es]; exact r_dgt.mp zd
            by_cases z6 : i - f = 6
            · have u6 : u = 6 := by
                have e := congrArg Int32.toInt z6
                rw [eif] at e
                simp only [Int32.reduceToInt] at e
                omega
              subst u6
              have e5 : w_dig (r_sg M0 pl) (r_sn M0 pl) 8 f.toNatClampNeg 0 0 = none := by
                rw [← ed]
                exact w_dig_f ⟨hin, dgi⟩
              rw [ws_df dg hfn e5, show ((f.toNatClampNeg : Nat) : Int) = f.toInt from cf] at hw
              have f2 := f10 (i := f) (k := 2) ⟨g1, by omega⟩ ⟨by decide, by decide⟩
              simp only [Int32.reduceToInt] at f2
              repeat' (first | (with_reducible exact x1) | (with_reducible exact x2) | (with_reducible exact hmn) | apply And.intro | exact rfl | (intro hx; with_reducible exact absurd hx hz) | (intro hx; with_reducible exact absurd hx qd) | (intro hx; with_reducible exact absurd z6 hx) | (intro hx; exact absurd hx (by decide)) | (intro hx; exact absurd (by decide) hx) | decide | intro hx | (refine Exists.intro _ (And.intro rfl ?_)))
              all_goals try first | (with_reducible change am_tI _ _) | (change Ret _ _) | (change Ret _ _ _) | (change Exists _)
              all_goals try dsimp only at *
              all_goals try (with_reducible exact absurd ‹(1000 : Int64) = 0› am_z1000)
              all_goals first
                | (left; rfl)
                | exact h0 _ hw.symm _ (hk.w14) (by rw [am_wI_self]; exact f2)
                | skip
            · have u6 : u ≠ 6 := fun q => z6 (by rw [i_eq, eif]; simp only [Int32.reduceToInt]; omega)
              have d1' := of_decide_eq_true dgi
              rw [← es] at d1'
              have cs := Int32.toInt_toInt64 (M.1 201 (3258 + 50 * pl + i).toNatClampNeg)
              have t10 : (10 : Int64).toInt = 10 := rfl
              have t48 : (48 : Int64).toInt = 48 := rfl
              have m1 := l_mul (x := 10) (y := v) (by rw [t10]; omega) (by rw [t10]; omega)
              rw [t10] at m1
              have m2 := l_add (x := 10 * v) (y := (M.1 201 (3258 + 50 * pl + i).toNatClampNeg).toInt64) (by rw [cs]; omega) (by rw [cs]; omega)
              have m3 := l_sub (x := 10 * v + (M.1 201 (3258 + 50 * pl + i).toNatClampNeg).toInt64) (y := 48) (by rw [t48, m2, cs]; omega) (by rw [t48, m2, cs]; omega)
              rw [t48, m2, cs] at m3
              have pw : (10 ^ (u + 1) : Nat) = 10 * 10 ^ u := by rw [Nat.pow_succ, Nat.mul_comm]
              have ci1 := i_clamp (x := i + 1) (by omega)
              have e5 : w_dig (r_sg M0 pl) (r_sn M0 pl) (8 - (u + 1)) (i + 1).toNatClampNeg (u + 1) (10 * v + (M.1 201 (3258 + 50 * pl + i).toNatClampNeg).toInt64 - 48).toInt = w_dig (r_sg M0 pl) (r_sn M0 pl) 8 f.toNatClampNeg 0 0 := by
                rw [← ed, show 8 - u = (8 - (u + 1)) + 1 by omega, w_dig_s ⟨hin, dgi⟩ u6, show (i + 1).toNatClampNeg = i.toNatClampNeg + 1 by omega, ← es]
                congr 1
                omega
              repeat' (first | (with_reducible exact x1) | (with_reducible exact x2) | (with_reducible exact hmn) | apply And.intro | exact rfl | (intro hx; with_reducible exact absurd hx hz) | (intro hx; with_reducible exact absurd hx qd) | (intro hx; with_reducible exact absurd hx z6) | (intro hx; exact absurd hx (by decide)) | (intro hx; exact absurd (by decide) hx) | decide | intro hx | (refine Exists.intro _ (And.intro rfl ?_)))
              all_goals try first | (with_reducible change am_tI _ _) | (change Ret _ _) | (change Ret _ _ _) | (change Exists _)
              all_goals try dsimp only at *
              all_goals try (with_reducible exact absurd ‹(1000 : Int64) = 0› am_z1000)
              all_goals first
                | exact ⟨_, am_lt_r (by omega), _, _, _, _, rfl, rfl, rfl, W, V, u + 1, ⟨hm, g1, g2, g3⟩, ⟨by omega, by omega, by omega⟩, ⟨by omega, by rw [pw]; omega⟩, ⟨dg, e5⟩, hl, ⟨d1, d2, d3⟩, hk, hw⟩
                | skip
          · have qd : (if (48 : Int64) ≤ (M.1 201 (3258 + 50 * pl + i).toNatClampNeg).toInt64 ∧ (M.1 201 (3258 + 50 * pl + i).toNatClampNeg).toInt64 ≤ (57 : Int64) then (1 : Int32) else 0) = 0 := if_neg zd
            have dgi : ¬ w_dgt (r_sg M0 pl i.toNatClampNeg) = true := fun q => zd (r_dgt.mpr (by rw [es]; exact q))
            have fi : f.toInt < i.toInt := by
              rcases Nat.eq_zero_or_pos u with z | z
              · subst z
                exact absurd (show w_dgt (r_sg M0 pl i.toNatClampNeg) = true by rw [show i.toNatClampNeg = f.toNatClampNeg by omega]; exact dg) dgi
              · omega
            repeat' (first | (with_reducible exact x1) | (with_reducible exact x2) | (with_reducible exact hmn) | apply And.intro | exact rfl | (intro hx; with_reducible exact absurd hx hz) | (intro hx; with_reducible exact absurd qd hx) | (intro hx; exact absurd hx (by decide)) | (intro hx; exact absurd (by decide) hx) | decide | intro hx | (refine Exists.intro _ (And.intro rfl ?_)) | (refine r_cl_in hl ⟨by omega, by omega, by omega⟩ ⟨by omega, fun M1 c1 k1 => ?_⟩))
            all_goals try first | (with_reducible change am_tI _ _) | (change Ret _ _) | (change Ret _ _ _) | (change Exists _)
            all_goals try dsimp only at *
            all_goals try (with_reducible exact absurd ‹(1000 : Int64) = 0› am_z1000)
            all_goals exact ⟨_, am_lt_l (by omega), _, _, _, rfl, rfl, rfl, done fi (fun q => dgi q.2) M1 c1 k1⟩
      · cases hI
        obtain ⟨m, du, rfl, rfl, rfl, -, ⟨hm, g1, g3⟩, hdu, hk, k1, k0⟩ := hi
        have f1 := f10 (i := m) (k := 1) ⟨g1, g3⟩ ⟨by decide, by decide⟩
        simp only [Int32.reduceToInt] at f1
        have o11 : ∀ v, (am_wI M 200 14 v).1 200 11 = M.1 200 11 := fun v => by rw [am_wI_1, if_neg (fun q => absurd q.2 (by decide))]
        rcases hdu with rfl | rfl
        · obtain ⟨W, V, hl, ⟨w60, v60⟩, hw, hv⟩ := k0 rfl
          have a := hl.a
          by_cases z : (am_wI M 200 14 (10 * m + 1)).1 200 11 = 0
          · have z2 := z
            rw [o11] at z2
            rw [z2] at a
            simp only [Int32.reduceToInt] at a
            cases W with
            | cons c W => simp only [List.length_cons] at a; omega
            | nil =>
              cases V with
              | nil => simp only [List.length_nil] at hv; omega
              | cons v V =>
                have hv2 : V.length + 1 = 0 + 1 := hv
                have hd := hl.d.1
                rw [show V.length = 0 by omega] at hd
                have hh := h1 v hw (am_wI M 200 14 (10 * m + 1)) (hk.w14) hd
                repeat' (first | (with_reducible exact hmn) | apply And.intro | exact rfl | (intro hx; with_reducible exact absurd z hx) | (intro hx; exact absurd hx (by decide)) | (intro hx; exact absurd (by decide) hx) | decide | intro hx | (refine Exists.intro _ (And.intro rfl ?_)))
                all_goals try first | (with_reducible change am_tI _ _) | (change Ret _ _) | (change Ret _ _ _) | (change Exists _)
                all_goals try dsimp only at *
                all_goals try (with_reducible exact absurd ‹(1000 : Int64) = 0› am_z1000)
                all_goals first
                  | (right; rfl)
                  | (with_reducible exact hh)
                  | exact hh
                  | skip
          · have hw2 : r_wr M0 pl = .inr (10 * m.toInt + 1) := by
              cases W with
              | nil => exact absurd (show M.1 200 11 = 0 by rw [i_eq, a]; rfl) (fun q => z ((o11 _).trans q))
              | cons c W => exact hw
            have hh := h0 _ hw2 (am_wI M 200 14 (10 * m + 1)) (hk.w14) (by rw [am_wI_self]; exact f1)
            repeat' (first | (with_reducible exact hmn) | apply And.intro | exact rfl | (intro hx; with_reducible exact absurd hx z) | (intro hx; exact absurd hx (by decide)) | (intro hx; exact absurd (by decide) hx) | decide | intro hx | (refine Exists.intro _ (And.intro rfl ?_)))
            all_goals try first | (with_reducible change am_tI _ _) | (change Ret _ _) | (change Ret _ _ _) | (change Exists _)
            all_goals try dsimp only at *
            all_goals try (with_reducible exact absurd ‹(1000 : Int64) = 0› am_z1000)
            all_goals first
              | (left; rfl)
              | (with_reducible exact hh)
              | exact hh
              | skip
        · have hh := h0 _ (k1 rfl) (am_wI M 200 14 (10 * m + 1)) (hk.w14) (by rw [am_wI_self]; exact f1)
          repeat' (first | (with_reducible exact hmn) | apply And.intro | exact rfl | (intro hx; exact absurd hx (by decide)) | (intro hx; exact absurd (by decide) hx) | decide | intro hx | (refine Exists.intro _ (And.intro rfl ?_)))
          all_goals try first | (with_reducible change am_tI _ _) | (change Ret _ _) | (change Ret _ _ _) | (change Exists _)
          all_goals try dsimp only at *
          all_goals try (with_reducible exact absurd ‹(1000 : Int64) = 0› am_z1000)
          all_goals first
            | (left; rfl)
            | (with_reducible exact hh)
            | exact hh
            | skip
      · cases hI
    · exact h.elim
def kX8_faultE (live : am_E) (Ret : am_R) : am_code := [(0, am_iload 1 1), (1, am_callS live 1 TX8_isPlan 4), (4, am_if1 (fun x => x = 0) 7 10), (7, am_const (.int (-2)) 9), (9, am_retI Ret), (10, am_aload 0 11), (11, am_iload 1 12), (12, am_callV live 8 1 TE8_work 15), (15, am_if1 (fun x => x = 0) 22 18), (18, am_const (.int (-1)) 19), (19, am_goto 26), (22, am_aload 0 23), (23, am_getI live 8 14 26), (26, am_retI Ret)]
theorem koX8_faultE (live : am_E) (Ret : am_R) : ∀ q ∈ kX8_faultE live Ret, am_ok RX8 cX8_fault 2 (some .int) 6 135 live Ret q.1 q.2 :=
  am_kz dzX8_fault <|
  am_kd (fun d => ak_iload_n d rfl rfl) <|
  am_kd (fun d => ak_callS metX8_isPlan ⟨rfl, hy_X8_isPlan⟩ (am_w4 wd_1034 wd_1035 wd_67 wd_1036) (by decide) d rfl) <|
  am_kd (fun d => ak_if_ne d (by decide +kernel) rfl) <|
  am_kd (fun d => ak_bipush d (by decide +kernel) rfl) <|
  am_kd (fun d => ak_retI d) <|
  am_kd (fun d => ak_aload_n d rfl rfl) <|
  am_kd (fun d => ak_iload_n d rfl rfl) <|
  am_kd (fun d => ak_callV (C := RX8) (F := TX8) (N := 27) metX8_workE rfl ⟨rfl, hy_X8_work⟩ (am_w5 wd_1102 wd_1104 wd_33 wd_67 wd_1105) (by decide) d rfl) <|
  am_kd (fun d => ak_if_eq d (by decide +kernel) rfl) <|
  am_kd (fun d => ak_iconst d (by decide +kernel) rfl) <|
  am_kd (fun d => ak_goto d (by decide +kernel)) <|
  am_kd (fun d => ak_aload_n d rfl rfl) <|
  am_kd (fun d => ak_getI (C := RX8) (T := TX8) (N := 27) rfl inX8w (by decide) rfl rfl rfl wd_909 d rfl) <|
  am_kd (fun d => ak_retI d) <| am_kdn
def TE8_fault : am_T := fun live as M R => match as with
  | [.ref n, .int pl] => am_mn live ∧ n = 200 ∧ r_I M ∧ (¬ (0 ≤ pl ∧ pl < 5) → R (some (.int (-2))) M) ∧ ((0 ≤ pl ∧ pl < 5) → (∀ x, r_wr M pl = .inl x → ∀ M', r_wh M M' → R (some (.int (-1))) M') ∧ (∀ (v : Int32), r_wr M pl = .inr v.toInt → ∀ M', r_wh M M' → R (some (.int v)) M'))
  | _ => False
set_option maxRecDepth 100000 in
set_option maxHeartbeats 4000000 in
theorem metX8_faultE : am_Met yX8_fault cX8_fault 2 (some .int) (6) (135) TE8_fault := by
  refine am_met (own := RX8) (by decide +kernel) rfl kX8_faultE koX8_faultE 100 (fun _ _ _ _ _ => none) (fun live as M Ret h => ?_) (fun _ _ _ _ _ _ _ _ hI => by cases hI)
  unfold TE8_fault at h
  split at h
  · next n pl =>
    refine ⟨Nat.le_of_ble_eq_true rfl, ?_⟩
    change am_wp _ _ _ _ [(0, Value.ref n), (1, Value.int pl)] _ _
    obtain ⟨hmn, rfl, hR, hno, h⟩ := h
    have hmn2 := hmn
    obtain ⟨i1, i2, rfl⟩ := hmn2
    by_cases z0 : 0 ≤ pl ∧ pl < 5
    · have q0 : ¬ ((if 0 ≤ pl ∧ pl < 5 then (1 : Int32) else 0) = 0) := by rw [if_pos z0]; decide
      have hp : am_in pl 5 := ⟨by have q := z0.1; simp only [i_le, Int32.reduceToInt] at q; omega, by have q := z0.2; simp only [i_lt, Int32.reduceToInt] at q; omega⟩
      obtain ⟨h1, h0⟩ := h z0
      repeat' (first | (with_reducible exact hmn) | (with_reducible exact hp) | (with_reducible exact hR) | apply And.intro | exact rfl | (intro hx; with_reducible exact absurd hx q0) | (intro hx; exact absurd hx (by decide)) | (intro hx; exact absurd (by decide) hx) | decide | intro hx | (refine Exists.intro _ (And.intro rfl ?_)))
      all_goals try first | (with_reducible change am_tI _ _) | (change Ret _ _) | (change Ret _ _ _) | (change Exists _)
      all_goals try dsimp only at *
      all_goals try (with_reducible exact absurd ‹(1000 : Int64) = 0› am_z1000)
      all_goals first
        | exact h1 _ (by with_reducible assumption) _ (by with_reducible assumption)
        | (rename_i f hf M1 c1 e
           exact h0 _ (hf.trans (congrArg Sum.inr e.symm)) _ c1)
        | skip
    · have q0 : (if 0 ≤ pl ∧ pl < 5 then (1 : Int32) else 0) = 0 := if_neg z0
      have h := hno z0
      repeat' (first | (with_reducible exact hmn) | apply And.intro | exact rfl | (intro hx; with_reducible exact absurd q0 hx) | (intro hx; exact absurd hx (by decide)) | (intro hx; exact absurd (by decide) hx) | decide | intro hx | (refine Exists.intro _ (And.intro rfl ?_)))
      all_goals try first | (with_reducible change am_tI _ _) | (change Ret _ _) | (change Ret _ _ _) | (change Exists _)
      all_goals try dsimp only at *
      all_goals try (with_reducible exact absurd ‹(1000 : Int64) = 0› am_z1000)
      all_goals exact h
  · exact h.elim
end
-- part 79n.lx.lean.txt
section
/-! texts between calls: what stands in a text is what its signs mean -/
theorem LI.sg {i1 i2 : Bool} {M : am_M} (h : LI i1 i2 M) {t : Nat} (ht : t < 5) : x_sg (39 + 3 * t) (39 + 3 * t + 1) M := ⟨(), fun j hj => by
  have hv := h.e (rl_c_tx t ht).1 (k := 0) (by decide)
  rw [show 20 + (19 + 3 * t) = 39 + 3 * t by omega, show 3508 + t + 0 = 3508 + t by omega] at hv
  have hv : M.1 (39 + 3 * t) 5 = M.1 201 (3508 + t) := hv
  have q := (h.v (k := 3508 + t) (by omega)).a29 (by omega)
  rw [← hv] at q
  have e := h.e (rl_c_tx t ht).2 (k := j) (by omega)
  rw [show 20 + (20 + 3 * t) = 39 + 3 * t + 1 by omega, Nat.zero_add] at e
  rw [e]
  exact ((h.v (k := 3258 + 50 * t + j) (by omega)).a28 (by omega)).1⟩
def t_b (M : am_M) (b : Nat) : Prop := ∃ _ : Unit, ∀ t, t < 5 → tx_ok (b + (19 + 3 * t)) (b + (20 + 3 * t)) (b + (21 + 3 * t)) M
theorem t_b.v {M : am_M} {b : Nat} (h : t_b M b) {t : Nat} (ht : t < 5) : tx_ok (b + (19 + 3 * t)) (b + (20 + 3 * t)) (b + (21 + 3 * t)) M := by obtain ⟨-, h⟩ := h; exact h t ht
def LX (i1 i2 : Bool) (M : am_M) : Prop := ∃ _ : Unit, LI i1 i2 M ∧ t_b M 20 ∧ (i1 = true → t_b M 60) ∧ (i2 = true → t_b M 100)
def x_tb (a : Nat) : Bool := (Nat.ble 39 a && Nat.ble a 53) || (Nat.ble 79 a && Nat.ble a 93) || (Nat.ble 119 a && Nat.ble a 133)
theorem x_tb_of {a : Nat} (h : (39 ≤ a ∧ a ≤ 53) ∨ (79 ≤ a ∧ a ≤ 93) ∨ (119 ≤ a ∧ a ≤ 133)) : x_tb a = true := by
  unfold x_tb
  rw [Bool.or_eq_true, Bool.or_eq_true, Bool.and_eq_true, Bool.and_eq_true, Bool.and_eq_true, Nat.ble_eq, Nat.ble_eq, Nat.ble_eq, Nat.ble_eq, Nat.ble_eq, Nat.ble_eq]
  omega
theorem x_tb_lt {a : Nat} (h : x_tb a = true) : 39 ≤ a ∧ a ≤ 133 := by
  unfold x_tb at h
  rw [Bool.or_eq_true, Bool.or_eq_true, Bool.and_eq_true, Bool.and_eq_true, Bool.and_eq_true, Nat.ble_eq, Nat.ble_eq, Nat.ble_eq, Nat.ble_eq, Nat.ble_eq, Nat.ble_eq] at h
  omega
/-- the texts stay -/
def x_kt (M N : am_M) : Prop := ∃ _ : Unit, ∀ a k, x_tb a = true → N.1 a k = M.1 a k
theorem x_kt.v {M N : am_M} (h : x_kt M N) {a k : Nat} (ha : x_tb a = true) : N.1 a k = M.1 a k := by obtain ⟨-, h⟩ := h; exact h a k ha
theorem x_kt.rf {M : am_M} : x_kt M M := ⟨(), fun _ _ _ => rfl⟩
theorem x_kt.tr {M N K : am_M} (h : x_kt M N) (h2 : x_kt N K) : x_kt M K := ⟨(), fun a k z => (h2.v z).trans (h.v z)⟩
theorem x_kt.wI {M N : am_M} {n k : Nat} {v : Int32} (h : x_kt M N) (hn : x_tb n = false) : x_kt M (am_wI N n k v) := ⟨(), fun a j z => by
  rw [am_wI_1, if_neg (fun q => by rw [q.1, hn] at z; cases z)]
  exact h.v z⟩
theorem x_kt.cI {M N : am_M} {n : Nat} {f : Nat → Int32} (h : x_kt M N) (hn : x_tb n = false) : x_kt M (am_cI N n f) := ⟨(), fun a j z => by
  rw [am_cI_1, if_neg (fun q => by rw [q, hn] at z; cases z)]
  exact h.v z⟩
theorem x_kt.lay {M N : am_M} {n : Nat} {lo hi : Int} {v : Int32} (h : x_kt M N) (hn : x_tb n = false) : x_kt M (am_lay N n lo hi v) := ⟨(), fun a j z => by
  rw [am_lay_1, if_neg (fun q => by rw [q.1, hn] at z; cases z)]
  exact h.v z⟩
theorem x_kt.rput {M N : am_M} {r c : Nat} {x y v : Int32} (h : x_kt M N) (hn : x_tb c = false) : x_kt M (am_rput N r c x y v) := ⟨(), fun a j z => by
  unfold am_rput
  rw [am_wIc_1, if_neg (fun q => by rw [q.2.1, hn] at z; cases z)]
  exact h.v z⟩
theorem x_kt.radd {M N : am_M} {r c : Nat} {x y v : Int32} (h : x_kt M N) (hn : x_tb c = false) (hr : x_tb r = false) : x_kt M (am_radd N r c x y v) := by
  unfold am_radd
  exact (((h.rput hn).rput hn).rput hn).wI hr
section LXS
variable {i1 i2 : Bool} {M : am_M}
theorem LX.li (h : LX i1 i2 M) : LI i1 i2 M := by obtain ⟨-, h, -⟩ := h; exact h
theorem LX.t0 (h : LX i1 i2 M) : t_b M 20 := by obtain ⟨-, -, h, -⟩ := h; exact h
theorem LX.t1 (h : LX true i2 M) : t_b M 60 := by obtain ⟨-, -, -, h, -⟩ := h; exact h rfl
theorem LX.t2 (h : LX i1 true M) : t_b M 100 := by obtain ⟨-, -, -, -, h⟩ := h; exact h rfl
theorem t_b.cg {N : am_M} {b b' : Nat} (h : t_b M b) (e : ∀ u k, 19 ≤ u → u ≤ 33 → ((∃ t, t < 5 ∧ u = 19 + 3 * t ∧ (k = 5 ∨ k = 6 ∨ k = 2)) ∨ (∃ t, t < 5 ∧ (u = 20 + 3 * t ∨ u = 21 + 3 * t) ∧ k < 50)) → N.1 (b' + u) k = M.1 (b + u) k) (h5 : ∀ t, t < 5 → (M.1 (b + (19 + 3 * t)) 5).toInt ≤ 50 ∧ (M.1 (b + (19 + 3 * t)) 2).toInt ≤ 50) : t_b N b' := ⟨(), fun t ht => (h.v ht).cg (e _ _ (by omega) (by omega) (Or.inl ⟨t, ht, rfl, Or.inl rfl⟩)) (e _ _ (by omega) (by omega) (Or.inl ⟨t, ht, rfl, Or.inr (Or.inl rfl)⟩)) (e _ _ (by omega) (by omega) (Or.inl ⟨t, ht, rfl, Or.inr (Or.inr rfl)⟩)) (fun j hj => e _ _ (by omega) (by omega) (Or.inr ⟨t, ht, Or.inl rfl, by
    have q := (h5 t ht).1
    have hj : j < (M.1 (b + (19 + 3 * t)) 5).toInt.toNat := hj
    omega⟩)) (fun j hj => e _ _ (by omega) (by omega) (Or.inr ⟨t, ht, Or.inr rfl, by
    have q := (h5 t ht).2
    have hj : j < (M.1 (b + (19 + 3 * t)) 2).toInt.toNat := hj
    omega⟩))⟩
theorem t_b.kt {N : am_M} {b : Nat} (h : t_b M b) (hb : b = 20 ∨ b = 60 ∨ b = 100) (k : x_kt M N) : t_b N b := ⟨(), fun t ht => (h.v ht).cg (k.v (x_tb_of (by omega))) (k.v (x_tb_of (by omega))) (k.v (x_tb_of (by omega))) (fun j _ => k.v (x_tb_of (by omega))) (fun j _ => k.v (x_tb_of (by omega)))⟩
theorem LX.mv (h : LX i1 i2 M) {F : am_M} (hl : LI i1 i2 F) (k : x_kt M F) : LX i1 i2 F := by
  obtain ⟨-, -, h0, h1, h2⟩ := h
  exact ⟨(), hl, h0.kt (Or.inl rfl) k, fun z => (h1 z).kt (Or.inr (Or.inl rfl)) k, fun z => (h2 z).kt (Or.inr (Or.inr rfl)) k⟩
theorem LX.sc (h : LX i1 i2 M) {N : am_M} (c : g_sc M N) (hg : g_rI N) : LX i1 i2 N := h.mv (h.li.sc c hg) ⟨(), fun a k z => c.i k (by have := x_tb_lt z; omega)⟩
theorem LX.gv (h : LX i1 i2 M) {N : am_M} (c : g_sv M N) (hg : g_rI N) : LX i1 i2 N := h.mv (h.li.gv c hg) (by
  obtain ⟨-, c⟩ := c
  exact ⟨(), fun a k z => (c a k (by have := x_tb_lt z; omega)).1⟩)
theorem LX.sa (h : LX i1 i2 M) {N : am_M} (c : g_sa M N) (hg : g_rI N) : LX i1 i2 N := h.mv (h.li.sa c hg) (by
  obtain ⟨-, c⟩ := c
  exact ⟨(), fun a k z => (c a k (by have := x_tb_lt z; omega) (fun q => by have := x_tb_lt z; omega)).1⟩)
theorem LX.rc (h : LX i1 i2 M) {N : am_M} (c : r_sc M N) : LX i1 i2 N := h.mv (h.li.rc c) ⟨(), fun a k z => (c.g a k (by have := x_tb_lt z; omega)).1⟩
/-- images -/
theorem LX.lens (h : LI i1 i2 M) {t : Nat} (ht : t < 5) : (M.1 (20 + (19 + 3 * t)) 5).toInt ≤ 50 ∧ (M.1 (20 + (19 + 3 * t)) 2).toInt ≤ 50 := by
  have hv := h.e (rl_c_tx t ht).1 (k := 0) (by decide)
  have hv : M.1 (20 + (19 + 3 * t)) 5 = M.1 201 (3508 + t) := hv
  have q := (h.v (k := 3508 + t) (by omega)).a29 (by omega)
  exact ⟨by rw [hv]; exact q.2, (h.b.c ht).i.2⟩
theorem lb.lens {b r o : Nat} (h : lb b r o M M) {t : Nat} (ht : t < 5) : (M.1 (b + (19 + 3 * t)) 5).toInt ≤ 50 ∧ (M.1 (b + (19 + 3 * t)) 2).toInt ≤ 50 := by
  have hv := h.r.c (rl_c_tx t ht).1 (k := 0) (show 0 < 1 by decide)
  have hv : M.1 (b + (19 + 3 * t)) 5 = M.1 r (o + (3508 + t)) := hv
  have q := (h.t.v (k := 3508 + t) (by omega)).a29 (by omega)
  exact ⟨by rw [hv]; exact q.2, (h.c ht).i.2⟩
theorem g_hit_tx {u k : Nat} (h : (∃ t, t < 5 ∧ u = 19 + 3 * t ∧ (k = 5 ∨ k = 6 ∨ k = 2)) ∨ (∃ t, t < 5 ∧ (u = 20 + 3 * t ∨ u = 21 + 3 * t) ∧ k < 50)) : g_hit g_sh0 u k = true := by
  unfold g_hit
  have m1 : ∀ t, t < 5 → (19 + 3 * t, 5, 1) ∈ g_sh0 := by decide
  have m2 : ∀ t, t < 5 → (19 + 3 * t, 2, 1) ∈ g_sh0 := by decide
  have m3 : ∀ t, t < 5 → (19 + 3 * t, 6, 1) ∈ g_sh0 := by decide
  have m4 : ∀ t, t < 5 → (20 + 3 * t, 0, 50) ∈ g_sh0 := by decide
  have m5 : ∀ t, t < 5 → (21 + 3 * t, 0, 50) ∈ g_sh0 := by decide
  have go : ∀ s ∈ g_sh0, s.1 = u → s.2.1 ≤ k → k < s.2.1 + s.2.2 → (g_sh0.any fun q => Nat.beq u q.1 && Nat.ble q.2.1 k && Nat.blt k (q.2.1 + q.2.2)) = true := fun s hs e k1 k2 => List.any_eq_true.mpr ⟨s, hs, by rw [Bool.and_eq_true, Bool.and_eq_true, e]; exact ⟨⟨Nat.beq_refl _, Nat.ble_eq.mpr k1⟩, Nat.ble_eq.mpr k2⟩⟩
  rcases h with ⟨t, ht, rfl, rfl | rfl | rfl⟩ | ⟨t, ht, rfl | rfl, hk⟩
  · exact go _ (m1 t ht) rfl (Nat.le_refl _) (by show 5 < 5 + 1; decide)
  · exact go _ (m3 t ht) rfl (Nat.le_refl _) (by show 6 < 6 + 1; decide)
  · exact go _ (m2 t ht) rfl (Nat.le_refl _) (by show 2 < 2 + 1; decide)
  · exact go _ (m4 t ht) rfl (Nat.zero_le _) (by show k < 0 + 50; omega)
  · exact go _ (m5 t ht) rfl (Nat.zero_le _) (by show k < 0 + 50; omega)
theorem r_image_kt {N : am_M} {i : Int32} : x_kt N (r_image N i).2 := by
  unfold r_image
  split
  · exact (x_kt.rf.cI rfl).wI rfl
  · exact x_kt.rf
theorem r_from_kt {N : am_M} {i : Int32} : x_kt N (r_from N i).2 := by
  unfold r_from
  split
  · split
    · exact x_kt.rf
    · exact x_kt.rf.cI rfl
  · exact x_kt.rf
theorem LX.im (h : LX i1 i2 M) {b : Nat} (hb : b = 60 ∨ b = 100) {N : am_M} (c : g_im b M N) : t_b N b ∧ t_b N 20 ∧ ∀ b', b' ≠ b → (b' = 60 ∨ b' = 100) → t_b M b' → t_b N b' := by
  obtain ⟨c1, c2⟩ := im_N h.li hb c
  refine ⟨h.t0.cg (fun u k _ _ z => c2 u k (g_hit_tx z)) (fun t ht => LX.lens h.li ht), ?_, fun b' hn hb' hm => ?_⟩
  · exact ⟨(), fun t ht => (h.t0.v ht).cg (c1 _ _ (by omega)) (c1 _ _ (by omega)) (c1 _ _ (by omega)) (fun j _ => c1 _ _ (by omega)) (fun j _ => c1 _ _ (by omega))⟩
  · exact ⟨(), fun t ht => (hm.v ht).cg (c1 _ _ (by omega)) (c1 _ _ (by omega)) (c1 _ _ (by omega)) (fun j _ => c1 _ _ (by omega)) (fun j _ => c1 _ _ (by omega))⟩
theorem LX.im0 (h : LX i1 i2 M) {N : am_M} (c : g_im 60 M N) : LX true i2 (r_image N 0).2 := by
  obtain ⟨a, b, d⟩ := h.im (Or.inl rfl) c
  have hl := (im_0 h.li c).1
  obtain ⟨-, -, -, -, h2⟩ := h
  exact ⟨(), hl, b.kt (Or.inl rfl) r_image_kt, fun _ => a.kt (Or.inr (Or.inl rfl)) r_image_kt, fun z => (d 100 (by decide) (Or.inr rfl) (h2 z)).kt (Or.inr (Or.inr rfl)) r_image_kt⟩
theorem LX.im1 (h : LX i1 i2 M) {N : am_M} (c : g_im 100 M N) : LX i1 true (r_image N 1).2 := by
  obtain ⟨a, b, d⟩ := h.im (Or.inr rfl) c
  have hl := (im_1 h.li c).1
  obtain ⟨-, -, -, h1, -⟩ := h
  exact ⟨(), hl, b.kt (Or.inl rfl) r_image_kt, fun z => (d 60 (by decide) (Or.inl rfl) (h1 z)).kt (Or.inr (Or.inl rfl)) r_image_kt, fun _ => a.kt (Or.inr (Or.inr rfl)) r_image_kt⟩
theorem LX.fr {b r o : Nat} (hb : b = 60 ∨ b = 100) (hl : lb b r o M M) (ht : t_b M b) {N : am_M} (c : g_cs 20 b g_sh0 M N) : t_b N 20 ∧ ∀ b', (b' = 60 ∨ b' = 100) → t_b M b' → t_b N b' := by
  obtain ⟨-, -, c2⟩ := c
  refine ⟨ht.cg (fun u k _ _ z => ?_) (fun t ht => hl.lens ht), fun b' hb' hm => ?_⟩
  · rw [c2, if_pos ⟨by omega, by rw [Nat.add_sub_cancel_left]; exact g_hit_tx z⟩, Nat.add_sub_cancel_left]
  · have far : ∀ a k, 59 ≤ a → N.1 a k = M.1 a k := fun a k z => by
      rw [c2, if_neg (fun q => ?_)]
      have := g_sh0_lt q.2
      omega
    exact ⟨(), fun t ht => (hm.v ht).cg (far _ _ (by omega)) (far _ _ (by omega)) (far _ _ (by omega)) (fun j _ => far _ _ (by omega)) (fun j _ => far _ _ (by omega))⟩
theorem LX.fr0 (h : LX true i2 M) {N : am_M} (c : g_cs 20 60 g_sh0 M N) : LX true i2 (r_from N 0).2 := by
  have hl := (fr_0 h.li c).1
  obtain ⟨m1, -⟩ := h.li.im
  obtain ⟨a, d⟩ := LX.fr (Or.inl rfl) (m1 rfl) h.t1 c
  obtain ⟨-, -, -, h1, h2⟩ := h
  exact ⟨(), hl, a.kt (Or.inl rfl) r_from_kt, fun z => (d 60 (Or.inl rfl) (h1 z)).kt (Or.inr (Or.inl rfl)) r_from_kt, fun z => (d 100 (Or.inr rfl) (h2 z)).kt (Or.inr (Or.inr rfl)) r_from_kt⟩
theorem LX.fr1 (h : LX i1 true M) {N : am_M} (c : g_cs 20 100 g_sh0 M N) : LX i1 true (r_from N 1).2 := by
  have hl := (fr_1 h.li c).1
  obtain ⟨-, m1, -⟩ := h.li.im
  obtain ⟨a, d⟩ := LX.fr (Or.inr rfl) (m1 rfl) h.t2 c
  obtain ⟨-, -, -, h1, h2⟩ := h
  exact ⟨(), hl, a.kt (Or.inl rfl) r_from_kt, fun z => (d 60 (Or.inl rfl) (h1 z)).kt (Or.inr (Or.inl rfl)) r_from_kt, fun z => (d 100 (Or.inr rfl) (h2 z)).kt (Or.inr (Or.inr rfl)) r_from_kt⟩

theorem kc_person (M : am_M) (a : Int32) : x_kt M (c_person M a).2 := by
  unfold c_person
  repeat' split
  all_goals (try dsimp only)
  all_goals (try unfold am_addAct)
  all_goals repeat' (first | (with_reducible exact x_kt.rf) | (with_reducible apply x_kt.wI) | (with_reducible apply x_kt.lay) | (with_reducible apply x_kt.rput) | (with_reducible apply x_kt.radd) | (with_reducible apply x_kt.cI) | ((with_reducible change _ = false); rfl))
theorem kr_person (M : am_M) (a : Int32) : x_kt M (r_person M a).2 := by
  unfold r_person
  repeat' split
  all_goals (try dsimp only)
  all_goals repeat' (first | (with_reducible exact x_kt.rf) | (with_reducible apply x_kt.wI) | (with_reducible apply x_kt.lay) | (with_reducible apply x_kt.cI) | ((with_reducible change _ = false); rfl))
theorem kc_land (M : am_M) (a b c d : Int32) : x_kt M (c_land M a b c d).2 := by
  unfold c_land
  repeat' split
  all_goals (try dsimp only)
  all_goals (try unfold am_addAct)
  all_goals repeat' (first | (with_reducible exact x_kt.rf) | (with_reducible apply x_kt.wI) | (with_reducible apply x_kt.lay) | (with_reducible apply x_kt.rput) | (with_reducible apply x_kt.radd) | (with_reducible apply x_kt.cI) | ((with_reducible change _ = false); rfl))
theorem kr_land (M : am_M) (a b c d : Int32) : x_kt M (r_land M a b c d).2 := by
  unfold r_land
  repeat' split
  all_goals (try dsimp only)
  all_goals repeat' (first | (with_reducible exact x_kt.rf) | (with_reducible apply x_kt.wI) | (with_reducible apply x_kt.lay) | (with_reducible apply x_kt.cI) | ((with_reducible change _ = false); rfl))
theorem kc_scale (M : am_M) (a b : Int32) : x_kt M (c_scale M a b).2 := by
  unfold c_scale
  repeat' split
  all_goals (try dsimp only)
  all_goals (try unfold am_addAct)
  all_goals repeat' (first | (with_reducible exact x_kt.rf) | (with_reducible apply x_kt.wI) | (with_reducible apply x_kt.lay) | (with_reducible apply x_kt.rput) | (with_reducible apply x_kt.radd) | (with_reducible apply x_kt.cI) | ((with_reducible change _ = false); rfl))
theorem kr_scale (M : am_M) (a b : Int32) : x_kt M (r_scale M a b).2 := by
  unfold r_scale
  repeat' split
  all_goals (try dsimp only)
  all_goals repeat' (first | (with_reducible exact x_kt.rf) | (with_reducible apply x_kt.wI) | (with_reducible apply x_kt.lay) | (with_reducible apply x_kt.cI) | ((with_reducible change _ = false); rfl))
theorem kc_prices (M : am_M) (a b : Int32) : x_kt M (c_prices M a b).2 := by
  unfold c_prices
  repeat' split
  all_goals (try dsimp only)
  all_goals (try unfold am_addAct)
  all_goals repeat' (first | (with_reducible exact x_kt.rf) | (with_reducible apply x_kt.wI) | (with_reducible apply x_kt.lay) | (with_reducible apply x_kt.rput) | (with_reducible apply x_kt.radd) | (with_reducible apply x_kt.cI) | ((with_reducible change _ = false); rfl))
theorem kr_prices (M : am_M) (a b : Int32) : x_kt M (r_prices M a b).2 := by
  unfold r_prices
  repeat' split
  all_goals (try dsimp only)
  all_goals repeat' (first | (with_reducible exact x_kt.rf) | (with_reducible apply x_kt.wI) | (with_reducible apply x_kt.lay) | (with_reducible apply x_kt.cI) | ((with_reducible change _ = false); rfl))
theorem kc_dies (M : am_M) (a b : Int32) : x_kt M (c_dies M a b).2 := by
  unfold c_dies
  repeat' split
  all_goals (try dsimp only)
  all_goals (try unfold am_addAct)
  all_goals repeat' (first | (with_reducible exact x_kt.rf) | (with_reducible apply x_kt.wI) | (with_reducible apply x_kt.lay) | (with_reducible apply x_kt.rput) | (with_reducible apply x_kt.radd) | (with_reducible apply x_kt.cI) | ((with_reducible change _ = false); rfl))
theorem kr_dies (M : am_M) (a b : Int32) : x_kt M (r_dies M a b).2 := by
  unfold r_dies
  repeat' split
  all_goals (try dsimp only)
  all_goals repeat' (first | (with_reducible exact x_kt.rf) | (with_reducible apply x_kt.wI) | (with_reducible apply x_kt.lay) | (with_reducible apply x_kt.cI) | ((with_reducible change _ = false); rfl))
theorem kc_earn (M : am_M) (a b c d : Int32) : x_kt M (c_earn M a b c d).2 := by
  unfold c_earn
  repeat' split
  all_goals (try dsimp only)
  all_goals (try unfold am_addAct)
  all_goals repeat' (first | (with_reducible exact x_kt.rf) | (with_reducible apply x_kt.wI) | (with_reducible apply x_kt.lay) | (with_reducible apply x_kt.rput) | (with_reducible apply x_kt.radd) | (with_reducible apply x_kt.cI) | ((with_reducible change _ = false); rfl))
theorem kr_earn (M : am_M) (a b c d : Int32) : x_kt M (r_earn M a b c d).2 := by
  unfold r_earn
  repeat' split
  all_goals (try dsimp only)
  all_goals repeat' (first | (with_reducible exact x_kt.rf) | (with_reducible apply x_kt.wI) | (with_reducible apply x_kt.lay) | (with_reducible apply x_kt.cI) | ((with_reducible change _ = false); rfl))
theorem kc_right (M : am_M) (a b c d : Int32) : x_kt M (c_right M a b c d).2 := by
  unfold c_right
  repeat' split
  all_goals (try dsimp only)
  all_goals (try unfold am_addAct)
  all_goals repeat' (first | (with_reducible exact x_kt.rf) | (with_reducible apply x_kt.wI) | (with_reducible apply x_kt.lay) | (with_reducible apply x_kt.rput) | (with_reducible apply x_kt.radd) | (with_reducible apply x_kt.cI) | ((with_reducible change _ = false); rfl))
theorem kr_right (M : am_M) (a b c d : Int32) : x_kt M (r_right M a b c d).2 := by
  unfold r_right
  repeat' split
  all_goals (try dsimp only)
  all_goals repeat' (first | (with_reducible exact x_kt.rf) | (with_reducible apply x_kt.wI) | (with_reducible apply x_kt.lay) | (with_reducible apply x_kt.cI) | ((with_reducible change _ = false); rfl))
theorem kc_earnings (M : am_M) (a b c : Int32) : x_kt M (c_earnings M a b c).2 := by
  unfold c_earnings
  repeat' split
  all_goals (try dsimp only)
  all_goals (try unfold am_addAct)
  all_goals repeat' (first | (with_reducible exact x_kt.rf) | (with_reducible apply x_kt.wI) | (with_reducible apply x_kt.lay) | (with_reducible apply x_kt.rput) | (with_reducible apply x_kt.radd) | (with_reducible apply x_kt.cI) | ((with_reducible change _ = false); rfl))
theorem kr_earnings (M : am_M) (a b c : Int32) : x_kt M (r_earnings M a b c).2 := by
  unfold r_earnings
  repeat' split
  all_goals (try dsimp only)
  all_goals repeat' (first | (with_reducible exact x_kt.rf) | (with_reducible apply x_kt.wI) | (with_reducible apply x_kt.lay) | (with_reducible apply x_kt.cI) | ((with_reducible change _ = false); rfl))
theorem kc_act (M : am_M) (a b c d e f : Int32) : x_kt M (c_act M a b c d e f).2 := by
  unfold c_act
  repeat' split
  all_goals (try dsimp only)
  all_goals (try unfold am_addAct)
  all_goals repeat' (first | (with_reducible exact x_kt.rf) | (with_reducible apply x_kt.wI) | (with_reducible apply x_kt.lay) | (with_reducible apply x_kt.rput) | (with_reducible apply x_kt.radd) | (with_reducible apply x_kt.cI) | ((with_reducible change _ = false); rfl))
theorem kr_act (M : am_M) (a b c d e f : Int32) : x_kt M (r_act M a b c d e f).2 := by
  unfold r_act
  repeat' split
  all_goals (try dsimp only)
  all_goals repeat' (first | (with_reducible exact x_kt.rf) | (with_reducible apply x_kt.wI) | (with_reducible apply x_kt.lay) | (with_reducible apply x_kt.cI) | ((with_reducible change _ = false); rfl))
theorem kc_loan (M : am_M) (a b c d e : Int32) : x_kt M (c_loan M a b c d e).2 := by
  unfold c_loan
  repeat' split
  all_goals (try dsimp only)
  all_goals (try unfold am_addAct)
  all_goals repeat' (first | (with_reducible exact x_kt.rf) | (with_reducible apply x_kt.wI) | (with_reducible apply x_kt.lay) | (with_reducible apply x_kt.rput) | (with_reducible apply x_kt.radd) | (with_reducible apply x_kt.cI) | ((with_reducible change _ = false); rfl))
theorem kr_loan (M : am_M) (a b c d e : Int32) : x_kt M (r_loan M a b c d e).2 := by
  unfold r_loan
  repeat' split
  all_goals (try dsimp only)
  all_goals repeat' (first | (with_reducible exact x_kt.rf) | (with_reducible apply x_kt.wI) | (with_reducible apply x_kt.lay) | (with_reducible apply x_kt.cI) | ((with_reducible change _ = false); rfl))
theorem kc_leave (M : am_M) (a b : Int32) : x_kt M (c_leave M a b).2 := by
  unfold c_leave
  repeat' split
  all_goals (try dsimp only)
  all_goals (try unfold am_addAct)
  all_goals repeat' (first | (with_reducible exact x_kt.rf) | (with_reducible apply x_kt.wI) | (with_reducible apply x_kt.lay) | (with_reducible apply x_kt.rput) | (with_reducible apply x_kt.radd) | (with_reducible apply x_kt.cI) | ((with_reducible change _ = false); rfl))
theorem kr_leave (M : am_M) (a b : Int32) : x_kt M (r_leave M a b).2 := by
  unfold r_leave
  repeat' split
  all_goals (try dsimp only)
  all_goals repeat' (first | (with_reducible exact x_kt.rf) | (with_reducible apply x_kt.wI) | (with_reducible apply x_kt.lay) | (with_reducible apply x_kt.cI) | ((with_reducible change _ = false); rfl))
theorem kc_move (M : am_M) (a b c : Int32) : x_kt M (c_move M a b c).2 := by
  unfold c_move
  repeat' split
  all_goals (try dsimp only)
  all_goals (try unfold am_addAct)
  all_goals repeat' (first | (with_reducible exact x_kt.rf) | (with_reducible apply x_kt.wI) | (with_reducible apply x_kt.lay) | (with_reducible apply x_kt.rput) | (with_reducible apply x_kt.radd) | (with_reducible apply x_kt.cI) | ((with_reducible change _ = false); rfl))
theorem kr_move (M : am_M) (a b c : Int32) : x_kt M (r_move M a b c).2 := by
  unfold r_move
  repeat' split
  all_goals (try dsimp only)
  all_goals repeat' (first | (with_reducible exact x_kt.rf) | (with_reducible apply x_kt.wI) | (with_reducible apply x_kt.lay) | (with_reducible apply x_kt.cI) | ((with_reducible change _ = false); rfl))
theorem kc_sell (M : am_M) (a b c : Int32) : x_kt M (c_sell M a b c).2 := by
  unfold c_sell
  repeat' split
  all_goals (try dsimp only)
  all_goals (try unfold am_addAct)
  all_goals repeat' (first | (with_reducible exact x_kt.rf) | (with_reducible apply x_kt.wI) | (with_reducible apply x_kt.lay) | (with_reducible apply x_kt.rput) | (with_reducible apply x_kt.radd) | (with_reducible apply x_kt.cI) | ((with_reducible change _ = false); rfl))
theorem kr_sell (M : am_M) (a b c : Int32) : x_kt M (r_sell M a b c).2 := by
  unfold r_sell
  repeat' split
  all_goals (try dsimp only)
  all_goals repeat' (first | (with_reducible exact x_kt.rf) | (with_reducible apply x_kt.wI) | (with_reducible apply x_kt.lay) | (with_reducible apply x_kt.cI) | ((with_reducible change _ = false); rfl))
theorem kc_promise (M : am_M) (a b c : Int32) : x_kt M (c_promise M a b c).2 := by
  unfold c_promise
  repeat' split
  all_goals (try dsimp only)
  all_goals (try unfold am_addAct)
  all_goals repeat' (first | (with_reducible exact x_kt.rf) | (with_reducible apply x_kt.wI) | (with_reducible apply x_kt.lay) | (with_reducible apply x_kt.rput) | (with_reducible apply x_kt.radd) | (with_reducible apply x_kt.cI) | ((with_reducible change _ = false); rfl))
theorem kr_promise (M : am_M) (a b c : Int32) : x_kt M (r_promise M a b c).2 := by
  unfold r_promise
  repeat' split
  all_goals (try dsimp only)
  all_goals repeat' (first | (with_reducible exact x_kt.rf) | (with_reducible apply x_kt.wI) | (with_reducible apply x_kt.lay) | (with_reducible apply x_kt.cI) | ((with_reducible change _ = false); rfl))
theorem kc_live (M : am_M) (a b c d : Int32) : x_kt M (c_live M a b c d).2 := by
  unfold c_live
  repeat' split
  all_goals (try dsimp only)
  all_goals (try unfold am_addAct)
  all_goals repeat' (first | (with_reducible exact x_kt.rf) | (with_reducible apply x_kt.wI) | (with_reducible apply x_kt.lay) | (with_reducible apply x_kt.rput) | (with_reducible apply x_kt.radd) | (with_reducible apply x_kt.cI) | ((with_reducible change _ = false); rfl))
theorem kr_live (M : am_M) (a b c d : Int32) : x_kt M (r_live M a b c d).2 := by
  unfold r_live
  repeat' split
  all_goals (try dsimp only)
  all_goals repeat' (first | (with_reducible exact x_kt.rf) | (with_reducible apply x_kt.wI) | (with_reducible apply x_kt.lay) | (with_reducible apply x_kt.cI) | ((with_reducible change _ = false); rfl))
theorem kc_chances (M : am_M) (a b c d e : Int32) : x_kt M (c_chances M a b c d e).2 := by
  unfold c_chances
  repeat' split
  all_goals (try dsimp only)
  all_goals (try unfold am_addAct)
  all_goals repeat' (first | (with_reducible exact x_kt.rf) | (with_reducible apply x_kt.wI) | (with_reducible apply x_kt.lay) | (with_reducible apply x_kt.rput) | (with_reducible apply x_kt.radd) | (with_reducible apply x_kt.cI) | ((with_reducible change _ = false); rfl))
theorem kr_chances (M : am_M) (a b c d e : Int32) : x_kt M (r_chances M a b c d e).2 := by
  unfold r_chances
  repeat' split
  all_goals (try dsimp only)
  all_goals repeat' (first | (with_reducible exact x_kt.rf) | (with_reducible apply x_kt.wI) | (with_reducible apply x_kt.lay) | (with_reducible apply x_kt.cI) | ((with_reducible change _ = false); rfl))
theorem kc_tell (M : am_M) (a : Int32) : x_kt M (c_tell M a).2 := by
  unfold c_tell
  repeat' split
  all_goals (try dsimp only)
  all_goals (try unfold am_addAct)
  all_goals repeat' (first | (with_reducible exact x_kt.rf) | (with_reducible apply x_kt.wI) | (with_reducible apply x_kt.lay) | (with_reducible apply x_kt.rput) | (with_reducible apply x_kt.radd) | (with_reducible apply x_kt.cI) | ((with_reducible change _ = false); rfl))
theorem kr_tell (M : am_M) (a : Int32) : x_kt M (r_tell M a).2 := by
  unfold r_tell
  repeat' split
  all_goals (try dsimp only)
  all_goals repeat' (first | (with_reducible exact x_kt.rf) | (with_reducible apply x_kt.wI) | (with_reducible apply x_kt.lay) | (with_reducible apply x_kt.cI) | ((with_reducible change _ = false); rfl))
theorem kc_untell (M : am_M) : x_kt M (c_untell M).2 := by
  unfold c_untell
  repeat' split
  all_goals (try dsimp only)
  all_goals (try unfold am_addAct)
  all_goals repeat' (first | (with_reducible exact x_kt.rf) | (with_reducible apply x_kt.wI) | (with_reducible apply x_kt.lay) | (with_reducible apply x_kt.rput) | (with_reducible apply x_kt.radd) | (with_reducible apply x_kt.cI) | ((with_reducible change _ = false); rfl))
theorem kr_untell (M : am_M) : x_kt M (r_untell M).2 := by
  unfold r_untell
  repeat' split
  all_goals (try dsimp only)
  all_goals repeat' (first | (with_reducible exact x_kt.rf) | (with_reducible apply x_kt.wI) | (with_reducible apply x_kt.lay) | (with_reducible apply x_kt.cI) | ((with_reducible change _ = false); rfl))
theorem kr_erase (M : am_M) (a : Int32) : x_kt M (r_erase M a).2 := by
  unfold r_erase
  split
  · exact x_kt.rf.wI rfl
  · exact x_kt.rf
theorem kr_write (M : am_M) (a b : Int32) : x_kt M (r_write M a b).2 := by
  unfold r_write
  repeat' split
  all_goals (try dsimp only)
  all_goals repeat' (first | (with_reducible exact x_kt.rf) | (with_reducible apply x_kt.wI) | ((with_reducible change _ = false); rfl))
theorem LX.erase (h : LX i1 i2 M) (a : Int32) : LX i1 i2 (r_erase (c_erase M a).2 a).2 := by
  have hl := (st_erase h.li a).l
  obtain ⟨-, -, h0, h1, h2⟩ := h
  by_cases z : 0 ≤ a ∧ a < 5
  rotate_left
  · have e : (c_erase M a).2 = M := by unfold c_erase; rw [if_neg z]
    rw [e] at hl ⊢
    exact ⟨(), hl, h0.kt (Or.inl rfl) (kr_erase _ _), fun y => (h1 y).kt (Or.inr (Or.inl rfl)) (kr_erase _ _), fun y => (h2 y).kt (Or.inr (Or.inr rfl)) (kr_erase _ _)⟩
  · have b0 := b4 z
    simp only [Int32.reduceToInt] at b0
    have c0 := i_clamp b0.1
    have e : (c_erase M a).2 = am_wI (am_wI (am_wI M (39 + 3 * a.toNatClampNeg) 5 0) (39 + 3 * a.toNatClampNeg) 2 0) (39 + 3 * a.toNatClampNeg) 6 1 := by unfold c_erase; rw [if_pos z]
    have o : ∀ n k, n ≠ 39 + 3 * a.toNatClampNeg → (c_erase M a).2.1 n k = M.1 n k := fun n k q => by
      rw [e, am_wI_1, if_neg (fun y => q y.1), am_wI_1, if_neg (fun y => q y.1), am_wI_1, if_neg (fun y => q y.1)]
    have t0 : t_b (c_erase M a).2 20 := ⟨(), fun t ht => by
      by_cases y : t = a.toNatClampNeg
      · rw [y, show 20 + (19 + 3 * a.toNatClampNeg) = 39 + 3 * a.toNatClampNeg by omega]
        refine tx_ok.no ?_ ?_
        · rw [e, am_wI_1, if_neg (fun q => absurd q.2 (by decide)), am_wI_1, if_neg (fun q => absurd q.2 (by decide)), am_wI_self]
        · rw [e, am_wI_self]
      · exact (h0.v ht).cg (o _ _ (by omega)) (o _ _ (by omega)) (o _ _ (by omega)) (fun j _ => o _ _ (by omega)) (fun j _ => o _ _ (by omega))⟩
    have tk : ∀ b, (b = 60 ∨ b = 100) → t_b M b → t_b (c_erase M a).2 b := fun b hb hm => ⟨(), fun t ht => (hm.v ht).cg (o _ _ (by omega)) (o _ _ (by omega)) (o _ _ (by omega)) (fun j _ => o _ _ (by omega)) (fun j _ => o _ _ (by omega))⟩
    exact ⟨(), hl, t0.kt (Or.inl rfl) (kr_erase _ _), fun y => (tk 60 (Or.inl rfl) (h1 y)).kt (Or.inr (Or.inl rfl)) (kr_erase _ _), fun y => (tk 100 (Or.inr rfl) (h2 y)).kt (Or.inr (Or.inr rfl)) (kr_erase _ _)⟩
theorem LX.write (h : LX i1 i2 M) {a b : Int32} (hz : (0 ≤ a ∧ a < 5) ∧ (0 ≤ b ∧ b ≤ 127)) (hf : M.1 (39 + 3 * a.toNatClampNeg) 5 < 50) {N : am_M} (c : am_ch (am_tS (39 + 3 * a.toNatClampNeg) (39 + 3 * a.toNatClampNeg + 2)) (am_wI (am_wI M (39 + 3 * a.toNatClampNeg + 1) (M.1 (39 + 3 * a.toNatClampNeg) 5).toNatClampNeg b) (39 + 3 * a.toNatClampNeg) 5 (M.1 (39 + 3 * a.toNatClampNeg) 5 + 1)) N) (h0 : am_t0 N (39 + 3 * a.toNatClampNeg)) (hx : tx_ok (39 + 3 * a.toNatClampNeg) (39 + 3 * a.toNatClampNeg + 1) (39 + 3 * a.toNatClampNeg + 2) N) : LX i1 i2 (r_write N a b).2 := by
  have hl := (wr_yes h.li hz hf c h0).2.1
  obtain ⟨-, -, g0, g1, g2⟩ := h
  have b0 := b4 hz.1
  simp only [Int32.reduceToInt] at b0
  have c0 := i_clamp b0.1
  obtain ⟨c1, -⟩ := c
  have o : ∀ n k, (n ≠ 39 + 3 * a.toNatClampNeg ∧ n ≠ 39 + 3 * a.toNatClampNeg + 1 ∧ n ≠ 39 + 3 * a.toNatClampNeg + 2) → N.1 n k = M.1 n k := fun n k q => by
    rw [c1 n k (by unfold am_tS; omega), am_wI_1, if_neg (fun y => q.1 y.1), am_wI_1, if_neg (fun y => q.2.1 y.1)]
  have t0 : t_b N 20 := ⟨(), fun t ht => by
    by_cases y : t = a.toNatClampNeg
    · rw [y, show 20 + (19 + 3 * a.toNatClampNeg) = 39 + 3 * a.toNatClampNeg by omega, show 20 + (20 + 3 * a.toNatClampNeg) = 39 + 3 * a.toNatClampNeg + 1 by omega, show 20 + (21 + 3 * a.toNatClampNeg) = 39 + 3 * a.toNatClampNeg + 2 by omega]
      exact hx
    · exact (g0.v ht).cg (o _ _ (by omega)) (o _ _ (by omega)) (o _ _ (by omega)) (fun j _ => o _ _ (by omega)) (fun j _ => o _ _ (by omega))⟩
  have tk : ∀ b, (b = 60 ∨ b = 100) → t_b M b → t_b N b := fun b hb hm => ⟨(), fun t ht => (hm.v ht).cg (o _ _ (by omega)) (o _ _ (by omega)) (o _ _ (by omega)) (fun j _ => o _ _ (by omega)) (fun j _ => o _ _ (by omega))⟩
  exact ⟨(), hl, t0.kt (Or.inl rfl) (kr_write _ _ _), fun y => (tk 60 (Or.inl rfl) (g1 y)).kt (Or.inr (Or.inl rfl)) (kr_write _ _ _), fun y => (tk 100 (Or.inr rfl) (g2 y)).kt (Or.inr (Or.inr rfl)) (kr_write _ _ _)⟩
/-- the fault of a text: class and reference alike -/
theorem LX.fault (h : LX i1 i2 M) {pl : Int32} (z : 0 ≤ pl ∧ pl < 5) : (M.1 (39 + 3 * pl.toNatClampNeg) 6 = -1 → ∃ x, r_wr M pl = .inl x) ∧ (¬ M.1 (39 + 3 * pl.toNatClampNeg) 6 = -1 → r_wr M pl = .inr (M.1 (39 + 3 * pl.toNatClampNeg) 6).toInt) ∧ ∀ fa, w_res fa (M.1 (39 + 3 * pl.toNatClampNeg + 1)) (t_n M (39 + 3 * pl.toNatClampNeg)) 0 true [] [] = w_res fa (r_sg M pl) (r_sn M pl) 0 true [] [] := by
  have b0 := b4 z
  simp only [Int32.reduceToInt] at b0
  have c0 := i_clamp b0.1
  have hu : pl.toNatClampNeg < 5 := by omega
  have hv := h.li.e (rl_c_tx _ hu).1 (k := 0) (by decide)
  rw [show 20 + (19 + 3 * pl.toNatClampNeg) = 39 + 3 * pl.toNatClampNeg by omega, show 3508 + pl.toNatClampNeg + 0 = 3508 + pl.toNatClampNeg by omega] at hv
  have hv : M.1 (39 + 3 * pl.toNatClampNeg) 5 = M.1 201 (3508 + pl.toNatClampNeg) := hv
  have q := (h.li.v (k := 3508 + pl.toNatClampNeg) (by omega)).a29 (by omega)
  have cq := i_clamp q.1
  have en : t_n M (39 + 3 * pl.toNatClampNeg) = r_sn M pl := by unfold t_n r_sn; rw [hv]
  have es : ∀ j, j < r_sn M pl → M.1 (39 + 3 * pl.toNatClampNeg + 1) j = r_sg M pl j := fun j hj => by
    have hj : j < (M.1 201 (3508 + pl.toNatClampNeg)).toNatClampNeg := hj
    have e := h.li.e (rl_c_tx _ hu).2 (k := j) (by omega)
    rw [show 20 + (20 + 3 * pl.toNatClampNeg) = 39 + 3 * pl.toNatClampNeg + 1 by omega, Nat.zero_add] at e
    exact e
  have key : ∀ fa, w_res fa (M.1 (39 + 3 * pl.toNatClampNeg + 1)) (t_n M (39 + 3 * pl.toNatClampNeg)) 0 true [] [] = w_res fa (r_sg M pl) (r_sn M pl) 0 true [] [] := fun fa => by
    rw [en]
    exact w_res_cg es
  have t := h.t0.v hu
  rw [show 20 + (19 + 3 * pl.toNatClampNeg) = 39 + 3 * pl.toNatClampNeg by omega, show 20 + (20 + 3 * pl.toNatClampNeg) = 39 + 3 * pl.toNatClampNeg + 1 by omega] at t
  obtain ⟨-, t1, t2⟩ := t
  refine ⟨fun w => ?_, fun w => ?_, key⟩
  · obtain ⟨v, a, -⟩ := t1 w (r_fa M)
    rw [key] at a
    exact ⟨v, a⟩
  · have a := t2 w (r_fa M)
    rw [key] at a
    exact a
end LXS
def kX7_writeE (live : am_E) (Ret : am_R) : am_code := [(0, am_iload 1 1), (1, am_callS live 1 TX7_isPlan 4), (4, am_if1 (fun x => x = 0) 17 7), (7, am_iload 2 8), (8, am_const (.int 0) 9), (9, am_const (.int 127) 11), (11, am_callS live 3 TX7_within 14), (14, am_if1 (fun x => x = 0) 17 20), (17, am_const (.int (-2)) 19), (19, am_retI Ret), (20, am_aload 0 21), (21, am_getR live 7 0 24), (24, am_getR live 0 7 27), (27, am_iload 1 28), (28, am_aald live 3 29), (29, am_astore 3 4 30), (30, am_aload 3 31), (31, am_getI live 5 5 34), (34, am_const (.int 50) 36), (36, am_if2 (fun x y => x < y) 42 39), (39, am_const (.int (-4)) 41), (41, am_retI Ret), (42, am_aload 3 43), (43, am_iload 2 44), (44, am_callV live 5 1 TE5_add 47), (47, am_aload 3 48), (48, am_getI live 5 5 51), (51, am_retI Ret)]
theorem koX7_writeE (live : am_E) (Ret : am_R) : ∀ q ∈ kX7_writeE live Ret, am_ok RX7 cX7_write 4 (some .int) 334 8442 live Ret q.1 q.2 :=
  am_kz dzX7_write <|
  am_kd (fun d => ak_iload_n d rfl rfl) <|
  am_kd (fun d => ak_callS metX7_isPlan ⟨rfl, hy_X7_isPlan⟩ (am_w4 wd_466 wd_467 wd_58 wd_468) (by decide) d rfl) <|
  am_kd (fun d => ak_if_eq d (by decide +kernel) rfl) <|
  am_kd (fun d => ak_iload_n d rfl rfl) <|
  am_kd (fun d => ak_iconst d (by decide +kernel) rfl) <|
  am_kd (fun d => ak_bipush d (by decide +kernel) rfl) <|
  am_kd (fun d => ak_callS metX7_within ⟨rfl, hy_X7_within⟩ (am_w4 wd_418 wd_419 wd_58 wd_420) (by decide) d rfl) <|
  am_kd (fun d => ak_if_ne d (by decide +kernel) rfl) <|
  am_kd (fun d => ak_bipush d (by decide +kernel) rfl) <|
  am_kd (fun d => ak_retI d) <|
  am_kd (fun d => ak_aload_n d rfl rfl) <|
  am_kd (fun d => ak_getR (C := RX7) (T := TX7) (N := 4) rfl inX7w (by decide) rfl rfl rfl wd_390 d rfl) <|
  am_kd (fun d => ak_getR (C := RX0) (T := TX0) (N := 13) rfl inX0w (by decide) rfl rfl rfl wd_215 d rfl) <|
  am_kd (fun d => ak_iload_n d rfl rfl) <|
  am_kd (fun d => ak_aald (t := 3) (fun _ => rfl) rfl d rfl) <|
  am_kd (fun d => ak_astore_n d rfl rfl) <|
  am_kd (fun d => ak_aload_n d rfl rfl) <|
  am_kd (fun d => ak_getI (C := RX5) (T := TX5) (N := 7) rfl inX5w (by decide) rfl rfl rfl wd_174 d rfl) <|
  am_kd (fun d => ak_bipush d (by decide +kernel) rfl) <|
  am_kd (fun d => ak_icmp_lt d (by decide +kernel) rfl) <|
  am_kd (fun d => ak_bipush d (by decide +kernel) rfl) <|
  am_kd (fun d => ak_retI d) <|
  am_kd (fun d => ak_aload_n d rfl rfl) <|
  am_kd (fun d => ak_iload_n d rfl rfl) <|
  am_kd (fun d => ak_callV (C := RX5) (F := TX5) (N := 7) metX5_addE rfl ⟨rfl, hy_X5_add⟩ (am_w5 wd_668 wd_669 wd_670 wd_65 wd_671) (by decide) d rfl) <|
  am_kd (fun d => ak_aload_n d rfl rfl) <|
  am_kd (fun d => ak_getI (C := RX5) (T := TX5) (N := 7) rfl inX5w (by decide) rfl rfl rfl wd_174 d rfl) <|
  am_kd (fun d => ak_retI d) <| am_kdn
def TE7_write : am_T := fun live as M R => match as with
  | [.ref n, .int pl, .int g] => am_mn live ∧ n = 0 ∧ (g_hI M ∧ g_rI M) ∧ (∀ t, t < 5 → x_sg (39 + 3 * t) (39 + 3 * t + 1) M) ∧ (¬ ((0 ≤ pl ∧ pl < 5) ∧ (0 ≤ g ∧ g ≤ 127)) → R (some (.int (-2))) M) ∧ ((0 ≤ pl ∧ pl < 5) ∧ (0 ≤ g ∧ g ≤ 127) → ∀ t, t = 39 + 3 * pl.toNatClampNeg → (50 ≤ M.1 t 5 → R (some (.int (-4))) M) ∧ (M.1 t 5 < 50 → ∀ M', am_ch (am_tS t (t + 2)) (am_wI (am_wI M (t + 1) (M.1 t 5).toNatClampNeg g) t 5 (M.1 t 5 + 1)) M' → am_t0 M' t → tx_ok t (t + 1) (t + 2) M' → R (some (.int (M'.1 t 5))) M'))
  | _ => False
set_option maxRecDepth 100000 in
set_option maxHeartbeats 4000000 in
theorem metX7_writeE : am_Met yX7_write cX7_write 4 (some .int) (334) (8442) TE7_write := by
  refine am_met (own := RX7) (by decide +kernel) rfl kX7_writeE koX7_writeE 100 (fun _ _ _ _ _ => none) (fun live as M Ret h => ?_) (fun _ _ _ _ _ _ _ _ hI => by cases hI)
  unfold TE7_write at h
  split at h
  · next n pl g =>
    refine ⟨Nat.le_of_ble_eq_true rfl, ?_⟩
    change am_wp _ _ _ _ [(0, Value.ref n), (1, Value.int pl), (2, Value.int g)] _ _
    obtain ⟨hmn, rfl, ⟨hH, hR⟩, hsg, hb, hg⟩ := h
    by_cases z0 : 0 ≤ pl ∧ pl < 5
    · have q0 : ¬ ((if 0 ≤ pl ∧ pl < 5 then (1 : Int32) else 0) = 0) := by rw [if_pos z0]; decide
      by_cases z1 : 0 ≤ g ∧ g ≤ 127
      · have q1 : ¬ ((if 0 ≤ g ∧ g ≤ 127 then (1 : Int32) else 0) = 0) := by rw [if_pos z1]; decide
        have hp : am_in pl 5 := ⟨by have q := z0.1; simp only [i_le, Int32.reduceToInt] at q; omega, by have q := z0.2; simp only [i_lt, Int32.reduceToInt] at q; omega⟩
        obtain ⟨t, s, c, h2, k1, k2, k3, h1, ht, et, es, ec, k4⟩ := g_txt hmn hp
        obtain ⟨i1, i2, rfl⟩ := hmn
        have h := hg ⟨z0, z1⟩ t et
        have g0 : 0 ≤ g.toInt := by have q := z1.1; simp only [i_le, Int32.reduceToInt] at q; exact q
        have sg0 : x_sg t s M := by
          have q := hsg pl.toNatClampNeg (g_cl hp)
          rw [← et, show t + 1 = s by omega] at q
          exact q
        have es2 : t + 1 = s := by omega
        have ec2 : t + 2 = c := by omega
        rw [es2, ec2] at h
        have l38 : am_len 38 = 5 := rfl
        by_cases z2 : M.1 t 5 < 50
        · have h := h.2 z2
          have hz : (M.1 t 5).toInt < 50 := by have q := z2; simp only [i_lt, Int32.reduceToInt] at q; exact q
          repeat' (first | (with_reducible exact g0) | (with_reducible exact sg0) | (with_reducible exact h1) | (with_reducible exact h2) | (refine Exists.intro _ (And.intro h2 ?_)) | apply And.intro | exact rfl | (intro hx; with_reducible exact absurd hx q0) | (intro hx; with_reducible exact absurd hx q1) | (intro hx; with_reducible exact absurd z2 hx) | intro hx | (refine Exists.intro _ (And.intro rfl ?_)) | (refine am_tP_in k1 k2 k3 ?_) | ((with_reducible change _ = true); simp only [h1, h2, Bool.true_and]; rfl))
          all_goals try first | (with_reducible change am_tI _ _) | (change Ret _ _) | (change Ret _ _ _) | (change Exists _)
          all_goals try dsimp only at *
          all_goals try (with_reducible exact absurd ‹(1000 : Int64) = 0› am_z1000)
          all_goals first
            | (with_reducible exact hp.1)
            | (rw [l38]; exact hp.2)
            | (with_reducible exact k4 _ hR.t)
            | exact h _ (by with_reducible assumption) (by with_reducible assumption) (by with_reducible assumption)
            | (exfalso; omega)
            | exact hp.1
            | exact k4 _ hR.t
        · have h := h.1 (Int32.not_lt.mp z2)
          repeat' (first | (with_reducible exact g0) | (with_reducible exact sg0) | (with_reducible exact h1) | (with_reducible exact h2) | (refine Exists.intro _ (And.intro h2 ?_)) | apply And.intro | exact rfl | (intro hx; with_reducible exact absurd hx q0) | (intro hx; with_reducible exact absurd hx q1) | (intro hx; with_reducible exact absurd hx z2) | intro hx | (refine Exists.intro _ (And.intro rfl ?_)) | (refine am_tP_in k1 k2 k3 ?_) | ((with_reducible change _ = true); simp only [h1, h2, Bool.true_and]; rfl))
          all_goals try first | (with_reducible change am_tI _ _) | (change Ret _ _) | (change Ret _ _ _) | (change Exists _)
          all_goals try dsimp only at *
          all_goals try (with_reducible exact absurd ‹(1000 : Int64) = 0› am_z1000)
          all_goals first
            | (with_reducible exact hp.1)
            | (rw [l38]; exact hp.2)
            | (with_reducible exact h)
            | exact hp.1
            | exact h
      · have q1 : (if 0 ≤ g ∧ g ≤ 127 then (1 : Int32) else 0) = 0 := if_neg z1
        obtain ⟨i1, i2, rfl⟩ := hmn
        have h := hb (fun q => z1 q.2)
        repeat' (first | (with_reducible exact h) | apply And.intro | exact rfl | (intro hx; with_reducible exact absurd hx q0) | (intro hx; with_reducible exact absurd q1 hx) | intro hx | (refine Exists.intro _ (And.intro rfl ?_)))
        all_goals try first | (with_reducible change am_tI _ _) | (change Ret _ _) | (change Ret _ _ _) | (change Exists _)
        all_goals try dsimp only at *
        all_goals try (with_reducible exact absurd ‹(1000 : Int64) = 0› am_z1000)
        all_goals exact h
    · have q0 : (if 0 ≤ pl ∧ pl < 5 then (1 : Int32) else 0) = 0 := if_neg z0
      obtain ⟨i1, i2, rfl⟩ := hmn
      have h := hb (fun q => z0 q.1)
      repeat' (first | (with_reducible exact h) | apply And.intro | exact rfl | (intro hx; with_reducible exact absurd q0 hx) | intro hx | (refine Exists.intro _ (And.intro rfl ?_)))
      all_goals try first | (with_reducible change am_tI _ _) | (change Ret _ _) | (change Ret _ _ _) | (change Exists _)
      all_goals try dsimp only at *
      all_goals try (with_reducible exact absurd ‹(1000 : Int64) = 0› am_z1000)
      all_goals exact h
  · exact h.elim
end
