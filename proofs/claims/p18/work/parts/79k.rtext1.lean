/-! texts: the reference's reader, exact, II -/
def kX8_chooseE (live : am_E) (Ret : am_R) : am_code := [(0, am_aload 0 1), (1, am_const (.int 2) 2), (2, am_callV live 8 1 TE8_reduce 5), (5, am_aload 0 6), (6, am_callV live 8 0 TX8_top 9), (9, am_const (.int 58) 11), (11, am_if2 (fun x y => x = y) 14 87), (14, am_aload 0 15), (15, am_dup 16), (16, am_getI live 8 12 19), (19, am_const (.int 2) 20), (20, am_i2 (fun x y => x - y) 21), (21, am_putI live 8 12 24), (24, am_aload 0 25), (25, am_getR live 8 10 28), (28, am_aload 0 29), (29, am_getI live 8 12 32), (32, am_const (.int 1) 33), (33, am_i2 (fun x y => x - y) 34), (34, am_aload 0 35), (35, am_getR live 8 10 38), (38, am_aload 0 39), (39, am_getI live 8 12 42), (42, am_const (.int 1) 43), (43, am_i2 (fun x y => x - y) 44), (44, am_lald live 1 45), (45, am_const (.long 0) 46), (46, am_lcmp 47), (47, am_if1 (fun x => x = 0) 62 50), (50, am_aload 0 51), (51, am_getR live 8 10 54), (54, am_aload 0 55), (55, am_getI live 8 12 58), (58, am_lald live 1 59), (59, am_goto 73), (62, am_aload 0 63), (63, am_getR live 8 10 66), (66, am_aload 0 67), (67, am_getI live 8 12 70), (70, am_const (.int 1) 71), (71, am_i2 (fun x y => x + y) 72), (72, am_lald live 1 73), (73, am_last live 1 74), (74, am_aload 0 75), (75, am_dup 76), (76, am_getI live 8 11 79), (79, am_const (.int 1) 80), (80, am_i2 (fun x y => x - y) 81), (81, am_putI live 8 11 84), (84, am_goto 5), (87, am_retV Ret)]
theorem koX8_chooseE (live : am_E) (Ret : am_R) : ∀ q ∈ kX8_chooseE live Ret, am_ok RX8 cX8_choose 1 none 3 65 live Ret q.1 q.2 :=
  am_kc (ak_aload_n dX8_choose_0 rfl rfl) <|
  am_kc (ak_iconst dX8_choose_1 (by decide +kernel) rfl) <|
  am_kc (ak_callV (C := RX8) (F := TX8) (N := 27) metX8_reduceE rfl ⟨rfl, by decide +kernel, by decide +kernel, by decide +kernel⟩ (am_w5 wd_1138 wd_1140 wd_39 wd_67 wd_1141) (by decide) dX8_choose_2 rfl) <|
  am_kc (ak_aload_n dX8_choose_5 rfl rfl) <|
  am_kc (ak_callV (C := RX8) (F := TX8) (N := 27) metX8_top rfl ⟨rfl, by decide +kernel, by decide +kernel, by decide +kernel⟩ (am_w5 wd_1113 wd_1115 wd_35 wd_67 wd_1116) (by decide) dX8_choose_6 rfl) <|
  am_kc (ak_bipush dX8_choose_9 (by decide +kernel) rfl) <|
  am_kc (ak_icmp_ne dX8_choose_11 (by decide +kernel) rfl) <|
  am_kc (ak_aload_n dX8_choose_14 rfl rfl) <|
  am_kc (ak_dup dX8_choose_15 rfl) <|
  am_kc (ak_getI (C := RX8) (T := TX8) (N := 27) rfl inX8w (by decide) rfl rfl rfl wd_907 dX8_choose_16 rfl) <|
  am_kc (ak_iconst dX8_choose_19 (by decide +kernel) rfl) <|
  am_kc (ak_isub dX8_choose_20 rfl) <|
  am_kc (ak_putI (C := RX8) (T := TX8) (N := 27) rfl inX8w tyX8_ok nmX8 (by decide) rfl rfl rfl rfl (by decide +kernel) wd_907 dX8_choose_21 rfl) <|
  am_kc (ak_aload_n dX8_choose_24 rfl rfl) <|
  am_kc (ak_getR (C := RX8) (T := TX8) (N := 27) rfl inX8w (by decide) rfl rfl rfl wd_905 dX8_choose_25 rfl) <|
  am_kc (ak_aload_n dX8_choose_28 rfl rfl) <|
  am_kc (ak_getI (C := RX8) (T := TX8) (N := 27) rfl inX8w (by decide) rfl rfl rfl wd_907 dX8_choose_29 rfl) <|
  am_kc (ak_iconst dX8_choose_32 (by decide +kernel) rfl) <|
  am_kc (ak_isub dX8_choose_33 rfl) <|
  am_kc (ak_aload_n dX8_choose_34 rfl rfl) <|
  am_kc (ak_getR (C := RX8) (T := TX8) (N := 27) rfl inX8w (by decide) rfl rfl rfl wd_905 dX8_choose_35 rfl) <|
  am_kc (ak_aload_n dX8_choose_38 rfl rfl) <|
  am_kc (ak_getI (C := RX8) (T := TX8) (N := 27) rfl inX8w (by decide) rfl rfl rfl wd_907 dX8_choose_39 rfl) <|
  am_kc (ak_iconst dX8_choose_42 (by decide +kernel) rfl) <|
  am_kc (ak_isub dX8_choose_43 rfl) <|
  am_kc (ak_lald (t := 1) (fun _ => rfl) rfl dX8_choose_44 rfl) <|
  am_kc (ak_lconst dX8_choose_45 (by decide +kernel) rfl) <|
  am_kc (ak_lcmp dX8_choose_46 rfl) <|
  am_kc (ak_if_eq dX8_choose_47 (by decide +kernel) rfl) <|
  am_kc (ak_aload_n dX8_choose_50 rfl rfl) <|
  am_kc (ak_getR (C := RX8) (T := TX8) (N := 27) rfl inX8w (by decide) rfl rfl rfl wd_905 dX8_choose_51 rfl) <|
  am_kc (ak_aload_n dX8_choose_54 rfl rfl) <|
  am_kc (ak_getI (C := RX8) (T := TX8) (N := 27) rfl inX8w (by decide) rfl rfl rfl wd_907 dX8_choose_55 rfl) <|
  am_kc (ak_lald (t := 1) (fun _ => rfl) rfl dX8_choose_58 rfl) <|
  am_kc (ak_goto dX8_choose_59 (by decide +kernel)) <|
  am_kc (ak_aload_n dX8_choose_62 rfl rfl) <|
  am_kc (ak_getR (C := RX8) (T := TX8) (N := 27) rfl inX8w (by decide) rfl rfl rfl wd_905 dX8_choose_63 rfl) <|
  am_kc (ak_aload_n dX8_choose_66 rfl rfl) <|
  am_kc (ak_getI (C := RX8) (T := TX8) (N := 27) rfl inX8w (by decide) rfl rfl rfl wd_907 dX8_choose_67 rfl) <|
  am_kc (ak_iconst dX8_choose_70 (by decide +kernel) rfl) <|
  am_kc (ak_iadd dX8_choose_71 rfl) <|
  am_kc (ak_lald (t := 1) (fun _ => rfl) rfl dX8_choose_72 rfl) <|
  am_kc (ak_last (t := 1) (fun _ => rfl) rfl dX8_choose_73 rfl) <|
  am_kc (ak_aload_n dX8_choose_74 rfl rfl) <|
  am_kc (ak_dup dX8_choose_75 rfl) <|
  am_kc (ak_getI (C := RX8) (T := TX8) (N := 27) rfl inX8w (by decide) rfl rfl rfl wd_906 dX8_choose_76 rfl) <|
  am_kc (ak_iconst dX8_choose_79 (by decide +kernel) rfl) <|
  am_kc (ak_isub dX8_choose_80 rfl) <|
  am_kc (ak_putI (C := RX8) (T := TX8) (N := 27) rfl inX8w tyX8_ok nmX8 (by decide) rfl rfl rfl rfl (by decide +kernel) wd_906 dX8_choose_81 rfl) <|
  am_kc (ak_goto dX8_choose_84 (by decide +kernel)) <|
  am_kc (ak_retV dX8_choose_87) <| am_kn
def TE8_choose : am_T := fun live as M R => match as with
  | [.ref n] => am_mn live ∧ n = 200 ∧ r_cl M 1 (fun W V => ∀ M', r_wg M M' → r_ls M' (w_chs W V).1 (w_chs W V).2 → R none M')
  | _ => False
def JE8_choose : am_E → List Value → am_M → am_R → am_inv := fun live as M0 R pc => match as with
  | [.ref n] => (match pc with
    | 5 => some ([0], fun k L st M => ∃ (W : List Int32) (V : List Int64), L = [(0, .ref 200)] ∧ st = [] ∧ k = (W.length, 0) ∧ r_ls M W V ∧ (V.length = w_ws W + 1 ∧ W.length ≤ 60 ∧ V.length ≤ 60) ∧ r_wg M0 M ∧ ∀ M', r_wg M0 M' → r_ls M' (w_cho W V).1 (w_cho W V).2 → R none M')
    | _ => none)
  | _ => none
theorem r_ls.pop3 {M : am_M} {c : Int32} {W : List Int32} {x y z : Int64} {V : List Int64} (h : r_ls M (c :: W) (z :: y :: x :: V)) (hV : (z :: y :: x :: V).length ≤ 60) (hW : (c :: W).length ≤ 60) : (M.1 200 12 - 2).toInt = (V.length : Int) + 1 ∧ (M.1 200 12 - 2 - 1).toInt = (V.length : Int) ∧ (M.1 200 12 - 2 + 1).toInt = (V.length : Int) + 2 ∧ (M.1 200 11 - 1).toInt = (W.length : Int) ∧ M.2 205 (M.1 200 12 - 2 - 1).toNatClampNeg = x ∧ M.2 205 (M.1 200 12 - 2).toNatClampNeg = y ∧ M.2 205 (M.1 200 12 - 2 + 1).toNatClampNeg = z := by
  have a1 := h.a
  have c1 := h.c
  have d1 := h.d
  simp only [List.length_cons] at a1 c1 hV hW
  have e12 := i_sub (x := M.1 200 12) (y := 2) (by simp only [Int32.reduceToInt]; omega) (by simp only [Int32.reduceToInt]; omega)
  simp only [Int32.reduceToInt] at e12
  have e13 := i_sub (x := M.1 200 12 - 2) (y := 1) (by simp only [Int32.reduceToInt]; omega) (by simp only [Int32.reduceToInt]; omega)
  simp only [Int32.reduceToInt] at e13
  have e14 := i_add (x := M.1 200 12 - 2) (y := 1) (by simp only [Int32.reduceToInt]; omega) (by simp only [Int32.reduceToInt]; omega)
  simp only [Int32.reduceToInt] at e14
  have e11 := i_sub (x := M.1 200 11) (y := 1) (by simp only [Int32.reduceToInt]; omega) (by simp only [Int32.reduceToInt]; omega)
  simp only [Int32.reduceToInt] at e11
  have k1 := i_clamp (x := M.1 200 12 - 2) (by omega)
  have k2 := i_clamp (x := M.1 200 12 - 2 - 1) (by omega)
  have k3 := i_clamp (x := M.1 200 12 - 2 + 1) (by omega)
  refine ⟨by omega, by omega, by omega, by omega, ?_, ?_, ?_⟩
  · rw [show (M.1 200 12 - 2 - 1).toNatClampNeg = V.length by omega]
    exact d1.2.2.1
  · rw [show (M.1 200 12 - 2).toNatClampNeg = (x :: V).length by simp only [List.length_cons]; omega]
    exact d1.2.1
  · rw [show (M.1 200 12 - 2 + 1).toNatClampNeg = (y :: x :: V).length by simp only [List.length_cons]; omega]
    exact d1.1
set_option maxRecDepth 100000 in
set_option maxHeartbeats 4000000 in
theorem metX8_chooseE : am_Met yX8_choose cX8_choose 1 none (3) (65) TE8_choose := by
  refine am_met (own := RX8) (by decide +kernel) rfl kX8_chooseE koX8_chooseE 100 JE8_choose ?_ ?_
  · intro live as M Ret h
    unfold TE8_choose at h
    split at h
    · next n =>
      refine ⟨Nat.le_of_ble_eq_true rfl, ?_⟩
      change am_wp _ _ _ _ [(0, Value.ref n)] _ _
      obtain ⟨hmn, rfl, W, V, hl, hd, h⟩ := h
      have hmn2 := hmn
      obtain ⟨i1, i2, rfl⟩ := hmn2
      repeat' (first | (with_reducible exact hmn) | apply And.intro | exact rfl | intro hx | (refine Exists.intro _ (And.intro rfl ?_)) | (refine r_cl_in hl hd (fun M1 c1 d1 => ?_)))
      all_goals try first | (with_reducible change am_tI _ _) | (change Ret _ _) | (change Ret _ _ _) | (change Exists _)
      all_goals try dsimp only at *
      all_goals try exact absurd ‹(1000 : Int64) = 0› (by decide)
      all_goals first
        | decide
        | skip
      obtain ⟨w1, w2, w3⟩ := w_red_ws (t := 2) (by decide) hd.1
      exact ⟨_, _, _, rfl, rfl, rfl, d1, ⟨w1, by omega, by omega⟩, c1, h⟩
    · exact h.elim
  · intro live as M0 Ret h k pc I hI L st M hi
    unfold TE8_choose at h
    split at h
    · next n =>
      obtain ⟨hmn, rfl, W9, V9, hl9, hd9, h9⟩ := h
      have hmn2 := hmn
      obtain ⟨i1, i2, rfl⟩ := hmn2
      have l205 : am_len 205 = 120 := rfl
      change (match pc with | 5 => _ | _ => none) = _ at hI
      split at hI
      · cases hI
        obtain ⟨W, V, rfl, rfl, rfl, hl, ⟨d1, d2, d3⟩, hk, h⟩ := hi
        have u120 := hl.bd d2
        have ht0 := hl.top (by omega)
        by_cases hz : r_top M = 58
        rotate_left
        · have h := h M hk (by rw [w_cho_hd (by rw [← ht0]; exact hz)]; exact hl)
          repeat' (first | (with_reducible exact hmn) | (with_reducible exact u120) | apply And.intro | exact rfl | (intro hx; with_reducible exact absurd hx hz) | intro hx | (refine Exists.intro _ (And.intro rfl ?_)))
          all_goals try first | (with_reducible change am_tI _ _) | (change Ret _ _) | (change Ret _ _ _) | (change Exists _)
          all_goals try dsimp only at *
          all_goals try exact absurd ‹(1000 : Int64) = 0› (by decide)
          all_goals exact h
        · have hz2 := hz
          rw [ht0] at hz2
          cases W with
          | nil => exact absurd (show (0 : Int32) = 58 from hz2) (by decide)
          | cons c W =>
            have hc : c = 58 := hz2
            subst hc
            have d1b : V.length = r_wt 58 + w_ws W + 1 := d1
            rw [show r_wt 58 = 2 by decide] at d1b
            match V, hl, d1, d1b, d3, h with
            | [], _, _, d1b, _, _ => simp only [List.length_nil] at d1b; omega
            | [_], _, _, d1b, _, _ => simp only [List.length_cons, List.length_nil] at d1b; omega
            | [_, _], _, _, d1b, _, _ => simp only [List.length_cons, List.length_nil] at d1b; omega
            | z :: y :: x :: V, hl, d1, d1b, d3, h =>
              obtain ⟨p1, p2, p3, p4, p5, p6, p7⟩ := hl.pop3 d3 d2
              have f11 : ∀ v, (am_wI M 200 12 v).1 200 11 = M.1 200 11 := fun v => by rw [am_wI_1, if_neg (fun q => absurd q.2 (by decide))]
              have f12 : ∀ v, (am_wI M 200 12 v).1 200 12 = v := fun v => am_wI_self
              simp only [List.length_cons] at d2 d3 d1b
              have h' := h
              rw [w_cho_y] at h'
              have fin : ∀ r : Int64, r = (if x ≠ 0 then y else z) → r_ls (am_wI (am_wJ (am_wI M 200 12 (M.1 200 12 - 2)) 205 ((am_wI M 200 12 (M.1 200 12 - 2)).1 200 12 - 1).toNatClampNeg r) 200 11 ((am_wI M 200 12 (M.1 200 12 - 2)).1 200 11 - 1)) W ((if x ≠ 0 then y else z) :: V) ∧ r_wg M0 (am_wI (am_wJ (am_wI M 200 12 (M.1 200 12 - 2)) 205 ((am_wI M 200 12 (M.1 200 12 - 2)).1 200 12 - 1).toNatClampNeg r) 200 11 ((am_wI M 200 12 (M.1 200 12 - 2)).1 200 11 - 1)) := fun r hr => by
                have k2 := i_clamp (x := M.1 200 12 - 2 - 1) (by omega)
                have hb := hl.b
                have hd := hl.d
                refine ⟨⟨(), ?_, hb.2.cg (fun k _ => ?_), ?_, ⟨?_, hd.2.2.2.cg (fun k hk => ?_)⟩⟩, (hk.w12.w205).w11⟩
                · rw [am_wI_self, f11]
                  exact p4
                · rw [am_wI_1, if_neg (fun q => absurd q.1 (by decide))]
                  show (am_wI M 200 12 (M.1 200 12 - 2)).1 204 k = _
                  rw [am_wI_1, if_neg (fun q => absurd q.1 (by decide))]
                · rw [am_wI_1, if_neg (fun q => absurd q.2 (by decide))]
                  show ((am_wI M 200 12 (M.1 200 12 - 2)).1 200 12).toInt = _
                  rw [f12, p1, List.length_cons]
                  rfl
                · show (am_wJ (am_wI M 200 12 (M.1 200 12 - 2)) 205 ((am_wI M 200 12 (M.1 200 12 - 2)).1 200 12 - 1).toNatClampNeg r).2 205 V.length = _
                  rw [f12, am_wJ_1, if_pos ⟨rfl, by omega⟩, hr]
                · show (am_wJ (am_wI M 200 12 (M.1 200 12 - 2)) 205 ((am_wI M 200 12 (M.1 200 12 - 2)).1 200 12 - 1).toNatClampNeg r).2 205 k = _
                  rw [f12, am_wJ_1, if_neg (fun q => by have := q.2; omega)]
                  rfl
              have gx : (am_wI M 200 12 (M.1 200 12 - 2)).2 205 ((am_wI M 200 12 (M.1 200 12 - 2)).1 200 12 - 1).toNatClampNeg = x := by rw [f12]; exact p5
              have gy : (am_wI M 200 12 (M.1 200 12 - 2)).2 205 ((am_wI M 200 12 (M.1 200 12 - 2)).1 200 12).toNatClampNeg = y := by rw [f12]; exact p6
              have gz : (am_wI M 200 12 (M.1 200 12 - 2)).2 205 ((am_wI M 200 12 (M.1 200 12 - 2)).1 200 12 + 1).toNatClampNeg = z := by rw [f12]; exact p7
              by_cases zx : lg_cmp ((am_wI M 200 12 (M.1 200 12 - 2)).2 205 ((am_wI M 200 12 (M.1 200 12 - 2)).1 200 12 - 1).toNatClampNeg) 0 = 0
              · have x0 : x = 0 := by rw [lc_eq, gx] at zx; exact zx
                obtain ⟨q1, q2⟩ := fin _ (show (am_wI M 200 12 (M.1 200 12 - 2)).2 205 ((am_wI M 200 12 (M.1 200 12 - 2)).1 200 12 + 1).toNatClampNeg = _ by rw [gz, if_neg (not_not_intro x0)])
                repeat' (first | (with_reducible exact hmn) | (with_reducible exact u120) | apply And.intro | exact rfl | (intro hx; with_reducible exact absurd hz hx) | (intro hx; with_reducible exact absurd zx hx) | intro hx | (refine Exists.intro _ (And.intro rfl ?_)))
                all_goals try first | (with_reducible change am_tI _ _) | (change Ret _ _) | (change Ret _ _ _) | (change Exists _)
                all_goals try dsimp only at *
                all_goals try exact absurd ‹(1000 : Int64) = 0› (by decide)
                all_goals try simp only [f12, p1, p2, p3, l205]
                all_goals first
                  | omega
                  | skip
                all_goals exact ⟨_, am_lt_l (Nat.lt_succ_self _), W, _, rfl, rfl, rfl, q1, ⟨by simp only [List.length_cons]; omega, by omega, by simp only [List.length_cons]; omega⟩, q2, h'⟩
              · have x0 : x ≠ 0 := fun q => zx (by rw [lc_eq, gx]; exact q)
                obtain ⟨q1, q2⟩ := fin _ (show (am_wI M 200 12 (M.1 200 12 - 2)).2 205 ((am_wI M 200 12 (M.1 200 12 - 2)).1 200 12).toNatClampNeg = _ by rw [gy, if_pos x0])
                repeat' (first | (with_reducible exact hmn) | (with_reducible exact u120) | apply And.intro | exact rfl | (intro hx; with_reducible exact absurd hx zx) | (intro hx; with_reducible exact absurd hz hx) | intro hx | (refine Exists.intro _ (And.intro rfl ?_)))
                all_goals try first | (with_reducible change am_tI _ _) | (change Ret _ _) | (change Ret _ _ _) | (change Exists _)
                all_goals try dsimp only at *
                all_goals try exact absurd ‹(1000 : Int64) = 0› (by decide)
                all_goals try simp only [f12, p1, p2, p3, l205]
                all_goals first
                  | omega
                  | skip
                all_goals exact ⟨_, am_lt_l (Nat.lt_succ_self _), W, _, rfl, rfl, rfl, q1, ⟨by simp only [List.length_cons]; omega, by omega, by simp only [List.length_cons]; omega⟩, q2, h'⟩
      · cases hI
    · exact h.elim
def TE8_lay : am_T := fun live as M R => match as with
  | [.ref n, .long v] => am_mn live ∧ n = 200 ∧ r_cl M 0 (fun W V => V.length ≤ 58 ∧ ∀ M', r_wg M M' → r_ls M' (w_lay W v V).1 (w_lay W v V).2 → R none M')
  | _ => False
def JE8_lay : am_E → List Value → am_M → am_R → am_inv := fun live as M0 R pc => match as with
  | [.ref n, .long v] => (match pc with
    | 20 => some ([0], fun k L st M => ∃ (W : List Int32) (x : Int64) (V : List Int64), L = [(0, .ref 200)] ∧ st = [] ∧ k = (W.length, 0) ∧ r_ls M W (x :: V) ∧ (W.length ≤ 60 ∧ V.length ≤ 58) ∧ r_wg M0 M ∧ ∀ M', r_wg M0 M' → r_ls M' (w_lay W x V).1 (w_lay W x V).2 → R none M')
    | _ => none)
  | _ => none
set_option maxRecDepth 100000 in
set_option maxHeartbeats 4000000 in
theorem metX8_layE : am_Met yX8_lay cX8_lay 5 none (1) (20) TE8_lay := by
  refine am_met (own := RX8) (by decide +kernel) rfl kX8_lay koX8_lay 100 JE8_lay ?_ ?_
  · intro live as M Ret h
    unfold TE8_lay at h
    split at h
    · next n v =>
      refine ⟨Nat.le_of_ble_eq_true rfl, ?_⟩
      change am_wp _ _ _ _ [(0, Value.ref n), (1, Value.long v)] _ _
      obtain ⟨hmn, rfl, W, V, hl, hd, h8, h⟩ := h
      have hmn2 := hmn
      obtain ⟨i1, i2, rfl⟩ := hmn2
      have l205 : am_len 205 = 120 := rfl
      have c1 := hl.c
      have e12 := i_inc (x := M.1 200 12) (by omega) (by omega)
      have k12 := i_clamp (x := M.1 200 12) (by omega)
      repeat' (first | (with_reducible exact hmn) | apply And.intro | exact rfl | intro hx | (refine Exists.intro _ (And.intro rfl ?_)))
      all_goals try first | (with_reducible change am_tI _ _) | (change Ret _ _) | (change Ret _ _ _) | (change Exists _)
      all_goals try dsimp only at *
      all_goals try exact absurd ‹(1000 : Int64) = 0› (by decide)
      all_goals first
        | omega
        | (rw [l205]; omega)
        | skip
      refine ⟨_, W, v, V, rfl, rfl, rfl, ?_, ⟨hd.2.1, h8⟩, r_wg.rf.w205.w12, h⟩
      refine ⟨(), ?_, hl.b.cg (fun k _ => ?_), ?_, ⟨?_, hl.d.cg (fun k hk => ?_)⟩⟩
      · rw [am_wI_1, if_neg (fun q => absurd q.2 (by decide))]
        exact hl.a
      · rw [am_wI_1, if_neg (fun q => absurd q.1 (by decide))]
        rfl
      · rw [am_wI_self, List.length_cons]
        show (M.1 200 12 + 1).toInt = _
        omega
      · show (am_wJ M 205 (M.1 200 12).toNatClampNeg v).2 205 V.length = v
        rw [am_wJ_1, if_pos ⟨rfl, by omega⟩]
      · show (am_wJ M 205 (M.1 200 12).toNatClampNeg v).2 205 k = _
        rw [am_wJ_1, if_neg (fun q => by have := q.2; omega)]
    · exact h.elim
  · intro live as M0 Ret h k pc I hI L st M hi
    unfold TE8_lay at h
    split at h
    · next n v =>
      obtain ⟨hmn, rfl, W9, V9, hl9, hd9, h89, h9⟩ := h
      have hmn2 := hmn
      obtain ⟨i1, i2, rfl⟩ := hmn2
      have l205 : am_len 205 = 120 := rfl
      change (match pc with | 20 => _ | _ => none) = _ at hI
      split at hI
      · cases hI
        obtain ⟨W, x, V, rfl, rfl, rfl, hl, ⟨d2, d3⟩, hk, h⟩ := hi
        have u120 := hl.bd d2
        have ht0 := hl.top (by omega)
        have c1 := hl.c
        simp only [List.length_cons] at c1
        have e13 := i_sub (x := M.1 200 12) (y := 1) (by simp only [Int32.reduceToInt]; omega) (by simp only [Int32.reduceToInt]; omega)
        simp only [Int32.reduceToInt] at e13
        have k13 := i_clamp (x := M.1 200 12 - 1) (by omega)
        by_cases hz : r_top M = 1 ∨ r_top M = 2
        rotate_left
        · have hz1 : ¬ r_top M = 1 := fun q => hz (Or.inl q)
          have hz2 : ¬ r_top M = 2 := fun q => hz (Or.inr q)
          have e : w_lay W x V = (W, x :: V) := by
            unfold w_lay
            split
            · rfl
            · next c W' =>
              have z : w_hdc (c :: W') = c := rfl
              rw [ht0, z] at hz1 hz2
              rw [if_neg hz1, if_neg hz2]
          have h := h M hk (by rw [e]; exact hl)
          repeat' (first | (with_reducible exact hmn) | (with_reducible exact u120) | apply And.intro | exact rfl | (intro hx; with_reducible exact absurd hx hz1) | (intro hx; with_reducible exact absurd hx hz2) | intro hx | (refine Exists.intro _ (And.intro rfl ?_)))
          all_goals try first | (with_reducible change am_tI _ _) | (change Ret _ _) | (change Ret _ _ _) | (change Exists _)
          all_goals try dsimp only at *
          all_goals try exact absurd ‹(1000 : Int64) = 0› (by decide)
          all_goals exact h
        · have hz2 := hz
          rw [ht0] at hz2
          cases W with
          | nil => exact absurd (show (0 : Int32) = 1 ∨ (0 : Int32) = 2 from hz2) (by decide)
          | cons c W =>
            have hc : c = 1 ∨ c = 2 := hz2
            have htc : r_top M = c := ht0
            have a1 := hl.a
            simp only [List.length_cons] at a1 d2
            have e11 := i_sub (x := M.1 200 11) (y := 1) (by simp only [Int32.reduceToInt]; omega) (by simp only [Int32.reduceToInt]; omega)
            simp only [Int32.reduceToInt] at e11
            have gx : M.2 205 (M.1 200 12 - 1).toNatClampNeg = x := by
              rw [show (M.1 200 12 - 1).toNatClampNeg = V.length by omega]
              exact hl.d.1
            have fin : ∀ r r' : Int64, r = r' → r_ls (am_wI (am_wJ M 205 (M.1 200 12 - 1).toNatClampNeg r) 200 11 ((am_wJ M 205 (M.1 200 12 - 1).toNatClampNeg r).1 200 11 - 1)) W (r' :: V) ∧ r_wg M0 (am_wI (am_wJ M 205 (M.1 200 12 - 1).toNatClampNeg r) 200 11 ((am_wJ M 205 (M.1 200 12 - 1).toNatClampNeg r).1 200 11 - 1)) := fun r r' hr => by
              subst hr
              refine ⟨⟨(), ?_, hl.b.2.cg (fun k _ => ?_), ?_, ⟨?_, hl.d.2.cg (fun k hk => ?_)⟩⟩, (hk.w205).w11⟩
              · rw [am_wI_self]
                show (M.1 200 11 - 1).toInt = _
                omega
              · rw [am_wI_1, if_neg (fun q => absurd q.1 (by decide))]
                rfl
              · rw [am_wI_1, if_neg (fun q => absurd q.2 (by decide)), List.length_cons]
                exact c1
              · show (am_wJ M 205 (M.1 200 12 - 1).toNatClampNeg r).2 205 V.length = r
                rw [am_wJ_1, if_pos ⟨rfl, by omega⟩]
              · show (am_wJ M 205 (M.1 200 12 - 1).toNatClampNeg r).2 205 k = _
                rw [am_wJ_1, if_neg (fun q => by have := q.2; omega)]
            have y1 : 0 ≤ (M.1 200 12 - 1).toInt := by omega
            have y2 : (M.1 200 12 - 1).toInt < (am_len 205 : Int) := by rw [l205]; omega
            rcases hc with rfl | rfl
            · have hq := htc
              have h' := h
              unfold w_lay at h'
              rw [if_pos rfl] at h'
              by_cases zx : lg_cmp (M.2 205 (M.1 200 12 - 1).toNatClampNeg) 0 = 0
              · have x0 : x = 0 := by rw [lc_eq, gx] at zx; exact zx
                have fq := fin (if (1 : Int32) = 0 then 0 else 1) (if x = 0 then 1 else 0) (by rw [if_pos x0]; rfl)
                repeat' (first | (with_reducible exact y1) | (with_reducible exact y2) | (with_reducible exact hq) | (with_reducible exact hmn) | (with_reducible exact u120) | apply And.intro | exact rfl | (intro hx; with_reducible exact absurd hq hx) | (intro hx; with_reducible exact absurd zx hx) | intro hx | (refine Exists.intro _ (And.intro rfl ?_)))
                all_goals try first | (with_reducible change am_tI _ _) | (change Ret _ _) | (change Ret _ _ _) | (change Exists _)
                all_goals try dsimp only at *
                all_goals try exact absurd ‹(1000 : Int64) = 0› (by decide)
                all_goals first
                  | (left; rfl)
                  | (right; rfl)
                  | exact absurd hq (by with_reducible assumption)
                  | exact ⟨_, am_lt_l (Nat.lt_succ_self _), W, _, V, rfl, rfl, rfl, fq.1, ⟨by omega, d3⟩, fq.2, h'⟩
                  | skip
              · have x0 : ¬ x = 0 := fun q => zx (by rw [lc_eq, gx]; exact q)
                have fq := fin (if (0 : Int32) = 0 then 0 else 1) (if x = 0 then 1 else 0) (by rw [if_neg x0]; rfl)
                repeat' (first | (with_reducible exact y1) | (with_reducible exact y2) | (with_reducible exact hq) | (with_reducible exact hmn) | (with_reducible exact u120) | apply And.intro | exact rfl | (intro hx; with_reducible exact absurd hx zx) | (intro hx; with_reducible exact absurd hq hx) | intro hx | (refine Exists.intro _ (And.intro rfl ?_)))
                all_goals try first | (with_reducible change am_tI _ _) | (change Ret _ _) | (change Ret _ _ _) | (change Exists _)
                all_goals try dsimp only at *
                all_goals try exact absurd ‹(1000 : Int64) = 0› (by decide)
                all_goals first
                  | (left; rfl)
                  | (right; rfl)
                  | exact absurd hq (by with_reducible assumption)
                  | exact ⟨_, am_lt_l (Nat.lt_succ_self _), W, _, V, rfl, rfl, rfl, fq.1, ⟨by omega, d3⟩, fq.2, h'⟩
                  | skip
            · have hq := htc
              have hz1 : ¬ r_top M = 1 := fun q => by rw [hq] at q; exact absurd q (by decide)
              have h' := h
              unfold w_lay at h'
              rw [if_neg (by decide), if_pos rfl] at h'
              have fq := fin (-(M.2 205 (M.1 200 12 - 1).toNatClampNeg)) (-x) (by rw [gx])
              repeat' (first | (with_reducible exact y1) | (with_reducible exact y2) | (with_reducible exact hq) | (with_reducible exact hmn) | (with_reducible exact u120) | apply And.intro | exact rfl | (intro hx; with_reducible exact absurd hx hz1) | (intro hx; with_reducible exact absurd hq hx) | intro hx | (refine Exists.intro _ (And.intro rfl ?_)))
              all_goals try first | (with_reducible change am_tI _ _) | (change Ret _ _) | (change Ret _ _ _) | (change Exists _)
              all_goals try dsimp only at *
              all_goals try exact absurd ‹(1000 : Int64) = 0› (by decide)
              all_goals first
                | exact ⟨_, am_lt_l (Nat.lt_succ_self _), W, _, V, rfl, rfl, rfl, fq.1, ⟨by omega, d3⟩, fq.2, h'⟩
                | skip
      · cases hI
    · exact h.elim
theorem r_at_get {f : Nat → Int32} : ∀ {W : List Int32} {i : Nat}, r_at f W → i < W.length → W.drop (W.length - (i + 1)) = f i :: W.drop (W.length - i)
  | [], i, _, h => by simp only [List.length_nil] at h; omega
  | c :: W, i, h, hi => by
    simp only [List.length_cons] at hi ⊢
    by_cases z : i = W.length
    · subst z
      rw [show W.length + 1 - (W.length + 1) = 0 by omega, show W.length + 1 - W.length = 0 + 1 by omega, h.1]
      rfl
    · have ih := r_at_get (i := i) h.2 (by omega)
      rw [show W.length + 1 - (i + 1) = (W.length - (i + 1)) + 1 by omega, show W.length + 1 - i = (W.length - i) + 1 by omega]
      exact ih
def TE8_opened : am_T := fun live as M R => match as with
  | [.ref n] => am_mn live ∧ n = 200 ∧ ∃ W V, r_ls M W V ∧ W.length ≤ 60 ∧ R (some (.int (Int32.ofNat (w_opn W)))) M
  | _ => False
def JE8_opened : am_E → List Value → am_M → am_R → am_inv := fun live as M0 R pc => match as with
  | [.ref n] => (match pc with
    | 4 => some ([0, 1, 2], fun k L st M => ∃ (W : List Int32) (V : List Int64) (v i : Int32), L = [(0, .ref 200), (1, .int v), (2, .int i)] ∧ st = [] ∧ k = ((121 - i.toInt).toNat, 0) ∧ r_ls M W V ∧ (W.length ≤ 60 ∧ 0 ≤ i.toInt ∧ i.toInt ≤ (W.length : Int)) ∧ v = Int32.ofNat (w_opn (W.drop (W.length - i.toNatClampNeg))) ∧ R (some (.int (Int32.ofNat (w_opn W)))) M)
    | _ => none)
  | _ => none
theorem w_opn_le : ∀ (W : List Int32), w_opn W ≤ W.length := fun W => List.countP_le_length
theorem o_inc {n : Nat} (h : n < 1000) : Int32.ofNat n + 1 = Int32.ofNat (n + 1) := by
  have a := i_nat (n := n) (by omega)
  have b := i_nat (n := n + 1) (by omega)
  have c := i_inc (x := Int32.ofNat n) (by omega) (by omega)
  rw [i_eq]
  omega
set_option maxRecDepth 100000 in
set_option maxHeartbeats 4000000 in
theorem metX8_openedE : am_Met yX8_opened cX8_opened 3 (some .int) (0) (0) TE8_opened := by
  refine am_met (own := RX8) (by decide +kernel) rfl kX8_opened koX8_opened 100 JE8_opened ?_ ?_
  · intro live as M Ret h
    unfold TE8_opened at h
    split at h
    · next n =>
      refine ⟨Nat.le_of_ble_eq_true rfl, ?_⟩
      change am_wp _ _ _ _ [(0, Value.ref n)] _ _
      obtain ⟨hmn, rfl, W, V, hl, hw, h⟩ := h
      repeat' (first | apply And.intro | exact rfl | intro hx | (refine Exists.intro _ (And.intro rfl ?_)))
      all_goals try first | (with_reducible change am_tI _ _) | (change Ret _ _) | (change Ret _ _ _) | (change Exists _)
      all_goals try dsimp only at *
      all_goals try exact absurd ‹(1000 : Int64) = 0› (by decide)
      refine ⟨_, W, V, 0, 0, rfl, rfl, rfl, hl, ⟨hw, by decide, by simp only [Int32.reduceToInt]; omega⟩, ?_, h⟩
      rw [show (0 : Int32).toNatClampNeg = 0 from rfl, Nat.sub_zero, List.drop_length]
      rfl
    · exact h.elim
  · intro live as M0 Ret h k pc I hI L st M hi
    unfold TE8_opened at h
    split at h
    · next n =>
      obtain ⟨⟨i1, i2, rfl⟩, rfl, W9, V9, hl9, hw9, h9⟩ := h
      have l204 : am_len 204 = 120 := rfl
      change (match pc with | 4 => _ | _ => none) = _ at hI
      split at hI
      · cases hI
        obtain ⟨W, V, v, i, rfl, rfl, rfl, hl, ⟨hw, g1, g2⟩, hv, h⟩ := hi
        have a := hl.a
        have ci := i_clamp g1
        by_cases hz : M.1 200 11 ≤ i
        · have hz2 := hz
          simp only [i_le] at hz2
          rw [show W.length - i.toNatClampNeg = 0 by omega, List.drop_zero] at hv
          rw [← hv] at h
          repeat' (first | apply And.intro | exact rfl | (intro hx; with_reducible exact absurd hz hx) | intro hx | (refine Exists.intro _ (And.intro rfl ?_)))
          all_goals try first | (with_reducible change am_tI _ _) | (change Ret _ _) | (change Ret _ _ _) | (change Exists _)
          all_goals try dsimp only at *
          all_goals try exact absurd ‹(1000 : Int64) = 0› (by decide)
          all_goals exact h
        · have hz2 := hz
          simp only [i_le] at hz2
          have hi := i_inc (x := i) (by omega) (by omega)
          have ci1 := i_clamp (x := i + 1) (by omega)
          have gd := r_at_get (i := i.toNatClampNeg) hl.b (by omega)
          have wl := w_opn_le (W.drop (W.length - i.toNatClampNeg))
          rw [List.length_drop] at wl
          by_cases z40 : M.1 204 i.toNatClampNeg = 40
          · have e : v + 1 = Int32.ofNat (w_opn (W.drop (W.length - (i + 1).toNatClampNeg))) := by
              rw [show (i + 1).toNatClampNeg = i.toNatClampNeg + 1 by omega, gd, z40, w_opn_p, hv]
              exact o_inc (by omega)
            repeat' (first | apply And.intro | exact rfl | (intro hx; with_reducible exact absurd hx hz) | (intro hx; with_reducible exact absurd z40 hx) | (intro hx; exact absurd hx (by decide)) | (intro hx; exact absurd (by decide) hx) | decide | intro hx | (refine Exists.intro _ (And.intro rfl ?_)))
            all_goals try first | (with_reducible change am_tI _ _) | (change Ret _ _) | (change Ret _ _ _) | (change Exists _)
            all_goals try dsimp only at *
            all_goals try exact absurd ‹(1000 : Int64) = 0› (by decide)
            all_goals first
              | omega
              | (rw [l204]; omega)
              | exact ⟨_, am_lt_l (by omega), W, V, _, _, rfl, rfl, rfl, hl, ⟨hw, by omega, by omega⟩, e, h⟩
          · have e : v + 0 = Int32.ofNat (w_opn (W.drop (W.length - (i + 1).toNatClampNeg))) := by
              rw [show (i + 1).toNatClampNeg = i.toNatClampNeg + 1 by omega, gd, w_opn_c z40, Int32.add_zero]
              exact hv
            repeat' (first | apply And.intro | exact rfl | (intro hx; with_reducible exact absurd hx hz) | (intro hx; with_reducible exact absurd hx z40) | (intro hx; exact absurd hx (by decide)) | (intro hx; exact absurd (by decide) hx) | decide | intro hx | (refine Exists.intro _ (And.intro rfl ?_)))
            all_goals try first | (with_reducible change am_tI _ _) | (change Ret _ _) | (change Ret _ _ _) | (change Exists _)
            all_goals try dsimp only at *
            all_goals try exact absurd ‹(1000 : Int64) = 0› (by decide)
            all_goals first
              | omega
              | (rw [l204]; omega)
              | exact ⟨_, am_lt_l (by omega), W, V, _, _, rfl, rfl, rfl, hl, ⟨hw, by omega, by omega⟩, e, h⟩
      · cases hI
    · exact h.elim
