/-! runs, exact: the class: what is drawn, the rate, sums together, paid ahead, taken -/
/-- sums: a place put -/
def z_u (s : Nat → Int64) (k : Nat) (v : Int64) : Nat → Int64 := fun b => if b = k then v else s b
theorem z_u_e {s : Nat → Int64} {k : Nat} {v : Int64} : z_u s k v k = v := if_pos rfl
theorem z_u_n {s : Nat → Int64} {k j : Nat} {v : Int64} (h : j ≠ k) : z_u s k v j = s j := if_neg h
theorem z_wJ {M : am_M} {n k : Nat} {v : Int64} : (am_wJ M n k v).2 n = z_u (M.2 n) k v := by
  funext b
  rw [am_wJ_1]
  unfold z_u
  by_cases z : b = k
  · rw [if_pos ⟨rfl, z⟩, if_pos z]
  · rw [if_neg (fun q => z q.2), if_neg z]
theorem z_wJo {M : am_M} {n m k : Nat} {v : Int64} (h : m ≠ n) : (am_wJ M n k v).2 m = M.2 m := by
  funext b
  rw [am_wJ_1, if_neg (fun q => h q.1)]
/-- what depends on the numbers alone -/
theorem z_cg1 {α : Type} {M N : am_M} (f : am_M → α) (hf : ∀ a b b', f (a, b) = f (a, b')) (h : N.1 = M.1) : f N = f M := by
  have e : f N = f (N.1, M.2) := hf N.1 N.2 M.2
  rw [e, h]
theorem z_cg8 {α : Type} {M N : am_M} (f : am_M → α) (hf : ∀ a b b', f (a, b) = f (a, b')) (h8 : ∀ (K : am_M) (g : Nat → Int32), f (am_cI K 8 g) = f K) (h : ∀ a, a ≠ 8 → N.1 a = M.1 a) : f N = f M := by
  have e : N.1 = (am_cI M 8 (N.1 8)).1 := by
    funext a b
    rw [am_cI_1]
    by_cases z : a = 8
    · subst z; rw [if_pos rfl]
    · rw [if_neg z, h a z]
  rw [z_cg1 f hf e, h8]
/-- behind what was drawn and given back -/
def c_dr0 (M : am_M) (l y : Int32) (o : Int64) : Int64 := if y = am_loanAt M l 2 then o + (am_loanAt M l 3).toInt64 else o
def c_bk (M : am_M) (l : Int32) : Int64 := am_sumGiven (am_loanAt M l 3) (am_loanAt M l 5 - am_loanAt M l 2)
def c_dr (M : am_M) (l y : Int32) (o : Int64) : Int64 := if y = am_loanAt M l 5 then c_dr0 M l y o - (if c_bk M l < c_dr0 M l y o then c_bk M l else c_dr0 M l y o) else c_dr0 M l y o
def TE4_draw : am_T := fun live as M R => match as with
  | [.ref n, .int l, .int y] => am_mn live ∧ n = 4 ∧ am_in l 30 ∧ R none (am_wJ M 6 l.toNatClampNeg (c_dr M l y (M.2 6 l.toNatClampNeg)))
  | _ => False
set_option maxRecDepth 100000 in
set_option maxHeartbeats 4000000 in
theorem metX4_drawE : am_Met yX4_draw cX4_draw 5 none (2) (47) TE4_draw := by
  refine am_met (own := RX4) (by decide +kernel) rfl kX4_draw koX4_draw 100 (fun _ _ _ _ _ => none) (fun live as M Ret h => ?_) (fun _ _ _ _ _ _ _ _ hI => by cases hI)
  unfold TE4_draw at h
  split at h
  · next n l y =>
    refine ⟨Nat.le_of_ble_eq_true rfl, ?_⟩
    change am_wp _ _ _ _ [(0, Value.ref n), (1, Value.int l), (2, Value.int y)] _ _
    obtain ⟨hmn, rfl, hl, h⟩ := h
    have hmn2 := hmn
    obtain ⟨i1, i2, rfl⟩ := hmn2
    have l6 : am_len 6 = 180 := rfl
    have e0 := g_ix hl 0 0 rfl (by decide)
    have x1 := e0.1
    have x2 : (0 + l).toInt < (am_len 6 : Int) := by rw [l6]; exact e0.2.1
    have c2 : am_at (M.1 34) (am_len 34) (l * M.1 33 1 + 2) = am_loanAt M l 2 := rfl
    have c5 : am_at (M.1 34) (am_len 34) (l * M.1 33 1 + 5) = am_loanAt M l 5 := rfl
    rw [← am_ix0 (l := l)] at h
    by_cases z1 : y = am_at (M.1 34) (am_len 34) (l * M.1 33 1 + 2)
    · have d0 : c_dr0 M l y (M.2 6 (0 + l).toNatClampNeg) = M.2 6 (0 + l).toNatClampNeg + (am_loanAt M l 3).toInt64 := if_pos z1
      by_cases z2 : y = am_at (M.1 34) (am_len 34) (l * M.1 33 1 + 5)
      · have d1 : c_dr M l y (M.2 6 (0 + l).toNatClampNeg) = c_dr0 M l y (M.2 6 (0 + l).toNatClampNeg) - (if c_bk M l < c_dr0 M l y (M.2 6 (0 + l).toNatClampNeg) then c_bk M l else c_dr0 M l y (M.2 6 (0 + l).toNatClampNeg)) := if_pos z2
        rw [d1, d0] at h
        repeat' (first | (with_reducible exact hmn) | (with_reducible exact x1) | (with_reducible exact x2) | apply And.intro | exact rfl | (intro hx; with_reducible exact absurd z1 hx) | (intro hx; with_reducible exact absurd z2 hx) | (intro hx; exact absurd hx (by decide)) | (intro hx; exact absurd (by decide) hx) | decide | intro hx | (refine Exists.intro _ (And.intro rfl ?_)))
        all_goals try first | (with_reducible change am_tI _ _) | (change Ret _ _) | (change Ret _ _ _) | (change Exists _)
        all_goals try dsimp only at *
        all_goals try exact absurd ‹(1000 : Int64) = 0› (by decide)
        all_goals exact h
      · have d1 : c_dr M l y (M.2 6 (0 + l).toNatClampNeg) = c_dr0 M l y (M.2 6 (0 + l).toNatClampNeg) := if_neg z2
        rw [d1, d0] at h
        repeat' (first | (with_reducible exact hmn) | (with_reducible exact x1) | (with_reducible exact x2) | apply And.intro | exact rfl | (intro hx; with_reducible exact absurd hx z2) | (intro hx; with_reducible exact absurd z1 hx) | (intro hx; exact absurd hx (by decide)) | (intro hx; exact absurd (by decide) hx) | decide | intro hx | (refine Exists.intro _ (And.intro rfl ?_)))
        all_goals try first | (with_reducible change am_tI _ _) | (change Ret _ _) | (change Ret _ _ _) | (change Exists _)
        all_goals try dsimp only at *
        all_goals try exact absurd ‹(1000 : Int64) = 0› (by decide)
        all_goals exact h
    · have d0 : c_dr0 M l y (M.2 6 (0 + l).toNatClampNeg) = M.2 6 (0 + l).toNatClampNeg := if_neg z1
      by_cases z2 : y = am_at (M.1 34) (am_len 34) (l * M.1 33 1 + 5)
      · have d1 : c_dr M l y (M.2 6 (0 + l).toNatClampNeg) = c_dr0 M l y (M.2 6 (0 + l).toNatClampNeg) - (if c_bk M l < c_dr0 M l y (M.2 6 (0 + l).toNatClampNeg) then c_bk M l else c_dr0 M l y (M.2 6 (0 + l).toNatClampNeg)) := if_pos z2
        rw [d1, d0] at h
        repeat' (first | (with_reducible exact hmn) | (with_reducible exact x1) | (with_reducible exact x2) | apply And.intro | exact rfl | (intro hx; with_reducible exact absurd hx z1) | (intro hx; with_reducible exact absurd z2 hx) | (intro hx; exact absurd hx (by decide)) | (intro hx; exact absurd (by decide) hx) | decide | intro hx | (refine Exists.intro _ (And.intro rfl ?_)))
        all_goals try first | (with_reducible change am_tI _ _) | (change Ret _ _) | (change Ret _ _ _) | (change Exists _)
        all_goals try dsimp only at *
        all_goals try exact absurd ‹(1000 : Int64) = 0› (by decide)
        all_goals exact h
      · have d1 : c_dr M l y (M.2 6 (0 + l).toNatClampNeg) = c_dr0 M l y (M.2 6 (0 + l).toNatClampNeg) := if_neg z2
        rw [d1, d0] at h
        repeat' (first | (with_reducible exact hmn) | (with_reducible exact x1) | (with_reducible exact x2) | apply And.intro | exact rfl | (intro hx; with_reducible exact absurd hx z1) | (intro hx; with_reducible exact absurd hx z2) | (intro hx; exact absurd hx (by decide)) | (intro hx; exact absurd (by decide) hx) | decide | intro hx | (refine Exists.intro _ (And.intro rfl ?_)))
        all_goals try first | (with_reducible change am_tI _ _) | (change Ret _ _) | (change Ret _ _ _) | (change Exists _)
        all_goals try dsimp only at *
        all_goals try exact absurd ‹(1000 : Int64) = 0› (by decide)
        all_goals exact h
  · exact h.elim
/-- the letters of a text -/
def c_fa (M : am_M) (l y : Int32) (o : Int64) : Int32 → Int64 := fun s => if s = 114 then (am_cell M l y 2).toInt64 else if s = 112 then (M.1 30 y.toNatClampNeg).toInt64 else if s = 101 then (M.1 4 16).toInt64 else if s = 108 then (am_cell M l y 0).toInt64 else if s = 121 then (y - am_loanAt M l 2).toInt64 else if s = 111 then o else (M.1 4 17).toInt64
def z_cl (v : Int64) : Int32 := (if (if v < 500 then v else 500) < 0 then 0 else (if v < 500 then v else 500) : Int64).toInt32
def z_rt (fa : Int32 → Int64) (σ : Nat → Int32) (n : Nat) (r : Int32) : Int32 := match w_res fa σ n 0 true [] [] with
  | .inl v => z_cl v
  | .inr _ => r
/-- the rate of a loan of which so much is owed -/
def c_rt (M : am_M) (l y : Int32) (o : Int64) : Int32 := z_rt (c_fa M l y o) (M.1 (40 + 3 * (am_pln M l y).toNatClampNeg)) (t_n M (39 + 3 * (am_pln M l y).toNatClampNeg)) (am_cell M l y 2)
/-- letters and stack have changed -/
def c_lk (M N : am_M) : Prop := ∃ _ : Unit, N.1 = M.1 ∧ ∀ a, a ≠ 9 → a ≠ 10 → N.2 a = M.2 a
theorem c_lk.rf {M : am_M} : c_lk M M := ⟨(), rfl, fun _ _ _ => rfl⟩
theorem c_lk.i {M N : am_M} (h : c_lk M N) : N.1 = M.1 := by obtain ⟨-, h, -⟩ := h; exact h
theorem c_lk.j {M N : am_M} (h : c_lk M N) {a : Nat} (h9 : a ≠ 9) (h10 : a ≠ 10) : N.2 a = M.2 a := by obtain ⟨-, -, h⟩ := h; exact h a h9 h10
theorem c_lk.sc {M N : am_M} (h : c_lk M N) : g_sc M N := ⟨(), fun a b z => ⟨by rw [h.i], by rw [h.j (by omega) (by omega)]⟩⟩
theorem c_lk.w9 {M N : am_M} {k : Nat} {v : Int64} (h : c_lk M N) : c_lk M (am_wJ N 9 k v) := ⟨(), h.i, fun a h9 h10 => by rw [z_wJo h9]; exact h.j h9 h10⟩
theorem c_lk.st {M N K : am_M} (h : c_lk M N) (h2 : am_st N K) : c_lk M K := by
  obtain ⟨-, a, b⟩ := h2
  exact ⟨(), by rw [a]; exact h.i, fun c h9 h10 => (funext fun d => b c d h10).trans (h.j h9 h10)⟩
def kX4_rateOfE (live : am_E) (Ret : am_R) : am_code := [(0, am_aload 0 1), (1, am_iload 1 2), (2, am_iload 2 3), (3, am_callV live 4 2 TX4_cellOf 6), (6, am_istore 3 7 7), (7, am_aload 0 8), (8, am_getR live 4 0 11), (11, am_getR live 0 7 14), (14, am_aload 0 15), (15, am_iload 1 16), (16, am_iload 2 17), (17, am_callV live 4 2 TX4_planIn 20), (20, am_aald live 3 21), (21, am_astore 4 7 23), (23, am_aload 4 25), (25, am_getI live 5 6 28), (28, am_const (.int (-1)) 29), (29, am_if2 (fun x y => x = y) 41 32), (32, am_aload 0 33), (33, am_getR live 4 1 36), (36, am_iload 3 37), (37, am_const (.int 2) 38), (38, am_i2 (fun x y => x + y) 39), (39, am_ald live 0 40), (40, am_retI Ret), (41, am_aload 0 42), (42, am_getR live 4 5 45), (45, am_aload 0 46), (46, am_getR live 4 1 49), (49, am_iload 3 50), (50, am_const (.int 2) 51), (51, am_i2 (fun x y => x + y) 52), (52, am_ald live 0 53), (53, am_i2l 54), (54, am_putJ live 1 0 57), (57, am_aload 0 58), (58, am_getR live 4 5 61), (61, am_aload 0 62), (62, am_getR live 4 0 65), (65, am_getR live 0 2 68), (68, am_iload 2 69), (69, am_ald live 0 70), (70, am_i2l 71), (71, am_putJ live 1 1 74), (74, am_aload 0 75), (75, am_getR live 4 5 78), (78, am_aload 0 79), (79, am_getI live 4 16 82), (82, am_i2l 83), (83, am_putJ live 1 2 86), (86, am_aload 0 87), (87, am_getR live 4 5 90), (90, am_aload 0 91), (91, am_getR live 4 1 94), (94, am_iload 3 95), (95, am_const (.int 0) 96), (96, am_i2 (fun x y => x + y) 97), (97, am_ald live 0 98), (98, am_i2l 99), (99, am_putJ live 1 3 102), (102, am_aload 0 103), (103, am_getR live 4 5 106), (106, am_iload 2 107), (107, am_aload 0 108), (108, am_getR live 4 0 111), (111, am_getR live 0 4 114), (114, am_iload 1 115), (115, am_const (.int 2) 116), (116, am_callV live 3 2 TX3_at 119), (119, am_i2 (fun x y => x - y) 120), (120, am_i2l 121), (121, am_putJ live 1 4 124), (124, am_aload 0 125), (125, am_getR live 4 5 128), (128, am_aload 0 129), (129, am_getR live 4 2 132), (132, am_const (.int 0) 133), (133, am_iload 1 134), (134, am_i2 (fun x y => x + y) 135), (135, am_lald live 1 136), (136, am_putJ live 1 5 139), (139, am_aload 0 140), (140, am_getR live 4 5 143), (143, am_aload 0 144), (144, am_getI live 4 17 147), (147, am_i2l 148), (148, am_putJ live 1 6 151), (151, am_aload 4 153), (153, am_aload 0 154), (154, am_getR live 4 5 157), (157, am_aload 0 158), (158, am_getR live 4 6 161), (161, am_callV live 5 2 TE5_worked 164), (164, am_lstore 5 7 166), (166, am_const (.long 0) 167), (167, am_const (.long 500) 170), (170, am_lload 5 172), (172, am_mathl (fun x y => if y < x then y else x) 50 175), (175, am_mathl (fun x y => if y < x then x else y) 50 178), (178, am_l2i 179), (179, am_retI Ret)]
theorem koX4_rateOfE (live : am_E) (Ret : am_R) : ∀ q ∈ kX4_rateOfE live Ret, am_ok RX4 cX4_rateOf 7 (some .int) 2 50 live Ret q.1 q.2 :=
  am_kc (ak_aload_n dX4_rateOf_0 rfl rfl) <|
  am_kc (ak_iload_n dX4_rateOf_1 rfl rfl) <|
  am_kc (ak_iload_n dX4_rateOf_2 rfl rfl) <|
  am_kc (ak_callV (C := RX4) (F := TX4) (N := 19) metX4_cellOf rfl ⟨rfl, by decide +kernel, by decide +kernel, by decide +kernel⟩ (am_w5 wd_580 wd_582 wd_4 wd_60 wd_583) (by decide) dX4_rateOf_3 rfl) <|
  am_kc (ak_istore_n dX4_rateOf_6 rfl rfl) <|
  am_kc (ak_aload_n dX4_rateOf_7 rfl rfl) <|
  am_kc (ak_getR (C := RX4) (T := TX4) (N := 19) rfl inX4w (by decide) rfl rfl rfl wd_291 dX4_rateOf_8 rfl) <|
  am_kc (ak_getR (C := RX0) (T := TX0) (N := 13) rfl inX0w (by decide) rfl rfl rfl wd_214 dX4_rateOf_11 rfl) <|
  am_kc (ak_aload_n dX4_rateOf_14 rfl rfl) <|
  am_kc (ak_iload_n dX4_rateOf_15 rfl rfl) <|
  am_kc (ak_iload_n dX4_rateOf_16 rfl rfl) <|
  am_kc (ak_callV (C := RX4) (F := TX4) (N := 19) metX4_planIn rfl ⟨rfl, by decide +kernel, by decide +kernel, by decide +kernel⟩ (am_w5 wd_584 wd_586 wd_5 wd_60 wd_587) (by decide) dX4_rateOf_17 rfl) <|
  am_kc (ak_aald (t := 3) (fun _ => rfl) rfl dX4_rateOf_20 rfl) <|
  am_kc (ak_astore dX4_rateOf_21 rfl) <|
  am_kc (ak_aload dX4_rateOf_23 rfl) <|
  am_kc (ak_getI (C := RX5) (T := TX5) (N := 7) rfl inX5w (by decide) rfl rfl rfl wd_176 dX4_rateOf_25 rfl) <|
  am_kc (ak_iconst dX4_rateOf_28 (by decide +kernel) rfl) <|
  am_kc (ak_icmp_eq dX4_rateOf_29 (by decide +kernel) rfl) <|
  am_kc (ak_aload_n dX4_rateOf_32 rfl rfl) <|
  am_kc (ak_getR (C := RX4) (T := TX4) (N := 19) rfl inX4w (by decide) rfl rfl rfl wd_294 dX4_rateOf_33 rfl) <|
  am_kc (ak_iload_n dX4_rateOf_36 rfl rfl) <|
  am_kc (ak_iconst dX4_rateOf_37 (by decide +kernel) rfl) <|
  am_kc (ak_iadd dX4_rateOf_38 rfl) <|
  am_kc (ak_iald (t := 0) (fun _ => rfl) rfl dX4_rateOf_39 rfl) <|
  am_kc (ak_retI dX4_rateOf_40) <|
  am_kc (ak_aload_n dX4_rateOf_41 rfl rfl) <|
  am_kc (ak_getR (C := RX4) (T := TX4) (N := 19) rfl inX4w (by decide) rfl rfl rfl wd_301 dX4_rateOf_42 rfl) <|
  am_kc (ak_aload_n dX4_rateOf_45 rfl rfl) <|
  am_kc (ak_getR (C := RX4) (T := TX4) (N := 19) rfl inX4w (by decide) rfl rfl rfl wd_294 dX4_rateOf_46 rfl) <|
  am_kc (ak_iload_n dX4_rateOf_49 rfl rfl) <|
  am_kc (ak_iconst dX4_rateOf_50 (by decide +kernel) rfl) <|
  am_kc (ak_iadd dX4_rateOf_51 rfl) <|
  am_kc (ak_iald (t := 0) (fun _ => rfl) rfl dX4_rateOf_52 rfl) <|
  am_kc (ak_i2l dX4_rateOf_53 rfl) <|
  am_kc (ak_putJ (C := RX1) (T := TX1) (N := 7) rfl inX1w tyX1_ok nmX1 (by decide) rfl rfl rfl rfl (by decide +kernel) wd_262 dX4_rateOf_54 rfl) <|
  am_kc (ak_aload_n dX4_rateOf_57 rfl rfl) <|
  am_kc (ak_getR (C := RX4) (T := TX4) (N := 19) rfl inX4w (by decide) rfl rfl rfl wd_301 dX4_rateOf_58 rfl) <|
  am_kc (ak_aload_n dX4_rateOf_61 rfl rfl) <|
  am_kc (ak_getR (C := RX4) (T := TX4) (N := 19) rfl inX4w (by decide) rfl rfl rfl wd_291 dX4_rateOf_62 rfl) <|
  am_kc (ak_getR (C := RX0) (T := TX0) (N := 13) rfl inX0w (by decide) rfl rfl rfl wd_201 dX4_rateOf_65 rfl) <|
  am_kc (ak_iload_n dX4_rateOf_68 rfl rfl) <|
  am_kc (ak_iald (t := 0) (fun _ => rfl) rfl dX4_rateOf_69 rfl) <|
  am_kc (ak_i2l dX4_rateOf_70 rfl) <|
  am_kc (ak_putJ (C := RX1) (T := TX1) (N := 7) rfl inX1w tyX1_ok nmX1 (by decide) rfl rfl rfl rfl (by decide +kernel) wd_264 dX4_rateOf_71 rfl) <|
  am_kc (ak_aload_n dX4_rateOf_74 rfl rfl) <|
  am_kc (ak_getR (C := RX4) (T := TX4) (N := 19) rfl inX4w (by decide) rfl rfl rfl wd_301 dX4_rateOf_75 rfl) <|
  am_kc (ak_aload_n dX4_rateOf_78 rfl rfl) <|
  am_kc (ak_getI (C := RX4) (T := TX4) (N := 19) rfl inX4w (by decide) rfl rfl rfl wd_313 dX4_rateOf_79 rfl) <|
  am_kc (ak_i2l dX4_rateOf_82 rfl) <|
  am_kc (ak_putJ (C := RX1) (T := TX1) (N := 7) rfl inX1w tyX1_ok nmX1 (by decide) rfl rfl rfl rfl (by decide +kernel) wd_266 dX4_rateOf_83 rfl) <|
  am_kc (ak_aload_n dX4_rateOf_86 rfl rfl) <|
  am_kc (ak_getR (C := RX4) (T := TX4) (N := 19) rfl inX4w (by decide) rfl rfl rfl wd_301 dX4_rateOf_87 rfl) <|
  am_kc (ak_aload_n dX4_rateOf_90 rfl rfl) <|
  am_kc (ak_getR (C := RX4) (T := TX4) (N := 19) rfl inX4w (by decide) rfl rfl rfl wd_294 dX4_rateOf_91 rfl) <|
  am_kc (ak_iload_n dX4_rateOf_94 rfl rfl) <|
  am_kc (ak_iconst dX4_rateOf_95 (by decide +kernel) rfl) <|
  am_kc (ak_iadd dX4_rateOf_96 rfl) <|
  am_kc (ak_iald (t := 0) (fun _ => rfl) rfl dX4_rateOf_97 rfl) <|
  am_kc (ak_i2l dX4_rateOf_98 rfl) <|
  am_kc (ak_putJ (C := RX1) (T := TX1) (N := 7) rfl inX1w tyX1_ok nmX1 (by decide) rfl rfl rfl rfl (by decide +kernel) wd_268 dX4_rateOf_99 rfl) <|
  am_kc (ak_aload_n dX4_rateOf_102 rfl rfl) <|
  am_kc (ak_getR (C := RX4) (T := TX4) (N := 19) rfl inX4w (by decide) rfl rfl rfl wd_301 dX4_rateOf_103 rfl) <|
  am_kc (ak_iload_n dX4_rateOf_106 rfl rfl) <|
  am_kc (ak_aload_n dX4_rateOf_107 rfl rfl) <|
  am_kc (ak_getR (C := RX4) (T := TX4) (N := 19) rfl inX4w (by decide) rfl rfl rfl wd_291 dX4_rateOf_108 rfl) <|
  am_kc (ak_getR (C := RX0) (T := TX0) (N := 13) rfl inX0w (by decide) rfl rfl rfl wd_206 dX4_rateOf_111 rfl) <|
  am_kc (ak_iload_n dX4_rateOf_114 rfl rfl) <|
  am_kc (ak_iconst dX4_rateOf_115 (by decide +kernel) rfl) <|
  am_kc (ak_callV (C := RX3) (F := TX3) (N := 3) metX3_at rfl ⟨rfl, by decide +kernel, by decide +kernel, by decide +kernel⟩ (am_w5 wd_502 wd_503 wd_504 wd_64 wd_505) (by decide) dX4_rateOf_116 rfl) <|
  am_kc (ak_isub dX4_rateOf_119 rfl) <|
  am_kc (ak_i2l dX4_rateOf_120 rfl) <|
  am_kc (ak_putJ (C := RX1) (T := TX1) (N := 7) rfl inX1w tyX1_ok nmX1 (by decide) rfl rfl rfl rfl (by decide +kernel) wd_270 dX4_rateOf_121 rfl) <|
  am_kc (ak_aload_n dX4_rateOf_124 rfl rfl) <|
  am_kc (ak_getR (C := RX4) (T := TX4) (N := 19) rfl inX4w (by decide) rfl rfl rfl wd_301 dX4_rateOf_125 rfl) <|
  am_kc (ak_aload_n dX4_rateOf_128 rfl rfl) <|
  am_kc (ak_getR (C := RX4) (T := TX4) (N := 19) rfl inX4w (by decide) rfl rfl rfl wd_296 dX4_rateOf_129 rfl) <|
  am_kc (ak_iconst dX4_rateOf_132 (by decide +kernel) rfl) <|
  am_kc (ak_iload_n dX4_rateOf_133 rfl rfl) <|
  am_kc (ak_iadd dX4_rateOf_134 rfl) <|
  am_kc (ak_lald (t := 1) (fun _ => rfl) rfl dX4_rateOf_135 rfl) <|
  am_kc (ak_putJ (C := RX1) (T := TX1) (N := 7) rfl inX1w tyX1_ok nmX1 (by decide) rfl rfl rfl rfl (by decide +kernel) wd_272 dX4_rateOf_136 rfl) <|
  am_kc (ak_aload_n dX4_rateOf_139 rfl rfl) <|
  am_kc (ak_getR (C := RX4) (T := TX4) (N := 19) rfl inX4w (by decide) rfl rfl rfl wd_301 dX4_rateOf_140 rfl) <|
  am_kc (ak_aload_n dX4_rateOf_143 rfl rfl) <|
  am_kc (ak_getI (C := RX4) (T := TX4) (N := 19) rfl inX4w (by decide) rfl rfl rfl wd_314 dX4_rateOf_144 rfl) <|
  am_kc (ak_i2l dX4_rateOf_147 rfl) <|
  am_kc (ak_putJ (C := RX1) (T := TX1) (N := 7) rfl inX1w tyX1_ok nmX1 (by decide) rfl rfl rfl rfl (by decide +kernel) wd_274 dX4_rateOf_148 rfl) <|
  am_kc (ak_aload dX4_rateOf_151 rfl) <|
  am_kc (ak_aload_n dX4_rateOf_153 rfl rfl) <|
  am_kc (ak_getR (C := RX4) (T := TX4) (N := 19) rfl inX4w (by decide) rfl rfl rfl wd_301 dX4_rateOf_154 rfl) <|
  am_kc (ak_aload_n dX4_rateOf_157 rfl rfl) <|
  am_kc (ak_getR (C := RX4) (T := TX4) (N := 19) rfl inX4w (by decide) rfl rfl rfl wd_302 dX4_rateOf_158 rfl) <|
  am_kc (ak_callV (C := RX5) (F := TX5) (N := 7) metX5_workedE rfl ⟨rfl, by decide +kernel, by decide +kernel, by decide +kernel⟩ (am_w5 wd_592 wd_593 wd_594 wd_65 wd_595) (by decide) dX4_rateOf_161 rfl) <|
  am_kc (ak_lstore dX4_rateOf_164 rfl) <|
  am_kc (ak_lconst dX4_rateOf_166 (by decide +kernel) rfl) <|
  am_kc (ak_ldc2 wd_606 dX4_rateOf_167 rfl) <|
  am_kc (ak_lload dX4_rateOf_170 rfl) <|
  am_kc (ak_lmin (am_w4 wd_607 wd_608 wd_68 wd_609) (by decide) dX4_rateOf_172 rfl) <|
  am_kc (ak_lmax (am_w4 wd_610 wd_611 wd_68 wd_612) (by decide) dX4_rateOf_175 rfl) <|
  am_kc (ak_l2i dX4_rateOf_178 rfl) <|
  am_kc (ak_retI dX4_rateOf_179) <| am_kn
def TE4_rateOf : am_T := fun live as M R => match as with
  | [.ref n, .int l, .int y] => am_mn live ∧ n = 4 ∧ am_in l 30 ∧ am_in y 40 ∧ g_rI M ∧ t_b M 20 ∧ ∀ M', c_lk M M' → R (some (.int (c_rt M l y (M.2 6 l.toNatClampNeg)))) M'
  | _ => False
set_option maxRecDepth 100000 in
set_option maxHeartbeats 4000000 in
theorem metX4_rateOfE : am_Met yX4_rateOf cX4_rateOf 7 (some .int) (2) (50) TE4_rateOf := by
  refine am_met (own := RX4) (by decide +kernel) rfl kX4_rateOfE koX4_rateOfE 150 (fun _ _ _ _ _ => none) (fun live as M Ret h => ?_) (fun _ _ _ _ _ _ _ _ hI => by cases hI)
  unfold TE4_rateOf at h
  split at h
  · next n l y =>
    refine ⟨Nat.le_of_ble_eq_true rfl, ?_⟩
    change am_wp _ _ _ _ [(0, Value.ref n), (1, Value.int l), (2, Value.int y)] _ _
    obtain ⟨hmn, rfl, hl, hy, hr, htb, h⟩ := h
    have hp := hr.pln hl hy
    obtain ⟨t, s, c, h2, k1, k2, k3, h1, ht, et, ess, ecc, k4⟩ := g_txt hmn hp
    have hmn2 := hmn
    obtain ⟨i1, i2, rfl⟩ := hmn2
    have tx := htb.v (g_cl hp)
    rw [show 20 + (19 + 3 * (am_pln M l y).toNatClampNeg) = t by omega, show 20 + (20 + 3 * (am_pln M l y).toNatClampNeg) = s by omega, show 20 + (21 + 3 * (am_pln M l y).toNatClampNeg) = c by omega] at tx
    have e0 := am_celly hy hp (k := 0) ⟨by decide, by decide⟩
    have e2 := am_celly hy hp (k := 2) ⟨by decide, by decide⟩
    have f0 := g_ix hl 0 0 rfl (by decide)
    have l5 : am_len 5 = 1200 := rfl
    have l6 : am_len 6 = 180 := rfl
    have l30 : am_len 30 = 40 := rfl
    have l38 : am_len 38 = 5 := rfl
    have k0 : Int32.toInt 0 = 0 := rfl
    have k22 : Int32.toInt 2 = 2 := rfl
    have hy1 := hy.1
    have hy2 := hy.2
    have hp1 := hp.1
    have hp2 := hp.2
    obtain ⟨-, tx1, tx2⟩ := tx
    unfold c_rt at h
    rw [show 39 + 3 * (am_pln M l y).toNatClampNeg = t by omega, show 40 + 3 * (am_pln M l y).toNatClampNeg = s by omega, ← am_ix0 (l := l)] at h
    by_cases zw : M.1 t 6 = -1
    · skip
      repeat' (first | (with_reducible exact hmn) | (with_reducible exact hl) | (with_reducible exact hy) | (with_reducible exact h1) | (with_reducible exact h2) | (refine Exists.intro _ (And.intro h2 ?_)) | apply And.intro | exact rfl | (intro hx; with_reducible exact absurd zw hx) | intro hx | (refine Exists.intro _ (And.intro rfl ?_)) | (refine am_tP_in k1 k2 k3 ?_) | ((with_reducible change _ = true); simp only [h1, h2, Bool.true_and]; rfl))
      all_goals try first | (with_reducible change am_tI _ _) | (change Ret _ _) | (change Ret _ _ _) | (change Exists _)
      all_goals try dsimp only at *
      all_goals try exact absurd ‹(1000 : Int64) = 0› (by decide)
      all_goals first
        | omega
        | (rw [l5]; omega)
        | (rw [l38]; omega)
        | (rw [l30]; omega)
        | exact f0.1
        | (rw [l6]; exact f0.2.1)
        | exact k4 _ hr.t
        | exact (fun q => ⟨_, q.2 _⟩) (tx1 zw _).choose_spec
        | skip
      all_goals
        rename_i v N hv
        have hst := hx
        have hv2 : w_ev (c_fa M l y (M.2 6 (0 + l).toNatClampNeg)) (M.1 c) 0 (t_c M t) [] = [v] := hv
        obtain ⟨v', q1, q2⟩ := tx1 zw (c_fa M l y (M.2 6 (0 + l).toNatClampNeg))
        rw [q2] at hv2
        have ev : v' = v := (List.cons.inj hv2).1
        subst ev
        have hh := h N (c_lk.st (((((((c_lk.rf.w9).w9).w9).w9).w9).w9).w9) hst)
        unfold z_rt at hh
        rw [q1] at hh
        exact hh
    · have hh := h M c_lk.rf
      unfold z_rt at hh
      rw [tx2 zw] at hh
      repeat' (first | (with_reducible exact hmn) | (with_reducible exact hl) | (with_reducible exact hy) | (with_reducible exact h1) | (with_reducible exact h2) | (refine Exists.intro _ (And.intro h2 ?_)) | apply And.intro | exact rfl | (intro hx; with_reducible exact absurd hx zw) | intro hx | (refine Exists.intro _ (And.intro rfl ?_)) | (refine am_tP_in k1 k2 k3 ?_) | ((with_reducible change _ = true); simp only [h1, h2, Bool.true_and]; rfl))
      all_goals try first | (with_reducible change am_tI _ _) | (change Ret _ _) | (change Ret _ _ _) | (change Exists _)
      all_goals try dsimp only at *
      all_goals try exact absurd ‹(1000 : Int64) = 0› (by decide)
      all_goals first
        | omega
        | (rw [l5]; omega)
        | (rw [l38]; omega)
        | exact hh
  · exact h.elim
/-- the loans of the run -/
def c_ms (M : am_M) (n : Nat) : List Int32 := (List.range n).map (fun i => M.1 7 i)
def c_qs (M : am_M) (n : Nat) : List Int32 := (List.range n).map (fun i => M.1 8 i)
theorem c_ms_s (M : am_M) (n : Nat) : c_ms M (n + 1) = c_ms M n ++ [M.1 7 n] := by
  unfold c_ms
  rw [List.range_succ, List.map_append]
  rfl
theorem c_qs_s (M : am_M) (n : Nat) : c_qs M (n + 1) = c_qs M n ++ [M.1 8 n] := by
  unfold c_qs
  rw [List.range_succ, List.map_append]
  rfl
abbrev c_sz (M : am_M) : Nat := (M.1 4 7).toNatClampNeg
/-- a kind of sums of all loans together -/
def z_tog (s : Nat → Int64) (w : Nat) (ms : List Int32) : Int64 := ms.foldl (fun v l => v + s (w + l.toNatClampNeg)) 0
def TE4_together : am_T := fun live as M R => match as with
  | [.ref n, .int w] => am_mn live ∧ n = 4 ∧ am_in w 6 ∧ g_rI M ∧ R (some (.long (z_tog (M.2 6) (30 * w.toNatClampNeg) (c_ms M (c_sz M))))) M
  | _ => False
def JE4_together : am_E → List Value → am_M → am_R → am_inv := fun live as M0 _ pc => match as with
  | [.ref n, .int w] => (match pc with
    | 5 => some ([0, 1, 2, 4], fun k L st M => ∃ (v : Int64) (i : Int32), L = [(0, .ref 4), (1, .int w), (2, .long v), (4, .int i)] ∧ st = [] ∧ k = ((31 - i.toInt).toNat, 0) ∧ (0 ≤ i.toInt ∧ i.toInt ≤ (M0.1 4 7).toInt) ∧ v = z_tog (M0.2 6) (30 * w.toNatClampNeg) (c_ms M0 i.toNatClampNeg) ∧ M = M0)
    | _ => none)
  | _ => none
set_option maxRecDepth 100000 in
set_option maxHeartbeats 4000000 in
theorem metX4_togetherE : am_Met yX4_together cX4_together 5 (some .long) (0) (0) TE4_together := by
  refine am_met (own := RX4) (by decide +kernel) rfl kX4_together koX4_together 100 JE4_together ?_ ?_
  · intro live as M Ret h
    unfold TE4_together at h
    split at h
    · next n w =>
      refine ⟨Nat.le_of_ble_eq_true rfl, ?_⟩
      change am_wp _ _ _ _ [(0, Value.ref n), (1, Value.int w)] _ _
      obtain ⟨hmn, rfl, hw, hr, h⟩ := h
      have q := hr.s.sz
      repeat' (first | apply And.intro | exact rfl | intro hx | (refine Exists.intro _ (And.intro rfl ?_)))
      all_goals try first | (with_reducible change am_tI _ _) | (change Ret _ _) | (change Ret _ _ _) | (change Exists _)
      all_goals try dsimp only at *
      all_goals try exact absurd ‹(1000 : Int64) = 0› (by decide)
      exact ⟨_, _, _, rfl, rfl, rfl, ⟨by decide, q.1⟩, rfl, rfl⟩
    · exact h.elim
  · intro live as M0 Ret h k pc I hI L st M hi
    unfold TE4_together at h
    split at h
    · next n w =>
      obtain ⟨hmn, rfl, hw, hr, h⟩ := h
      obtain ⟨i1, i2, rfl⟩ := hmn
      change (match pc with | 5 => _ | _ => none) = _ at hI
      split at hI
      · cases hI
        obtain ⟨v, i, rfl, rfl, rfl, ⟨e1, e2⟩, ev, rfl⟩ := hi
        have q := hr.s.sz
        have ci := i_clamp e1
        have cs : (c_sz M : Int) = (M.1 4 7).toInt := i_clamp q.1
        by_cases hz : M.1 4 7 ≤ i
        · have hz2 := hz
          simp only [i_le] at hz2
          rw [show i.toNatClampNeg = c_sz M by omega] at ev
          rw [← ev] at h
          repeat' (first | apply And.intro | exact rfl | (intro hx; with_reducible exact absurd hz hx) | intro hx | (refine Exists.intro _ (And.intro rfl ?_)))
          all_goals try first | (with_reducible change am_tI _ _) | (change Ret _ _) | (change Ret _ _ _) | (change Exists _)
          all_goals try dsimp only at *
          all_goals try exact absurd ‹(1000 : Int64) = 0› (by decide)
          exact h
        · have hz2 := hz
          simp only [i_le] at hz2
          have ha : am_in i 30 := ⟨e1, by omega⟩
          have hb := hr.s.mi (g_cl ha)
          have l6 : am_len 6 = 180 := rfl
          have l7 : am_len 7 = 30 := rfl
          have hi := i_inc (x := i) (by omega) (by omega)
          have ci1 := i_clamp (x := i + 1) (by omega)
          have e30 := i_mul (x := w) (y := 30) (by simp only [Int32.reduceToInt]; have := hw.1; have := hw.2; omega) (by simp only [Int32.reduceToInt]; have := hw.1; have := hw.2; omega)
          simp only [Int32.reduceToInt] at e30
          have hw1 := hw.1
          have hw2 := hw.2
          have hb1 := hb.1
          have hb2 := hb.2
          have e := i_add (x := w * 30) (y := M.1 7 i.toNatClampNeg) (by rw [e30]; omega) (by rw [e30]; omega)
          have c1 := i_clamp (x := w * 30 + M.1 7 i.toNatClampNeg) (by omega)
          have c2 := i_clamp hw1
          have c3 := i_clamp hb1
          have nx : v + M.2 6 (w * 30 + M.1 7 i.toNatClampNeg).toNatClampNeg = z_tog (M.2 6) (30 * w.toNatClampNeg) (c_ms M (i + 1).toNatClampNeg) := by
            rw [show (i + 1).toNatClampNeg = i.toNatClampNeg + 1 by omega, c_ms_s]
            unfold z_tog
            rw [List.foldl_append]
            show _ = List.foldl _ 0 (c_ms M i.toNatClampNeg) + M.2 6 (30 * w.toNatClampNeg + (M.1 7 i.toNatClampNeg).toNatClampNeg)
            rw [ev, show (w * 30 + M.1 7 i.toNatClampNeg).toNatClampNeg = 30 * w.toNatClampNeg + (M.1 7 i.toNatClampNeg).toNatClampNeg by omega]
            rfl
          repeat' (first | apply And.intro | exact rfl | (intro hx; with_reducible exact absurd hx hz) | intro hx | (refine Exists.intro _ (And.intro rfl ?_)))
          all_goals try first | (with_reducible change am_tI _ _) | (change Ret _ _) | (change Ret _ _ _) | (change Exists _)
          all_goals try dsimp only at *
          all_goals try exact absurd ‹(1000 : Int64) = 0› (by decide)
          all_goals first
            | omega
            | (rw [l7]; exact ha.2)
            | (rw [l6]; omega)
            | skip
          exact ⟨_, am_lt_l (by omega), _, i + 1, rfl, rfl, rfl, ⟨by omega, by omega⟩, nx, rfl⟩
      · cases hI
    · exact h.elim
