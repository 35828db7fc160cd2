/-! runs, exact: the reference: a loan's year begins -/
/-- the reference's sums, laid out as the class's -/
def r_fl (M : am_M) : Nat → Int64 := fun k => if k < 30 then M.2 207 k else if k < 60 then M.2 208 (k - 30) else if k < 90 then M.2 211 (k - 60) else if k < 120 then M.2 209 (k - 90) else if k < 150 then M.2 212 (k - 120) else M.2 210 (k - 150)
theorem r_fl_cg {M N : am_M} (h : ∀ a, 207 ≤ a → a ≤ 212 → N.2 a = M.2 a) : r_fl N = r_fl M := by
  funext k
  unfold r_fl
  rw [h 207 (by decide) (by decide), h 208 (by decide) (by decide), h 209 (by decide) (by decide), h 210 (by decide) (by decide), h 211 (by decide) (by decide), h 212 (by decide) (by decide)]
theorem r_fl_w {M : am_M} {n l b : Nat} {v : Int64} (hl : l < 30) (hn : (n = 207 ∧ b = 0) ∨ (n = 208 ∧ b = 30) ∨ (n = 211 ∧ b = 60) ∨ (n = 209 ∧ b = 90) ∨ (n = 212 ∧ b = 120) ∨ (n = 210 ∧ b = 150)) : r_fl (am_wJ M n l v) = z_u (r_fl M) (b + l) v := by
  funext k
  unfold z_u r_fl
  by_cases z : k = b + l
  · subst z
    rw [if_pos rfl]
    rcases hn with ⟨rfl, rfl⟩ | ⟨rfl, rfl⟩ | ⟨rfl, rfl⟩ | ⟨rfl, rfl⟩ | ⟨rfl, rfl⟩ | ⟨rfl, rfl⟩
    · rw [if_pos (by omega), am_wJ_1, if_pos ⟨rfl, by omega⟩]
    · rw [if_neg (by omega), if_pos (by omega), am_wJ_1, if_pos ⟨rfl, by omega⟩]
    · rw [if_neg (by omega), if_neg (by omega), if_pos (by omega), am_wJ_1, if_pos ⟨rfl, by omega⟩]
    · rw [if_neg (by omega), if_neg (by omega), if_neg (by omega), if_pos (by omega), am_wJ_1, if_pos ⟨rfl, by omega⟩]
    · rw [if_neg (by omega), if_neg (by omega), if_neg (by omega), if_neg (by omega), if_pos (by omega), am_wJ_1, if_pos ⟨rfl, by omega⟩]
    · rw [if_neg (by omega), if_neg (by omega), if_neg (by omega), if_neg (by omega), if_neg (by omega), am_wJ_1, if_pos ⟨rfl, by omega⟩]
  · rw [if_neg z]
    repeat' split
    all_goals rw [am_wJ_1, if_neg (fun q => by omega)]
theorem r_fl_v {M : am_M} {l : Nat} (hl : l < 30) : r_fl M l = M.2 207 l := if_pos hl
/-- what a year's step changes -/
def r_ky (M N : am_M) : Prop := ∃ _ : Unit, (∀ a b, a ≠ 204 → a ≠ 213 → (a ≠ 200 ∨ (b ≠ 11 ∧ b ≠ 12 ∧ b ≠ 14)) → N.1 a b = M.1 a b) ∧ ∀ a b, a ≠ 205 → a ≠ 206 → ¬ (207 ≤ a ∧ a ≤ 212) → ¬ (a = 200 ∧ b = 22) → N.2 a b = M.2 a b
theorem r_ky.i {M N : am_M} (h : r_ky M N) {a b : Nat} (h4 : a ≠ 204) (h13 : a ≠ 213) (h2 : a ≠ 200 ∨ (b ≠ 11 ∧ b ≠ 12 ∧ b ≠ 14)) : N.1 a b = M.1 a b := by obtain ⟨-, h, -⟩ := h; exact h a b h4 h13 h2
theorem r_ky.j {M N : am_M} (h : r_ky M N) {a b : Nat} (h5 : a ≠ 205) (h6 : a ≠ 206) (h7 : ¬ (207 ≤ a ∧ a ≤ 212)) (h2 : ¬ (a = 200 ∧ b = 22)) : N.2 a b = M.2 a b := by obtain ⟨-, -, h⟩ := h; exact h a b h5 h6 h7 h2
theorem r_ky.rf {M : am_M} : r_ky M M := ⟨(), fun _ _ _ _ _ => rfl, fun _ _ _ _ _ _ => rfl⟩
theorem r_ky.tr {M N K : am_M} (h : r_ky M N) (h2 : r_ky N K) : r_ky M K := ⟨(), fun a b x y z => (h2.i x y z).trans (h.i x y z), fun a b x y z w => (h2.j x y z w).trans (h.j x y z w)⟩
theorem r_ky.kr {M N K : am_M} (h : r_ky M N) (h2 : r_kr N K) : r_ky M K := h.tr ⟨(), fun a b x _ z => h2.i x z, fun a b x y _ _ => by rw [h2.j x y]⟩
theorem r_ky.w {M N : am_M} {n k : Nat} {v : Int64} (h : r_ky M N) (hn : 207 ≤ n ∧ n ≤ 212) : r_ky M (am_wJ N n k v) := h.tr ⟨(), fun _ _ _ _ _ => rfl, fun a b _ _ z _ => by rw [am_wJ_1, if_neg (fun q => z (by omega))]⟩
theorem r_ky.wp {M N : am_M} {v : Int64} (h : r_ky M N) : r_ky M (am_wJ N 200 22 v) := h.tr ⟨(), fun _ _ _ _ _ => rfl, fun a b _ _ _ w => by rw [am_wJ_1, if_neg w]⟩
theorem r_ky.wb {M N : am_M} {k : Nat} {v : Int32} (h : r_ky M N) : r_ky M (am_wI N 213 k v) := h.tr ⟨(), fun a b _ z _ => by rw [am_wI_1, if_neg (fun q => z q.1)], fun _ _ _ _ _ _ => rfl⟩
theorem r_ky.sc {M N : am_M} (h : r_ky M N) : r_sc M N := ⟨(), fun a b z => ⟨h.i (by omega) (by omega) (by omega), h.j (by omega) (by omega) (by omega) (by omega)⟩, h.i (by decide) (by decide) (by decide), h.i (by decide) (by decide) (by decide)⟩
theorem r_ky.f {M N : am_M} (h : r_ky M N) {α : Type} (f : am_M → α) (hf : ∀ a b b', f (a, b) = f (a, b')) (h8 : ∀ (K : am_M) (u v w : Int32) (g g' : Nat → Int32), f (am_cI (am_cI (am_wI (am_wI (am_wI K 200 11 u) 200 12 v) 200 14 w) 204 g) 213 g') = f K) : f N = f M := by
  have e : N.1 = (am_cI (am_cI (am_wI (am_wI (am_wI M 200 11 (N.1 200 11)) 200 12 (N.1 200 12)) 200 14 (N.1 200 14)) 204 (N.1 204)) 213 (N.1 213)).1 := by
    funext a b
    rw [am_cI_1]
    by_cases z : a = 213
    · subst z; rw [if_pos rfl]
    · rw [if_neg z, am_cI_1]
      by_cases y : a = 204
      · subst y; rw [if_pos rfl]
      · rw [if_neg y, am_wI_1]
        by_cases w : a = 200 ∧ b = 14
        · rw [if_pos w, w.1, w.2]
        · rw [if_neg w, am_wI_1]
          by_cases w2 : a = 200 ∧ b = 12
          · rw [if_pos w2, w2.1, w2.2]
          · rw [if_neg w2, am_wI_1]
            by_cases w3 : a = 200 ∧ b = 11
            · rw [if_pos w3, w3.1, w3.2]
            · rw [if_neg w3]
              exact h.i y z (by omega)
  rw [z_cg1 f hf e, h8]
def r_ends (M : am_M) (y d l : Int32) : Bool := decide (¬ d = 0 ∨ ¬ (y - r_lo M l 2 < r_inF M (r_pl M l y) 3 (r_lo M l 0) y))
def r_o1 (M : am_M) (y l : Int32) (o : Int64) : Int64 := o + (if r_lo M l 2 = y then (r_lo M l 3).toInt64 else 0)
def r_dr (M : am_M) (y l : Int32) (o : Int64) : Int64 := if r_lo M l 5 = y then o - z_mn o (r_given M l y).toInt64 else o
def r_cap (o : Int64) (r : Int32) : Int64 := if 1000000000000 < o + o * r.toInt64 / 1000 then 1000000000000 else o + o * r.toInt64 / 1000
/-- sums of last year go -/
def z_r0 (s : Nat → Int64) (l : Int32) : Nat → Int64 := z_u (z_u (z_u s (60 + l.toNatClampNeg) 0) (120 + l.toNatClampNeg) 0) (30 + l.toNatClampNeg) 0
def z_ui (b : Nat → Int32) (k : Nat) (v : Int32) : Nat → Int32 := fun j => if j = k then v else b j
theorem z_wI {M : am_M} {n k : Nat} {v : Int32} : (am_wI M n k v).1 n = z_ui (M.1 n) k v := by
  funext b
  rw [am_wI_1]
  unfold z_ui
  by_cases z : b = k
  · rw [if_pos ⟨rfl, z⟩, if_pos z]
  · rw [if_neg (fun q => z q.2), if_neg z]
theorem z_u_u {s : Nat → Int64} {k : Nat} {v w : Int64} : z_u (z_u s k v) k w = z_u s k w := by
  funext j
  unfold z_u
  by_cases z : j = k
  · rw [if_pos z, if_pos z]
  · rw [if_neg z, if_neg z, if_neg z]
/-- a loan's year begins, as the reference has it -/
def z_rb (en : Int32 → Bool) (cap o1 dr : Int32 → Int64 → Int64) (p : (Nat → Int64) × (Nat → Int32)) (l : Int32) : (Nat → Int64) × (Nat → Int32) :=
  if ¬ p.2 l.toNatClampNeg = 0 then (z_r0 p.1 l, p.2)
  else if en l = true then (z_u (z_u (z_r0 p.1 l) (60 + l.toNatClampNeg) (p.1 l.toNatClampNeg)) l.toNatClampNeg 0, z_ui p.2 l.toNatClampNeg 1)
  else (z_u (z_u (z_r0 p.1 l) (120 + l.toNatClampNeg) (cap l (p.1 l.toNatClampNeg) - p.1 l.toNatClampNeg)) l.toNatClampNeg (dr l (o1 l (cap l (p.1 l.toNatClampNeg)))), p.2)
abbrev r_bg (M : am_M) (y e a d : Int32) : (Nat → Int64) × (Nat → Int32) → Int32 → (Nat → Int64) × (Nat → Int32) := z_rb (r_ends M y d) (fun l o => r_cap o (r_rt M l y e a o)) (r_o1 M y) (r_dr M y)
abbrev r_s2 (M : am_M) : (Nat → Int64) × (Nat → Int32) := (r_fl M, M.1 213)
def kX8_beginE (live : am_E) (Ret : am_R) : am_code := [(0, am_aload 0 1), (1, am_iload 1 2), (2, am_const (.int 0) 3), (3, am_callV live 8 2 TX8_ofLoan 6), (6, am_istore 6 12 8), (8, am_aload 0 9), (9, am_getR live 8 19 12), (12, am_iload 1 13), (13, am_const (.long 0) 14), (14, am_last live 1 15), (15, am_aload 0 16), (16, am_getR live 8 20 19), (19, am_iload 1 20), (20, am_const (.long 0) 21), (21, am_last live 1 22), (22, am_aload 0 23), (23, am_getR live 8 16 26), (26, am_iload 1 27), (27, am_const (.long 0) 28), (28, am_last live 1 29), (29, am_iload 5 31), (31, am_if1 (fun x => x = 0) 34 59), (34, am_iload 2 35), (35, am_aload 0 36), (36, am_iload 1 37), (37, am_const (.int 2) 38), (38, am_callV live 8 2 TX8_ofLoan 41), (41, am_i2 (fun x y => x - y) 42), (42, am_aload 0 43), (43, am_aload 0 44), (44, am_iload 1 45), (45, am_iload 2 46), (46, am_callV live 8 2 TE8_planAt 49), (49, am_const (.int 3) 50), (50, am_iload 6 52), (52, am_iload 2 53), (53, am_callV live 8 4 TE8_inForce 56), (56, am_if2 (fun x y => x < y) 63 59), (59, am_const (.int 1) 60), (60, am_goto 64), (63, am_const (.int 0) 64), (64, am_istore 7 12 66), (66, am_aload 0 67), (67, am_getR live 8 21 70), (70, am_iload 1 71), (71, am_ald live 2 72), (72, am_if1 (fun x => x = 0) 75 106), (75, am_iload 7 77), (77, am_if1 (fun x => x = 0) 106 80), (80, am_aload 0 81), (81, am_getR live 8 21 84), (84, am_iload 1 85), (85, am_const (.int 1) 86), (86, am_zst live 2 87), (87, am_aload 0 88), (88, am_getR live 8 19 91), (91, am_iload 1 92), (92, am_aload 0 93), (93, am_getR live 8 15 96), (96, am_iload 1 97), (97, am_lald live 1 98), (98, am_last live 1 99), (99, am_aload 0 100), (100, am_getR live 8 15 103), (103, am_iload 1 104), (104, am_const (.long 0) 105), (105, am_last live 1 106), (106, am_aload 0 107), (107, am_getR live 8 21 110), (110, am_iload 1 111), (111, am_ald live 2 112), (112, am_if1 (fun x => x = 0) 115 268), (115, am_aload 0 116), (116, am_getR live 8 15 119), (119, am_iload 1 120), (120, am_lald live 1 121), (121, am_aload 0 122), (122, am_getR live 8 15 125), (125, am_iload 1 126), (126, am_lald live 1 127), (127, am_aload 0 128), (128, am_iload 1 129), (129, am_iload 2 130), (130, am_iload 3 131), (131, am_iload 4 133), (133, am_callV live 8 4 TE8_rateOf 136), (136, am_i2l 137), (137, am_l2 (fun x y => x * y) 138), (138, am_const (.long 1000) 141), (141, am_l2z (fun x y => x / y) 142), (142, am_l2 (fun x y => x + y) 143), (143, am_lstore 8 12 145), (145, am_lload 8 147), (147, am_const (.long 1000000000000) 150), (150, am_lcmp 151), (151, am_if1 (fun x => x ≤ 0) 160 154), (154, am_const (.long 1000000000000) 157), (157, am_goto 162), (160, am_lload 8 162), (162, am_lstore 8 12 164), (164, am_aload 0 165), (165, am_getR live 8 20 168), (168, am_iload 1 169), (169, am_lload 8 171), (171, am_aload 0 172), (172, am_getR live 8 15 175), (175, am_iload 1 176), (176, am_lald live 1 177), (177, am_l2 (fun x y => x - y) 178), (178, am_last live 1 179), (179, am_aload 0 180), (180, am_getR live 8 15 183), (183, am_iload 1 184), (184, am_lload 8 186), (186, am_last live 1 187), (187, am_aload 0 188), (188, am_getR live 8 15 191), (191, am_iload 1 192), (192, am_dup2 193), (193, am_lald live 1 194), (194, am_aload 0 195), (195, am_iload 1 196), (196, am_const (.int 2) 197), (197, am_callV live 8 2 TX8_ofLoan 200), (200, am_iload 2 201), (201, am_if2 (fun x y => x = y) 204 214), (204, am_aload 0 205), (205, am_iload 1 206), (206, am_const (.int 3) 207), (207, am_callV live 8 2 TX8_ofLoan 210), (210, am_i2l 211), (211, am_goto 215), (214, am_const (.long 0) 215), (215, am_l2 (fun x y => x + y) 216), (216, am_last live 1 217), (217, am_aload 0 218), (218, am_iload 1 219), (219, am_const (.int 5) 220), (220, am_callV live 8 2 TX8_ofLoan 223), (223, am_iload 2 224), (224, am_if2 (fun x y => x = y) 227 268), (227, am_aload 0 228), (228, am_iload 1 229), (229, am_iload 2 230), (230, am_callV live 8 2 TX8_given 233), (233, am_i2l 234), (234, am_lstore 10 12 236), (236, am_aload 0 237), (237, am_getR live 8 15 240), (240, am_iload 1 241), (241, am_dup2 242), (242, am_lald live 1 243), (243, am_lload 10 245), (245, am_aload 0 246), (246, am_getR live 8 15 249), (249, am_iload 1 250), (250, am_lald live 1 251), (251, am_lcmp 252), (252, am_if1 (fun x => 0 ≤ x) 260 255), (255, am_lload 10 257), (257, am_goto 266), (260, am_aload 0 261), (261, am_getR live 8 15 264), (264, am_iload 1 265), (265, am_lald live 1 266), (266, am_l2 (fun x y => x - y) 267), (267, am_last live 1 268), (268, am_retV Ret)]
theorem koX8_beginE (live : am_E) (Ret : am_R) : ∀ q ∈ kX8_beginE live Ret, am_ok RX8 cX8_begin 12 none 7 162 live Ret q.1 q.2 :=
  am_kc (ak_aload_n dX8_begin_0 rfl rfl) <|
  am_kc (ak_iload_n dX8_begin_1 rfl rfl) <|
  am_kc (ak_iconst dX8_begin_2 (by decide +kernel) rfl) <|
  am_kc (ak_callV (C := RX8) (F := TX8) (N := 27) metX8_ofLoan rfl ⟨rfl, by decide +kernel, by decide +kernel, by decide +kernel⟩ (am_w5 wd_1154 wd_1156 wd_41 wd_67 wd_1157) (by decide) dX8_begin_3 rfl) <|
  am_kc (ak_istore dX8_begin_6 rfl) <|
  am_kc (ak_aload_n dX8_begin_8 rfl rfl) <|
  am_kc (ak_getR (C := RX8) (T := TX8) (N := 27) rfl inX8w (by decide) rfl rfl rfl wd_914 dX8_begin_9 rfl) <|
  am_kc (ak_iload_n dX8_begin_12 rfl rfl) <|
  am_kc (ak_lconst dX8_begin_13 (by decide +kernel) rfl) <|
  am_kc (ak_last (t := 1) (fun _ => rfl) rfl dX8_begin_14 rfl) <|
  am_kc (ak_aload_n dX8_begin_15 rfl rfl) <|
  am_kc (ak_getR (C := RX8) (T := TX8) (N := 27) rfl inX8w (by decide) rfl rfl rfl wd_915 dX8_begin_16 rfl) <|
  am_kc (ak_iload_n dX8_begin_19 rfl rfl) <|
  am_kc (ak_lconst dX8_begin_20 (by decide +kernel) rfl) <|
  am_kc (ak_last (t := 1) (fun _ => rfl) rfl dX8_begin_21 rfl) <|
  am_kc (ak_aload_n dX8_begin_22 rfl rfl) <|
  am_kc (ak_getR (C := RX8) (T := TX8) (N := 27) rfl inX8w (by decide) rfl rfl rfl wd_911 dX8_begin_23 rfl) <|
  am_kc (ak_iload_n dX8_begin_26 rfl rfl) <|
  am_kc (ak_lconst dX8_begin_27 (by decide +kernel) rfl) <|
  am_kc (ak_last (t := 1) (fun _ => rfl) rfl dX8_begin_28 rfl) <|
  am_kc (ak_iload dX8_begin_29 rfl) <|
  am_kc (ak_if_ne dX8_begin_31 (by decide +kernel) rfl) <|
  am_kc (ak_iload_n dX8_begin_34 rfl rfl) <|
  am_kc (ak_aload_n dX8_begin_35 rfl rfl) <|
  am_kc (ak_iload_n dX8_begin_36 rfl rfl) <|
  am_kc (ak_iconst dX8_begin_37 (by decide +kernel) rfl) <|
  am_kc (ak_callV (C := RX8) (F := TX8) (N := 27) metX8_ofLoan rfl ⟨rfl, by decide +kernel, by decide +kernel, by decide +kernel⟩ (am_w5 wd_1154 wd_1156 wd_41 wd_67 wd_1157) (by decide) dX8_begin_38 rfl) <|
  am_kc (ak_isub dX8_begin_41 rfl) <|
  am_kc (ak_aload_n dX8_begin_42 rfl rfl) <|
  am_kc (ak_aload_n dX8_begin_43 rfl rfl) <|
  am_kc (ak_iload_n dX8_begin_44 rfl rfl) <|
  am_kc (ak_iload_n dX8_begin_45 rfl rfl) <|
  am_kc (ak_callV (C := RX8) (F := TX8) (N := 27) metX8_planAtE rfl ⟨rfl, by decide +kernel, by decide +kernel, by decide +kernel⟩ (am_w5 wd_1085 wd_1087 wd_32 wd_67 wd_1088) (by decide) dX8_begin_46 rfl) <|
  am_kc (ak_iconst dX8_begin_49 (by decide +kernel) rfl) <|
  am_kc (ak_iload dX8_begin_50 rfl) <|
  am_kc (ak_iload_n dX8_begin_52 rfl rfl) <|
  am_kc (ak_callV (C := RX8) (F := TX8) (N := 27) metX8_inForceE rfl ⟨rfl, by decide +kernel, by decide +kernel, by decide +kernel⟩ (am_w5 wd_1053 wd_1055 wd_29 wd_67 wd_1056) (by decide) dX8_begin_53 rfl) <|
  am_kc (ak_icmp_lt dX8_begin_56 (by decide +kernel) rfl) <|
  am_kc (ak_iconst dX8_begin_59 (by decide +kernel) rfl) <|
  am_kc (ak_goto dX8_begin_60 (by decide +kernel)) <|
  am_kc (ak_iconst dX8_begin_63 (by decide +kernel) rfl) <|
  am_kc (ak_istore dX8_begin_64 rfl) <|
  am_kc (ak_aload_n dX8_begin_66 rfl rfl) <|
  am_kc (ak_getR (C := RX8) (T := TX8) (N := 27) rfl inX8w (by decide) rfl rfl rfl wd_916 dX8_begin_67 rfl) <|
  am_kc (ak_iload_n dX8_begin_70 rfl rfl) <|
  am_kc (ak_zald (t := 2) (fun _ => rfl) rfl dX8_begin_71 rfl) <|
  am_kc (ak_if_ne dX8_begin_72 (by decide +kernel) rfl) <|
  am_kc (ak_iload dX8_begin_75 rfl) <|
  am_kc (ak_if_eq dX8_begin_77 (by decide +kernel) rfl) <|
  am_kc (ak_aload_n dX8_begin_80 rfl rfl) <|
  am_kc (ak_getR (C := RX8) (T := TX8) (N := 27) rfl inX8w (by decide) rfl rfl rfl wd_916 dX8_begin_81 rfl) <|
  am_kc (ak_iload_n dX8_begin_84 rfl rfl) <|
  am_kc (ak_iconst dX8_begin_85 (by decide +kernel) rfl) <|
  am_kc (ak_zast (t := 2) (fun _ => rfl) rfl dX8_begin_86 rfl) <|
  am_kc (ak_aload_n dX8_begin_87 rfl rfl) <|
  am_kc (ak_getR (C := RX8) (T := TX8) (N := 27) rfl inX8w (by decide) rfl rfl rfl wd_914 dX8_begin_88 rfl) <|
  am_kc (ak_iload_n dX8_begin_91 rfl rfl) <|
  am_kc (ak_aload_n dX8_begin_92 rfl rfl) <|
  am_kc (ak_getR (C := RX8) (T := TX8) (N := 27) rfl inX8w (by decide) rfl rfl rfl wd_910 dX8_begin_93 rfl) <|
  am_kc (ak_iload_n dX8_begin_96 rfl rfl) <|
  am_kc (ak_lald (t := 1) (fun _ => rfl) rfl dX8_begin_97 rfl) <|
  am_kc (ak_last (t := 1) (fun _ => rfl) rfl dX8_begin_98 rfl) <|
  am_kc (ak_aload_n dX8_begin_99 rfl rfl) <|
  am_kc (ak_getR (C := RX8) (T := TX8) (N := 27) rfl inX8w (by decide) rfl rfl rfl wd_910 dX8_begin_100 rfl) <|
  am_kc (ak_iload_n dX8_begin_103 rfl rfl) <|
  am_kc (ak_lconst dX8_begin_104 (by decide +kernel) rfl) <|
  am_kc (ak_last (t := 1) (fun _ => rfl) rfl dX8_begin_105 rfl) <|
  am_kc (ak_aload_n dX8_begin_106 rfl rfl) <|
  am_kc (ak_getR (C := RX8) (T := TX8) (N := 27) rfl inX8w (by decide) rfl rfl rfl wd_916 dX8_begin_107 rfl) <|
  am_kc (ak_iload_n dX8_begin_110 rfl rfl) <|
  am_kc (ak_zald (t := 2) (fun _ => rfl) rfl dX8_begin_111 rfl) <|
  am_kc (ak_if_ne dX8_begin_112 (by decide +kernel) rfl) <|
  am_kc (ak_aload_n dX8_begin_115 rfl rfl) <|
  am_kc (ak_getR (C := RX8) (T := TX8) (N := 27) rfl inX8w (by decide) rfl rfl rfl wd_910 dX8_begin_116 rfl) <|
  am_kc (ak_iload_n dX8_begin_119 rfl rfl) <|
  am_kc (ak_lald (t := 1) (fun _ => rfl) rfl dX8_begin_120 rfl) <|
  am_kc (ak_aload_n dX8_begin_121 rfl rfl) <|
  am_kc (ak_getR (C := RX8) (T := TX8) (N := 27) rfl inX8w (by decide) rfl rfl rfl wd_910 dX8_begin_122 rfl) <|
  am_kc (ak_iload_n dX8_begin_125 rfl rfl) <|
  am_kc (ak_lald (t := 1) (fun _ => rfl) rfl dX8_begin_126 rfl) <|
  am_kc (ak_aload_n dX8_begin_127 rfl rfl) <|
  am_kc (ak_iload_n dX8_begin_128 rfl rfl) <|
  am_kc (ak_iload_n dX8_begin_129 rfl rfl) <|
  am_kc (ak_iload_n dX8_begin_130 rfl rfl) <|
  am_kc (ak_iload dX8_begin_131 rfl) <|
  am_kc (ak_callV (C := RX8) (F := TX8) (N := 27) metX8_rateOfE rfl ⟨rfl, by decide +kernel, by decide +kernel, by decide +kernel⟩ (am_w5 wd_1174 wd_1176 wd_46 wd_67 wd_1177) (by decide) dX8_begin_133 rfl) <|
  am_kc (ak_i2l dX8_begin_136 rfl) <|
  am_kc (ak_lmul dX8_begin_137 rfl) <|
  am_kc (ak_ldc2 wd_1045 dX8_begin_138 rfl) <|
  am_kc (ak_ldiv dX8_begin_141 rfl) <|
  am_kc (ak_ladd dX8_begin_142 rfl) <|
  am_kc (ak_lstore dX8_begin_143 rfl) <|
  am_kc (ak_lload dX8_begin_145 rfl) <|
  am_kc (ak_ldc2 wd_1178 dX8_begin_147 rfl) <|
  am_kc (ak_lcmp dX8_begin_150 rfl) <|
  am_kc (ak_if_le dX8_begin_151 (by decide +kernel) rfl) <|
  am_kc (ak_ldc2 wd_1178 dX8_begin_154 rfl) <|
  am_kc (ak_goto dX8_begin_157 (by decide +kernel)) <|
  am_kc (ak_lload dX8_begin_160 rfl) <|
  am_kc (ak_lstore dX8_begin_162 rfl) <|
  am_kc (ak_aload_n dX8_begin_164 rfl rfl) <|
  am_kc (ak_getR (C := RX8) (T := TX8) (N := 27) rfl inX8w (by decide) rfl rfl rfl wd_915 dX8_begin_165 rfl) <|
  am_kc (ak_iload_n dX8_begin_168 rfl rfl) <|
  am_kc (ak_lload dX8_begin_169 rfl) <|
  am_kc (ak_aload_n dX8_begin_171 rfl rfl) <|
  am_kc (ak_getR (C := RX8) (T := TX8) (N := 27) rfl inX8w (by decide) rfl rfl rfl wd_910 dX8_begin_172 rfl) <|
  am_kc (ak_iload_n dX8_begin_175 rfl rfl) <|
  am_kc (ak_lald (t := 1) (fun _ => rfl) rfl dX8_begin_176 rfl) <|
  am_kc (ak_lsub dX8_begin_177 rfl) <|
  am_kc (ak_last (t := 1) (fun _ => rfl) rfl dX8_begin_178 rfl) <|
  am_kc (ak_aload_n dX8_begin_179 rfl rfl) <|
  am_kc (ak_getR (C := RX8) (T := TX8) (N := 27) rfl inX8w (by decide) rfl rfl rfl wd_910 dX8_begin_180 rfl) <|
  am_kc (ak_iload_n dX8_begin_183 rfl rfl) <|
  am_kc (ak_lload dX8_begin_184 rfl) <|
  am_kc (ak_last (t := 1) (fun _ => rfl) rfl dX8_begin_186 rfl) <|
  am_kc (ak_aload_n dX8_begin_187 rfl rfl) <|
  am_kc (ak_getR (C := RX8) (T := TX8) (N := 27) rfl inX8w (by decide) rfl rfl rfl wd_910 dX8_begin_188 rfl) <|
  am_kc (ak_iload_n dX8_begin_191 rfl rfl) <|
  am_kc (ak_dup2 dX8_begin_192 rfl) <|
  am_kc (ak_lald (t := 1) (fun _ => rfl) rfl dX8_begin_193 rfl) <|
  am_kc (ak_aload_n dX8_begin_194 rfl rfl) <|
  am_kc (ak_iload_n dX8_begin_195 rfl rfl) <|
  am_kc (ak_iconst dX8_begin_196 (by decide +kernel) rfl) <|
  am_kc (ak_callV (C := RX8) (F := TX8) (N := 27) metX8_ofLoan rfl ⟨rfl, by decide +kernel, by decide +kernel, by decide +kernel⟩ (am_w5 wd_1154 wd_1156 wd_41 wd_67 wd_1157) (by decide) dX8_begin_197 rfl) <|
  am_kc (ak_iload_n dX8_begin_200 rfl rfl) <|
  am_kc (ak_icmp_ne dX8_begin_201 (by decide +kernel) rfl) <|
  am_kc (ak_aload_n dX8_begin_204 rfl rfl) <|
  am_kc (ak_iload_n dX8_begin_205 rfl rfl) <|
  am_kc (ak_iconst dX8_begin_206 (by decide +kernel) rfl) <|
  am_kc (ak_callV (C := RX8) (F := TX8) (N := 27) metX8_ofLoan rfl ⟨rfl, by decide +kernel, by decide +kernel, by decide +kernel⟩ (am_w5 wd_1154 wd_1156 wd_41 wd_67 wd_1157) (by decide) dX8_begin_207 rfl) <|
  am_kc (ak_i2l dX8_begin_210 rfl) <|
  am_kc (ak_goto dX8_begin_211 (by decide +kernel)) <|
  am_kc (ak_lconst dX8_begin_214 (by decide +kernel) rfl) <|
  am_kc (ak_ladd dX8_begin_215 rfl) <|
  am_kc (ak_last (t := 1) (fun _ => rfl) rfl dX8_begin_216 rfl) <|
  am_kc (ak_aload_n dX8_begin_217 rfl rfl) <|
  am_kc (ak_iload_n dX8_begin_218 rfl rfl) <|
  am_kc (ak_iconst dX8_begin_219 (by decide +kernel) rfl) <|
  am_kc (ak_callV (C := RX8) (F := TX8) (N := 27) metX8_ofLoan rfl ⟨rfl, by decide +kernel, by decide +kernel, by decide +kernel⟩ (am_w5 wd_1154 wd_1156 wd_41 wd_67 wd_1157) (by decide) dX8_begin_220 rfl) <|
  am_kc (ak_iload_n dX8_begin_223 rfl rfl) <|
  am_kc (ak_icmp_ne dX8_begin_224 (by decide +kernel) rfl) <|
  am_kc (ak_aload_n dX8_begin_227 rfl rfl) <|
  am_kc (ak_iload_n dX8_begin_228 rfl rfl) <|
  am_kc (ak_iload_n dX8_begin_229 rfl rfl) <|
  am_kc (ak_callV (C := RX8) (F := TX8) (N := 27) metX8_given rfl ⟨rfl, by decide +kernel, by decide +kernel, by decide +kernel⟩ (am_w5 wd_1073 wd_1075 wd_31 wd_67 wd_1076) (by decide) dX8_begin_230 rfl) <|
  am_kc (ak_i2l dX8_begin_233 rfl) <|
  am_kc (ak_lstore dX8_begin_234 rfl) <|
  am_kc (ak_aload_n dX8_begin_236 rfl rfl) <|
  am_kc (ak_getR (C := RX8) (T := TX8) (N := 27) rfl inX8w (by decide) rfl rfl rfl wd_910 dX8_begin_237 rfl) <|
  am_kc (ak_iload_n dX8_begin_240 rfl rfl) <|
  am_kc (ak_dup2 dX8_begin_241 rfl) <|
  am_kc (ak_lald (t := 1) (fun _ => rfl) rfl dX8_begin_242 rfl) <|
  am_kc (ak_lload dX8_begin_243 rfl) <|
  am_kc (ak_aload_n dX8_begin_245 rfl rfl) <|
  am_kc (ak_getR (C := RX8) (T := TX8) (N := 27) rfl inX8w (by decide) rfl rfl rfl wd_910 dX8_begin_246 rfl) <|
  am_kc (ak_iload_n dX8_begin_249 rfl rfl) <|
  am_kc (ak_lald (t := 1) (fun _ => rfl) rfl dX8_begin_250 rfl) <|
  am_kc (ak_lcmp dX8_begin_251 rfl) <|
  am_kc (ak_if_ge dX8_begin_252 (by decide +kernel) rfl) <|
  am_kc (ak_lload dX8_begin_255 rfl) <|
  am_kc (ak_goto dX8_begin_257 (by decide +kernel)) <|
  am_kc (ak_aload_n dX8_begin_260 rfl rfl) <|
  am_kc (ak_getR (C := RX8) (T := TX8) (N := 27) rfl inX8w (by decide) rfl rfl rfl wd_910 dX8_begin_261 rfl) <|
  am_kc (ak_iload_n dX8_begin_264 rfl rfl) <|
  am_kc (ak_lald (t := 1) (fun _ => rfl) rfl dX8_begin_265 rfl) <|
  am_kc (ak_lsub dX8_begin_266 rfl) <|
  am_kc (ak_last (t := 1) (fun _ => rfl) rfl dX8_begin_267 rfl) <|
  am_kc (ak_retV dX8_begin_268) <| am_kn
def TE8_begin : am_T := fun live as M R => match as with
  | [.ref n, .int l, .int y, .int e, .int a, .int d] => am_mn live ∧ n = 200 ∧ am_in l 30 ∧ am_in y 40 ∧ r_I M ∧ ∀ M', r_ky M M' → r_I M' → r_s2 M' = r_bg M y e a d (r_s2 M) l → R none M'
  | _ => False
def JE8_begin : am_E → List Value → am_M → am_R → am_inv := fun live as M0 _ pc => match as with
  | [.ref n, .int l, .int y, .int e, .int a, .int d] => (match pc with
    | 66 => some ([0, 1, 2, 3, 4, 7], fun k L st M => ∃ z : Int32, L = [(0, .ref 200), (1, .int l), (2, .int y), (3, .int e), (4, .int a), (7, .int z)] ∧ st = [] ∧ k = (10, 0) ∧ r_ky M0 M ∧ r_I M ∧ z = (if r_ends M0 y d l = true then 1 else 0) ∧ r_fl M = z_r0 (r_fl M0) l ∧ M.1 213 = M0.1 213)
    | 106 => some ([0, 1, 2, 3, 4], fun k L st M => L = [(0, .ref 200), (1, .int l), (2, .int y), (3, .int e), (4, .int a)] ∧ st = [] ∧ k = (9, 0) ∧ r_ky M0 M ∧ r_I M ∧ ((M.1 213 l.toNatClampNeg = 0 ∧ M0.1 213 l.toNatClampNeg = 0 ∧ r_ends M0 y d l = false ∧ r_fl M = z_r0 (r_fl M0) l ∧ M.1 213 = M0.1 213) ∨ (¬ M.1 213 l.toNatClampNeg = 0 ∧ r_s2 M = r_bg M0 y e a d (r_s2 M0) l)))
    | 187 => some ([0, 1, 2], fun k L st M => L = [(0, .ref 200), (1, .int l), (2, .int y)] ∧ st = [] ∧ k = (8, 0) ∧ r_ky M0 M ∧ r_I M ∧ M0.1 213 l.toNatClampNeg = 0 ∧ r_ends M0 y d l = false ∧ M.2 207 l.toNatClampNeg = r_cap (r_fl M0 l.toNatClampNeg) (r_rt M0 l y e a (r_fl M0 l.toNatClampNeg)) ∧ r_fl M = z_u (z_u (z_r0 (r_fl M0) l) (120 + l.toNatClampNeg) (r_cap (r_fl M0 l.toNatClampNeg) (r_rt M0 l y e a (r_fl M0 l.toNatClampNeg)) - r_fl M0 l.toNatClampNeg)) l.toNatClampNeg (r_cap (r_fl M0 l.toNatClampNeg) (r_rt M0 l y e a (r_fl M0 l.toNatClampNeg))) ∧ M.1 213 = M0.1 213)
    | 217 => some ([0, 1, 2], fun k L st M => L = [(0, .ref 200), (1, .int l), (2, .int y)] ∧ st = [] ∧ k = (7, 0) ∧ r_ky M0 M ∧ r_I M ∧ M0.1 213 l.toNatClampNeg = 0 ∧ r_ends M0 y d l = false ∧ M.2 207 l.toNatClampNeg = r_o1 M0 y l (r_cap (r_fl M0 l.toNatClampNeg) (r_rt M0 l y e a (r_fl M0 l.toNatClampNeg))) ∧ r_fl M = z_u (z_u (z_r0 (r_fl M0) l) (120 + l.toNatClampNeg) (r_cap (r_fl M0 l.toNatClampNeg) (r_rt M0 l y e a (r_fl M0 l.toNatClampNeg)) - r_fl M0 l.toNatClampNeg)) l.toNatClampNeg (r_o1 M0 y l (r_cap (r_fl M0 l.toNatClampNeg) (r_rt M0 l y e a (r_fl M0 l.toNatClampNeg)))) ∧ M.1 213 = M0.1 213)
    | _ => none)
  | _ => none
theorem r_b_y {M : am_M} {y e a d l : Int32} (h : M.1 213 l.toNatClampNeg = 0) (he : r_ends M y d l = true) : r_bg M y e a d (r_s2 M) l = (z_u (z_u (z_r0 (r_fl M) l) (60 + l.toNatClampNeg) (r_fl M l.toNatClampNeg)) l.toNatClampNeg 0, z_ui (M.1 213) l.toNatClampNeg 1) := by
  unfold r_bg z_rb
  rw [if_neg (fun q => q h), if_pos he]
theorem r_b_n {M : am_M} {y e a d l : Int32} (h : M.1 213 l.toNatClampNeg = 0) (he : r_ends M y d l = false) : r_bg M y e a d (r_s2 M) l = (z_u (z_u (z_r0 (r_fl M) l) (120 + l.toNatClampNeg) (r_cap (r_fl M l.toNatClampNeg) (r_rt M l y e a (r_fl M l.toNatClampNeg)) - r_fl M l.toNatClampNeg)) l.toNatClampNeg (r_dr M y l (r_o1 M y l (r_cap (r_fl M l.toNatClampNeg) (r_rt M l y e a (r_fl M l.toNatClampNeg))))), M.1 213) := by
  unfold r_bg z_rb
  rw [if_neg (fun q => q h), if_neg (by rw [he]; decide)]
theorem r_b_s {M : am_M} {y e a d l : Int32} (h : ¬ M.1 213 l.toNatClampNeg = 0) : r_bg M y e a d (r_s2 M) l = (z_r0 (r_fl M) l, M.1 213) := by
  unfold r_bg z_rb
  rw [if_pos h]
set_option maxRecDepth 100000 in
set_option maxHeartbeats 4000000 in
theorem metX8_beginE : am_Met yX8_begin cX8_begin 12 none (7) (162) TE8_begin := by
  refine am_met (own := RX8) (by decide +kernel) rfl kX8_beginE koX8_beginE 150 JE8_begin ?_ ?_
  · intro live as M Ret h
    unfold TE8_begin at h
    split at h
    · next n l y e a d =>
      refine ⟨Nat.le_of_ble_eq_true rfl, ?_⟩
      change am_wp _ _ _ _ [(0, Value.ref n), (1, Value.int l), (2, Value.int y), (3, Value.int e), (4, Value.int a), (5, Value.int d)] _ _
      obtain ⟨hmn, rfl, hl, hy, hR, h⟩ := h
      have hmn2 := hmn
      obtain ⟨i1, i2, rfl⟩ := hmn2
      have hp := r_pers hR hl
      have hy1 := hy.1
      have w0 : 0 ≤ (0 : Int32).toInt ∧ (0 : Int32).toInt ≤ 7 := ⟨by decide, by decide⟩
      have w2 : 0 ≤ (2 : Int32).toInt ∧ (2 : Int32).toInt ≤ 7 := ⟨by decide, by decide⟩
      have w36 : am_in (3 : Int32) 6 := ⟨by decide, by decide⟩
      have l1 := hl.1
      have l2 : l.toInt < ((30 : Nat) : Int) := hl.2
      have gl := g_cl hl
      have fl : r_fl (am_wJ (am_wJ (am_wJ M 211 l.toNatClampNeg 0) 212 l.toNatClampNeg 0) 208 l.toNatClampNeg 0) = z_r0 (r_fl M) l := by
        rw [r_fl_w (b := 30) gl (by simp), r_fl_w (b := 120) gl (by simp), r_fl_w (b := 60) gl (by simp)]
        rfl
      have ky : r_ky M (am_wJ (am_wJ (am_wJ M 211 l.toNatClampNeg 0) 212 l.toNatClampNeg 0) 208 l.toNatClampNeg 0) := ((r_ky.rf.w ⟨by decide, by decide⟩).w ⟨by decide, by decide⟩).w ⟨by decide, by decide⟩
      have hR2 : r_I (am_wJ (am_wJ (am_wJ M 211 l.toNatClampNeg 0) 212 l.toNatClampNeg 0) 208 l.toNatClampNeg 0) := ((hR.wJ).wJ).wJ
      by_cases zd : d = 0
      · by_cases zs : y - M.1 201 (2838 + 8 * l + 2).toNatClampNeg < r_inF M (r_pl M l y) 3 (M.1 201 (2838 + 8 * l + 0).toNatClampNeg) y
        · have en : r_ends M y d l = false := decide_eq_false (fun q => q.elim (fun q => q zd) (fun q => q zs))
          repeat' (first | ((with_reducible change ¬ _ < r_inF _ _ _ _ _ → _); intro hx; exact absurd zs hx) | (with_reducible exact hmn) | (with_reducible exact hl) | (with_reducible exact hy) | (with_reducible exact hy1) | (with_reducible exact hp) | (with_reducible exact w0) | (with_reducible exact w2) | (with_reducible exact w36) | (with_reducible exact hR2) | (with_reducible exact l1) | apply And.intro | exact rfl | (intro hx; with_reducible exact absurd zd hx) | ((with_reducible change r_I _); (with_reducible assumption)) | (intro hx; exact absurd hx (by decide)) | (intro hx; exact absurd (by decide) hx) | decide | intro hx | (refine Exists.intro _ (And.intro rfl ?_)))
          all_goals try first | (with_reducible change am_tI _ _) | (change Ret _ _) | (change Ret _ _ _) | (change Exists _)
          all_goals try dsimp only at *
          all_goals try exact absurd ‹(1000 : Int64) = 0› (by decide)
          all_goals first
            | exact l2
            | skip
          all_goals exact ⟨_, _, rfl, rfl, rfl, ky, hR2, by rw [if_neg (by rw [en]; decide)], fl, rfl⟩
        · have en : r_ends M y d l = true := decide_eq_true (Or.inr zs)
          repeat' (first | ((with_reducible change _ < r_inF _ _ _ _ _ → _); intro hx; exact absurd hx zs) | (with_reducible exact hmn) | (with_reducible exact hl) | (with_reducible exact hy) | (with_reducible exact hy1) | (with_reducible exact hp) | (with_reducible exact w0) | (with_reducible exact w2) | (with_reducible exact w36) | (with_reducible exact hR2) | (with_reducible exact l1) | apply And.intro | exact rfl | (intro hx; with_reducible exact absurd zd hx) | ((with_reducible change r_I _); (with_reducible assumption)) | (intro hx; exact absurd hx (by decide)) | (intro hx; exact absurd (by decide) hx) | decide | intro hx | (refine Exists.intro _ (And.intro rfl ?_)))
          all_goals try first | (with_reducible change am_tI _ _) | (change Ret _ _) | (change Ret _ _ _) | (change Exists _)
          all_goals try dsimp only at *
          all_goals try exact absurd ‹(1000 : Int64) = 0› (by decide)
          all_goals first
            | exact l2
            | skip
          all_goals exact ⟨_, _, rfl, rfl, rfl, ky, hR2, by rw [if_pos en], fl, rfl⟩
      · have en : r_ends M y d l = true := decide_eq_true (Or.inl zd)
        repeat' (first | (with_reducible exact hmn) | (with_reducible exact hl) | (with_reducible exact hy) | (with_reducible exact hy1) | (with_reducible exact hp) | (with_reducible exact w0) | (with_reducible exact w2) | (with_reducible exact w36) | (with_reducible exact hR2) | (with_reducible exact l1) | apply And.intro | exact rfl | (intro hx; with_reducible exact absurd hx zd) | ((with_reducible change r_I _); (with_reducible assumption)) | (intro hx; exact absurd hx (by decide)) | (intro hx; exact absurd (by decide) hx) | decide | intro hx | (refine Exists.intro _ (And.intro rfl ?_)))
        all_goals try first | (with_reducible change am_tI _ _) | (change Ret _ _) | (change Ret _ _ _) | (change Exists _)
        all_goals try dsimp only at *
        all_goals try exact absurd ‹(1000 : Int64) = 0› (by decide)
        all_goals first
          | exact l2
          | skip
        all_goals exact ⟨_, _, rfl, rfl, rfl, ky, hR2, by rw [if_pos en], fl, rfl⟩
    · exact h.elim
  · intro live as M0 Ret h k pc I hI L st M hi
    unfold TE8_begin at h
    split at h
    · next n l y e a d =>
      obtain ⟨hmn, rfl, hl, hy, hR, h⟩ := h
      have hmn2 := hmn
      obtain ⟨i1, i2, rfl⟩ := hmn2
      have w2 : 0 ≤ (2 : Int32).toInt ∧ (2 : Int32).toInt ≤ 7 := ⟨by decide, by decide⟩
      have w3 : 0 ≤ (3 : Int32).toInt ∧ (3 : Int32).toInt ≤ 7 := ⟨by decide, by decide⟩
      have w5 : 0 ≤ (5 : Int32).toInt ∧ (5 : Int32).toInt ≤ 7 := ⟨by decide, by decide⟩
      have l1 := hl.1
      have l2 : l.toInt < ((30 : Nat) : Int) := hl.2
      have gl := g_cl hl
      have v0 : r_fl M0 l.toNatClampNeg = M0.2 207 l.toNatClampNeg := r_fl_v gl
      have rn : z_r0 (r_fl M0) l l.toNatClampNeg = r_fl M0 l.toNatClampNeg := by
        unfold z_r0
        rw [z_u_n (by omega), z_u_n (by omega), z_u_n (by omega)]
      change (match pc with | 66 => _ | 106 => _ | 187 => _ | 217 => _ | _ => none) = _ at hI
      split at hI
      · cases hI
        obtain ⟨z, rfl, rfl, rfl, e2, e3, ez, ef, eb⟩ := hi
        by_cases zb : M.1 213 l.toNatClampNeg = 0
        · have zb0 : M0.1 213 l.toNatClampNeg = 0 := by rw [← eb]; exact zb
          by_cases zz : z = 0
          · have en : r_ends M0 y d l = false := by
              cases q : r_ends M0 y d l with
              | false => rfl
              | true => rw [q, if_pos rfl] at ez; rw [ez] at zz; exact absurd zz (by decide)
            repeat' (first | (with_reducible exact hmn) | (with_reducible exact l1) | apply And.intro | exact rfl | (intro hx; with_reducible exact absurd zb hx) | (intro hx; with_reducible exact absurd zz hx) | (intro hx; exact absurd hx (by decide)) | (intro hx; exact absurd (by decide) hx) | decide | intro hx | (refine Exists.intro _ (And.intro rfl ?_)))
            all_goals try first | (with_reducible change am_tI _ _) | (change Ret _ _) | (change Ret _ _ _) | (change Exists _)
            all_goals try dsimp only at *
            all_goals try exact absurd ‹(1000 : Int64) = 0› (by decide)
            all_goals first
              | exact l2
              | exact ⟨_, am_lt_l (by decide), rfl, rfl, rfl, e2, e3, Or.inl ⟨zb, zb0, en, ef, eb⟩⟩
              | skip
          · have en : r_ends M0 y d l = true := by
              cases q : r_ends M0 y d l with
              | true => rfl
              | false => rw [q, if_neg (by decide)] at ez; exact absurd ez zz
            have ev : M.2 207 l.toNatClampNeg = r_fl M0 l.toNatClampNeg := by
              rw [← r_fl_v (M := M) gl, ef, rn]
            repeat' (first | (with_reducible exact hmn) | (with_reducible exact l1) | apply And.intro | exact rfl | (intro hx; with_reducible exact absurd hx zz) | (intro hx; with_reducible exact absurd zb hx) | (intro hx; exact absurd hx (by decide)) | (intro hx; exact absurd (by decide) hx) | decide | intro hx | (refine Exists.intro _ (And.intro rfl ?_)))
            all_goals try first | (with_reducible change am_tI _ _) | (change Ret _ _) | (change Ret _ _ _) | (change Exists _)
            all_goals try dsimp only at *
            all_goals try exact absurd ‹(1000 : Int64) = 0› (by decide)
            all_goals first
              | exact l2
              | (right; rfl)
              | skip
            all_goals
              refine ⟨_, am_lt_l (by decide), rfl, rfl, rfl, ((e2.wb).w ⟨by decide, by decide⟩).w ⟨by decide, by decide⟩, ?_, Or.inr ⟨?_, ?_⟩⟩
              · exact ((e3.wA rfl).wJ).wJ
              · show ¬ (am_wI M 213 l.toNatClampNeg 1).1 213 l.toNatClampNeg = 0
                rw [am_wI_self]
                decide
              · rw [r_b_y zb0 en]
                refine Prod.ext ?_ ?_
                · show r_fl (am_wJ (am_wJ (am_wI M 213 l.toNatClampNeg 1) 211 l.toNatClampNeg _) 207 l.toNatClampNeg 0) = _
                  rw [r_fl_w (b := 0) gl (by simp), r_fl_w (b := 60) gl (by simp), show r_fl (am_wI M 213 l.toNatClampNeg 1) = r_fl M from rfl, ef, Nat.zero_add]
                  congr 2
                · show (am_wI M 213 l.toNatClampNeg 1).1 213 = _
                  rw [z_wI, eb]
        · skip
          repeat' (first | (with_reducible exact hmn) | (with_reducible exact l1) | apply And.intro | exact rfl | (intro hx; with_reducible exact absurd hx zb) | (intro hx; exact absurd hx (by decide)) | (intro hx; exact absurd (by decide) hx) | decide | intro hx | (refine Exists.intro _ (And.intro rfl ?_)))
          all_goals try first | (with_reducible change am_tI _ _) | (change Ret _ _) | (change Ret _ _ _) | (change Exists _)
          all_goals try dsimp only at *
          all_goals try exact absurd ‹(1000 : Int64) = 0› (by decide)
          all_goals first
            | exact l2
            | exact ⟨_, am_lt_l (by decide), rfl, rfl, rfl, e2, e3, Or.inr ⟨zb, by rw [r_b_s (by rw [← eb]; exact zb)]; exact Prod.ext ef eb⟩⟩
            | skip
      · cases hI
        obtain ⟨rfl, rfl, rfl, e2, e3, ez⟩ := hi
        rcases ez with ⟨zb, zb0, en, ef, eb⟩ | ⟨zb, es⟩
        · have ev : M.2 207 l.toNatClampNeg = r_fl M0 l.toNatClampNeg := by
            rw [← r_fl_v (M := M) gl, ef, rn]
          have er : r_rt M l y e a (M.2 207 l.toNatClampNeg) = r_rt M0 l y e a (r_fl M0 l.toNatClampNeg) := by
            rw [ev]
            exact e2.f (fun K => r_rt K l y e a (r_fl M0 l.toNatClampNeg)) (fun _ _ _ => rfl) (fun _ _ _ _ _ _ => rfl)
          by_cases zc : lg_cmp (M.2 207 l.toNatClampNeg + M.2 207 l.toNatClampNeg * (r_rt M l y e a (M.2 207 l.toNatClampNeg)).toInt64 / 1000) 1000000000000 ≤ 0
          · have ec : r_cap (r_fl M0 l.toNatClampNeg) (r_rt M0 l y e a (r_fl M0 l.toNatClampNeg)) = M.2 207 l.toNatClampNeg + M.2 207 l.toNatClampNeg * (r_rt M l y e a (M.2 207 l.toNatClampNeg)).toInt64 / 1000 := by
              rw [lc_le, j_le] at zc
              rw [er, ev] at zc ⊢
              exact if_neg (fun q => by rw [Int64.lt_iff_toInt_lt] at q; omega)
            repeat' (first | (with_reducible exact hmn) | (with_reducible exact hl) | (with_reducible exact hy) | (with_reducible exact l1) | (with_reducible exact e3) | apply And.intro | exact rfl | (intro hx; with_reducible exact absurd zb hx) | (intro hx; with_reducible exact absurd zc hx) | (intro hx; exact absurd hx (by decide)) | (intro hx; exact absurd (by decide) hx) | decide | intro hx | (refine Exists.intro _ (And.intro rfl ?_)))
            all_goals try first | (with_reducible change am_tI _ _) | (change Ret _ _) | (change Ret _ _ _) | (change Exists _)
            all_goals try dsimp only at *
            all_goals try exact absurd ‹(1000 : Int64) = 0› (by decide)
            all_goals first
              | exact l2
              | decide
              | skip
            all_goals
              rename_i N kr hRN
              have en7 : N.2 207 = M.2 207 := kr.j (by decide) (by decide)
              have efN : r_fl N = r_fl M := r_fl_cg (fun a x y => kr.j (by omega) (by omega))
              refine ⟨_, am_lt_l (by decide), rfl, rfl, rfl, ((e2.kr kr).w ⟨by decide, by decide⟩).w ⟨by decide, by decide⟩, (hRN.wJ).wJ, zb0, en, ?_, ?_, ?_⟩
              · rw [am_wJ_1, if_pos ⟨rfl, rfl⟩, ec]
              · rw [r_fl_w (b := 0) gl (by simp), r_fl_w (b := 120) gl (by simp), efN, ef, Nat.zero_add, en7, ec, ev]
              · exact (funext fun j => kr.i (by decide) (Or.inl (by decide))).trans eb
          · have ec : r_cap (r_fl M0 l.toNatClampNeg) (r_rt M0 l y e a (r_fl M0 l.toNatClampNeg)) = 1000000000000 := by
              rw [lc_le, j_le] at zc
              rw [er, ev] at zc
              exact if_pos (by rw [Int64.lt_iff_toInt_lt]; omega)
            repeat' (first | (with_reducible exact hmn) | (with_reducible exact hl) | (with_reducible exact hy) | (with_reducible exact l1) | (with_reducible exact e3) | apply And.intro | exact rfl | (intro hx; with_reducible exact absurd hx zc) | (intro hx; with_reducible exact absurd zb hx) | (intro hx; exact absurd hx (by decide)) | (intro hx; exact absurd (by decide) hx) | decide | intro hx | (refine Exists.intro _ (And.intro rfl ?_)))
            all_goals try first | (with_reducible change am_tI _ _) | (change Ret _ _) | (change Ret _ _ _) | (change Exists _)
            all_goals try dsimp only at *
            all_goals try exact absurd ‹(1000 : Int64) = 0› (by decide)
            all_goals first
              | exact l2
              | decide
              | skip
            all_goals
              rename_i N kr hRN
              have en7 : N.2 207 = M.2 207 := kr.j (by decide) (by decide)
              have efN : r_fl N = r_fl M := r_fl_cg (fun a x y => kr.j (by omega) (by omega))
              refine ⟨_, am_lt_l (by decide), rfl, rfl, rfl, ((e2.kr kr).w ⟨by decide, by decide⟩).w ⟨by decide, by decide⟩, (hRN.wJ).wJ, zb0, en, ?_, ?_, ?_⟩
              · rw [am_wJ_1, if_pos ⟨rfl, rfl⟩, ec]
              · rw [r_fl_w (b := 0) gl (by simp), r_fl_w (b := 120) gl (by simp), efN, ef, Nat.zero_add, en7, ec, ev]
              · exact (funext fun j => kr.i (by decide) (Or.inl (by decide))).trans eb
        · have hh := h M e2 e3 es
          repeat' (first | (with_reducible exact hmn) | (with_reducible exact hl) | (with_reducible exact hy) | (with_reducible exact l1) | (with_reducible exact e3) | apply And.intro | exact rfl | (intro hx; with_reducible exact absurd hx zb) | (intro hx; exact absurd hx (by decide)) | (intro hx; exact absurd (by decide) hx) | decide | intro hx | (refine Exists.intro _ (And.intro rfl ?_)))
          all_goals try first | (with_reducible change am_tI _ _) | (change Ret _ _) | (change Ret _ _ _) | (change Exists _)
          all_goals try dsimp only at *
          all_goals try exact absurd ‹(1000 : Int64) = 0› (by decide)
          all_goals first
            | exact l2
            | exact hh
            | skip
      · cases hI
        obtain ⟨rfl, rfl, rfl, e2, e3, zb0, en, ev, ef, eb⟩ := hi
        have f2 : M.1 201 (2838 + 8 * l + 2).toNatClampNeg = r_lo M0 l 2 := e2.i (by decide) (by decide) (Or.inl (by decide))
        have f3 : M.1 201 (2838 + 8 * l + 3).toNatClampNeg = r_lo M0 l 3 := e2.i (by decide) (by decide) (Or.inl (by decide))
        by_cases z2 : M.1 201 (2838 + 8 * l + 2).toNatClampNeg = y
        · have eo : r_o1 M0 y l (r_cap (r_fl M0 l.toNatClampNeg) (r_rt M0 l y e a (r_fl M0 l.toNatClampNeg))) = M.2 207 l.toNatClampNeg + (M.1 201 (2838 + 8 * l + 3).toNatClampNeg).toInt64 := by
            unfold r_o1
            rw [ev, if_pos (by rw [← f2]; exact z2), f3]
          repeat' (first | (with_reducible exact hmn) | (with_reducible exact hl) | (with_reducible exact w2) | (with_reducible exact w3) | (with_reducible exact l1) | (with_reducible exact e3) | apply And.intro | exact rfl | (intro hx; with_reducible exact absurd z2 hx) | (intro hx; exact absurd hx (by decide)) | (intro hx; exact absurd (by decide) hx) | decide | intro hx | (refine Exists.intro _ (And.intro rfl ?_)))
          all_goals try first | (with_reducible change am_tI _ _) | (change Ret _ _) | (change Ret _ _ _) | (change Exists _)
          all_goals try dsimp only at *
          all_goals try exact absurd ‹(1000 : Int64) = 0› (by decide)
          all_goals first
            | exact l2
            | exact ⟨_, am_lt_l (by decide), rfl, rfl, rfl, e2.w ⟨by decide, by decide⟩, e3.wJ, zb0, en, by rw [am_wJ_1, if_pos ⟨rfl, rfl⟩, eo], by rw [r_fl_w (b := 0) gl (by simp), ef, Nat.zero_add, z_u_u, eo], eb⟩
            | skip
        · have eo : r_o1 M0 y l (r_cap (r_fl M0 l.toNatClampNeg) (r_rt M0 l y e a (r_fl M0 l.toNatClampNeg))) = M.2 207 l.toNatClampNeg + 0 := by
            unfold r_o1
            rw [ev, if_neg (by rw [← f2]; exact z2)]
          repeat' (first | (with_reducible exact hmn) | (with_reducible exact hl) | (with_reducible exact w2) | (with_reducible exact w3) | (with_reducible exact l1) | (with_reducible exact e3) | apply And.intro | exact rfl | (intro hx; with_reducible exact absurd hx z2) | (intro hx; exact absurd hx (by decide)) | (intro hx; exact absurd (by decide) hx) | decide | intro hx | (refine Exists.intro _ (And.intro rfl ?_)))
          all_goals try first | (with_reducible change am_tI _ _) | (change Ret _ _) | (change Ret _ _ _) | (change Exists _)
          all_goals try dsimp only at *
          all_goals try exact absurd ‹(1000 : Int64) = 0› (by decide)
          all_goals first
            | exact l2
            | exact ⟨_, am_lt_l (by decide), rfl, rfl, rfl, e2.w ⟨by decide, by decide⟩, e3.wJ, zb0, en, by rw [am_wJ_1, if_pos ⟨rfl, rfl⟩, eo], by rw [r_fl_w (b := 0) gl (by simp), ef, Nat.zero_add, z_u_u, eo], eb⟩
            | skip
      · cases hI
        obtain ⟨rfl, rfl, rfl, e2, e3, zb0, en, ev, ef, eb⟩ := hi
        have f5 : M.1 201 (2838 + 8 * l + 5).toNatClampNeg = r_lo M0 l 5 := e2.i (by decide) (by decide) (Or.inl (by decide))
        have fg : r_given M l y = r_given M0 l y := e2.f (fun K => r_given K l y) (fun _ _ _ => rfl) (fun _ _ _ _ _ _ => rfl)
        by_cases z5 : M.1 201 (2838 + 8 * l + 5).toNatClampNeg = y
        · have ed : ∀ o, r_dr M0 y l o = o - z_mn o (r_given M l y).toInt64 := fun o => by
            unfold r_dr
            rw [if_pos (by rw [← f5]; exact z5), fg]
          by_cases zl : 0 ≤ lg_cmp (r_given M l y).toInt64 (M.2 207 l.toNatClampNeg)
          · have em : z_mn (M.2 207 l.toNatClampNeg) (r_given M l y).toInt64 = M.2 207 l.toNatClampNeg := by
              rw [lc_ge, j_le] at zl
              exact if_neg (fun q => by rw [Int64.lt_iff_toInt_lt] at q; omega)
            repeat' (first | (with_reducible exact hmn) | (with_reducible exact hl) | (with_reducible exact w5) | (with_reducible exact l1) | (with_reducible exact e3) | apply And.intro | exact rfl | (intro hx; with_reducible exact absurd z5 hx) | (intro hx; with_reducible exact absurd zl hx) | (intro hx; exact absurd hx (by decide)) | (intro hx; exact absurd (by decide) hx) | decide | intro hx | (refine Exists.intro _ (And.intro rfl ?_)))
            all_goals try first | (with_reducible change am_tI _ _) | (change Ret _ _) | (change Ret _ _ _) | (change Exists _)
            all_goals try dsimp only at *
            all_goals try exact absurd ‹(1000 : Int64) = 0› (by decide)
            all_goals first
              | exact l2
              | skip
            all_goals
              refine h _ (e2.w ⟨by decide, by decide⟩) e3.wJ ?_
              rw [r_b_n zb0 en]
              refine Prod.ext ?_ eb
              show r_fl (am_wJ M 207 l.toNatClampNeg _) = _
              rw [r_fl_w (b := 0) gl (by simp), ef, Nat.zero_add, z_u_u, ed, ← ev, em]
          · have em : z_mn (M.2 207 l.toNatClampNeg) (r_given M l y).toInt64 = (r_given M l y).toInt64 := by
              rw [lc_ge, j_le] at zl
              exact if_pos (by rw [Int64.lt_iff_toInt_lt]; omega)
            repeat' (first | (with_reducible exact hmn) | (with_reducible exact hl) | (with_reducible exact w5) | (with_reducible exact l1) | (with_reducible exact e3) | apply And.intro | exact rfl | (intro hx; with_reducible exact absurd hx zl) | (intro hx; with_reducible exact absurd z5 hx) | (intro hx; exact absurd hx (by decide)) | (intro hx; exact absurd (by decide) hx) | decide | intro hx | (refine Exists.intro _ (And.intro rfl ?_)))
            all_goals try first | (with_reducible change am_tI _ _) | (change Ret _ _) | (change Ret _ _ _) | (change Exists _)
            all_goals try dsimp only at *
            all_goals try exact absurd ‹(1000 : Int64) = 0› (by decide)
            all_goals first
              | exact l2
              | skip
            all_goals
              refine h _ (e2.w ⟨by decide, by decide⟩) e3.wJ ?_
              rw [r_b_n zb0 en]
              refine Prod.ext ?_ eb
              show r_fl (am_wJ M 207 l.toNatClampNeg _) = _
              rw [r_fl_w (b := 0) gl (by simp), ef, Nat.zero_add, z_u_u, ed, ← ev, em]
        · have ed : ∀ o, r_dr M0 y l o = o := fun o => by
            unfold r_dr
            rw [if_neg (by rw [← f5]; exact z5)]
          have hh := h M e2 e3 (by rw [r_b_n zb0 en, ed]; exact Prod.ext ef eb)
          repeat' (first | (with_reducible exact hmn) | (with_reducible exact hl) | (with_reducible exact w5) | (with_reducible exact l1) | (with_reducible exact e3) | apply And.intro | exact rfl | (intro hx; with_reducible exact absurd hx z5) | (intro hx; exact absurd hx (by decide)) | (intro hx; exact absurd (by decide) hx) | decide | intro hx | (refine Exists.intro _ (And.intro rfl ?_)))
          all_goals try first | (with_reducible change am_tI _ _) | (change Ret _ _) | (change Ret _ _ _) | (change Exists _)
          all_goals try dsimp only at *
          all_goals try exact absurd ‹(1000 : Int64) = 0› (by decide)
          all_goals first
            | exact l2
            | exact hh
            | skip
      · cases hI
    · exact h.elim
