/-! exact: book, the class -/
def r_prV (M : am_M) (b y : Int32) : Int64 := z_sum (r_pf M b y) (M.1 201 4).toNatClampNeg
/-- what a loan adds to what a book has -/
def r_hf (M : am_M) (b y k : Int32) (l : Nat) : Int64 := if r_lo M (Int32.ofNat l) 6 = b then (r_R M (r_lo M (Int32.ofNat l) 0) k (y.toNatClampNeg + 1)).1 (150 + l) else 0
def r_hasV (M : am_M) (b y k : Int32) : Int64 := z_sum (r_hf M b y k) (r_n M)
def r_bookV (M : am_M) (b y k w : Int32) : Int64 := if 0 ≤ b ∧ b ≤ 3 then (if 0 ≤ y ∧ y < 40 then (if 0 ≤ k ∧ k < 40 then (if 0 ≤ w ∧ w ≤ 1 then (if w = 0 then r_hasV M b y k else if r_hasV M b y k < r_prV M b y then r_prV M b y - r_hasV M b y k else 0) else -2) else -2) else -2) else -2
theorem r_pf_cg {M N : am_M} (h1 : N.1 201 = M.1 201) {b y : Int32} : r_pf N b y = r_pf M b y := by
  funext i
  unfold r_pf
  rw [h1]
theorem LX.bkb {i1 i2 : Bool} {M N : am_M} {b y k : Int32} (h : LX i1 i2 M) (ev : c_ev M y k (M.1 201 0).toInt N) : -1000000000000000000 ≤ (r_hasV M b y k).toInt ∧ (r_hasV M b y k).toInt ≤ 1000000000000000000 := by
  have n1 := h.li.n1
  have cn : (r_n M : Int) = (M.1 201 1).toInt := i_clamp n1.1
  have q := z_sum_b (f := r_hf M b y k) (B := 1200012000000000) (by omega) (by omega) (n := r_n M) (by omega) (fun l hl => by
    have ol := o_nat (n := l) (by omega)
    have hl30 : am_in (Int32.ofNat l) 30 := ⟨by omega, by omega⟩
    obtain ⟨pp, pp2, -⟩ := h.li.pe hl30 (by omega)
    obtain ⟨v, v0, v1⟩ := ev.v hl30 (by omega) pp2
    have v5 := v 5 (by decide)
    rw [ol.2] at v5 v0 v1
    have v5 : N.2 6 (150 + l) = (r_R M (r_lo M (Int32.ofNat l) 0) k (y.toNatClampNeg + 1)).1 (150 + l) := v5
    unfold r_hf
    by_cases z : r_lo M (Int32.ofNat l) 6 = b
    · rw [if_pos z, ← v5]
      omega
    · rw [if_neg z, show (0 : Int64).toInt = 0 from rfl]
      omega)
  unfold r_hasV
  have e : ((r_n M : Nat) : Int) * 1200012000000000 ≤ 30 * 1200012000000000 := Int.mul_le_mul_of_nonneg_right (by omega) (by omega)
  omega
theorem LX.bkp {i1 i2 : Bool} {M : am_M} {b y : Int32} (h : LX i1 i2 M) : -1000000000000000000 ≤ (r_prV M b y).toInt ∧ (r_prV M b y).toInt ≤ 1000000000000000000 := by
  have n4 := h.li.n4
  have c4 := i_clamp n4.1
  have q := z_sum_b (f := r_pf M b y) (B := 4294967296) (by omega) (by omega) (n := (M.1 201 4).toNatClampNeg) (by omega) (fun i hi => by
    unfold r_pf
    split
    · split
      · rw [Int32.toInt_toInt64]
        have a1 := Int32.le_toInt (M.1 201 (3513 + (3 * i + 2)))
        have a2 := Int32.toInt_lt (M.1 201 (3513 + (3 * i + 2)))
        omega
      · rw [show (0 : Int64).toInt = 0 from rfl]
        omega
    · rw [show (0 : Int64).toInt = 0 from rfl]
      omega)
  unfold r_prV
  have e : (((M.1 201 4).toNatClampNeg : Nat) : Int) * 4294967296 ≤ 30 * 4294967296 := Int.mul_le_mul_of_nonneg_right (by omega) (by omega)
  omega
def kX7_bookE (live : am_E) (Ret : am_R) : am_code := [(0, am_iload 1 1), (1, am_const (.int 0) 2), (2, am_const (.int 3) 3), (3, am_callS live 3 TX7_within 6), (6, am_if1 (fun x => x = 0) 33 9), (9, am_iload 2 10), (10, am_callS live 1 TX7_isYear 13), (13, am_if1 (fun x => x = 0) 33 16), (16, am_iload 3 17), (17, am_callS live 1 TX7_isYear 20), (20, am_if1 (fun x => x = 0) 33 23), (23, am_iload 4 25), (25, am_const (.int 0) 26), (26, am_const (.int 1) 27), (27, am_callS live 3 TX7_within 30), (30, am_if1 (fun x => x = 0) 33 37), (33, am_const (.long (-2)) 36), (36, am_retL Ret), (37, am_aload 0 38), (38, am_iload 2 39), (39, am_iload 3 40), (40, am_callV live 7 2 TE7_runEverybody 43), (43, am_const (.long 0) 44), (44, am_lstore 5 8 46), (46, am_const (.int 0) 47), (47, am_istore 7 8 49), (49, am_iload 7 51), (51, am_aload 0 52), (52, am_getR live 7 0 55), (55, am_getR live 0 4 58), (58, am_getI live 3 2 61), (61, am_if2 (fun x y => y ≤ x) 107 64), (64, am_aload 0 65), (65, am_getR live 7 0 68), (68, am_getR live 0 4 71), (71, am_iload 7 73), (73, am_const (.int 6) 75), (75, am_callV live 3 2 TX3_at 78), (78, am_iload 1 79), (79, am_if2 (fun x y => x = y) 82 101), (82, am_lload 5 84), (84, am_aload 0 85), (85, am_getR live 7 2 88), (88, am_getR live 4 2 91), (91, am_const (.int 150) 94), (94, am_iload 7 96), (96, am_i2 (fun x y => x + y) 97), (97, am_lald live 1 98), (98, am_l2 (fun x y => x + y) 99), (99, am_lstore 5 8 101), (101, am_iinc 7 8 1 104), (104, am_goto 49), (107, am_iload 4 109), (109, am_if1 (fun x => x = 0) 112 117), (112, am_lload 5 114), (114, am_goto 133), (117, am_const (.long 0) 118), (118, am_aload 0 119), (119, am_getR live 7 0 122), (122, am_iload 1 123), (123, am_iload 2 124), (124, am_callV live 0 2 TE0_promised 127), (127, am_lload 5 129), (129, am_l2 (fun x y => x - y) 130), (130, am_mathl (fun x y => if y < x then x else y) 147 133), (133, am_retL Ret)]
theorem koX7_bookE (live : am_E) (Ret : am_R) : ∀ q ∈ kX7_bookE live Ret, am_ok RX7 cX7_book 8 (some .long) 6 147 live Ret q.1 q.2 :=
  am_kc (ak_iload_n dX7_book_0 rfl rfl) <|
  am_kc (ak_iconst dX7_book_1 (by decide +kernel) rfl) <|
  am_kc (ak_iconst dX7_book_2 (by decide +kernel) rfl) <|
  am_kc (ak_callS metX7_within ⟨rfl, by decide +kernel, by decide +kernel, by decide +kernel⟩ (am_w4 wd_418 wd_419 wd_58 wd_420) (by decide) dX7_book_3 rfl) <|
  am_kc (ak_if_eq dX7_book_6 (by decide +kernel) rfl) <|
  am_kc (ak_iload_n dX7_book_9 rfl rfl) <|
  am_kc (ak_callS metX7_isYear ⟨rfl, by decide +kernel, by decide +kernel, by decide +kernel⟩ (am_w4 wd_407 wd_408 wd_58 wd_409) (by decide) dX7_book_10 rfl) <|
  am_kc (ak_if_eq dX7_book_13 (by decide +kernel) rfl) <|
  am_kc (ak_iload_n dX7_book_16 rfl rfl) <|
  am_kc (ak_callS metX7_isYear ⟨rfl, by decide +kernel, by decide +kernel, by decide +kernel⟩ (am_w4 wd_407 wd_408 wd_58 wd_409) (by decide) dX7_book_17 rfl) <|
  am_kc (ak_if_eq dX7_book_20 (by decide +kernel) rfl) <|
  am_kc (ak_iload dX7_book_23 rfl) <|
  am_kc (ak_iconst dX7_book_25 (by decide +kernel) rfl) <|
  am_kc (ak_iconst dX7_book_26 (by decide +kernel) rfl) <|
  am_kc (ak_callS metX7_within ⟨rfl, by decide +kernel, by decide +kernel, by decide +kernel⟩ (am_w4 wd_418 wd_419 wd_58 wd_420) (by decide) dX7_book_27 rfl) <|
  am_kc (ak_if_ne dX7_book_30 (by decide +kernel) rfl) <|
  am_kc (ak_ldc2 wd_545 dX7_book_33 rfl) <|
  am_kc (ak_retL dX7_book_36) <|
  am_kc (ak_aload_n dX7_book_37 rfl rfl) <|
  am_kc (ak_iload_n dX7_book_38 rfl rfl) <|
  am_kc (ak_iload_n dX7_book_39 rfl rfl) <|
  am_kc (ak_callV (C := RX7) (F := TX7) (N := 4) metX7_runEverybodyE rfl ⟨rfl, by decide +kernel, by decide +kernel, by decide +kernel⟩ (am_w5 wd_743 wd_745 wd_23 wd_58 wd_746) (by decide) dX7_book_40 rfl) <|
  am_kc (ak_lconst dX7_book_43 (by decide +kernel) rfl) <|
  am_kc (ak_lstore dX7_book_44 rfl) <|
  am_kc (ak_iconst dX7_book_46 (by decide +kernel) rfl) <|
  am_kc (ak_istore dX7_book_47 rfl) <|
  am_kc (ak_iload dX7_book_49 rfl) <|
  am_kc (ak_aload_n dX7_book_51 rfl rfl) <|
  am_kc (ak_getR (C := RX7) (T := TX7) (N := 4) rfl inX7w (by decide) rfl rfl rfl wd_390 dX7_book_52 rfl) <|
  am_kc (ak_getR (C := RX0) (T := TX0) (N := 13) rfl inX0w (by decide) rfl rfl rfl wd_207 dX7_book_55 rfl) <|
  am_kc (ak_getI (C := RX3) (T := TX3) (N := 3) rfl inX3w (by decide) rfl rfl rfl wd_152 dX7_book_58 rfl) <|
  am_kc (ak_icmp_ge dX7_book_61 (by decide +kernel) rfl) <|
  am_kc (ak_aload_n dX7_book_64 rfl rfl) <|
  am_kc (ak_getR (C := RX7) (T := TX7) (N := 4) rfl inX7w (by decide) rfl rfl rfl wd_390 dX7_book_65 rfl) <|
  am_kc (ak_getR (C := RX0) (T := TX0) (N := 13) rfl inX0w (by decide) rfl rfl rfl wd_207 dX7_book_68 rfl) <|
  am_kc (ak_iload dX7_book_71 rfl) <|
  am_kc (ak_bipush dX7_book_73 (by decide +kernel) rfl) <|
  am_kc (ak_callV (C := RX3) (F := TX3) (N := 3) metX3_at rfl ⟨rfl, by decide +kernel, by decide +kernel, by decide +kernel⟩ (am_w5 wd_524 wd_503 wd_504 wd_64 wd_505) (by decide) dX7_book_75 rfl) <|
  am_kc (ak_iload_n dX7_book_78 rfl rfl) <|
  am_kc (ak_icmp_ne dX7_book_79 (by decide +kernel) rfl) <|
  am_kc (ak_lload dX7_book_82 rfl) <|
  am_kc (ak_aload_n dX7_book_84 rfl rfl) <|
  am_kc (ak_getR (C := RX7) (T := TX7) (N := 4) rfl inX7w (by decide) rfl rfl rfl wd_392 dX7_book_85 rfl) <|
  am_kc (ak_getR (C := RX4) (T := TX4) (N := 19) rfl inX4w (by decide) rfl rfl rfl wd_298 dX7_book_88 rfl) <|
  am_kc (ak_sipush dX7_book_91 (by decide +kernel) rfl) <|
  am_kc (ak_iload dX7_book_94 rfl) <|
  am_kc (ak_iadd dX7_book_96 rfl) <|
  am_kc (ak_lald (t := 1) (fun _ => rfl) rfl dX7_book_97 rfl) <|
  am_kc (ak_ladd dX7_book_98 rfl) <|
  am_kc (ak_lstore dX7_book_99 rfl) <|
  am_kc (ak_iinc dX7_book_101 (by decide +kernel) rfl) <|
  am_kc (ak_goto dX7_book_104 (by decide +kernel)) <|
  am_kc (ak_iload dX7_book_107 rfl) <|
  am_kc (ak_if_ne dX7_book_109 (by decide +kernel) rfl) <|
  am_kc (ak_lload dX7_book_112 rfl) <|
  am_kc (ak_goto dX7_book_114 (by decide +kernel)) <|
  am_kc (ak_lconst dX7_book_117 (by decide +kernel) rfl) <|
  am_kc (ak_aload_n dX7_book_118 rfl rfl) <|
  am_kc (ak_getR (C := RX7) (T := TX7) (N := 4) rfl inX7w (by decide) rfl rfl rfl wd_390 dX7_book_119 rfl) <|
  am_kc (ak_iload_n dX7_book_122 rfl rfl) <|
  am_kc (ak_iload_n dX7_book_123 rfl rfl) <|
  am_kc (ak_callV (C := RX0) (F := TX0) (N := 13) metX0_promisedE rfl ⟨rfl, by decide +kernel, by decide +kernel, by decide +kernel⟩ (am_w5 wd_747 wd_748 wd_749 wd_61 wd_750) (by decide) dX7_book_124 rfl) <|
  am_kc (ak_lload dX7_book_127 rfl) <|
  am_kc (ak_lsub dX7_book_129 rfl) <|
  am_kc (ak_lmax (am_w4 wd_751 wd_611 wd_68 wd_612) (by decide) dX7_book_130 rfl) <|
  am_kc (ak_retL dX7_book_133) <| am_kn
def TE7_book : am_T := fun live as M R => match as with
  | [.ref n, .int b, .int y, .int k, .int w] => am_mn live ∧ n = 0 ∧ (∃ i1 i2, LX i1 i2 M) ∧ ∀ M', g_sc M M' → g_rI M' → R (some (.long (r_bookV M b y k w))) M'
  | _ => False
def JE7_book : am_E → List Value → am_M → am_R → am_inv := fun live as M0 _ pc => match as with
  | [.ref n, .int b, .int y, .int k, .int w] => (match pc with
    | 49 => some ([0, 1, 2, 4, 5, 7], fun u L st M => ∃ (v : Int64) (i : Int32), L = [(0, .ref 0), (1, .int b), (2, .int y), (4, .int w), (5, .long v), (7, .int i)] ∧ st = [] ∧ u = ((31 - i.toInt).toNat, 0) ∧ (0 ≤ i.toInt ∧ i.toInt ≤ (M0.1 201 1).toInt) ∧ g_sc M0 M ∧ g_rI M ∧ c_ev M0 y k (M0.1 201 0).toInt M ∧ v = z_sum (r_hf M0 b y k) i.toNatClampNeg ∧ r_bookV M0 b y k w = (if w = 0 then r_hasV M0 b y k else if r_hasV M0 b y k < r_prV M0 b y then r_prV M0 b y - r_hasV M0 b y k else 0))
    | _ => none)
  | _ => none
set_option maxRecDepth 100000 in
set_option maxHeartbeats 4000000 in
theorem metX7_bookE : am_Met yX7_book cX7_book 8 (some .long) (6) (147) TE7_book := by
  refine am_met (own := RX7) (by decide +kernel) rfl kX7_bookE koX7_bookE 150 JE7_book ?_ ?_
  · intro live as M Ret h
    unfold TE7_book at h
    split at h
    · next n b y k w =>
      refine ⟨Nat.le_of_ble_eq_true rfl, ?_⟩
      change am_wp _ _ _ _ [(0, Value.ref n), (1, Value.int b), (2, Value.int y), (3, Value.int k), (4, Value.int w)] _ _
      obtain ⟨hmn, rfl, ⟨j1, j2, hX⟩, h⟩ := h
      have hmn2 := hmn
      obtain ⟨i1, i2, rfl⟩ := hmn2
      have hR := hX.li.g
      have n1 := hX.li.n1
      by_cases z0 : 0 ≤ b ∧ b ≤ 3
      rotate_left
      · skip
        have q0 : (if 0 ≤ b ∧ b ≤ 3 then (1 : Int32) else 0) = 0 := if_neg z0
        have e : r_bookV M b y k w = -2 := by unfold r_bookV; rw [if_neg (fun q => z0 (by first | exact q | (rw [le1]; exact q) | (rw [le0]; exact q)))]
        rw [e] at h
        repeat' (first | (with_reducible exact hmn) | apply And.intro | exact rfl | (intro hx; with_reducible exact absurd q0 hx) | (intro hx; exact absurd hx (by decide)) | (intro hx; exact absurd (by decide) hx) | decide | intro hx | (refine Exists.intro _ (And.intro rfl ?_)))
        all_goals try first | (with_reducible change am_tI _ _) | (change Ret _ _) | (change Ret _ _ _) | (change Exists _)
        all_goals try dsimp only at *
        all_goals try exact absurd ‹(1000 : Int64) = 0› (by decide)
        all_goals exact h _ g_sc.rf hR
      · skip
        have q0 : ¬ ((if 0 ≤ b ∧ b ≤ 3 then (1 : Int32) else 0) = 0) := by rw [if_pos z0]; decide
        have y0 : 0 ≤ b ∧ b ≤ 3 := by first | exact z0 | (rw [← le1]; exact z0) | (rw [← le0]; exact z0)
        by_cases z1 : 0 ≤ y ∧ y < 40
        rotate_left
        · skip
          have q1 : (if 0 ≤ y ∧ y < 40 then (1 : Int32) else 0) = 0 := if_neg z1
          have e : r_bookV M b y k w = -2 := by unfold r_bookV; rw [if_pos y0, if_neg (fun q => z1 (by first | exact q | (rw [le1]; exact q) | (rw [le0]; exact q)))]
          rw [e] at h
          repeat' (first | (with_reducible exact hmn) | apply And.intro | exact rfl | (intro hx; with_reducible exact absurd hx q0) | (intro hx; with_reducible exact absurd q1 hx) | (intro hx; exact absurd hx (by decide)) | (intro hx; exact absurd (by decide) hx) | decide | intro hx | (refine Exists.intro _ (And.intro rfl ?_)))
          all_goals try first | (with_reducible change am_tI _ _) | (change Ret _ _) | (change Ret _ _ _) | (change Exists _)
          all_goals try dsimp only at *
          all_goals try exact absurd ‹(1000 : Int64) = 0› (by decide)
          all_goals exact h _ g_sc.rf hR
        · skip
          have q1 : ¬ ((if 0 ≤ y ∧ y < 40 then (1 : Int32) else 0) = 0) := by rw [if_pos z1]; decide
          have y1 : 0 ≤ y ∧ y < 40 := by first | exact z1 | (rw [← le1]; exact z1) | (rw [← le0]; exact z1)
          by_cases z2 : 0 ≤ k ∧ k < 40
          rotate_left
          · skip
            have q2 : (if 0 ≤ k ∧ k < 40 then (1 : Int32) else 0) = 0 := if_neg z2
            have e : r_bookV M b y k w = -2 := by unfold r_bookV; rw [if_pos y0, if_pos y1, if_neg (fun q => z2 (by first | exact q | (rw [le1]; exact q) | (rw [le0]; exact q)))]
            rw [e] at h
            repeat' (first | (with_reducible exact hmn) | apply And.intro | exact rfl | (intro hx; with_reducible exact absurd hx q0) | (intro hx; with_reducible exact absurd hx q1) | (intro hx; with_reducible exact absurd q2 hx) | (intro hx; exact absurd hx (by decide)) | (intro hx; exact absurd (by decide) hx) | decide | intro hx | (refine Exists.intro _ (And.intro rfl ?_)))
            all_goals try first | (with_reducible change am_tI _ _) | (change Ret _ _) | (change Ret _ _ _) | (change Exists _)
            all_goals try dsimp only at *
            all_goals try exact absurd ‹(1000 : Int64) = 0› (by decide)
            all_goals exact h _ g_sc.rf hR
          · skip
            have q2 : ¬ ((if 0 ≤ k ∧ k < 40 then (1 : Int32) else 0) = 0) := by rw [if_pos z2]; decide
            have y2 : 0 ≤ k ∧ k < 40 := by first | exact z2 | (rw [← le1]; exact z2) | (rw [← le0]; exact z2)
            by_cases z3 : 0 ≤ w ∧ w ≤ 1
            rotate_left
            · skip
              have q3 : (if 0 ≤ w ∧ w ≤ 1 then (1 : Int32) else 0) = 0 := if_neg z3
              have e : r_bookV M b y k w = -2 := by unfold r_bookV; rw [if_pos y0, if_pos y1, if_pos y2, if_neg (fun q => z3 (by first | exact q | (rw [le1]; exact q) | (rw [le0]; exact q)))]
              rw [e] at h
              repeat' (first | (with_reducible exact hmn) | apply And.intro | exact rfl | (intro hx; with_reducible exact absurd hx q0) | (intro hx; with_reducible exact absurd hx q1) | (intro hx; with_reducible exact absurd hx q2) | (intro hx; with_reducible exact absurd q3 hx) | (intro hx; exact absurd hx (by decide)) | (intro hx; exact absurd (by decide) hx) | decide | intro hx | (refine Exists.intro _ (And.intro rfl ?_)))
              all_goals try first | (with_reducible change am_tI _ _) | (change Ret _ _) | (change Ret _ _ _) | (change Exists _)
              all_goals try dsimp only at *
              all_goals try exact absurd ‹(1000 : Int64) = 0› (by decide)
              all_goals exact h _ g_sc.rf hR
            · skip
              have q3 : ¬ ((if 0 ≤ w ∧ w ≤ 1 then (1 : Int32) else 0) = 0) := by rw [if_pos z3]; decide
              have y3 : 0 ≤ w ∧ w ≤ 1 := by first | exact z3 | (rw [← le1]; exact z3) | (rw [← le0]; exact z3)
              have e : r_bookV M b y k w = (if w = 0 then r_hasV M b y k else if r_hasV M b y k < r_prV M b y then r_prV M b y - r_hasV M b y k else 0) := by unfold r_bookV; rw [if_pos y0, if_pos y1, if_pos y2, if_pos y3]
              have hy : am_in y 40 := ⟨by have q := y1.1; simp only [i_le, Int32.reduceToInt, Int32.toInt_zero] at q; omega, by have q := y1.2; simp only [i_lt, Int32.reduceToInt] at q; omega⟩
              have hk : am_in k 40 := ⟨by have q := y2.1; simp only [i_le, Int32.reduceToInt, Int32.toInt_zero] at q; omega, by have q := y2.2; simp only [i_lt, Int32.reduceToInt] at q; omega⟩
              repeat' (first | (with_reducible exact hmn) | (with_reducible exact hy) | (with_reducible exact hk) | apply And.intro | exact rfl | (intro hx; with_reducible exact absurd hx q0) | (intro hx; with_reducible exact absurd hx q1) | (intro hx; with_reducible exact absurd hx q2) | (intro hx; with_reducible exact absurd hx q3) | (intro hx; exact absurd hx (by decide)) | (intro hx; exact absurd (by decide) hx) | decide | intro hx | (refine Exists.intro _ (And.intro rfl ?_)))
              all_goals try first | (with_reducible change am_tI _ _) | (change Ret _ _) | (change Ret _ _ _) | (change Exists _)
              all_goals try dsimp only at *
              all_goals try exact absurd ‹(1000 : Int64) = 0› (by decide)
              all_goals first
                | exact ⟨_, _, hX⟩
                | exact ⟨hy, hk⟩
                | skip
              rename_i N c1 r1
              have ev := hx
              exact ⟨_, _, _, rfl, rfl, rfl, ⟨by decide, n1.1⟩, c1, r1, ev, rfl, e⟩
    · exact h.elim
  · intro live as M0 Ret h k pc I hI L st M hi
    unfold TE7_book at h
    split at h
    · next n b y k w =>
      obtain ⟨hmn, rfl, ⟨j1, j2, hX⟩, h⟩ := h
      have hmn2 := hmn
      obtain ⟨i1, i2, rfl⟩ := hmn2
      change (match pc with | 49 => _ | _ => none) = _ at hI
      split at hI
      · cases hI
        obtain ⟨v, i, rfl, rfl, rfl, ⟨e1, e5⟩, e2, e3, ev, rfl, eb⟩ := hi
        rw [eb] at h
        have hX2 := hX.sc e2 e3
        have c201 : M.1 201 = M0.1 201 := e2.r1 (by decide)
        have n1 := hX.li.n1
        have le1 : M.1 33 2 = M0.1 201 1 := by rw [hX2.li.e1, c201]
        have ci := i_clamp e1
        have cn : (r_n M0 : Int) = (M0.1 201 1).toInt := i_clamp n1.1
        have hi := i_inc (x := i) (by omega) (by omega)
        have ci1 := i_clamp (x := i + 1) (by omega)
        have nx : (i + 1).toNatClampNeg = i.toNatClampNeg + 1 := by omega
        by_cases hz : M.1 33 2 ≤ i
        · have hz2 := hz
          rw [le1] at hz2
          simp only [i_le] at hz2
          have en : r_hasV M0 b y k = z_sum (r_hf M0 b y k) i.toNatClampNeg := by
            unfold r_hasV
            rw [show r_n M0 = i.toNatClampNeg by omega]
          have pm : r_prV M0 b y = z_sum (r_pf M b y) (M.1 201 4).toNatClampNeg := by
            unfold r_prV
            rw [r_pf_cg c201, c201]
          have hLX : ∃ i1 i2, LX i1 i2 M := ⟨_, _, hX2⟩
          by_cases zw : w = 0
          · rw [if_pos zw, en] at h
            repeat' (first | (with_reducible exact hmn) | (with_reducible exact hLX) | apply And.intro | exact rfl | (intro hx; with_reducible exact absurd hz hx) | (intro hx; with_reducible exact absurd zw hx) | intro hx | (refine Exists.intro _ (And.intro rfl ?_)))
            all_goals try first | (with_reducible change am_tI _ _) | (change Ret _ _) | (change Ret _ _ _) | (change Exists _)
            all_goals try dsimp only at *
            all_goals try exact absurd ‹(1000 : Int64) = 0› (by decide)
            all_goals exact h _ e2 e3
          · rw [if_neg zw, z_bk hX.bkp (hX.bkb ev), en, pm] at h
            repeat' (first | (with_reducible exact hmn) | (with_reducible exact hLX) | apply And.intro | exact rfl | (intro hx; with_reducible exact absurd hx zw) | (intro hx; with_reducible exact absurd hz hx) | intro hx | (refine Exists.intro _ (And.intro rfl ?_)))
            all_goals try first | (with_reducible change am_tI _ _) | (change Ret _ _) | (change Ret _ _ _) | (change Exists _)
            all_goals try dsimp only at *
            all_goals try exact absurd ‹(1000 : Int64) = 0› (by decide)
            all_goals exact h _ e2 e3
        · have hz2 := hz
          rw [le1] at hz2
          simp only [i_le] at hz2
          have hl : am_in i 30 := ⟨e1, by omega⟩
          have f150 := g_ix hl 150 150 rfl (by decide)
          have l6 : am_len 6 = 180 := rfl
          have lo6 : am_at (M.1 34) (am_len 34) (i * M.1 33 1 + 6) = r_lo M i 6 := hX2.li.lo hl (w := 6) (n := 6) rfl (by decide)
          have r6 : r_lo M i 6 = r_lo M0 i 6 := by unfold r_lo; rw [c201]
          have ee := (ev.v hl (by omega) (hX.li.pe hl (by omega)).2.1).1 5 (by decide)
          have ee : M.2 6 (150 + i.toNatClampNeg) = (r_R M0 (r_lo M0 i 0) k (y.toNatClampNeg + 1)).1 (150 + i.toNatClampNeg) := ee
          by_cases y6 : am_at (M.1 34) (am_len 34) (i * M.1 33 1 + 6) = b
          · have s : z_sum (r_hf M0 b y k) (i + 1).toNatClampNeg = z_sum (r_hf M0 b y k) i.toNatClampNeg + M.2 6 (150 + i).toNatClampNeg := by
              rw [nx]
              show _ + r_hf M0 b y k i.toNatClampNeg = _
              unfold r_hf
              rw [o_cl hl (by decide), if_pos (by rw [← r6, ← lo6]; exact y6), f150.2.2, ee]
            repeat' (first | (with_reducible exact hmn) | apply And.intro | exact rfl | (intro hx; with_reducible exact absurd hx hz) | (intro hx; with_reducible exact absurd y6 hx) | intro hx | (refine Exists.intro _ (And.intro rfl ?_)))
            all_goals try first | (with_reducible change am_tI _ _) | (change Ret _ _) | (change Ret _ _ _) | (change Exists _)
            all_goals try dsimp only at *
            all_goals try exact absurd ‹(1000 : Int64) = 0› (by decide)
            all_goals first
              | exact f150.1
              | (rw [l6]; exact f150.2.1)
              | exact ⟨_, am_lt_l (by omega), _, _, rfl, rfl, rfl, ⟨by omega, by omega⟩, e2, e3, ev, s.symm, eb⟩
              | skip
          · have s : z_sum (r_hf M0 b y k) (i + 1).toNatClampNeg = z_sum (r_hf M0 b y k) i.toNatClampNeg := by
              rw [nx]
              show _ + r_hf M0 b y k i.toNatClampNeg = _
              unfold r_hf
              rw [o_cl hl (by decide), if_neg (by rw [← r6, ← lo6]; exact y6), Int64.add_zero]
            repeat' (first | (with_reducible exact hmn) | apply And.intro | exact rfl | (intro hx; with_reducible exact absurd hx hz) | (intro hx; with_reducible exact absurd hx y6) | intro hx | (refine Exists.intro _ (And.intro rfl ?_)))
            all_goals try first | (with_reducible change am_tI _ _) | (change Ret _ _) | (change Ret _ _ _) | (change Exists _)
            all_goals try dsimp only at *
            all_goals try exact absurd ‹(1000 : Int64) = 0› (by decide)
            all_goals first
              | exact ⟨_, am_lt_l (by omega), _, _, rfl, rfl, rfl, ⟨by omega, by omega⟩, e2, e3, ev, s.symm, eb⟩
              | skip
      · cases hI
    · exact h.elim
