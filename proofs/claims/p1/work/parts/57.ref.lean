/-! p1: the reference, loops -/
theorem dX8_live_0 : decode cX8_live 0 = .ok (.iload_n 1, 1) := by decide +kernel
theorem dX8_live_1 : decode cX8_live 1 = .ok (.invokestatic 250, 3) := by decide +kernel
theorem dX8_live_4 : decode cX8_live 4 = .ok (.ifCond .eq 35, 3) := by decide +kernel
theorem dX8_live_7 : decode cX8_live 7 = .ok (.iload_n 2, 1) := by decide +kernel
theorem dX8_live_8 : decode cX8_live 8 = .ok (.invokestatic 72, 3) := by decide +kernel
theorem dX8_live_11 : decode cX8_live 11 = .ok (.ifCond .eq 28, 3) := by decide +kernel
theorem dX8_live_14 : decode cX8_live 14 = .ok (.iload_n 3, 1) := by decide +kernel
theorem dX8_live_15 : decode cX8_live 15 = .ok (.invokestatic 72, 3) := by decide +kernel
theorem dX8_live_18 : decode cX8_live 18 = .ok (.ifCond .eq 21, 3) := by decide +kernel
theorem dX8_live_21 : decode cX8_live 21 = .ok (.iload_n 2, 1) := by decide +kernel
theorem dX8_live_22 : decode cX8_live 22 = .ok (.iload_n 3, 1) := by decide +kernel
theorem dX8_live_23 : decode cX8_live 23 = .ok (.if_icmp .gt 16, 3) := by decide +kernel
theorem dX8_live_26 : decode cX8_live 26 = .ok (.iload 4, 2) := by decide +kernel
theorem dX8_live_28 : decode cX8_live 28 = .ok (.i2l, 1) := by decide +kernel
theorem dX8_live_29 : decode cX8_live 29 = .ok (.lconst 0, 1) := by decide +kernel
theorem dX8_live_30 : decode cX8_live 30 = .ok (.ldc2_w 87, 3) := by decide +kernel
theorem dX8_live_33 : decode cX8_live 33 = .ok (.invokestatic 66, 3) := by decide +kernel
theorem dX8_live_36 : decode cX8_live 36 = .ok (.ifCond .ne 6, 3) := by decide +kernel
theorem dX8_live_39 : decode cX8_live 39 = .ok (.bipush (-2), 2) := by decide +kernel
theorem dX8_live_41 : decode cX8_live 41 = .ok (.ireturn, 1) := by decide +kernel
theorem dX8_live_42 : decode cX8_live 42 = .ok (.iload_n 2, 1) := by decide +kernel
theorem dX8_live_43 : decode cX8_live 43 = .ok (.istore 5, 2) := by decide +kernel
theorem dX8_live_45 : decode cX8_live 45 = .ok (.iload 5, 2) := by decide +kernel
theorem dX8_live_47 : decode cX8_live 47 = .ok (.iload_n 3, 1) := by decide +kernel
theorem dX8_live_48 : decode cX8_live 48 = .ok (.if_icmp .gt 27, 3) := by decide +kernel
theorem dX8_live_51 : decode cX8_live 51 = .ok (.aload_n 0, 1) := by decide +kernel
theorem dX8_live_52 : decode cX8_live 52 = .ok (.getfield 7, 3) := by decide +kernel
theorem dX8_live_55 : decode cX8_live 55 = .ok (.sipush 3573, 3) := by decide +kernel
theorem dX8_live_58 : decode cX8_live 58 = .ok (.bipush 40, 2) := by decide +kernel
theorem dX8_live_60 : decode cX8_live 60 = .ok (.iload_n 1, 1) := by decide +kernel
theorem dX8_live_61 : decode cX8_live 61 = .ok (.imul, 1) := by decide +kernel
theorem dX8_live_62 : decode cX8_live 62 = .ok (.iadd, 1) := by decide +kernel
theorem dX8_live_63 : decode cX8_live 63 = .ok (.iload 5, 2) := by decide +kernel
theorem dX8_live_65 : decode cX8_live 65 = .ok (.iadd, 1) := by decide +kernel
theorem dX8_live_66 : decode cX8_live 66 = .ok (.iload 4, 2) := by decide +kernel
theorem dX8_live_68 : decode cX8_live 68 = .ok (.iastore, 1) := by decide +kernel
theorem dX8_live_69 : decode cX8_live 69 = .ok (.iinc 5 1, 3) := by decide +kernel
theorem dX8_live_72 : decode cX8_live 72 = .ok (.goto (-27), 3) := by decide +kernel
theorem dX8_live_75 : decode cX8_live 75 = .ok (.iconst 1, 1) := by decide +kernel
theorem dX8_live_76 : decode cX8_live 76 = .ok (.ireturn, 1) := by decide +kernel
def kX8_live (live : am_E) (Ret : am_R) : am_code := [(0, am_iload 1 1), (1, am_callS live 1 TX8_isLife 4), (4, am_if1 (fun x => x = 0) 39 7), (7, am_iload 2 8), (8, am_callS live 1 TX8_isYear 11), (11, am_if1 (fun x => x = 0) 39 14), (14, am_iload 3 15), (15, am_callS live 1 TX8_isYear 18), (18, am_if1 (fun x => x = 0) 39 21), (21, am_iload 2 22), (22, am_iload 3 23), (23, am_if2 (fun x y => y < x) 39 26), (26, am_iload 4 28), (28, am_i2l 29), (29, am_const (.long 0) 30), (30, am_const (.long 10000000) 33), (33, am_callS live 3 TX8_in 36), (36, am_if1 (fun x => x = 0) 39 42), (39, am_const (.int (-2)) 41), (41, am_retI Ret), (42, am_iload 2 43), (43, am_istore 5 6 45), (45, am_iload 5 47), (47, am_iload 3 48), (48, am_if2 (fun x y => y < x) 75 51), (51, am_aload 0 52), (52, am_getR live 8 0 55), (55, am_const (.int 3573) 58), (58, am_const (.int 40) 60), (60, am_iload 1 61), (61, am_i2 (fun x y => x * y) 62), (62, am_i2 (fun x y => x + y) 63), (63, am_iload 5 65), (65, am_i2 (fun x y => x + y) 66), (66, am_iload 4 68), (68, am_ast live 0 69), (69, am_iinc 5 6 1 72), (72, am_goto 45), (75, am_const (.int 1) 76), (76, am_retI Ret)]
theorem koX8_live (live : am_E) (Ret : am_R) : ∀ q ∈ kX8_live live Ret, am_ok RX8 cX8_live 6 (some .int) 2 45 live Ret q.1 q.2 :=
  am_kc (ak_iload_n dX8_live_0 rfl rfl) <|
  am_kc (ak_callS metX8_isLife ⟨rfl, by decide +kernel, by decide +kernel, by decide +kernel⟩ (am_w4 wd_1225 wd_1226 wd_67 wd_1227) (by decide) dX8_live_1 rfl) <|
  am_kc (ak_if_eq dX8_live_4 (by decide +kernel) rfl) <|
  am_kc (ak_iload_n dX8_live_7 rfl rfl) <|
  am_kc (ak_callS metX8_isYear ⟨rfl, by decide +kernel, by decide +kernel, by decide +kernel⟩ (am_w4 wd_982 wd_983 wd_67 wd_984) (by decide) dX8_live_8 rfl) <|
  am_kc (ak_if_eq dX8_live_11 (by decide +kernel) rfl) <|
  am_kc (ak_iload_n dX8_live_14 rfl rfl) <|
  am_kc (ak_callS metX8_isYear ⟨rfl, by decide +kernel, by decide +kernel, by decide +kernel⟩ (am_w4 wd_982 wd_983 wd_67 wd_984) (by decide) dX8_live_15 rfl) <|
  am_kc (ak_if_eq dX8_live_18 (by decide +kernel) rfl) <|
  am_kc (ak_iload_n dX8_live_21 rfl rfl) <|
  am_kc (ak_iload_n dX8_live_22 rfl rfl) <|
  am_kc (ak_icmp_gt dX8_live_23 (by decide +kernel) rfl) <|
  am_kc (ak_iload dX8_live_26 rfl) <|
  am_kc (ak_i2l dX8_live_28 rfl) <|
  am_kc (ak_lconst dX8_live_29 (by decide +kernel) rfl) <|
  am_kc (ak_ldc2 wd_1017 dX8_live_30 rfl) <|
  am_kc (ak_callS metX8_in ⟨rfl, by decide +kernel, by decide +kernel, by decide +kernel⟩ (am_w4 wd_986 wd_987 wd_67 wd_988) (by decide) dX8_live_33 rfl) <|
  am_kc (ak_if_ne dX8_live_36 (by decide +kernel) rfl) <|
  am_kc (ak_bipush dX8_live_39 (by decide +kernel) rfl) <|
  am_kc (ak_retI dX8_live_41) <|
  am_kc (ak_iload_n dX8_live_42 rfl rfl) <|
  am_kc (ak_istore dX8_live_43 rfl) <|
  am_kc (ak_iload dX8_live_45 rfl) <|
  am_kc (ak_iload_n dX8_live_47 rfl rfl) <|
  am_kc (ak_icmp_gt dX8_live_48 (by decide +kernel) rfl) <|
  am_kc (ak_aload_n dX8_live_51 rfl rfl) <|
  am_kc (ak_getR (C := RX8) (T := TX8) (N := 27) rfl inX8w (by decide) rfl rfl rfl wd_895 dX8_live_52 rfl) <|
  am_kc (ak_sipush dX8_live_55 (by decide +kernel) rfl) <|
  am_kc (ak_bipush dX8_live_58 (by decide +kernel) rfl) <|
  am_kc (ak_iload_n dX8_live_60 rfl rfl) <|
  am_kc (ak_imul dX8_live_61 rfl) <|
  am_kc (ak_iadd dX8_live_62 rfl) <|
  am_kc (ak_iload dX8_live_63 rfl) <|
  am_kc (ak_iadd dX8_live_65 rfl) <|
  am_kc (ak_iload dX8_live_66 rfl) <|
  am_kc (ak_iast (t := 0) (fun _ => rfl) rfl dX8_live_68 rfl) <|
  am_kc (ak_iinc dX8_live_69 (by decide +kernel) rfl) <|
  am_kc (ak_goto dX8_live_72 (by decide +kernel)) <|
  am_kc (ak_iconst dX8_live_75 (by decide +kernel) rfl) <|
  am_kc (ak_retI dX8_live_76) <| am_kn
def TX8_live : am_T := fun live as M R => match as with
  | [.ref n, .int l, .int f, .int t, .int p] => am_mn live ∧ n = 200 ∧ am_F8 M ∧ ∀ M', am_ch am_hi M M' → R (some (.int (a_live l f t p))) M'
  | _ => False
def JX8_live : am_E → List Value → am_M → am_R → am_inv := fun live as M0 _ pc => match as with
  | [.ref _, .int l, .int f, .int t, .int p] => (match pc with
    | 45 => some ([0, 1, 3, 4, 5], fun k L st M => ∃ i : Int32, L = [(0, .ref 200), (1, .int l), (3, .int t), (4, .int p), (5, .int i)] ∧ st = [] ∧ k = ((41 - i.toInt).toNat, 0) ∧ (0 ≤ i.toInt ∧ i.toInt ≤ 40) ∧ ((0 ≤ l ∧ l ≤ 3) ∧ (0 ≤ f ∧ f ≤ t ∧ t < 40) ∧ (0 ≤ p ∧ p ≤ 10000000)) ∧ am_ch am_hi M0 M)
    | _ => none)
  | _ => none
set_option maxRecDepth 100000 in
set_option maxHeartbeats 4000000 in
theorem metX8_live : am_Met yX8_live cX8_live 6 (some .int) (2) (45) TX8_live := by
  refine am_met (own := RX8) (by decide +kernel) rfl kX8_live koX8_live 200 JX8_live ?_ ?_
  · intro live as M Ret h
    unfold TX8_live at h
    split at h
    · next n l f t p =>
      refine ⟨Nat.le_of_ble_eq_true rfl, ?_⟩
      change am_wp _ _ _ _ [(0, Value.ref n), (1, Value.int l), (2, Value.int f), (3, Value.int t), (4, Value.int p)] _ _
      obtain ⟨⟨i1, i2, rfl⟩, rfl, hF, h⟩ := h
      by_cases hc : (0 ≤ l ∧ l ≤ 3) ∧ (0 ≤ f ∧ f ≤ t ∧ t < 40) ∧ (0 ≤ p ∧ p ≤ 10000000)
      ·
        have n0 : ¬ (if 0 ≤ l ∧ l ≤ 3 then (1 : Int32) else 0) = 0 := by rw [if_pos hc.1]; decide
        have n1 : ¬ (if 0 ≤ f ∧ f < 40 then (1 : Int32) else 0) = 0 := by rw [if_pos (by have z := hc; simp only [i_le, i_lt, i_eq, j_le, Int32.toInt_toInt64, Int32.reduceToInt, Int64.reduceToInt, Int32.toInt_zero] at z ⊢; omega)]; decide
        have n2 : ¬ (if 0 ≤ t ∧ t < 40 then (1 : Int32) else 0) = 0 := by rw [if_pos (by have z := hc; simp only [i_le, i_lt, i_eq, j_le, Int32.toInt_toInt64, Int32.reduceToInt, Int64.reduceToInt, Int32.toInt_zero] at z ⊢; omega)]; decide
        have n3 : ¬ t < f := by have z := hc; simp only [i_le, i_lt, i_eq, j_le, Int32.toInt_toInt64, Int32.reduceToInt, Int64.reduceToInt, Int32.toInt_zero] at z ⊢; omega
        have n4 : ¬ (if ((0 : Int64) ≤ p.toInt64 ∧ p.toInt64 ≤ 10000000) then (1 : Int32) else 0) = 0 := by rw [if_pos (by have z := hc; simp only [i_le, i_lt, i_eq, j_le, Int32.toInt_toInt64, Int32.reduceToInt, Int64.reduceToInt, Int32.toInt_zero] at z ⊢; omega)]; decide
        repeat' (first | apply And.intro | exact rfl | (intro hx; with_reducible exact absurd hx n0) | (intro hx; with_reducible exact absurd hx n1) | (intro hx; with_reducible exact absurd hx n2) | (intro hx; with_reducible exact absurd hx n3) | (intro hx; with_reducible exact absurd hx n4) | intro hx | (refine Exists.intro _ (And.intro rfl ?_)))
        all_goals try first | (with_reducible change am_tI _ _) | (change Ret _ _) | (change Ret _ _ _) | (change Exists _)
        all_goals try dsimp only at *
        all_goals try exact absurd ‹(1000 : Int64) = 0› (by decide)
        refine ⟨_, _, rfl, rfl, rfl, ?_, hc, am_ch.rf⟩
        have z := hc
        simp only [i_le, i_lt, i_eq, j_le, Int32.toInt_toInt64, Int32.reduceToInt, Int64.reduceToInt, Int32.toInt_zero] at z
        omega
      ·
        have e9 : a_live l f t p = -2 := if_neg hc
        rw [e9] at h
        by_cases z0 : 0 ≤ l ∧ l ≤ 3
        rotate_left
        ·
          have hp : (if 0 ≤ l ∧ l ≤ 3 then (1 : Int32) else 0) = 0 := if_neg z0
          repeat' (first | apply And.intro | exact rfl | (intro hx; with_reducible exact absurd hp hx) | intro hx | (refine Exists.intro _ (And.intro rfl ?_)))
          all_goals try first | (with_reducible change am_tI _ _) | (change Ret _ _) | (change Ret _ _ _) | (change Exists _)
          all_goals try dsimp only at *
          all_goals try exact absurd ‹(1000 : Int64) = 0› (by decide)
          all_goals exact h _ am_ch.rf
        have n0 : ¬ (if 0 ≤ l ∧ l ≤ 3 then (1 : Int32) else 0) = 0 := by rw [if_pos z0]; decide
        by_cases z1 : 0 ≤ f ∧ f < 40
        rotate_left
        ·
          have hp : (if 0 ≤ f ∧ f < 40 then (1 : Int32) else 0) = 0 := if_neg z1
          repeat' (first | apply And.intro | exact rfl | (intro hx; with_reducible exact absurd hx n0) | (intro hx; with_reducible exact absurd hp hx) | intro hx | (refine Exists.intro _ (And.intro rfl ?_)))
          all_goals try first | (with_reducible change am_tI _ _) | (change Ret _ _) | (change Ret _ _ _) | (change Exists _)
          all_goals try dsimp only at *
          all_goals try exact absurd ‹(1000 : Int64) = 0› (by decide)
          all_goals exact h _ am_ch.rf
        have n1 : ¬ (if 0 ≤ f ∧ f < 40 then (1 : Int32) else 0) = 0 := by rw [if_pos z1]; decide
        by_cases z2 : 0 ≤ t ∧ t < 40
        rotate_left
        ·
          have hp : (if 0 ≤ t ∧ t < 40 then (1 : Int32) else 0) = 0 := if_neg z2
          repeat' (first | apply And.intro | exact rfl | (intro hx; with_reducible exact absurd hx n0) | (intro hx; with_reducible exact absurd hx n1) | (intro hx; with_reducible exact absurd hp hx) | intro hx | (refine Exists.intro _ (And.intro rfl ?_)))
          all_goals try first | (with_reducible change am_tI _ _) | (change Ret _ _) | (change Ret _ _ _) | (change Exists _)
          all_goals try dsimp only at *
          all_goals try exact absurd ‹(1000 : Int64) = 0› (by decide)
          all_goals exact h _ am_ch.rf
        have n2 : ¬ (if 0 ≤ t ∧ t < 40 then (1 : Int32) else 0) = 0 := by rw [if_pos z2]; decide
        by_cases z3 : t < f
        ·
          repeat' (first | apply And.intro | exact rfl | (intro hx; with_reducible exact absurd hx n0) | (intro hx; with_reducible exact absurd hx n1) | (intro hx; with_reducible exact absurd hx n2) | (intro hx; with_reducible exact absurd z3 hx) | intro hx | (refine Exists.intro _ (And.intro rfl ?_)))
          all_goals try first | (with_reducible change am_tI _ _) | (change Ret _ _) | (change Ret _ _ _) | (change Exists _)
          all_goals try dsimp only at *
          all_goals try exact absurd ‹(1000 : Int64) = 0› (by decide)
          all_goals exact h _ am_ch.rf
        by_cases z4 : ((0 : Int64) ≤ p.toInt64 ∧ p.toInt64 ≤ 10000000)
        rotate_left
        ·
          have hp : (if ((0 : Int64) ≤ p.toInt64 ∧ p.toInt64 ≤ 10000000) then (1 : Int32) else 0) = 0 := if_neg z4
          repeat' (first | apply And.intro | exact rfl | (intro hx; with_reducible exact absurd hx n0) | (intro hx; with_reducible exact absurd hx n1) | (intro hx; with_reducible exact absurd hx n2) | (intro hx; with_reducible exact absurd hx z3) | (intro hx; with_reducible exact absurd hp hx) | intro hx | (refine Exists.intro _ (And.intro rfl ?_)))
          all_goals try first | (with_reducible change am_tI _ _) | (change Ret _ _) | (change Ret _ _ _) | (change Exists _)
          all_goals try dsimp only at *
          all_goals try exact absurd ‹(1000 : Int64) = 0› (by decide)
          all_goals exact h _ am_ch.rf
        exact absurd (by clear h e9 hc hF n0 n1 n2; simp only [i_le, i_lt, i_eq, j_le, Int32.toInt_toInt64, Int32.reduceToInt, Int64.reduceToInt, Int32.toInt_zero] at *; omega) hc
    · exact h.elim
  · intro live as M0 Ret h k pc I hI L st M hi
    unfold TX8_live at h
    split at h
    · next n l f t p =>
      obtain ⟨⟨i1, i2, rfl⟩, rfl, hF, h⟩ := h
      change (match pc with | 45 => _ | _ => none) = _ at hI
      split at hI
      · cases hI
        obtain ⟨i, rfl, rfl, rfl, hi, hc, hM⟩ := hi
        have e9 : a_live l f t p = 1 := if_pos hc
        rw [e9] at h
        have z := hc
        simp only [i_le, i_lt, i_eq, j_le, Int32.toInt_toInt64, Int32.reduceToInt, Int64.reduceToInt, Int32.toInt_zero] at z
        have l201 : (am_len 201 : Int) = 3760 := rfl
        have e1 : (40 * l).toInt = 40 * l.toInt := i_mul (by simp only [Int32.reduceToInt]; omega) (by simp only [Int32.reduceToInt]; omega)
        have e2 : (3573 + 40 * l).toInt = 3573 + 40 * l.toInt := by rw [i_add (by simp only [e1, Int32.reduceToInt]; omega) (by simp only [e1, Int32.reduceToInt]; omega), e1]; simp only [Int32.reduceToInt]
        have e3 : (3573 + 40 * l + i).toInt = 3573 + 40 * l.toInt + i.toInt := by rw [i_add (by simp only [e2]; omega) (by simp only [e2]; omega), e2]
        by_cases hlt : t < i
        ·
          repeat' (first | apply And.intro | exact rfl | (intro hx; with_reducible exact absurd hlt hx) | intro hx | (refine Exists.intro _ (And.intro rfl ?_)))
          all_goals try first | (with_reducible change am_tI _ _) | (change Ret _ _) | (change Ret _ _ _) | (change Exists _)
          all_goals try dsimp only at *
          all_goals try exact absurd ‹(1000 : Int64) = 0› (by decide)
          all_goals exact h _ hM
        ·
          have b1 : 0 ≤ (3573 + 40 * l + i).toInt := by rw [e3]; omega
          have ht : i.toInt ≤ t.toInt := by simp only [i_lt] at hlt; omega
          have b2 : (3573 + 40 * l + i).toInt < (am_len 201 : Int) := by rw [e3, l201]; omega
          repeat' (first | (with_reducible exact b1) | (with_reducible exact b2) | apply And.intro | exact rfl | (intro hx; with_reducible exact absurd hx hlt) | intro hx | (refine Exists.intro _ (And.intro rfl ?_)))
          all_goals try first | (with_reducible change am_tI _ _) | (change Ret _ _) | (change Ret _ _ _) | (change Exists _)
          all_goals try dsimp only at *
          all_goals try exact absurd ‹(1000 : Int64) = 0› (by decide)
          have ei := i_add (x := i) (y := 1) (by simp only [Int32.reduceToInt]; omega) (by simp only [Int32.reduceToInt]; omega)
          simp only [Int32.reduceToInt] at ei
          refine ⟨_, Or.inl ?_, i + 1, rfl, rfl, rfl, ?_, hc, hM.wI (by show 200 ≤ (_ : Nat); decide)⟩
          · simp only [ei]; omega
          · omega
      · cases hI
    · exact h.elim
theorem dX8_image_0 : decode cX8_image 0 = .ok (.iload_n 1, 1) := by decide +kernel
theorem dX8_image_1 : decode cX8_image 1 = .ok (.i2l, 1) := by decide +kernel
theorem dX8_image_2 : decode cX8_image 2 = .ok (.lconst 0, 1) := by decide +kernel
theorem dX8_image_3 : decode cX8_image 3 = .ok (.lconst 1, 1) := by decide +kernel
theorem dX8_image_4 : decode cX8_image 4 = .ok (.invokestatic 66, 3) := by decide +kernel
theorem dX8_image_7 : decode cX8_image 7 = .ok (.ifCond .ne 6, 3) := by decide +kernel
theorem dX8_image_10 : decode cX8_image 10 = .ok (.bipush (-2), 2) := by decide +kernel
theorem dX8_image_12 : decode cX8_image 12 = .ok (.ireturn, 1) := by decide +kernel
theorem dX8_image_13 : decode cX8_image 13 = .ok (.iconst 0, 1) := by decide +kernel
theorem dX8_image_14 : decode cX8_image 14 = .ok (.istore_n 2, 1) := by decide +kernel
theorem dX8_image_15 : decode cX8_image 15 = .ok (.iload_n 2, 1) := by decide +kernel
theorem dX8_image_16 : decode cX8_image 16 = .ok (.sipush 3760, 3) := by decide +kernel
theorem dX8_image_19 : decode cX8_image 19 = .ok (.if_icmp .ge 27, 3) := by decide +kernel
theorem dX8_image_22 : decode cX8_image 22 = .ok (.aload_n 0, 1) := by decide +kernel
theorem dX8_image_23 : decode cX8_image 23 = .ok (.getfield 13, 3) := by decide +kernel
theorem dX8_image_26 : decode cX8_image 26 = .ok (.sipush 3760, 3) := by decide +kernel
theorem dX8_image_29 : decode cX8_image 29 = .ok (.iload_n 1, 1) := by decide +kernel
theorem dX8_image_30 : decode cX8_image 30 = .ok (.imul, 1) := by decide +kernel
theorem dX8_image_31 : decode cX8_image 31 = .ok (.iload_n 2, 1) := by decide +kernel
theorem dX8_image_32 : decode cX8_image 32 = .ok (.iadd, 1) := by decide +kernel
theorem dX8_image_33 : decode cX8_image 33 = .ok (.aload_n 0, 1) := by decide +kernel
theorem dX8_image_34 : decode cX8_image 34 = .ok (.getfield 7, 3) := by decide +kernel
theorem dX8_image_37 : decode cX8_image 37 = .ok (.iload_n 2, 1) := by decide +kernel
theorem dX8_image_38 : decode cX8_image 38 = .ok (.iaload, 1) := by decide +kernel
theorem dX8_image_39 : decode cX8_image 39 = .ok (.iastore, 1) := by decide +kernel
theorem dX8_image_40 : decode cX8_image 40 = .ok (.iinc 2 1, 3) := by decide +kernel
theorem dX8_image_43 : decode cX8_image 43 = .ok (.goto (-28), 3) := by decide +kernel
theorem dX8_image_46 : decode cX8_image 46 = .ok (.aload_n 0, 1) := by decide +kernel
theorem dX8_image_47 : decode cX8_image 47 = .ok (.getfield 16, 3) := by decide +kernel
theorem dX8_image_50 : decode cX8_image 50 = .ok (.iload_n 1, 1) := by decide +kernel
theorem dX8_image_51 : decode cX8_image 51 = .ok (.iconst 1, 1) := by decide +kernel
theorem dX8_image_52 : decode cX8_image 52 = .ok (.bastore, 1) := by decide +kernel
theorem dX8_image_53 : decode cX8_image 53 = .ok (.iconst 1, 1) := by decide +kernel
theorem dX8_image_54 : decode cX8_image 54 = .ok (.ireturn, 1) := by decide +kernel
def kX8_image (live : am_E) (Ret : am_R) : am_code := [(0, am_iload 1 1), (1, am_i2l 2), (2, am_const (.long 0) 3), (3, am_const (.long 1) 4), (4, am_callS live 3 TX8_in 7), (7, am_if1 (fun x => x = 0) 10 13), (10, am_const (.int (-2)) 12), (12, am_retI Ret), (13, am_const (.int 0) 14), (14, am_istore 2 3 15), (15, am_iload 2 16), (16, am_const (.int 3760) 19), (19, am_if2 (fun x y => y ≤ x) 46 22), (22, am_aload 0 23), (23, am_getR live 8 1 26), (26, am_const (.int 3760) 29), (29, am_iload 1 30), (30, am_i2 (fun x y => x * y) 31), (31, am_iload 2 32), (32, am_i2 (fun x y => x + y) 33), (33, am_aload 0 34), (34, am_getR live 8 0 37), (37, am_iload 2 38), (38, am_ald live 0 39), (39, am_ast live 0 40), (40, am_iinc 2 3 1 43), (43, am_goto 15), (46, am_aload 0 47), (47, am_getR live 8 2 50), (50, am_iload 1 51), (51, am_const (.int 1) 52), (52, am_zst live 2 53), (53, am_const (.int 1) 54), (54, am_retI Ret)]
theorem koX8_image (live : am_E) (Ret : am_R) : ∀ q ∈ kX8_image live Ret, am_ok RX8 cX8_image 3 (some .int) 1 25 live Ret q.1 q.2 :=
  am_kc (ak_iload_n dX8_image_0 rfl rfl) <|
  am_kc (ak_i2l dX8_image_1 rfl) <|
  am_kc (ak_lconst dX8_image_2 (by decide +kernel) rfl) <|
  am_kc (ak_lconst dX8_image_3 (by decide +kernel) rfl) <|
  am_kc (ak_callS metX8_in ⟨rfl, by decide +kernel, by decide +kernel, by decide +kernel⟩ (am_w4 wd_986 wd_987 wd_67 wd_988) (by decide) dX8_image_4 rfl) <|
  am_kc (ak_if_ne dX8_image_7 (by decide +kernel) rfl) <|
  am_kc (ak_bipush dX8_image_10 (by decide +kernel) rfl) <|
  am_kc (ak_retI dX8_image_12) <|
  am_kc (ak_iconst dX8_image_13 (by decide +kernel) rfl) <|
  am_kc (ak_istore_n dX8_image_14 rfl rfl) <|
  am_kc (ak_iload_n dX8_image_15 rfl rfl) <|
  am_kc (ak_sipush dX8_image_16 (by decide +kernel) rfl) <|
  am_kc (ak_icmp_ge dX8_image_19 (by decide +kernel) rfl) <|
  am_kc (ak_aload_n dX8_image_22 rfl rfl) <|
  am_kc (ak_getR (C := RX8) (T := TX8) (N := 27) rfl inX8w (by decide) rfl rfl rfl wd_896 dX8_image_23 rfl) <|
  am_kc (ak_sipush dX8_image_26 (by decide +kernel) rfl) <|
  am_kc (ak_iload_n dX8_image_29 rfl rfl) <|
  am_kc (ak_imul dX8_image_30 rfl) <|
  am_kc (ak_iload_n dX8_image_31 rfl rfl) <|
  am_kc (ak_iadd dX8_image_32 rfl) <|
  am_kc (ak_aload_n dX8_image_33 rfl rfl) <|
  am_kc (ak_getR (C := RX8) (T := TX8) (N := 27) rfl inX8w (by decide) rfl rfl rfl wd_895 dX8_image_34 rfl) <|
  am_kc (ak_iload_n dX8_image_37 rfl rfl) <|
  am_kc (ak_iald (t := 0) (fun _ => rfl) rfl dX8_image_38 rfl) <|
  am_kc (ak_iast (t := 0) (fun _ => rfl) rfl dX8_image_39 rfl) <|
  am_kc (ak_iinc dX8_image_40 (by decide +kernel) rfl) <|
  am_kc (ak_goto dX8_image_43 (by decide +kernel)) <|
  am_kc (ak_aload_n dX8_image_46 rfl rfl) <|
  am_kc (ak_getR (C := RX8) (T := TX8) (N := 27) rfl inX8w (by decide) rfl rfl rfl wd_897 dX8_image_47 rfl) <|
  am_kc (ak_iload_n dX8_image_50 rfl rfl) <|
  am_kc (ak_iconst dX8_image_51 (by decide +kernel) rfl) <|
  am_kc (ak_zast (t := 2) (fun _ => rfl) rfl dX8_image_52 rfl) <|
  am_kc (ak_iconst dX8_image_53 (by decide +kernel) rfl) <|
  am_kc (ak_retI dX8_image_54) <| am_kn
def TX8_image : am_T := fun live as M R => match as with
  | [.ref n, .int i] => am_mn live ∧ n = 200 ∧ am_F8 M ∧ ∀ M', am_ch am_hi M M' → R (some (.int (a_image i))) M'
  | _ => False
def JX8_image : am_E → List Value → am_M → am_R → am_inv := fun live as M0 _ pc => match as with
  | [.ref _, .int i] => (match pc with
    | 15 => some ([0, 1, 2], fun k L st M => ∃ j : Int32, L = [(0, .ref 200), (1, .int i), (2, .int j)] ∧ st = [] ∧ k = ((3761 - j.toInt).toNat, 0) ∧ (0 ≤ j.toInt ∧ j.toInt ≤ 3760) ∧ (0 ≤ i ∧ i ≤ 1) ∧ am_ch am_hi M0 M)
    | _ => none)
  | _ => none
set_option maxRecDepth 100000 in
set_option maxHeartbeats 4000000 in
theorem metX8_image : am_Met yX8_image cX8_image 3 (some .int) (1) (25) TX8_image := by
  refine am_met (own := RX8) (by decide +kernel) rfl kX8_image koX8_image 200 JX8_image ?_ ?_
  · intro live as M Ret h
    unfold TX8_image at h
    split at h
    · next n i =>
      refine ⟨Nat.le_of_ble_eq_true rfl, ?_⟩
      change am_wp _ _ _ _ [(0, Value.ref n), (1, Value.int i)] _ _
      obtain ⟨⟨i1, i2, rfl⟩, rfl, hF, h⟩ := h
      by_cases hc : 0 ≤ i ∧ i ≤ 1
      ·
        have n0 : ¬ (if ((0 : Int64) ≤ i.toInt64 ∧ i.toInt64 ≤ 1) then (1 : Int32) else 0) = 0 := by rw [if_pos (by have z := hc; simp only [i_le, i_lt, i_eq, j_le, Int32.toInt_toInt64, Int32.reduceToInt, Int64.reduceToInt, Int32.toInt_zero] at z ⊢; omega)]; decide
        repeat' (first | apply And.intro | exact rfl | (intro hx; with_reducible exact absurd hx n0) | intro hx | (refine Exists.intro _ (And.intro rfl ?_)))
        all_goals try first | (with_reducible change am_tI _ _) | (change Ret _ _) | (change Ret _ _ _) | (change Exists _)
        all_goals try dsimp only at *
        all_goals try exact absurd ‹(1000 : Int64) = 0› (by decide)
        exact ⟨_, _, rfl, rfl, rfl, by decide, hc, am_ch.rf⟩
      ·
        have e9 : a_image i = -2 := if_neg hc
        rw [e9] at h
        have hp : (if ((0 : Int64) ≤ i.toInt64 ∧ i.toInt64 ≤ 1) then (1 : Int32) else 0) = 0 := if_neg (fun q => hc (by simp only [i_le, i_lt, i_eq, j_le, Int32.toInt_toInt64, Int32.reduceToInt, Int64.reduceToInt, Int32.toInt_zero] at q ⊢; omega))
        repeat' (first | apply And.intro | exact rfl | (intro hx; with_reducible exact absurd hp hx) | intro hx | (refine Exists.intro _ (And.intro rfl ?_)))
        all_goals try first | (with_reducible change am_tI _ _) | (change Ret _ _) | (change Ret _ _ _) | (change Exists _)
        all_goals try dsimp only at *
        all_goals try exact absurd ‹(1000 : Int64) = 0› (by decide)
        all_goals exact h _ am_ch.rf
    · exact h.elim
  · intro live as M0 Ret h k pc I hI L st M hi
    unfold TX8_image at h
    split at h
    · next n i =>
      obtain ⟨⟨i1, i2, rfl⟩, rfl, hF, h⟩ := h
      change (match pc with | 15 => _ | _ => none) = _ at hI
      split at hI
      · cases hI
        obtain ⟨j, rfl, rfl, rfl, hj, hc, hM⟩ := hi
        have e9 : a_image i = 1 := if_pos hc
        rw [e9] at h
        have z := hc
        simp only [i_le, i_lt, i_eq, j_le, Int32.toInt_toInt64, Int32.reduceToInt, Int64.reduceToInt, Int32.toInt_zero] at z
        have l201 : (am_len 201 : Int) = 3760 := rfl
        have l202 : (am_len 202 : Int) = 7520 := rfl
        have l203 : (am_len 203 : Int) = 2 := rfl
        have e1 : (3760 * i).toInt = 3760 * i.toInt := i_mul (by simp only [Int32.reduceToInt]; omega) (by simp only [Int32.reduceToInt]; omega)
        have e3 : (3760 * i + j).toInt = 3760 * i.toInt + j.toInt := by rw [i_add (by simp only [e1]; omega) (by simp only [e1]; omega), e1]
        by_cases hlt : 3760 ≤ j
        ·
          have c1 := z.1
          have c2 : i.toInt < (am_len 203 : Int) := by rw [l203]; omega
          repeat' (first | (with_reducible exact c1) | (with_reducible exact c2) | apply And.intro | exact rfl | (intro hx; with_reducible exact absurd hlt hx) | (intro hx; exact absurd hx (by decide)) | (intro hx; exact absurd (by decide) hx) | decide | intro hx | (refine Exists.intro _ (And.intro rfl ?_)))
          all_goals try first | (with_reducible change am_tI _ _) | (change Ret _ _) | (change Ret _ _ _) | (change Exists _)
          all_goals try dsimp only at *
          all_goals try exact absurd ‹(1000 : Int64) = 0› (by decide)
          all_goals first
            | exact Or.inr rfl
            | exact h _ (hM.wI (by show 200 ≤ (_ : Nat); decide))
        ·
          have hj2 : j.toInt < 3760 := by simp only [i_le, Int32.reduceToInt] at hlt; omega
          have b1 : 0 ≤ (3760 * i + j).toInt := by rw [e3]; omega
          have b2 : (3760 * i + j).toInt < (am_len 202 : Int) := by rw [e3, l202]; omega
          have b3 := hj.1
          have b4 : j.toInt < (am_len 201 : Int) := by rw [l201]; omega
          repeat' (first | (with_reducible exact b1) | (with_reducible exact b2) | (with_reducible exact b3) | (with_reducible exact b4) | apply And.intro | exact rfl | (intro hx; with_reducible exact absurd hx hlt) | intro hx | (refine Exists.intro _ (And.intro rfl ?_)))
          all_goals try first | (with_reducible change am_tI _ _) | (change Ret _ _) | (change Ret _ _ _) | (change Exists _)
          all_goals try dsimp only at *
          all_goals try exact absurd ‹(1000 : Int64) = 0› (by decide)
          have ei := i_add (x := j) (y := 1) (by simp only [Int32.reduceToInt]; omega) (by simp only [Int32.reduceToInt]; omega)
          simp only [Int32.reduceToInt] at ei
          refine ⟨_, Or.inl ?_, j + 1, rfl, rfl, rfl, ?_, hc, hM.wI (by show 200 ≤ (_ : Nat); decide)⟩
          · simp only [ei]; omega
          · omega
      · cases hI
    · exact h.elim
