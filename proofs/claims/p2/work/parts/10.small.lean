/-! small methods of the class -/
theorem dX7_within_0 : decode cX7_within 0 = .ok (.iload_n 0, 1) := by decide +kernel
theorem dX7_within_1 : decode cX7_within 1 = .ok (.iload_n 1, 1) := by decide +kernel
theorem dX7_within_2 : decode cX7_within 2 = .ok (.if_icmp .lt 12, 3) := by decide +kernel
theorem dX7_within_5 : decode cX7_within 5 = .ok (.iload_n 0, 1) := by decide +kernel
theorem dX7_within_6 : decode cX7_within 6 = .ok (.iload_n 2, 1) := by decide +kernel
theorem dX7_within_7 : decode cX7_within 7 = .ok (.if_icmp .gt 7, 3) := by decide +kernel
theorem dX7_within_10 : decode cX7_within 10 = .ok (.iconst 1, 1) := by decide +kernel
theorem dX7_within_11 : decode cX7_within 11 = .ok (.goto 4, 3) := by decide +kernel
theorem dX7_within_14 : decode cX7_within 14 = .ok (.iconst 0, 1) := by decide +kernel
theorem dX7_within_15 : decode cX7_within 15 = .ok (.ireturn, 1) := by decide +kernel
def kX7_within (live : Nat → Bool) (Ret : am_R) : am_code := [(0, am_iload 0 1), (1, am_iload 1 2), (2, am_if2 (fun x y => x < y) 14 5), (5, am_iload 0 6), (6, am_iload 2 7), (7, am_if2 (fun x y => y < x) 14 10), (10, am_const (.int 1) 11), (11, am_goto 15), (14, am_const (.int 0) 15), (15, am_retZ Ret)]
theorem koX7_within (live : Nat → Bool) (Ret : am_R) : ∀ q ∈ kX7_within live Ret, am_ok RX7 cX7_within 3 (some .boolean) 0 0 live Ret q.1 q.2 :=
  am_kc (ak_iload_n dX7_within_0 rfl rfl) <|
  am_kc (ak_iload_n dX7_within_1 rfl rfl) <|
  am_kc (ak_icmp_lt dX7_within_2 (by decide +kernel) rfl) <|
  am_kc (ak_iload_n dX7_within_5 rfl rfl) <|
  am_kc (ak_iload_n dX7_within_6 rfl rfl) <|
  am_kc (ak_icmp_gt dX7_within_7 (by decide +kernel) rfl) <|
  am_kc (ak_iconst dX7_within_10 (by decide +kernel) rfl) <|
  am_kc (ak_goto dX7_within_11 (by decide +kernel)) <|
  am_kc (ak_iconst dX7_within_14 (by decide +kernel) rfl) <|
  am_kc (ak_retZ dX7_within_15) <| am_kn
def TX7_within : am_T := fun _ as M R => match as with
  | [.int v, .int a, .int b] => R (some (.int (if a ≤ v ∧ v ≤ b then 1 else 0))) M
  | _ => False
theorem metX7_within : am_Met yX7_within cX7_within 3 (some .boolean) 0 0 TX7_within := by
  refine am_met (own := RX7) (by decide +kernel) rfl kX7_within koX7_within 40 (fun _ _ _ _ _ => none) (fun live as M Ret h => ?_) (fun _ _ _ _ _ _ _ _ hI => by cases hI)
  unfold TX7_within at h
  split at h
  · next v a b =>
    refine ⟨Nat.le_of_ble_eq_true rfl, ?_⟩
    repeat' (first | apply And.intro | intro hx)
    all_goals try dsimp only at *
    all_goals first | (left; rfl) | (right; rfl) | grind
  · exact h.elim
theorem dX7_isYear_0 : decode cX7_isYear 0 = .ok (.iload_n 0, 1) := by decide +kernel
theorem dX7_isYear_1 : decode cX7_isYear 1 = .ok (.ifCond .lt 13, 3) := by decide +kernel
theorem dX7_isYear_4 : decode cX7_isYear 4 = .ok (.iload_n 0, 1) := by decide +kernel
theorem dX7_isYear_5 : decode cX7_isYear 5 = .ok (.bipush 40, 2) := by decide +kernel
theorem dX7_isYear_7 : decode cX7_isYear 7 = .ok (.if_icmp .ge 7, 3) := by decide +kernel
theorem dX7_isYear_10 : decode cX7_isYear 10 = .ok (.iconst 1, 1) := by decide +kernel
theorem dX7_isYear_11 : decode cX7_isYear 11 = .ok (.goto 4, 3) := by decide +kernel
theorem dX7_isYear_14 : decode cX7_isYear 14 = .ok (.iconst 0, 1) := by decide +kernel
theorem dX7_isYear_15 : decode cX7_isYear 15 = .ok (.ireturn, 1) := by decide +kernel
def kX7_isYear (live : Nat → Bool) (Ret : am_R) : am_code := [(0, am_iload 0 1), (1, am_if1 (fun x => x < 0) 14 4), (4, am_iload 0 5), (5, am_const (.int 40) 7), (7, am_if2 (fun x y => y ≤ x) 14 10), (10, am_const (.int 1) 11), (11, am_goto 15), (14, am_const (.int 0) 15), (15, am_retZ Ret)]
theorem koX7_isYear (live : Nat → Bool) (Ret : am_R) : ∀ q ∈ kX7_isYear live Ret, am_ok RX7 cX7_isYear 1 (some .boolean) 0 0 live Ret q.1 q.2 :=
  am_kc (ak_iload_n dX7_isYear_0 rfl rfl) <|
  am_kc (ak_if_lt dX7_isYear_1 (by decide +kernel) rfl) <|
  am_kc (ak_iload_n dX7_isYear_4 rfl rfl) <|
  am_kc (ak_bipush dX7_isYear_5 (by decide +kernel) rfl) <|
  am_kc (ak_icmp_ge dX7_isYear_7 (by decide +kernel) rfl) <|
  am_kc (ak_iconst dX7_isYear_10 (by decide +kernel) rfl) <|
  am_kc (ak_goto dX7_isYear_11 (by decide +kernel)) <|
  am_kc (ak_iconst dX7_isYear_14 (by decide +kernel) rfl) <|
  am_kc (ak_retZ dX7_isYear_15) <| am_kn
def TX7_isYear : am_T := fun _ as M R => match as with
  | [.int v] => R (some (.int (if 0 ≤ v ∧ v < 40 then 1 else 0))) M
  | _ => False
theorem metX7_isYear : am_Met yX7_isYear cX7_isYear 1 (some .boolean) 0 0 TX7_isYear := by
  refine am_met (own := RX7) (by decide +kernel) rfl kX7_isYear koX7_isYear 40 (fun _ _ _ _ _ => none) (fun live as M Ret h => ?_) (fun _ _ _ _ _ _ _ _ hI => by cases hI)
  unfold TX7_isYear at h
  split at h
  · next v =>
    refine ⟨Nat.le_of_ble_eq_true rfl, ?_⟩
    repeat' (first | apply And.intro | intro hx)
    all_goals try dsimp only at *
    all_goals first | (left; rfl) | (right; rfl) | grind
  · exact h.elim
theorem wd_148 : Cond.fieldLink "LearnLoans$Rows" 15 "LearnLoans$Rows" "wide" "I" ∈ am_ws := am_wsi (List.mem_of_getElem? (i := 148) (by decide +kernel)) (by decide +kernel)
theorem wd_147 : Cond.fieldLink "LearnLoans$Rows" 9 "LearnLoans$Rows" "cells" "[I" ∈ am_ws := am_wsi (List.mem_of_getElem? (i := 147) (by decide +kernel)) (by decide +kernel)
theorem dX3_at_0 : decode cX3_at 0 = .ok (.iload_n 1, 1) := by decide +kernel
theorem dX3_at_1 : decode cX3_at 1 = .ok (.aload_n 0, 1) := by decide +kernel
theorem dX3_at_2 : decode cX3_at 2 = .ok (.getfield 15, 3) := by decide +kernel
theorem dX3_at_5 : decode cX3_at 5 = .ok (.imul, 1) := by decide +kernel
theorem dX3_at_6 : decode cX3_at 6 = .ok (.iload_n 2, 1) := by decide +kernel
theorem dX3_at_7 : decode cX3_at 7 = .ok (.iadd, 1) := by decide +kernel
theorem dX3_at_8 : decode cX3_at 8 = .ok (.istore_n 3, 1) := by decide +kernel
theorem dX3_at_9 : decode cX3_at 9 = .ok (.iload_n 3, 1) := by decide +kernel
theorem dX3_at_10 : decode cX3_at 10 = .ok (.ifCond .lt 21, 3) := by decide +kernel
theorem dX3_at_13 : decode cX3_at 13 = .ok (.iload_n 3, 1) := by decide +kernel
theorem dX3_at_14 : decode cX3_at 14 = .ok (.aload_n 0, 1) := by decide +kernel
theorem dX3_at_15 : decode cX3_at 15 = .ok (.getfield 9, 3) := by decide +kernel
theorem dX3_at_18 : decode cX3_at 18 = .ok (.arraylength, 1) := by decide +kernel
theorem dX3_at_19 : decode cX3_at 19 = .ok (.if_icmp .ge 12, 3) := by decide +kernel
theorem dX3_at_22 : decode cX3_at 22 = .ok (.aload_n 0, 1) := by decide +kernel
theorem dX3_at_23 : decode cX3_at 23 = .ok (.getfield 9, 3) := by decide +kernel
theorem dX3_at_26 : decode cX3_at 26 = .ok (.iload_n 3, 1) := by decide +kernel
theorem dX3_at_27 : decode cX3_at 27 = .ok (.iaload, 1) := by decide +kernel
theorem dX3_at_28 : decode cX3_at 28 = .ok (.goto 4, 3) := by decide +kernel
theorem dX3_at_31 : decode cX3_at 31 = .ok (.iconst (-1), 1) := by decide +kernel
theorem dX3_at_32 : decode cX3_at 32 = .ok (.ireturn, 1) := by decide +kernel
def kX3_at (live : Nat → Bool) (Ret : am_R) : am_code := [(0, am_iload 1 1), (1, am_aload 0 2), (2, am_getI live 3 1 5), (5, am_i2 (fun x y => x * y) 6), (6, am_iload 2 7), (7, am_i2 (fun x y => x + y) 8), (8, am_istore 3 4 9), (9, am_iload 3 10), (10, am_if1 (fun x => x < 0) 31 13), (13, am_iload 3 14), (14, am_aload 0 15), (15, am_getR live 3 0 18), (18, am_alen live 0 19), (19, am_if2 (fun x y => y ≤ x) 31 22), (22, am_aload 0 23), (23, am_getR live 3 0 26), (26, am_iload 3 27), (27, am_ald live 0 28), (28, am_goto 32), (31, am_const (.int (-1)) 32), (32, am_retI Ret)]
theorem koX3_at (live : Nat → Bool) (Ret : am_R) : ∀ q ∈ kX3_at live Ret, am_ok RX3 cX3_at 4 (some .int) 0 0 live Ret q.1 q.2 :=
  am_kc (ak_iload_n dX3_at_0 rfl rfl) <|
  am_kc (ak_aload_n dX3_at_1 rfl rfl) <|
  am_kc (ak_getI (C := RX3) (T := TX3) (N := 3) rfl inX3w (by decide) rfl rfl rfl wd_148 dX3_at_2 rfl) <|
  am_kc (ak_imul dX3_at_5 rfl) <|
  am_kc (ak_iload_n dX3_at_6 rfl rfl) <|
  am_kc (ak_iadd dX3_at_7 rfl) <|
  am_kc (ak_istore_n dX3_at_8 rfl rfl) <|
  am_kc (ak_iload_n dX3_at_9 rfl rfl) <|
  am_kc (ak_if_lt dX3_at_10 (by decide +kernel) rfl) <|
  am_kc (ak_iload_n dX3_at_13 rfl rfl) <|
  am_kc (ak_aload_n dX3_at_14 rfl rfl) <|
  am_kc (ak_getR (C := RX3) (T := TX3) (N := 3) rfl inX3w (by decide) rfl rfl rfl wd_147 dX3_at_15 rfl) <|
  am_kc (ak_alen (t := 0) (fun _ => rfl) dX3_at_18 rfl) <|
  am_kc (ak_icmp_ge dX3_at_19 (by decide +kernel) rfl) <|
  am_kc (ak_aload_n dX3_at_22 rfl rfl) <|
  am_kc (ak_getR (C := RX3) (T := TX3) (N := 3) rfl inX3w (by decide) rfl rfl rfl wd_147 dX3_at_23 rfl) <|
  am_kc (ak_iload_n dX3_at_26 rfl rfl) <|
  am_kc (ak_iald (t := 0) (fun _ => rfl) rfl dX3_at_27 rfl) <|
  am_kc (ak_goto dX3_at_28 (by decide +kernel)) <|
  am_kc (ak_iconst dX3_at_31 (by decide +kernel) rfl) <|
  am_kc (ak_retI dX3_at_32) <| am_kn
/-- Rows.at: this at the name r, its numbers at c -/
def TX3_at : am_T := fun live as M R => match as with
  | [.ref r, .int a, .int b] => ∃ c, am_isO live 3 r = true ∧ M.2.2 r 0 = some c ∧ am_isA live 0 c = true ∧ am_len c < 100000 ∧ R (some (.int (if am_in (a * M.1 r 1 + b) (am_len c) then M.1 c (a * M.1 r 1 + b).toNatClampNeg else -1))) M
  | _ => False
theorem metX3_at : am_Met yX3_at cX3_at 4 (some .int) 0 0 TX3_at := by
  refine am_met (own := RX3) (by decide +kernel) rfl kX3_at koX3_at 40 (fun _ _ _ _ _ => none) (fun live as M Ret h => ?_) (fun _ _ _ _ _ _ _ _ hI => by cases hI)
  unfold TX3_at at h
  split at h
  · next r a b =>
    refine ⟨Nat.le_of_ble_eq_true rfl, ?_⟩
    obtain ⟨c, h1, h2, h3, h4, h⟩ := h
    conv => whnf
    exact True.intro
  · exact h.elim
