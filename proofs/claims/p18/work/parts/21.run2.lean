/-! Run: growing, sums together -/
set_option maxRecDepth 100000 in
theorem wd_296 : Cond.fieldLink "LearnLoans$Run" 22 "LearnLoans$Run" "sums" "[J" ∈ am_ws := am_wsi (List.mem_of_getElem? (i := 296) (by rfl)) (by decide +kernel)
set_option maxRecDepth 100000 in
theorem wd_617 : Cond.constantLong "LearnLoans$Run" 173 1000 ∈ am_ws := am_wsi (List.mem_of_getElem? (i := 617) (by rfl)) (by decide +kernel)
set_option maxRecDepth 100000 in
theorem wd_618 : Cond.constantLong "LearnLoans$Run" 175 1000000000000 ∈ am_ws := am_wsi (List.mem_of_getElem? (i := 618) (by rfl)) (by decide +kernel)
set_option maxRecDepth 100000 in
theorem wd_607 : Cond.methodLink "LearnLoans$Run" 177 Lib.MathLoose.min_long.x ∈ am_ws := am_wsi (List.mem_of_getElem? (i := 607) (by rfl)) (by decide +kernel)
set_option maxRecDepth 100000 in
theorem wd_608 : Cond.static Lib.MathLoose.min_long.x ∈ am_ws := am_wsi (List.mem_of_getElem? (i := 608) (by rfl)) (by decide +kernel)
set_option maxRecDepth 100000 in
theorem wd_609 : Cond.code Lib.MathLoose.min_long.x Lib.MathLoose.min_long.code 4 (some .long) ∈ am_ws := am_wsi (List.mem_of_getElem? (i := 609) (by rfl)) (by decide +kernel)
theorem dX4_grow_0 : decode cX4_grow 0 = .ok (.aload_n 0, 1) := by decide +kernel
theorem dX4_grow_1 : decode cX4_grow 1 = .ok (.getfield 22, 3) := by decide +kernel
theorem dX4_grow_4 : decode cX4_grow 4 = .ok (.iconst 0, 1) := by decide +kernel
theorem dX4_grow_5 : decode cX4_grow 5 = .ok (.iload_n 1, 1) := by decide +kernel
theorem dX4_grow_6 : decode cX4_grow 6 = .ok (.iadd, 1) := by decide +kernel
theorem dX4_grow_7 : decode cX4_grow 7 = .ok (.laload, 1) := by decide +kernel
theorem dX4_grow_8 : decode cX4_grow 8 = .ok (.lstore_n 3, 1) := by decide +kernel
theorem dX4_grow_9 : decode cX4_grow 9 = .ok (.lload_n 3, 1) := by decide +kernel
theorem dX4_grow_10 : decode cX4_grow 10 = .ok (.iload_n 2, 1) := by decide +kernel
theorem dX4_grow_11 : decode cX4_grow 11 = .ok (.i2l, 1) := by decide +kernel
theorem dX4_grow_12 : decode cX4_grow 12 = .ok (.lmul, 1) := by decide +kernel
theorem dX4_grow_13 : decode cX4_grow 13 = .ok (.ldc2_w 173, 3) := by decide +kernel
theorem dX4_grow_16 : decode cX4_grow 16 = .ok (.ldiv, 1) := by decide +kernel
theorem dX4_grow_17 : decode cX4_grow 17 = .ok (.ldc2_w 175, 3) := by decide +kernel
theorem dX4_grow_20 : decode cX4_grow 20 = .ok (.lload_n 3, 1) := by decide +kernel
theorem dX4_grow_21 : decode cX4_grow 21 = .ok (.lsub, 1) := by decide +kernel
theorem dX4_grow_22 : decode cX4_grow 22 = .ok (.invokestatic 177, 3) := by decide +kernel
theorem dX4_grow_25 : decode cX4_grow 25 = .ok (.lstore 5, 2) := by decide +kernel
theorem dX4_grow_27 : decode cX4_grow 27 = .ok (.aload_n 0, 1) := by decide +kernel
theorem dX4_grow_28 : decode cX4_grow 28 = .ok (.getfield 22, 3) := by decide +kernel
theorem dX4_grow_31 : decode cX4_grow 31 = .ok (.bipush 120, 2) := by decide +kernel
theorem dX4_grow_33 : decode cX4_grow 33 = .ok (.iload_n 1, 1) := by decide +kernel
theorem dX4_grow_34 : decode cX4_grow 34 = .ok (.iadd, 1) := by decide +kernel
theorem dX4_grow_35 : decode cX4_grow 35 = .ok (.lload 5, 2) := by decide +kernel
theorem dX4_grow_37 : decode cX4_grow 37 = .ok (.lastore, 1) := by decide +kernel
theorem dX4_grow_38 : decode cX4_grow 38 = .ok (.aload_n 0, 1) := by decide +kernel
theorem dX4_grow_39 : decode cX4_grow 39 = .ok (.getfield 22, 3) := by decide +kernel
theorem dX4_grow_42 : decode cX4_grow 42 = .ok (.iconst 0, 1) := by decide +kernel
theorem dX4_grow_43 : decode cX4_grow 43 = .ok (.iload_n 1, 1) := by decide +kernel
theorem dX4_grow_44 : decode cX4_grow 44 = .ok (.iadd, 1) := by decide +kernel
theorem dX4_grow_45 : decode cX4_grow 45 = .ok (.lload_n 3, 1) := by decide +kernel
theorem dX4_grow_46 : decode cX4_grow 46 = .ok (.lload 5, 2) := by decide +kernel
theorem dX4_grow_48 : decode cX4_grow 48 = .ok (.ladd, 1) := by decide +kernel
theorem dX4_grow_49 : decode cX4_grow 49 = .ok (.lastore, 1) := by decide +kernel
theorem dX4_grow_50 : decode cX4_grow 50 = .ok (.return_, 1) := by decide +kernel
def kX4_grow (live : am_E) (Ret : am_R) : am_code := [(0, am_aload 0 1), (1, am_getR live 4 2 4), (4, am_const (.int 0) 5), (5, am_iload 1 6), (6, am_i2 (fun x y => x + y) 7), (7, am_lald live 1 8), (8, am_lstore 3 7 9), (9, am_lload 3 10), (10, am_iload 2 11), (11, am_i2l 12), (12, am_l2 (fun x y => x * y) 13), (13, am_const (.long 1000) 16), (16, am_l2z (fun x y => x / y) 17), (17, am_const (.long 1000000000000) 20), (20, am_lload 3 21), (21, am_l2 (fun x y => x - y) 22), (22, am_mathl (fun x y => if y < x then y else x) 23 25), (25, am_lstore 5 7 27), (27, am_aload 0 28), (28, am_getR live 4 2 31), (31, am_const (.int 120) 33), (33, am_iload 1 34), (34, am_i2 (fun x y => x + y) 35), (35, am_lload 5 37), (37, am_last live 1 38), (38, am_aload 0 39), (39, am_getR live 4 2 42), (42, am_const (.int 0) 43), (43, am_iload 1 44), (44, am_i2 (fun x y => x + y) 45), (45, am_lload 3 46), (46, am_lload 5 48), (48, am_l2 (fun x y => x + y) 49), (49, am_last live 1 50), (50, am_retV Ret)]
theorem koX4_grow (live : am_E) (Ret : am_R) : ∀ q ∈ kX4_grow live Ret, am_ok RX4 cX4_grow 7 none 1 23 live Ret q.1 q.2 :=
  am_kc (ak_aload_n dX4_grow_0 rfl rfl) <|
  am_kc (ak_getR (C := RX4) (T := TX4) (N := 19) rfl inX4w (by decide) rfl rfl rfl wd_296 dX4_grow_1 rfl) <|
  am_kc (ak_iconst dX4_grow_4 (by decide +kernel) rfl) <|
  am_kc (ak_iload_n dX4_grow_5 rfl rfl) <|
  am_kc (ak_iadd dX4_grow_6 rfl) <|
  am_kc (ak_lald (t := 1) (fun _ => rfl) rfl dX4_grow_7 rfl) <|
  am_kc (ak_lstore_n dX4_grow_8 rfl rfl) <|
  am_kc (ak_lload_n dX4_grow_9 rfl rfl) <|
  am_kc (ak_iload_n dX4_grow_10 rfl rfl) <|
  am_kc (ak_i2l dX4_grow_11 rfl) <|
  am_kc (ak_lmul dX4_grow_12 rfl) <|
  am_kc (ak_ldc2 wd_617 dX4_grow_13 rfl) <|
  am_kc (ak_ldiv dX4_grow_16 rfl) <|
  am_kc (ak_ldc2 wd_618 dX4_grow_17 rfl) <|
  am_kc (ak_lload_n dX4_grow_20 rfl rfl) <|
  am_kc (ak_lsub dX4_grow_21 rfl) <|
  am_kc (ak_lmin (am_w4 wd_607 wd_608 wd_68 wd_609) (by decide) dX4_grow_22 rfl) <|
  am_kc (ak_lstore dX4_grow_25 rfl) <|
  am_kc (ak_aload_n dX4_grow_27 rfl rfl) <|
  am_kc (ak_getR (C := RX4) (T := TX4) (N := 19) rfl inX4w (by decide) rfl rfl rfl wd_296 dX4_grow_28 rfl) <|
  am_kc (ak_bipush dX4_grow_31 (by decide +kernel) rfl) <|
  am_kc (ak_iload_n dX4_grow_33 rfl rfl) <|
  am_kc (ak_iadd dX4_grow_34 rfl) <|
  am_kc (ak_lload dX4_grow_35 rfl) <|
  am_kc (ak_last (t := 1) (fun _ => rfl) rfl dX4_grow_37 rfl) <|
  am_kc (ak_aload_n dX4_grow_38 rfl rfl) <|
  am_kc (ak_getR (C := RX4) (T := TX4) (N := 19) rfl inX4w (by decide) rfl rfl rfl wd_296 dX4_grow_39 rfl) <|
  am_kc (ak_iconst dX4_grow_42 (by decide +kernel) rfl) <|
  am_kc (ak_iload_n dX4_grow_43 rfl rfl) <|
  am_kc (ak_iadd dX4_grow_44 rfl) <|
  am_kc (ak_lload_n dX4_grow_45 rfl rfl) <|
  am_kc (ak_lload dX4_grow_46 rfl) <|
  am_kc (ak_ladd dX4_grow_48 rfl) <|
  am_kc (ak_last (t := 1) (fun _ => rfl) rfl dX4_grow_49 rfl) <|
  am_kc (ak_retV dX4_grow_50) <| am_kn
def am_grown (o : Int64) (r : Int32) : Int64 := if 1000000000000 - o < o * r.toInt64 / 1000 then 1000000000000 - o else o * r.toInt64 / 1000
theorem am_ix0 {l : Int32} : (0 + l).toNatClampNeg = l.toNatClampNeg := by rw [Int32.zero_add]
theorem am_ixk {l k : Int32} {n : Nat} (h : am_in l 30) (hk : k.toInt = (n : Int)) (hn : n ≤ 1000) : (k + l).toInt = (n : Int) + l.toInt ∧ (k + l).toNatClampNeg = n + l.toNatClampNeg := by
  obtain ⟨a1, a2⟩ := h
  have e := i_add (x := k) (y := l) (by rw [hk]; omega) (by rw [hk]; omega)
  rw [hk] at e
  have e2 := i_clamp (x := k + l) (by rw [e]; omega)
  have e3 := i_clamp (x := l) a1
  exact ⟨e, by omega⟩
def TX4_grow : am_T := fun live as M R => match as with
  | [.ref n, .int l, .int r] => am_mn live ∧ n = 4 ∧ am_in l 30 ∧ R none (am_wJ (am_wJ M 6 (120 + l.toNatClampNeg) (am_grown (M.2 6 l.toNatClampNeg) r)) 6 l.toNatClampNeg (M.2 6 l.toNatClampNeg + am_grown (M.2 6 l.toNatClampNeg) r))
  | _ => False
set_option maxRecDepth 100000 in
set_option maxHeartbeats 4000000 in
theorem metX4_grow : am_Met yX4_grow cX4_grow 7 none (1) (23) TX4_grow := by
  refine am_met (own := RX4) (by decide +kernel) rfl kX4_grow koX4_grow 100 (fun _ _ _ _ _ => none) (fun live as M Ret h => ?_) (fun _ _ _ _ _ _ _ _ hI => by cases hI)
  unfold TX4_grow at h
  split at h
  · next n l r =>
    refine ⟨Nat.le_of_ble_eq_true rfl, ?_⟩
    change am_wp _ _ _ _ [(0, Value.ref n), (1, Value.int l), (2, Value.int r)] _ _
    obtain ⟨hmn, rfl, hl, h⟩ := h
    obtain ⟨i1, i2, rfl⟩ := hmn
    have l6 : am_len 6 = 180 := rfl
    have e0 := am_ixk hl (k := 0) (n := 0) rfl (by decide)
    have e4 := am_ixk hl (k := 120) (n := 120) rfl (by decide)
    obtain ⟨a1, a2⟩ := hl
    repeat' (first | apply And.intro | exact rfl | intro hx | (refine Exists.intro _ (And.intro rfl ?_)))
    all_goals try first | (with_reducible change am_tI _ _) | (change Ret _ _) | (change Ret _ _ _) | (change Exists _)
    all_goals try dsimp only at *
    all_goals try exact absurd ‹(1000 : Int64) = 0› (by decide)
    all_goals first
      | (rw [e0.1]; omega)
      | (rw [e0.1, l6]; omega)
      | (rw [e4.1]; omega)
      | (rw [e4.1, l6]; omega)
      | skip
    simp only [e4.2, am_ix0]
    exact h
  · exact h.elim
