/-! general: the reference's reader of texts, II -/
/-- what the reader changes: its stacks -/
def r_wg (M M' : am_M) : Prop := ∃ _ : Unit, (∀ a b, a ≠ 204 → (a ≠ 200 ∨ (b ≠ 11 ∧ b ≠ 12)) → M'.1 a b = M.1 a b) ∧ (∀ a b, a ≠ 205 → M'.2 a b = M.2 a b)
theorem r_wg.rf {M : am_M} : r_wg M M := ⟨(), fun _ _ _ _ => rfl, fun _ _ _ => rfl⟩
theorem r_wg.tr {M M' M'' : am_M} (h : r_wg M M') (h2 : r_wg M' M'') : r_wg M M'' := by
  obtain ⟨-, a1, a2⟩ := h
  obtain ⟨-, b1, b2⟩ := h2
  exact ⟨(), fun a b z y => (b1 a b z y).trans (a1 a b z y), fun a b z => (b2 a b z).trans (a2 a b z)⟩
theorem r_wg.k {M M' M'' : am_M} (h : r_wg M M') (h2 : r_wk M' M'') : r_wg M M'' := by
  obtain ⟨-, a1, a2, -⟩ := h2
  exact h.tr ⟨(), fun a b _ y => a1 a b y, a2⟩
theorem r_wg.w11 {M M' : am_M} {v : Int32} (h : r_wg M M') : r_wg M (am_wI M' 200 11 v) := h.tr ⟨(), fun a b _ y => by rw [am_wI_1, if_neg (fun q => by omega)], fun _ _ _ => rfl⟩
theorem r_wg.w12 {M M' : am_M} {v : Int32} (h : r_wg M M') : r_wg M (am_wI M' 200 12 v) := h.tr ⟨(), fun a b _ y => by rw [am_wI_1, if_neg (fun q => by omega)], fun _ _ _ => rfl⟩
theorem r_wg.w204 {M M' : am_M} {k : Nat} {v : Int32} (h : r_wg M M') : r_wg M (am_wI M' 204 k v) := h.tr ⟨(), fun a b z _ => by rw [am_wI_1, if_neg (fun q => z q.1)], fun _ _ _ => rfl⟩
theorem r_wg.w205 {M M' : am_M} {k : Nat} {v : Int64} (h : r_wg M M') : r_wg M (am_wJ M' 205 k v) := h.tr ⟨(), fun _ _ _ _ => rfl, fun a b z => by rw [am_wJ_1, if_neg (fun q => z q.1)]⟩
theorem r_wg.sc {M M' : am_M} (h : r_wg M M') : r_sc M M' := by
  obtain ⟨-, a1, a2⟩ := h
  exact ⟨(), fun a b z => ⟨a1 a b (by omega) (Or.inl (by omega)), a2 a b (by omega)⟩, a1 _ _ (by decide) (Or.inr ⟨by decide, by decide⟩), a1 _ _ (by decide) (Or.inr ⟨by decide, by decide⟩)⟩
theorem r_wg.i {M M' : am_M} (h : r_wg M M') (hI : r_I M) : r_I M' := by
  exact hI.sc h.sc
theorem r_ws_cg {f g : Nat → Int32} : ∀ {n : Nat}, (∀ k, k < n → g k = f k) → r_ws g n = r_ws f n
  | 0, _ => rfl
  | n + 1, h => by
    show r_ws g n + r_wt (g n) = r_ws f n + r_wt (f n)
    rw [r_ws_cg (fun k hk => h k (by omega)), h n (by omega)]
theorem r_push {M : am_M} {d w0 : Nat} {c : Int32} (h : r_wI M d w0) (hc : r_wt c = d) (h9 : w0 ≤ 59) : r_wI (am_wI (am_wI M 204 (M.1 200 11).toNatClampNeg c) 200 11 (M.1 200 11 + 1)) 0 (w0 + 1) := by
  obtain ⟨⟨u1, u2, u5⟩, u3, u4⟩ := h.u
  have e := i_inc (x := M.1 200 11) (by omega) (by omega)
  have f12 : (am_wI (am_wI M 204 (M.1 200 11).toNatClampNeg c) 200 11 (M.1 200 11 + 1)).1 200 12 = M.1 200 12 := by
    rw [am_wI_1, if_neg (fun q => absurd q.2 (by decide)), am_wI_1, if_neg (fun q => absurd q.1 (by decide))]
  have f204 : ∀ k, (am_wI (am_wI M 204 (M.1 200 11).toNatClampNeg c) 200 11 (M.1 200 11 + 1)).1 204 k = if k = (M.1 200 11).toNatClampNeg then c else M.1 204 k := fun k => by
    rw [am_wI_1, if_neg (fun q => absurd q.1 (by decide)), am_wI_1]
    simp
  have c1 := i_clamp (x := M.1 200 11) u1
  have c2 := i_clamp (x := M.1 200 11 + 1) (by omega)
  refine ⟨(), ⟨by rw [am_wI_self]; omega, by rw [am_wI_self]; omega, by omega⟩, ?_, by rw [f12]; omega⟩
  rw [f12, am_wI_self, show (M.1 200 11 + 1).toNatClampNeg = (M.1 200 11).toNatClampNeg + 1 by omega, u3]
  have hs : r_ws ((am_wI (am_wI M 204 (M.1 200 11).toNatClampNeg c) 200 11 (M.1 200 11 + 1)).1 204) (M.1 200 11).toNatClampNeg = r_ws (M.1 204) (M.1 200 11).toNatClampNeg := r_ws_cg (fun k hk => by rw [f204, if_neg (by omega)])
  have hs2 : (am_wI (am_wI M 204 (M.1 200 11).toNatClampNeg c) 200 11 (M.1 200 11 + 1)).1 204 (M.1 200 11).toNatClampNeg = c := by rw [f204, if_pos rfl]
  show _ = ((r_ws _ _ + r_wt _ + 0 : Nat) : Int)
  rw [hs, hs2, hc]
  omega
/-- one sign off: the stacks behind it weigh that much less -/
theorem r_off1 {M : am_M} {d w0 : Nat} (h : r_wI M d w0) (hp : 0 < (M.1 200 11).toInt) : r_wI (am_wI M 200 11 (M.1 200 11 - 1)) (r_wt (r_top M) + d) w0 := by
  obtain ⟨⟨u1, u2, u5⟩, u3, u4⟩ := h.u
  have e := i_sub (x := M.1 200 11) (y := 1) (by simp only [Int32.reduceToInt]; omega) (by simp only [Int32.reduceToInt]; omega)
  simp only [Int32.reduceToInt] at e
  have t := r_ws_top hp
  have f12 : (am_wI M 200 11 (M.1 200 11 - 1)).1 200 12 = M.1 200 12 := by rw [am_wI_1, if_neg (fun q => absurd q.2 (by decide))]
  have f204 : (am_wI M 200 11 (M.1 200 11 - 1)).1 204 = M.1 204 := funext fun k => by rw [am_wI_1, if_neg (fun q => absurd q.1 (by decide))]
  refine ⟨(), ⟨by rw [am_wI_self]; omega, by rw [am_wI_self]; omega, u5⟩, ?_, by rw [f12]; omega⟩
  rw [f12, am_wI_self, f204, u3, t]
  omega
theorem hy_X8_reduce : yX8_reduce.cls ≠ "java/lang/invoke/MethodHandle" ∧ yX8_reduce.cls ≠ "java/lang/invoke/VarHandle" ∧ (parseMethodDescriptor yX8_reduce.desc).map (fun d => d.parameters.length) = some 1 := ⟨by decide +kernel, by decide +kernel, by decide +kernel⟩
set_option maxRecDepth 100000 in
theorem wd_1138 : Cond.methodLink "LearnLoansModel" 167 yX8_reduce ∈ am_ws := am_wt5 (List.mem_of_getElem? (i := 121) (by rfl)) (by decide +kernel)
set_option maxRecDepth 100000 in
theorem wd_1140 : Cond.instanceMethod yX8_reduce ∈ am_ws := am_wt5 (List.mem_of_getElem? (i := 123) (by rfl)) (by decide +kernel)
set_option maxRecDepth 100000 in
theorem wd_39 : Cond.selects "LearnLoansModel" yX8_reduce yX8_reduce ∈ am_ws := am_wsi (List.mem_of_getElem? (i := 39) (by rfl)) (by decide +kernel)
set_option maxRecDepth 100000 in
theorem wd_1141 : Cond.code yX8_reduce cX8_reduce 2 none ∈ am_ws := am_wt5 (List.mem_of_getElem? (i := 124) (by rfl)) (by decide +kernel)
def rwX8_choose : List dz_r := [(0, .aload_n 0, 1), (1, .iconst 2, 1), (2, .invokevirtual 167, 3), (5, .aload_n 0, 1), (6, .invokevirtual 156, 3), (9, .bipush 58, 2), (11, .if_icmp .ne 76, 3), (14, .aload_n 0, 1), (15, .dup, 1), (16, .getfield 153, 3), (19, .iconst 2, 1), (20, .isub, 1), (21, .putfield 153, 3), (24, .aload_n 0, 1), (25, .getfield 23, 3), (28, .aload_n 0, 1), (29, .getfield 153, 3), (32, .iconst 1, 1), (33, .isub, 1), (34, .aload_n 0, 1), (35, .getfield 23, 3), (38, .aload_n 0, 1), (39, .getfield 153, 3), (42, .iconst 1, 1), (43, .isub, 1), (44, .laload, 1), (45, .lconst 0, 1), (46, .lcmp, 1), (47, .ifCond .eq 15, 3), (50, .aload_n 0, 1), (51, .getfield 23, 3), (54, .aload_n 0, 1), (55, .getfield 153, 3), (58, .laload, 1), (59, .goto 14, 3), (62, .aload_n 0, 1), (63, .getfield 23, 3), (66, .aload_n 0, 1), (67, .getfield 153, 3), (70, .iconst 1, 1), (71, .iadd, 1), (72, .laload, 1), (73, .lastore, 1), (74, .aload_n 0, 1), (75, .dup, 1), (76, .getfield 150, 3), (79, .iconst 1, 1), (80, .isub, 1), (81, .putfield 150, 3), (84, .goto (-79), 3), (87, .return_, 1)]
theorem dzX8_choose : dz cX8_choose rwX8_choose := dz_all 0 (by decide +kernel)
def kX8_choose (live : am_E) (Ret : am_R) : am_code := [(0, am_aload 0 1), (1, am_const (.int 2) 2), (2, am_callV live 8 1 TX8_reduce 5), (5, am_aload 0 6), (6, am_callV live 8 0 TX8_top 9), (9, am_const (.int 58) 11), (11, am_if2 (fun x y => x = y) 14 87), (14, am_aload 0 15), (15, am_dup 16), (16, am_getI live 8 12 19), (19, am_const (.int 2) 20), (20, am_i2 (fun x y => x - y) 21), (21, am_putI live 8 12 24), (24, am_aload 0 25), (25, am_getR live 8 10 28), (28, am_aload 0 29), (29, am_getI live 8 12 32), (32, am_const (.int 1) 33), (33, am_i2 (fun x y => x - y) 34), (34, am_aload 0 35), (35, am_getR live 8 10 38), (38, am_aload 0 39), (39, am_getI live 8 12 42), (42, am_const (.int 1) 43), (43, am_i2 (fun x y => x - y) 44), (44, am_lald live 1 45), (45, am_const (.long 0) 46), (46, am_lcmp 47), (47, am_if1 (fun x => x = 0) 62 50), (50, am_aload 0 51), (51, am_getR live 8 10 54), (54, am_aload 0 55), (55, am_getI live 8 12 58), (58, am_lald live 1 59), (59, am_goto 73), (62, am_aload 0 63), (63, am_getR live 8 10 66), (66, am_aload 0 67), (67, am_getI live 8 12 70), (70, am_const (.int 1) 71), (71, am_i2 (fun x y => x + y) 72), (72, am_lald live 1 73), (73, am_last live 1 74), (74, am_aload 0 75), (75, am_dup 76), (76, am_getI live 8 11 79), (79, am_const (.int 1) 80), (80, am_i2 (fun x y => x - y) 81), (81, am_putI live 8 11 84), (84, am_goto 5), (87, am_retV Ret)]
theorem koX8_choose (live : am_E) (Ret : am_R) : ∀ q ∈ kX8_choose live Ret, am_ok RX8 cX8_choose 1 none 3 65 live Ret q.1 q.2 :=
  am_kz dzX8_choose <|
  am_kd (fun d => ak_aload_n d rfl rfl) <|
  am_kd (fun d => ak_iconst d (by decide +kernel) rfl) <|
  am_kd (fun d => ak_callV (C := RX8) (F := TX8) (N := 27) metX8_reduce rfl ⟨rfl, hy_X8_reduce⟩ (am_w5 wd_1138 wd_1140 wd_39 wd_67 wd_1141) (by decide) d rfl) <|
  am_kd (fun d => ak_aload_n d rfl rfl) <|
  am_kd (fun d => ak_callV (C := RX8) (F := TX8) (N := 27) metX8_top rfl ⟨rfl, hy_X8_top⟩ (am_w5 wd_1113 wd_1115 wd_35 wd_67 wd_1116) (by decide) d rfl) <|
  am_kd (fun d => ak_bipush d (by decide +kernel) rfl) <|
  am_kd (fun d => ak_icmp_ne d (by decide +kernel) rfl) <|
  am_kd (fun d => ak_aload_n d rfl rfl) <|
  am_kd (fun d => ak_dup d rfl) <|
  am_kd (fun d => ak_getI (C := RX8) (T := TX8) (N := 27) rfl inX8w (by decide) rfl rfl rfl wd_907 d rfl) <|
  am_kd (fun d => ak_iconst d (by decide +kernel) rfl) <|
  am_kd (fun d => ak_isub d rfl) <|
  am_kd (fun d => ak_putI (C := RX8) (T := TX8) (N := 27) rfl inX8w tyX8_ok nmX8 (by decide) rfl rfl rfl rfl (by decide +kernel) wd_907 d rfl) <|
  am_kd (fun d => ak_aload_n d rfl rfl) <|
  am_kd (fun d => ak_getR (C := RX8) (T := TX8) (N := 27) rfl inX8w (by decide) rfl rfl rfl wd_905 d rfl) <|
  am_kd (fun d => ak_aload_n d rfl rfl) <|
  am_kd (fun d => ak_getI (C := RX8) (T := TX8) (N := 27) rfl inX8w (by decide) rfl rfl rfl wd_907 d rfl) <|
  am_kd (fun d => ak_iconst d (by decide +kernel) rfl) <|
  am_kd (fun d => ak_isub d rfl) <|
  am_kd (fun d => ak_aload_n d rfl rfl) <|
  am_kd (fun d => ak_getR (C := RX8) (T := TX8) (N := 27) rfl inX8w (by decide) rfl rfl rfl wd_905 d rfl) <|
  am_kd (fun d => ak_aload_n d rfl rfl) <|
  am_kd (fun d => ak_getI (C := RX8) (T := TX8) (N := 27) rfl inX8w (by decide) rfl rfl rfl wd_907 d rfl) <|
  am_kd (fun d => ak_iconst d (by decide +kernel) rfl) <|
  am_kd (fun d => ak_isub d rfl) <|
  am_kd (fun d => ak_lald (t := 1) (fun _ => rfl) rfl d rfl) <|
  am_kd (fun d => ak_lconst d (by decide +kernel) rfl) <|
  am_kd (fun d => ak_lcmp d rfl) <|
  am_kd (fun d => ak_if_eq d (by decide +kernel) rfl) <|
  am_kd (fun d => ak_aload_n d rfl rfl) <|
  am_kd (fun d => ak_getR (C := RX8) (T := TX8) (N := 27) rfl inX8w (by decide) rfl rfl rfl wd_905 d rfl) <|
  am_kd (fun d => ak_aload_n d rfl rfl) <|
  am_kd (fun d => ak_getI (C := RX8) (T := TX8) (N := 27) rfl inX8w (by decide) rfl rfl rfl wd_907 d rfl) <|
  am_kd (fun d => ak_lald (t := 1) (fun _ => rfl) rfl d rfl) <|
  am_kd (fun d => ak_goto d (by decide +kernel)) <|
  am_kd (fun d => ak_aload_n d rfl rfl) <|
  am_kd (fun d => ak_getR (C := RX8) (T := TX8) (N := 27) rfl inX8w (by decide) rfl rfl rfl wd_905 d rfl) <|
  am_kd (fun d => ak_aload_n d rfl rfl) <|
  am_kd (fun d => ak_getI (C := RX8) (T := TX8) (N := 27) rfl inX8w (by decide) rfl rfl rfl wd_907 d rfl) <|
  am_kd (fun d => ak_iconst d (by decide +kernel) rfl) <|
  am_kd (fun d => ak_iadd d rfl) <|
  am_kd (fun d => ak_lald (t := 1) (fun _ => rfl) rfl d rfl) <|
  am_kd (fun d => ak_last (t := 1) (fun _ => rfl) rfl d rfl) <|
  am_kd (fun d => ak_aload_n d rfl rfl) <|
  am_kd (fun d => ak_dup d rfl) <|
  am_kd (fun d => ak_getI (C := RX8) (T := TX8) (N := 27) rfl inX8w (by decide) rfl rfl rfl wd_906 d rfl) <|
  am_kd (fun d => ak_iconst d (by decide +kernel) rfl) <|
  am_kd (fun d => ak_isub d rfl) <|
  am_kd (fun d => ak_putI (C := RX8) (T := TX8) (N := 27) rfl inX8w tyX8_ok nmX8 (by decide) rfl rfl rfl rfl (by decide +kernel) wd_906 d rfl) <|
  am_kd (fun d => ak_goto d (by decide +kernel)) <|
  am_kd (fun d => ak_retV d) <| am_kdn
def TX8_choose : am_T := fun live as M R => match as with
  | [.ref n] => am_mn live ∧ n = 200 ∧ r_cw M 1 (fun w0 => ∀ M', r_wk M M' → r_wI M' 1 w0 → R none M')
  | _ => False
def JX8_choose : am_E → List Value → am_M → am_R → am_inv := fun live as M0 R pc => match as with
  | [.ref n] => (match pc with
    | 5 => some ([0], fun k L st M => ∃ w0, L = [(0, .ref 200)] ∧ st = [] ∧ k = ((M.1 200 11).toInt.toNat, 0) ∧ r_wI M 1 w0 ∧ r_wk M0 M ∧ ∀ M', r_wk M0 M' → r_wI M' 1 w0 → R none M')
    | _ => none)
  | _ => none
set_option maxRecDepth 100000 in
set_option maxHeartbeats 4000000 in
theorem metX8_choose : am_Met yX8_choose cX8_choose 1 none (3) (65) TX8_choose := by
  refine am_met (own := RX8) (by decide +kernel) rfl kX8_choose koX8_choose 100 JX8_choose ?_ ?_
  · intro live as M Ret h
    unfold TX8_choose at h
    split at h
    · next n =>
      refine ⟨Nat.le_of_ble_eq_true rfl, ?_⟩
      change am_wp _ _ _ _ [(0, Value.ref n)] _ _
      obtain ⟨hmn, rfl, w0, hw, h⟩ := h
      have hmn2 := hmn
      obtain ⟨i1, i2, rfl⟩ := hmn2
      repeat' (first | (with_reducible exact hmn) | apply And.intro | exact rfl | intro hx | (refine Exists.intro _ (And.intro rfl ?_)) | (refine r_cw_in hw (fun M1 c1 d1 => ?_)))
      all_goals try first | (with_reducible change am_tI _ _) | (change Ret _ _) | (change Ret _ _ _) | (change Exists _)
      all_goals try dsimp only at *
      all_goals try (with_reducible exact absurd ‹(1000 : Int64) = 0› am_z1000)
      all_goals first
        | decide
        | exact ⟨_, w0, rfl, rfl, rfl, d1, c1, h⟩
    · exact h.elim
  · intro live as M0 Ret h k pc I hI L st M hi
    unfold TX8_choose at h
    split at h
    · next n =>
      obtain ⟨hmn, rfl, w9, hw9, h9⟩ := h
      have hmn2 := hmn
      obtain ⟨i1, i2, rfl⟩ := hmn2
      have l205 : am_len 205 = 120 := rfl
      change (match pc with | 5 => _ | _ => none) = _ at hI
      split at hI
      · cases hI
        obtain ⟨w0, rfl, rfl, rfl, hw, hk, h⟩ := hi
        obtain ⟨⟨u1, u2, u5⟩, u3, u4⟩ := hw.u
        have u120 : 0 ≤ (M.1 200 11).toInt ∧ (M.1 200 11).toInt ≤ 120 := ⟨u1, by omega⟩
        by_cases hz : r_top M = 58
        · have hp := r_top_pos (fun q => by rw [hz] at q; exact absurd q (by decide)) u1
          have hwt : r_wt (r_top M) = 2 := by rw [hz]; decide
          have tt := r_ws_top hp
          have e11 := i_sub (x := M.1 200 11) (y := 1) (by simp only [Int32.reduceToInt]; omega) (by simp only [Int32.reduceToInt]; omega)
          have e12 := i_sub (x := M.1 200 12) (y := 2) (by simp only [Int32.reduceToInt]; omega) (by simp only [Int32.reduceToInt]; omega)
          simp only [Int32.reduceToInt] at e11 e12
          have e13 := i_sub (x := M.1 200 12 - 2) (y := 1) (by simp only [Int32.reduceToInt]; omega) (by simp only [Int32.reduceToInt]; omega)
          have e14 := i_add (x := M.1 200 12 - 2) (y := 1) (by simp only [Int32.reduceToInt]; omega) (by simp only [Int32.reduceToInt]; omega)
          simp only [Int32.reduceToInt] at e13 e14
          have f11 : ∀ v, (am_wI M 200 12 v).1 200 11 = M.1 200 11 := fun v => by rw [am_wI_1, if_neg (fun q => absurd q.2 (by decide))]
          have f12 : ∀ v, (am_wI M 200 12 v).1 200 12 = v := fun v => am_wI_self
          repeat' (first | (with_reducible exact hmn) | (with_reducible exact u120) | apply And.intro | exact rfl | (intro hx; with_reducible exact absurd hz hx) | intro hx | (refine Exists.intro _ (And.intro rfl ?_)))
          all_goals try first | (with_reducible change am_tI _ _) | (change Ret _ _) | (change Ret _ _ _) | (change Exists _)
          all_goals try dsimp only at *
          all_goals try (with_reducible exact absurd ‹(1000 : Int64) = 0› am_z1000)
          all_goals try simp only [f12, e12, e13, e14, l205]
          all_goals first
            | omega
            | skip
          all_goals
            refine ⟨_, am_lt_l (by rw [am_wI_self]; show ((am_wI M 200 12 (M.1 200 12 - 2)).1 200 11 - 1).toInt.toNat < _; rw [f11]; omega), w0, rfl, rfl, rfl, ?_, ?_, h⟩
            · refine r_pop hw hp hwt ?_ ?_ (fun k => ?_)
              · rw [am_wI_self]
                show (am_wI M 200 12 (M.1 200 12 - 2)).1 200 11 - 1 = _
                rw [f11]
              · show ((am_wI M 200 12 (M.1 200 12 - 2)).1 200 12).toInt = _
                rw [f12, e12]
                omega
              · rfl
            · refine hk.tr ⟨(), fun a b z => ?_, fun a b z => ?_, ?_, ?_⟩
              · rw [am_wI_1, if_neg (fun q => by omega)]
                show (am_wI M 200 12 (M.1 200 12 - 2)).1 a b = _
                rw [am_wI_1, if_neg (fun q => by omega)]
              · show (am_wJ _ 205 _ _).2 a b = _
                rw [am_wJ_1, if_neg (fun q => z q.1)]
                rfl
              · rw [am_wI_self]
                show ((am_wI M 200 12 (M.1 200 12 - 2)).1 200 11 - 1).toInt ≤ _
                rw [f11]
                omega
              · show ((am_wI M 200 12 (M.1 200 12 - 2)).1 200 12).toInt ≤ _
                rw [f12, e12]
                omega
        · skip
          repeat' (first | (with_reducible exact hmn) | (with_reducible exact u120) | apply And.intro | exact rfl | (intro hx; with_reducible exact absurd hx hz) | intro hx | (refine Exists.intro _ (And.intro rfl ?_)))
          all_goals try first | (with_reducible change am_tI _ _) | (change Ret _ _) | (change Ret _ _ _) | (change Exists _)
          all_goals try dsimp only at *
          all_goals try (with_reducible exact absurd ‹(1000 : Int64) = 0› am_z1000)
          exact h _ hk hw
      · cases hI
    · exact h.elim
def rwX8_lay : List dz_r := [(0, .aload_n 0, 1), (1, .getfield 23, 3), (4, .aload_n 0, 1), (5, .getfield 153, 3), (8, .lload_n 1, 1), (9, .lastore, 1), (10, .aload_n 0, 1), (11, .dup, 1), (12, .getfield 153, 3), (15, .iconst 1, 1), (16, .iadd, 1), (17, .putfield 153, 3), (20, .aload_n 0, 1), (21, .invokevirtual 156, 3), (24, .iconst 1, 1), (25, .if_icmp .eq 11, 3), (28, .aload_n 0, 1), (29, .invokevirtual 156, 3), (32, .iconst 2, 1), (33, .if_icmp .ne 66, 3), (36, .aload_n 0, 1), (37, .getfield 23, 3), (40, .aload_n 0, 1), (41, .getfield 153, 3), (44, .iconst 1, 1), (45, .isub, 1), (46, .laload, 1), (47, .lstore_n 3, 1), (48, .aload_n 0, 1), (49, .getfield 23, 3), (52, .aload_n 0, 1), (53, .getfield 153, 3), (56, .iconst 1, 1), (57, .isub, 1), (58, .aload_n 0, 1), (59, .invokevirtual 156, 3), (62, .iconst 1, 1), (63, .if_icmp .ne 20, 3), (66, .lload_n 3, 1), (67, .lconst 0, 1), (68, .lcmp, 1), (69, .ifCond .ne 7, 3), (72, .iconst 1, 1), (73, .goto 4, 3), (76, .iconst 0, 1), (77, .invokestatic 146, 3), (80, .goto 5, 3), (83, .lload_n 3, 1), (84, .lneg, 1), (85, .lastore, 1), (86, .aload_n 0, 1), (87, .dup, 1), (88, .getfield 150, 3), (91, .iconst 1, 1), (92, .isub, 1), (93, .putfield 150, 3), (96, .goto (-76), 3), (99, .return_, 1)]
theorem dzX8_lay : dz cX8_lay rwX8_lay := dz_all 0 (by decide +kernel)
def kX8_lay (live : am_E) (Ret : am_R) : am_code := [(0, am_aload 0 1), (1, am_getR live 8 10 4), (4, am_aload 0 5), (5, am_getI live 8 12 8), (8, am_lload 1 9), (9, am_last live 1 10), (10, am_aload 0 11), (11, am_dup 12), (12, am_getI live 8 12 15), (15, am_const (.int 1) 16), (16, am_i2 (fun x y => x + y) 17), (17, am_putI live 8 12 20), (20, am_aload 0 21), (21, am_callV live 8 0 TX8_top 24), (24, am_const (.int 1) 25), (25, am_if2 (fun x y => x = y) 36 28), (28, am_aload 0 29), (29, am_callV live 8 0 TX8_top 32), (32, am_const (.int 2) 33), (33, am_if2 (fun x y => x = y) 36 99), (36, am_aload 0 37), (37, am_getR live 8 10 40), (40, am_aload 0 41), (41, am_getI live 8 12 44), (44, am_const (.int 1) 45), (45, am_i2 (fun x y => x - y) 46), (46, am_lald live 1 47), (47, am_lstore 3 5 48), (48, am_aload 0 49), (49, am_getR live 8 10 52), (52, am_aload 0 53), (53, am_getI live 8 12 56), (56, am_const (.int 1) 57), (57, am_i2 (fun x y => x - y) 58), (58, am_aload 0 59), (59, am_callV live 8 0 TX8_top 62), (62, am_const (.int 1) 63), (63, am_if2 (fun x y => x = y) 66 83), (66, am_lload 3 67), (67, am_const (.long 0) 68), (68, am_lcmp 69), (69, am_if1 (fun x => x = 0) 72 76), (72, am_const (.int 1) 73), (73, am_goto 77), (76, am_const (.int 0) 77), (77, am_callS live 1 TX8_told 80), (80, am_goto 85), (83, am_lload 3 84), (84, am_l1 (fun x => -x) 85), (85, am_last live 1 86), (86, am_aload 0 87), (87, am_dup 88), (88, am_getI live 8 11 91), (91, am_const (.int 1) 92), (92, am_i2 (fun x y => x - y) 93), (93, am_putI live 8 11 96), (96, am_goto 20), (99, am_retV Ret)]
theorem koX8_lay (live : am_E) (Ret : am_R) : ∀ q ∈ kX8_lay live Ret, am_ok RX8 cX8_lay 5 none 1 20 live Ret q.1 q.2 :=
  am_kz dzX8_lay <|
  am_kd (fun d => ak_aload_n d rfl rfl) <|
  am_kd (fun d => ak_getR (C := RX8) (T := TX8) (N := 27) rfl inX8w (by decide) rfl rfl rfl wd_905 d rfl) <|
  am_kd (fun d => ak_aload_n d rfl rfl) <|
  am_kd (fun d => ak_getI (C := RX8) (T := TX8) (N := 27) rfl inX8w (by decide) rfl rfl rfl wd_907 d rfl) <|
  am_kd (fun d => ak_lload_n d rfl rfl) <|
  am_kd (fun d => ak_last (t := 1) (fun _ => rfl) rfl d rfl) <|
  am_kd (fun d => ak_aload_n d rfl rfl) <|
  am_kd (fun d => ak_dup d rfl) <|
  am_kd (fun d => ak_getI (C := RX8) (T := TX8) (N := 27) rfl inX8w (by decide) rfl rfl rfl wd_907 d rfl) <|
  am_kd (fun d => ak_iconst d (by decide +kernel) rfl) <|
  am_kd (fun d => ak_iadd d rfl) <|
  am_kd (fun d => ak_putI (C := RX8) (T := TX8) (N := 27) rfl inX8w tyX8_ok nmX8 (by decide) rfl rfl rfl rfl (by decide +kernel) wd_907 d rfl) <|
  am_kd (fun d => ak_aload_n d rfl rfl) <|
  am_kd (fun d => ak_callV (C := RX8) (F := TX8) (N := 27) metX8_top rfl ⟨rfl, hy_X8_top⟩ (am_w5 wd_1113 wd_1115 wd_35 wd_67 wd_1116) (by decide) d rfl) <|
  am_kd (fun d => ak_iconst d (by decide +kernel) rfl) <|
  am_kd (fun d => ak_icmp_eq d (by decide +kernel) rfl) <|
  am_kd (fun d => ak_aload_n d rfl rfl) <|
  am_kd (fun d => ak_callV (C := RX8) (F := TX8) (N := 27) metX8_top rfl ⟨rfl, hy_X8_top⟩ (am_w5 wd_1113 wd_1115 wd_35 wd_67 wd_1116) (by decide) d rfl) <|
  am_kd (fun d => ak_iconst d (by decide +kernel) rfl) <|
  am_kd (fun d => ak_icmp_ne d (by decide +kernel) rfl) <|
  am_kd (fun d => ak_aload_n d rfl rfl) <|
  am_kd (fun d => ak_getR (C := RX8) (T := TX8) (N := 27) rfl inX8w (by decide) rfl rfl rfl wd_905 d rfl) <|
  am_kd (fun d => ak_aload_n d rfl rfl) <|
  am_kd (fun d => ak_getI (C := RX8) (T := TX8) (N := 27) rfl inX8w (by decide) rfl rfl rfl wd_907 d rfl) <|
  am_kd (fun d => ak_iconst d (by decide +kernel) rfl) <|
  am_kd (fun d => ak_isub d rfl) <|
  am_kd (fun d => ak_lald (t := 1) (fun _ => rfl) rfl d rfl) <|
  am_kd (fun d => ak_lstore_n d rfl rfl) <|
  am_kd (fun d => ak_aload_n d rfl rfl) <|
  am_kd (fun d => ak_getR (C := RX8) (T := TX8) (N := 27) rfl inX8w (by decide) rfl rfl rfl wd_905 d rfl) <|
  am_kd (fun d => ak_aload_n d rfl rfl) <|
  am_kd (fun d => ak_getI (C := RX8) (T := TX8) (N := 27) rfl inX8w (by decide) rfl rfl rfl wd_907 d rfl) <|
  am_kd (fun d => ak_iconst d (by decide +kernel) rfl) <|
  am_kd (fun d => ak_isub d rfl) <|
  am_kd (fun d => ak_aload_n d rfl rfl) <|
  am_kd (fun d => ak_callV (C := RX8) (F := TX8) (N := 27) metX8_top rfl ⟨rfl, hy_X8_top⟩ (am_w5 wd_1113 wd_1115 wd_35 wd_67 wd_1116) (by decide) d rfl) <|
  am_kd (fun d => ak_iconst d (by decide +kernel) rfl) <|
  am_kd (fun d => ak_icmp_ne d (by decide +kernel) rfl) <|
  am_kd (fun d => ak_lload_n d rfl rfl) <|
  am_kd (fun d => ak_lconst d (by decide +kernel) rfl) <|
  am_kd (fun d => ak_lcmp d rfl) <|
  am_kd (fun d => ak_if_ne d (by decide +kernel) rfl) <|
  am_kd (fun d => ak_iconst d (by decide +kernel) rfl) <|
  am_kd (fun d => ak_goto d (by decide +kernel)) <|
  am_kd (fun d => ak_iconst d (by decide +kernel) rfl) <|
  am_kd (fun d => ak_callS metX8_told ⟨rfl, hy_X8_told⟩ (am_w4 wd_1117 wd_1118 wd_67 wd_1119) (by decide) d rfl) <|
  am_kd (fun d => ak_goto d (by decide +kernel)) <|
  am_kd (fun d => ak_lload_n d rfl rfl) <|
  am_kd (fun d => ak_lneg d rfl) <|
  am_kd (fun d => ak_last (t := 1) (fun _ => rfl) rfl d rfl) <|
  am_kd (fun d => ak_aload_n d rfl rfl) <|
  am_kd (fun d => ak_dup d rfl) <|
  am_kd (fun d => ak_getI (C := RX8) (T := TX8) (N := 27) rfl inX8w (by decide) rfl rfl rfl wd_906 d rfl) <|
  am_kd (fun d => ak_iconst d (by decide +kernel) rfl) <|
  am_kd (fun d => ak_isub d rfl) <|
  am_kd (fun d => ak_putI (C := RX8) (T := TX8) (N := 27) rfl inX8w tyX8_ok nmX8 (by decide) rfl rfl rfl rfl (by decide +kernel) wd_906 d rfl) <|
  am_kd (fun d => ak_goto d (by decide +kernel)) <|
  am_kd (fun d => ak_retV d) <| am_kdn
def TX8_lay : am_T := fun live as M R => match as with
  | [.ref n, .long v] => am_mn live ∧ n = 200 ∧ r_cw M 0 (fun w0 => w0 ≤ 59 ∧ ∀ M', r_wg M M' → r_wI M' 1 (w0 + 1) → R none M')
  | _ => False
def JX8_lay : am_E → List Value → am_M → am_R → am_inv := fun live as M0 R pc => match as with
  | [.ref n, .long v] => (match pc with
    | 20 => some ([0], fun k L st M => ∃ w0, L = [(0, .ref 200)] ∧ st = [] ∧ k = ((M.1 200 11).toInt.toNat, 0) ∧ r_wI M 1 w0 ∧ r_wg M0 M ∧ ∀ M', r_wg M0 M' → r_wI M' 1 w0 → R none M')
    | _ => none)
  | _ => none
set_option maxRecDepth 100000 in
set_option maxHeartbeats 4000000 in
theorem metX8_lay : am_Met yX8_lay cX8_lay 5 none (1) (20) TX8_lay := by
  refine am_met (own := RX8) (by decide +kernel) rfl kX8_lay koX8_lay 100 JX8_lay ?_ ?_
  · intro live as M Ret h
    unfold TX8_lay at h
    split at h
    · next n v =>
      refine ⟨Nat.le_of_ble_eq_true rfl, ?_⟩
      change am_wp _ _ _ _ [(0, Value.ref n), (1, Value.long v)] _ _
      obtain ⟨hmn, rfl, w0, hw, h9, h⟩ := h
      have hmn2 := hmn
      obtain ⟨i1, i2, rfl⟩ := hmn2
      obtain ⟨⟨u1, u2, u5⟩, u3, u4⟩ := hw.u
      have l205 : am_len 205 = 120 := rfl
      have e12 := i_inc (x := M.1 200 12) (by omega) (by omega)
      repeat' (first | (with_reducible exact hmn) | apply And.intro | exact rfl | intro hx | (refine Exists.intro _ (And.intro rfl ?_)))
      all_goals try first | (with_reducible change am_tI _ _) | (change Ret _ _) | (change Ret _ _ _) | (change Exists _)
      all_goals try dsimp only at *
      all_goals try (with_reducible exact absurd ‹(1000 : Int64) = 0› am_z1000)
      all_goals first
        | omega
        | (rw [l205]; omega)
        | skip
      refine ⟨_, w0 + 1, rfl, rfl, rfl, ?_, r_wg.rf.w205.w12, h⟩
      refine ⟨(), ⟨?_, ?_, by omega⟩, ?_, ?_⟩
      · rw [am_wI_1, if_neg (fun q => absurd q.2 (by decide))]; exact u1
      · rw [am_wI_1, if_neg (fun q => absurd q.2 (by decide))]; show (M.1 200 11).toInt ≤ _; omega
      · rw [am_wI_self, show (am_wI (am_wJ M 205 (M.1 200 12).toNatClampNeg v) 200 12 ((am_wJ M 205 (M.1 200 12).toNatClampNeg v).1 200 12 + 1)).1 200 11 = M.1 200 11 by rw [am_wI_1, if_neg (fun q => absurd q.2 (by decide))]; rfl, show (am_wI (am_wJ M 205 (M.1 200 12).toNatClampNeg v) 200 12 ((am_wJ M 205 (M.1 200 12).toNatClampNeg v).1 200 12 + 1)).1 204 = M.1 204 from funext fun k => by rw [am_wI_1, if_neg (fun q => absurd q.1 (by decide))]; rfl]
        show (M.1 200 12 + 1).toInt = _
        omega
      · rw [am_wI_self]
        show (M.1 200 12 + 1).toInt ≤ _
        omega
    · exact h.elim
  · intro live as M0 Ret h k pc I hI L st M hi
    unfold TX8_lay at h
    split at h
    · next n v =>
      obtain ⟨hmn, rfl, w9, hw9, h99, h9⟩ := h
      have hmn2 := hmn
      obtain ⟨i1, i2, rfl⟩ := hmn2
      have l205 : am_len 205 = 120 := rfl
      change (match pc with | 20 => _ | _ => none) = _ at hI
      split at hI
      · cases hI
        obtain ⟨w0, rfl, rfl, rfl, hw, hk, h⟩ := hi
        obtain ⟨⟨u1, u2, u5⟩, u3, u4⟩ := hw.u
        have u120 : 0 ≤ (M.1 200 11).toInt ∧ (M.1 200 11).toInt ≤ 120 := ⟨u1, by omega⟩
        have e13 := i_sub (x := M.1 200 12) (y := 1) (by simp only [Int32.reduceToInt]; omega) (by simp only [Int32.reduceToInt]; omega)
        simp only [Int32.reduceToInt] at e13
        by_cases hz : r_top M = 1 ∨ r_top M = 2
        · have hp := r_top_pos (fun q => by rcases hz with z | z <;> rw [z] at q <;> exact absurd q (by decide)) u1
          have hwt : r_wt (r_top M) = 0 := by rcases hz with z | z <;> rw [z] <;> decide
          have e11 := i_sub (x := M.1 200 11) (y := 1) (by simp only [Int32.reduceToInt]; omega) (by simp only [Int32.reduceToInt]; omega)
          simp only [Int32.reduceToInt] at e11
          have ho := r_off1 hw hp
          rw [hwt] at ho
          rcases hz with hz | hz
          · skip
            repeat' (first | (with_reducible exact hz) | (with_reducible exact hmn) | (with_reducible exact u120) | apply And.intro | exact rfl | (intro hx; with_reducible exact absurd hz hx) | intro hx | (refine Exists.intro _ (And.intro rfl ?_)))
            all_goals try first | (with_reducible change am_tI _ _) | (change Ret _ _) | (change Ret _ _ _) | (change Exists _)
            all_goals try dsimp only at *
            all_goals try (with_reducible exact absurd ‹(1000 : Int64) = 0› am_z1000)
            all_goals first
              | omega
              | (rw [l205]; omega)
              | exact absurd hz (by with_reducible assumption)
              | exact ⟨_, am_lt_l (by rw [am_wI_self]; show (M.1 200 11 - 1).toInt.toNat < _; omega), w0, rfl, rfl, rfl, ho, hk.w205.w11, h⟩
          · have hz1 : ¬ r_top M = 1 := fun q => by rw [hz] at q; exact absurd q (by decide)
            repeat' (first | (with_reducible exact hz) | (with_reducible exact hmn) | (with_reducible exact u120) | apply And.intro | exact rfl | (intro hx; with_reducible exact absurd hx hz1) | (intro hx; with_reducible exact absurd hz hx) | intro hx | (refine Exists.intro _ (And.intro rfl ?_)))
            all_goals try first | (with_reducible change am_tI _ _) | (change Ret _ _) | (change Ret _ _ _) | (change Exists _)
            all_goals try dsimp only at *
            all_goals try (with_reducible exact absurd ‹(1000 : Int64) = 0› am_z1000)
            all_goals first
              | omega
              | (rw [l205]; omega)
              | exact ⟨_, am_lt_l (by rw [am_wI_self]; show (M.1 200 11 - 1).toInt.toNat < _; omega), w0, rfl, rfl, rfl, ho, hk.w205.w11, h⟩
        · have hz1 : ¬ r_top M = 1 := fun q => hz (Or.inl q)
          have hz2 : ¬ r_top M = 2 := fun q => hz (Or.inr q)
          repeat' (first | (with_reducible exact hmn) | (with_reducible exact u120) | apply And.intro | exact rfl | (intro hx; with_reducible exact absurd hx hz1) | (intro hx; with_reducible exact absurd hx hz2) | intro hx | (refine Exists.intro _ (And.intro rfl ?_)))
          all_goals try first | (with_reducible change am_tI _ _) | (change Ret _ _) | (change Ret _ _ _) | (change Exists _)
          all_goals try dsimp only at *
          all_goals try (with_reducible exact absurd ‹(1000 : Int64) = 0› am_z1000)
          exact h _ hk hw
      · cases hI
    · exact h.elim
