/-! general: the reference's reader of texts, II -/
/-- what the reader changes: its stacks -/
def r_wg (M M' : am_M) : Prop := ∃ _ : Unit, (∀ a b, a ≠ 204 → (a ≠ 200 ∨ (b ≠ 11 ∧ b ≠ 12)) → M'.1 a b = M.1 a b) ∧ (∀ a b, a ≠ 205 → M'.2 a b = M.2 a b)
theorem r_wg.rf {M : am_M} : r_wg M M := ⟨(), fun _ _ _ _ => rfl, fun _ _ _ => rfl⟩
theorem r_wg.tr {M M' M'' : am_M} (h : r_wg M M') (h2 : r_wg M' M'') : r_wg M M'' := by
  obtain ⟨-, a1, a2⟩ := h
  obtain ⟨-, b1, b2⟩ := h2
  exact ⟨(), fun a b z y => (b1 a b z y).trans (a1 a b z y), fun a b z => (b2 a b z).trans (a2 a b z)⟩
theorem r_wg.k {M M' M'' : am_M} (h : r_wg M M') (h2 : r_wk M' M'') : r_wg M M'' := by
  obtain ⟨-, a1, a2, -⟩ := h2
  exact h.tr ⟨(), fun a b _ y => a1 a b y, a2⟩
theorem r_wg.w11 {M M' : am_M} {v : Int32} (h : r_wg M M') : r_wg M (am_wI M' 200 11 v) := h.tr ⟨(), fun a b _ y => by rw [am_wI_1, if_neg (fun q => by omega)], fun _ _ _ => rfl⟩
theorem r_wg.w12 {M M' : am_M} {v : Int32} (h : r_wg M M') : r_wg M (am_wI M' 200 12 v) := h.tr ⟨(), fun a b _ y => by rw [am_wI_1, if_neg (fun q => by omega)], fun _ _ _ => rfl⟩
theorem r_wg.w204 {M M' : am_M} {k : Nat} {v : Int32} (h : r_wg M M') : r_wg M (am_wI M' 204 k v) := h.tr ⟨(), fun a b z _ => by rw [am_wI_1, if_neg (fun q => z q.1)], fun _ _ _ => rfl⟩
theorem r_wg.w205 {M M' : am_M} {k : Nat} {v : Int64} (h : r_wg M M') : r_wg M (am_wJ M' 205 k v) := h.tr ⟨(), fun _ _ _ _ => rfl, fun a b z => by rw [am_wJ_1, if_neg (fun q => z q.1)]⟩
theorem r_wg.sc {M M' : am_M} (h : r_wg M M') : r_sc M M' := by
  obtain ⟨-, a1, a2⟩ := h
  exact ⟨(), fun a b z => ⟨a1 a b (by omega) (Or.inl (by omega)), a2 a b (by omega)⟩, a1 _ _ (by decide) (Or.inr ⟨by decide, by decide⟩), a1 _ _ (by decide) (Or.inr ⟨by decide, by decide⟩)⟩
theorem r_wg.i {M M' : am_M} (h : r_wg M M') (hI : r_I M) : r_I M' := by
  exact hI.sc h.sc
theorem r_ws_cg {f g : Nat → Int32} : ∀ {n : Nat}, (∀ k, k < n → g k = f k) → r_ws g n = r_ws f n
  | 0, _ => rfl
  | n + 1, h => by
    show r_ws g n + r_wt (g n) = r_ws f n + r_wt (f n)
    rw [r_ws_cg (fun k hk => h k (by omega)), h n (by omega)]
theorem r_push {M : am_M} {d w0 : Nat} {c : Int32} (h : r_wI M d w0) (hc : r_wt c = d) (h9 : w0 ≤ 59) : r_wI (am_wI (am_wI M 204 (M.1 200 11).toNatClampNeg c) 200 11 (M.1 200 11 + 1)) 0 (w0 + 1) := by
  obtain ⟨⟨u1, u2, u5⟩, u3, u4⟩ := h.u
  have e := i_inc (x := M.1 200 11) (by omega) (by omega)
  have f12 : (am_wI (am_wI M 204 (M.1 200 11).toNatClampNeg c) 200 11 (M.1 200 11 + 1)).1 200 12 = M.1 200 12 := by
    rw [am_wI_1, if_neg (fun q => absurd q.2 (by decide)), am_wI_1, if_neg (fun q => absurd q.1 (by decide))]
  have f204 : ∀ k, (am_wI (am_wI M 204 (M.1 200 11).toNatClampNeg c) 200 11 (M.1 200 11 + 1)).1 204 k = if k = (M.1 200 11).toNatClampNeg then c else M.1 204 k := fun k => by
    rw [am_wI_1, if_neg (fun q => absurd q.1 (by decide)), am_wI_1]
    simp
  have c1 := i_clamp (x := M.1 200 11) u1
  have c2 := i_clamp (x := M.1 200 11 + 1) (by omega)
  refine ⟨(), ⟨by rw [am_wI_self]; omega, by rw [am_wI_self]; omega, by omega⟩, ?_, by rw [f12]; omega⟩
  rw [f12, am_wI_self, show (M.1 200 11 + 1).toNatClampNeg = (M.1 200 11).toNatClampNeg + 1 by omega, u3]
  have hs : r_ws ((am_wI (am_wI M 204 (M.1 200 11).toNatClampNeg c) 200 11 (M.1 200 11 + 1)).1 204) (M.1 200 11).toNatClampNeg = r_ws (M.1 204) (M.1 200 11).toNatClampNeg := r_ws_cg (fun k hk => by rw [f204, if_neg (by omega)])
  have hs2 : (am_wI (am_wI M 204 (M.1 200 11).toNatClampNeg c) 200 11 (M.1 200 11 + 1)).1 204 (M.1 200 11).toNatClampNeg = c := by rw [f204, if_pos rfl]
  show _ = ((r_ws _ _ + r_wt _ + 0 : Nat) : Int)
  rw [hs, hs2, hc]
  omega
/-- one sign off: the stacks behind it weigh that much less -/
theorem r_off1 {M : am_M} {d w0 : Nat} (h : r_wI M d w0) (hp : 0 < (M.1 200 11).toInt) : r_wI (am_wI M 200 11 (M.1 200 11 - 1)) (r_wt (r_top M) + d) w0 := by
  obtain ⟨⟨u1, u2, u5⟩, u3, u4⟩ := h.u
  have e := i_sub (x := M.1 200 11) (y := 1) (by simp only [Int32.reduceToInt]; omega) (by simp only [Int32.reduceToInt]; omega)
  simp only [Int32.reduceToInt] at e
  have t := r_ws_top hp
  have f12 : (am_wI M 200 11 (M.1 200 11 - 1)).1 200 12 = M.1 200 12 := by rw [am_wI_1, if_neg (fun q => absurd q.2 (by decide))]
  have f204 : (am_wI M 200 11 (M.1 200 11 - 1)).1 204 = M.1 204 := funext fun k => by rw [am_wI_1, if_neg (fun q => absurd q.1 (by decide))]
  refine ⟨(), ⟨by rw [am_wI_self]; omega, by rw [am_wI_self]; omega, u5⟩, ?_, by rw [f12]; omega⟩
  rw [f12, am_wI_self, f204, u3, t]
  omega
set_option maxRecDepth 100000 in
theorem wd_1138 : Cond.methodLink "LearnLoansModel" 167 yX8_reduce ∈ am_ws := am_wsi (List.mem_of_getElem? (i := 1138) (by rfl)) (by decide +kernel)
set_option maxRecDepth 100000 in
theorem wd_1140 : Cond.instanceMethod yX8_reduce ∈ am_ws := am_wsi (List.mem_of_getElem? (i := 1140) (by rfl)) (by decide +kernel)
set_option maxRecDepth 100000 in
theorem wd_39 : Cond.selects "LearnLoansModel" yX8_reduce yX8_reduce ∈ am_ws := am_wsi (List.mem_of_getElem? (i := 39) (by rfl)) (by decide +kernel)
set_option maxRecDepth 100000 in
theorem wd_1141 : Cond.code yX8_reduce cX8_reduce 2 none ∈ am_ws := am_wsi (List.mem_of_getElem? (i := 1141) (by rfl)) (by decide +kernel)
theorem dX8_choose_0 : decode cX8_choose 0 = .ok (.aload_n 0, 1) := by decide +kernel
theorem dX8_choose_1 : decode cX8_choose 1 = .ok (.iconst 2, 1) := by decide +kernel
theorem dX8_choose_2 : decode cX8_choose 2 = .ok (.invokevirtual 167, 3) := by decide +kernel
theorem dX8_choose_5 : decode cX8_choose 5 = .ok (.aload_n 0, 1) := by decide +kernel
theorem dX8_choose_6 : decode cX8_choose 6 = .ok (.invokevirtual 156, 3) := by decide +kernel
theorem dX8_choose_9 : decode cX8_choose 9 = .ok (.bipush 58, 2) := by decide +kernel
theorem dX8_choose_11 : decode cX8_choose 11 = .ok (.if_icmp .ne 76, 3) := by decide +kernel
theorem dX8_choose_14 : decode cX8_choose 14 = .ok (.aload_n 0, 1) := by decide +kernel
theorem dX8_choose_15 : decode cX8_choose 15 = .ok (.dup, 1) := by decide +kernel
theorem dX8_choose_16 : decode cX8_choose 16 = .ok (.getfield 153, 3) := by decide +kernel
theorem dX8_choose_19 : decode cX8_choose 19 = .ok (.iconst 2, 1) := by decide +kernel
theorem dX8_choose_20 : decode cX8_choose 20 = .ok (.isub, 1) := by decide +kernel
theorem dX8_choose_21 : decode cX8_choose 21 = .ok (.putfield 153, 3) := by decide +kernel
theorem dX8_choose_24 : decode cX8_choose 24 = .ok (.aload_n 0, 1) := by decide +kernel
theorem dX8_choose_25 : decode cX8_choose 25 = .ok (.getfield 23, 3) := by decide +kernel
theorem dX8_choose_28 : decode cX8_choose 28 = .ok (.aload_n 0, 1) := by decide +kernel
theorem dX8_choose_29 : decode cX8_choose 29 = .ok (.getfield 153, 3) := by decide +kernel
theorem dX8_choose_32 : decode cX8_choose 32 = .ok (.iconst 1, 1) := by decide +kernel
theorem dX8_choose_33 : decode cX8_choose 33 = .ok (.isub, 1) := by decide +kernel
theorem dX8_choose_34 : decode cX8_choose 34 = .ok (.aload_n 0, 1) := by decide +kernel
theorem dX8_choose_35 : decode cX8_choose 35 = .ok (.getfield 23, 3) := by decide +kernel
theorem dX8_choose_38 : decode cX8_choose 38 = .ok (.aload_n 0, 1) := by decide +kernel
theorem dX8_choose_39 : decode cX8_choose 39 = .ok (.getfield 153, 3) := by decide +kernel
theorem dX8_choose_42 : decode cX8_choose 42 = .ok (.iconst 1, 1) := by decide +kernel
theorem dX8_choose_43 : decode cX8_choose 43 = .ok (.isub, 1) := by decide +kernel
theorem dX8_choose_44 : decode cX8_choose 44 = .ok (.laload, 1) := by decide +kernel
theorem dX8_choose_45 : decode cX8_choose 45 = .ok (.lconst 0, 1) := by decide +kernel
theorem dX8_choose_46 : decode cX8_choose 46 = .ok (.lcmp, 1) := by decide +kernel
theorem dX8_choose_47 : decode cX8_choose 47 = .ok (.ifCond .eq 15, 3) := by decide +kernel
theorem dX8_choose_50 : decode cX8_choose 50 = .ok (.aload_n 0, 1) := by decide +kernel
theorem dX8_choose_51 : decode cX8_choose 51 = .ok (.getfield 23, 3) := by decide +kernel
theorem dX8_choose_54 : decode cX8_choose 54 = .ok (.aload_n 0, 1) := by decide +kernel
theorem dX8_choose_55 : decode cX8_choose 55 = .ok (.getfield 153, 3) := by decide +kernel
theorem dX8_choose_58 : decode cX8_choose 58 = .ok (.laload, 1) := by decide +kernel
theorem dX8_choose_59 : decode cX8_choose 59 = .ok (.goto 14, 3) := by decide +kernel
theorem dX8_choose_62 : decode cX8_choose 62 = .ok (.aload_n 0, 1) := by decide +kernel
theorem dX8_choose_63 : decode cX8_choose 63 = .ok (.getfield 23, 3) := by decide +kernel
theorem dX8_choose_66 : decode cX8_choose 66 = .ok (.aload_n 0, 1) := by decide +kernel
theorem dX8_choose_67 : decode cX8_choose 67 = .ok (.getfield 153, 3) := by decide +kernel
theorem dX8_choose_70 : decode cX8_choose 70 = .ok (.iconst 1, 1) := by decide +kernel
theorem dX8_choose_71 : decode cX8_choose 71 = .ok (.iadd, 1) := by decide +kernel
theorem dX8_choose_72 : decode cX8_choose 72 = .ok (.laload, 1) := by decide +kernel
theorem dX8_choose_73 : decode cX8_choose 73 = .ok (.lastore, 1) := by decide +kernel
theorem dX8_choose_74 : decode cX8_choose 74 = .ok (.aload_n 0, 1) := by decide +kernel
theorem dX8_choose_75 : decode cX8_choose 75 = .ok (.dup, 1) := by decide +kernel
theorem dX8_choose_76 : decode cX8_choose 76 = .ok (.getfield 150, 3) := by decide +kernel
theorem dX8_choose_79 : decode cX8_choose 79 = .ok (.iconst 1, 1) := by decide +kernel
theorem dX8_choose_80 : decode cX8_choose 80 = .ok (.isub, 1) := by decide +kernel
theorem dX8_choose_81 : decode cX8_choose 81 = .ok (.putfield 150, 3) := by decide +kernel
theorem dX8_choose_84 : decode cX8_choose 84 = .ok (.goto (-79), 3) := by decide +kernel
theorem dX8_choose_87 : decode cX8_choose 87 = .ok (.return_, 1) := by decide +kernel
def kX8_choose (live : am_E) (Ret : am_R) : am_code := [(0, am_aload 0 1), (1, am_const (.int 2) 2), (2, am_callV live 8 1 TX8_reduce 5), (5, am_aload 0 6), (6, am_callV live 8 0 TX8_top 9), (9, am_const (.int 58) 11), (11, am_if2 (fun x y => x = y) 14 87), (14, am_aload 0 15), (15, am_dup 16), (16, am_getI live 8 12 19), (19, am_const (.int 2) 20), (20, am_i2 (fun x y => x - y) 21), (21, am_putI live 8 12 24), (24, am_aload 0 25), (25, am_getR live 8 10 28), (28, am_aload 0 29), (29, am_getI live 8 12 32), (32, am_const (.int 1) 33), (33, am_i2 (fun x y => x - y) 34), (34, am_aload 0 35), (35, am_getR live 8 10 38), (38, am_aload 0 39), (39, am_getI live 8 12 42), (42, am_const (.int 1) 43), (43, am_i2 (fun x y => x - y) 44), (44, am_lald live 1 45), (45, am_const (.long 0) 46), (46, am_lcmp 47), (47, am_if1 (fun x => x = 0) 62 50), (50, am_aload 0 51), (51, am_getR live 8 10 54), (54, am_aload 0 55), (55, am_getI live 8 12 58), (58, am_lald live 1 59), (59, am_goto 73), (62, am_aload 0 63), (63, am_getR live 8 10 66), (66, am_aload 0 67), (67, am_getI live 8 12 70), (70, am_const (.int 1) 71), (71, am_i2 (fun x y => x + y) 72), (72, am_lald live 1 73), (73, am_last live 1 74), (74, am_aload 0 75), (75, am_dup 76), (76, am_getI live 8 11 79), (79, am_const (.int 1) 80), (80, am_i2 (fun x y => x - y) 81), (81, am_putI live 8 11 84), (84, am_goto 5), (87, am_retV Ret)]
theorem koX8_choose (live : am_E) (Ret : am_R) : ∀ q ∈ kX8_choose live Ret, am_ok RX8 cX8_choose 1 none 3 65 live Ret q.1 q.2 :=
  am_kc (ak_aload_n dX8_choose_0 rfl rfl) <|
  am_kc (ak_iconst dX8_choose_1 (by decide +kernel) rfl) <|
  am_kc (ak_callV (C := RX8) (F := TX8) (N := 27) metX8_reduce rfl ⟨rfl, by decide +kernel, by decide +kernel, by decide +kernel⟩ (am_w5 wd_1138 wd_1140 wd_39 wd_67 wd_1141) (by decide) dX8_choose_2 rfl) <|
  am_kc (ak_aload_n dX8_choose_5 rfl rfl) <|
  am_kc (ak_callV (C := RX8) (F := TX8) (N := 27) metX8_top rfl ⟨rfl, by decide +kernel, by decide +kernel, by decide +kernel⟩ (am_w5 wd_1113 wd_1115 wd_35 wd_67 wd_1116) (by decide) dX8_choose_6 rfl) <|
  am_kc (ak_bipush dX8_choose_9 (by decide +kernel) rfl) <|
  am_kc (ak_icmp_ne dX8_choose_11 (by decide +kernel) rfl) <|
  am_kc (ak_aload_n dX8_choose_14 rfl rfl) <|
  am_kc (ak_dup dX8_choose_15 rfl) <|
  am_kc (ak_getI (C := RX8) (T := TX8) (N := 27) rfl inX8w (by decide) rfl rfl rfl wd_907 dX8_choose_16 rfl) <|
  am_kc (ak_iconst dX8_choose_19 (by decide +kernel) rfl) <|
  am_kc (ak_isub dX8_choose_20 rfl) <|
  am_kc (ak_putI (C := RX8) (T := TX8) (N := 27) rfl inX8w tyX8_ok nmX8 (by decide) rfl rfl rfl rfl (by decide +kernel) wd_907 dX8_choose_21 rfl) <|
  am_kc (ak_aload_n dX8_choose_24 rfl rfl) <|
  am_kc (ak_getR (C := RX8) (T := TX8) (N := 27) rfl inX8w (by decide) rfl rfl rfl wd_905 dX8_choose_25 rfl) <|
  am_kc (ak_aload_n dX8_choose_28 rfl rfl) <|
  am_kc (ak_getI (C := RX8) (T := TX8) (N := 27) rfl inX8w (by decide) rfl rfl rfl wd_907 dX8_choose_29 rfl) <|
  am_kc (ak_iconst dX8_choose_32 (by decide +kernel) rfl) <|
  am_kc (ak_isub dX8_choose_33 rfl) <|
  am_kc (ak_aload_n dX8_choose_34 rfl rfl) <|
  am_kc (ak_getR (C := RX8) (T := TX8) (N := 27) rfl inX8w (by decide) rfl rfl rfl wd_905 dX8_choose_35 rfl) <|
  am_kc (ak_aload_n dX8_choose_38 rfl rfl) <|
  am_kc (ak_getI (C := RX8) (T := TX8) (N := 27) rfl inX8w (by decide) rfl rfl rfl wd_907 dX8_choose_39 rfl) <|
  am_kc (ak_iconst dX8_choose_42 (by decide +kernel) rfl) <|
  am_kc (ak_isub dX8_choose_43 rfl) <|
  am_kc (ak_lald (t := 1) (fun _ => rfl) rfl dX8_choose_44 rfl) <|
  am_kc (ak_lconst dX8_choose_45 (by decide +kernel) rfl) <|
  am_kc (ak_lcmp dX8_choose_46 rfl) <|
  am_kc (ak_if_eq dX8_choose_47 (by decide +kernel) rfl) <|
  am_kc (ak_aload_n dX8_choose_50 rfl rfl) <|
  am_kc (ak_getR (C := RX8) (T := TX8) (N := 27) rfl inX8w (by decide) rfl rfl rfl wd_905 dX8_choose_51 rfl) <|
  am_kc (ak_aload_n dX8_choose_54 rfl rfl) <|
  am_kc (ak_getI (C := RX8) (T := TX8) (N := 27) rfl inX8w (by decide) rfl rfl rfl wd_907 dX8_choose_55 rfl) <|
  am_kc (ak_lald (t := 1) (fun _ => rfl) rfl dX8_choose_58 rfl) <|
  am_kc (ak_goto dX8_choose_59 (by decide +kernel)) <|
  am_kc (ak_aload_n dX8_choose_62 rfl rfl) <|
  am_kc (ak_getR (C := RX8) (T := TX8) (N := 27) rfl inX8w (by decide) rfl rfl rfl wd_905 dX8_choose_63 rfl) <|
  am_kc (ak_aload_n dX8_choose_66 rfl rfl) <|
  am_kc (ak_getI (C := RX8) (T := TX8) (N := 27) rfl inX8w (by decide) rfl rfl rfl wd_907 dX8_choose_67 rfl) <|
  am_kc (ak_iconst dX8_choose_70 (by decide +kernel) rfl) <|
  am_kc (ak_iadd dX8_choose_71 rfl) <|
  am_kc (ak_lald (t := 1) (fun _ => rfl) rfl dX8_choose_72 rfl) <|
  am_kc (ak_last (t := 1) (fun _ => rfl) rfl dX8_choose_73 rfl) <|
  am_kc (ak_aload_n dX8_choose_74 rfl rfl) <|
  am_kc (ak_dup dX8_choose_75 rfl) <|
  am_kc (ak_getI (C := RX8) (T := TX8) (N := 27) rfl inX8w (by decide) rfl rfl rfl wd_906 dX8_choose_76 rfl) <|
  am_kc (ak_iconst dX8_choose_79 (by decide +kernel) rfl) <|
  am_kc (ak_isub dX8_choose_80 rfl) <|
  am_kc (ak_putI (C := RX8) (T := TX8) (N := 27) rfl inX8w tyX8_ok nmX8 (by decide) rfl rfl rfl rfl (by decide +kernel) wd_906 dX8_choose_81 rfl) <|
  am_kc (ak_goto dX8_choose_84 (by decide +kernel)) <|
  am_kc (ak_retV dX8_choose_87) <| am_kn
def TX8_choose : am_T := fun live as M R => match as with
  | [.ref n] => am_mn live ∧ n = 200 ∧ r_cw M 1 (fun w0 => ∀ M', r_wk M M' → r_wI M' 1 w0 → R none M')
  | _ => False
def JX8_choose : am_E → List Value → am_M → am_R → am_inv := fun live as M0 R pc => match as with
  | [.ref n] => (match pc with
    | 5 => some ([0], fun k L st M => ∃ w0, L = [(0, .ref 200)] ∧ st = [] ∧ k = ((M.1 200 11).toInt.toNat, 0) ∧ r_wI M 1 w0 ∧ r_wk M0 M ∧ ∀ M', r_wk M0 M' → r_wI M' 1 w0 → R none M')
    | _ => none)
  | _ => none
set_option maxRecDepth 100000 in
set_option maxHeartbeats 4000000 in
theorem metX8_choose : am_Met yX8_choose cX8_choose 1 none (3) (65) TX8_choose := by
  refine am_met (own := RX8) (by decide +kernel) rfl kX8_choose koX8_choose 100 JX8_choose ?_ ?_
  · intro live as M Ret h
    unfold TX8_choose at h
    split at h
    · next n =>
      refine ⟨Nat.le_of_ble_eq_true rfl, ?_⟩
      change am_wp _ _ _ _ [(0, Value.ref n)] _ _
      obtain ⟨hmn, rfl, w0, hw, h⟩ := h
      have hmn2 := hmn
      obtain ⟨i1, i2, rfl⟩ := hmn2
      repeat' (first | (with_reducible exact hmn) | apply And.intro | exact rfl | intro hx | (refine Exists.intro _ (And.intro rfl ?_)) | (refine r_cw_in hw (fun M1 c1 d1 => ?_)))
      all_goals try first | (with_reducible change am_tI _ _) | (change Ret _ _) | (change Ret _ _ _) | (change Exists _)
      all_goals try dsimp only at *
      all_goals try exact absurd ‹(1000 : Int64) = 0› (by decide)
      all_goals first
        | decide
        | exact ⟨_, w0, rfl, rfl, rfl, d1, c1, h⟩
    · exact h.elim
  · intro live as M0 Ret h k pc I hI L st M hi
    unfold TX8_choose at h
    split at h
    · next n =>
      obtain ⟨hmn, rfl, w9, hw9, h9⟩ := h
      have hmn2 := hmn
      obtain ⟨i1, i2, rfl⟩ := hmn2
      have l205 : am_len 205 = 120 := rfl
      change (match pc with | 5 => _ | _ => none) = _ at hI
      split at hI
      · cases hI
        obtain ⟨w0, rfl, rfl, rfl, hw, hk, h⟩ := hi
        obtain ⟨⟨u1, u2, u5⟩, u3, u4⟩ := hw.u
        have u120 : 0 ≤ (M.1 200 11).toInt ∧ (M.1 200 11).toInt ≤ 120 := ⟨u1, by omega⟩
        by_cases hz : r_top M = 58
        · have hp := r_top_pos (fun q => by rw [hz] at q; exact absurd q (by decide)) u1
          have hwt : r_wt (r_top M) = 2 := by rw [hz]; decide
          have tt := r_ws_top hp
          have e11 := i_sub (x := M.1 200 11) (y := 1) (by simp only [Int32.reduceToInt]; omega) (by simp only [Int32.reduceToInt]; omega)
          have e12 := i_sub (x := M.1 200 12) (y := 2) (by simp only [Int32.reduceToInt]; omega) (by simp only [Int32.reduceToInt]; omega)
          simp only [Int32.reduceToInt] at e11 e12
          have e13 := i_sub (x := M.1 200 12 - 2) (y := 1) (by simp only [Int32.reduceToInt]; omega) (by simp only [Int32.reduceToInt]; omega)
          have e14 := i_add (x := M.1 200 12 - 2) (y := 1) (by simp only [Int32.reduceToInt]; omega) (by simp only [Int32.reduceToInt]; omega)
          simp only [Int32.reduceToInt] at e13 e14
          have f11 : ∀ v, (am_wI M 200 12 v).1 200 11 = M.1 200 11 := fun v => by rw [am_wI_1, if_neg (fun q => absurd q.2 (by decide))]
          have f12 : ∀ v, (am_wI M 200 12 v).1 200 12 = v := fun v => am_wI_self
          repeat' (first | (with_reducible exact hmn) | (with_reducible exact u120) | apply And.intro | exact rfl | (intro hx; with_reducible exact absurd hz hx) | intro hx | (refine Exists.intro _ (And.intro rfl ?_)))
          all_goals try first | (with_reducible change am_tI _ _) | (change Ret _ _) | (change Ret _ _ _) | (change Exists _)
          all_goals try dsimp only at *
          all_goals try exact absurd ‹(1000 : Int64) = 0› (by decide)
          all_goals try simp only [f12, e12, e13, e14, l205]
          all_goals first
            | omega
            | skip
          all_goals
            refine ⟨_, am_lt_l (by rw [am_wI_self]; show ((am_wI M 200 12 (M.1 200 12 - 2)).1 200 11 - 1).toInt.toNat < _; rw [f11]; omega), w0, rfl, rfl, rfl, ?_, ?_, h⟩
            · refine r_pop hw hp hwt ?_ ?_ (fun k => ?_)
              · rw [am_wI_self]
                show (am_wI M 200 12 (M.1 200 12 - 2)).1 200 11 - 1 = _
                rw [f11]
              · show ((am_wI M 200 12 (M.1 200 12 - 2)).1 200 12).toInt = _
                rw [f12, e12]
                omega
              · rfl
            · refine hk.tr ⟨(), fun a b z => ?_, fun a b z => ?_, ?_, ?_⟩
              · rw [am_wI_1, if_neg (fun q => by omega)]
                show (am_wI M 200 12 (M.1 200 12 - 2)).1 a b = _
                rw [am_wI_1, if_neg (fun q => by omega)]
              · show (am_wJ _ 205 _ _).2 a b = _
                rw [am_wJ_1, if_neg (fun q => z q.1)]
                rfl
              · rw [am_wI_self]
                show ((am_wI M 200 12 (M.1 200 12 - 2)).1 200 11 - 1).toInt ≤ _
                rw [f11]
                omega
              · show ((am_wI M 200 12 (M.1 200 12 - 2)).1 200 12).toInt ≤ _
                rw [f12, e12]
                omega
        · skip
          repeat' (first | (with_reducible exact hmn) | (with_reducible exact u120) | apply And.intro | exact rfl | (intro hx; with_reducible exact absurd hx hz) | intro hx | (refine Exists.intro _ (And.intro rfl ?_)))
          all_goals try first | (with_reducible change am_tI _ _) | (change Ret _ _) | (change Ret _ _ _) | (change Exists _)
          all_goals try dsimp only at *
          all_goals try exact absurd ‹(1000 : Int64) = 0› (by decide)
          exact h _ hk hw
      · cases hI
    · exact h.elim
theorem dX8_lay_0 : decode cX8_lay 0 = .ok (.aload_n 0, 1) := by decide +kernel
theorem dX8_lay_1 : decode cX8_lay 1 = .ok (.getfield 23, 3) := by decide +kernel
theorem dX8_lay_4 : decode cX8_lay 4 = .ok (.aload_n 0, 1) := by decide +kernel
theorem dX8_lay_5 : decode cX8_lay 5 = .ok (.getfield 153, 3) := by decide +kernel
theorem dX8_lay_8 : decode cX8_lay 8 = .ok (.lload_n 1, 1) := by decide +kernel
theorem dX8_lay_9 : decode cX8_lay 9 = .ok (.lastore, 1) := by decide +kernel
theorem dX8_lay_10 : decode cX8_lay 10 = .ok (.aload_n 0, 1) := by decide +kernel
theorem dX8_lay_11 : decode cX8_lay 11 = .ok (.dup, 1) := by decide +kernel
theorem dX8_lay_12 : decode cX8_lay 12 = .ok (.getfield 153, 3) := by decide +kernel
theorem dX8_lay_15 : decode cX8_lay 15 = .ok (.iconst 1, 1) := by decide +kernel
theorem dX8_lay_16 : decode cX8_lay 16 = .ok (.iadd, 1) := by decide +kernel
theorem dX8_lay_17 : decode cX8_lay 17 = .ok (.putfield 153, 3) := by decide +kernel
theorem dX8_lay_20 : decode cX8_lay 20 = .ok (.aload_n 0, 1) := by decide +kernel
theorem dX8_lay_21 : decode cX8_lay 21 = .ok (.invokevirtual 156, 3) := by decide +kernel
theorem dX8_lay_24 : decode cX8_lay 24 = .ok (.iconst 1, 1) := by decide +kernel
theorem dX8_lay_25 : decode cX8_lay 25 = .ok (.if_icmp .eq 11, 3) := by decide +kernel
theorem dX8_lay_28 : decode cX8_lay 28 = .ok (.aload_n 0, 1) := by decide +kernel
theorem dX8_lay_29 : decode cX8_lay 29 = .ok (.invokevirtual 156, 3) := by decide +kernel
theorem dX8_lay_32 : decode cX8_lay 32 = .ok (.iconst 2, 1) := by decide +kernel
theorem dX8_lay_33 : decode cX8_lay 33 = .ok (.if_icmp .ne 66, 3) := by decide +kernel
theorem dX8_lay_36 : decode cX8_lay 36 = .ok (.aload_n 0, 1) := by decide +kernel
theorem dX8_lay_37 : decode cX8_lay 37 = .ok (.getfield 23, 3) := by decide +kernel
theorem dX8_lay_40 : decode cX8_lay 40 = .ok (.aload_n 0, 1) := by decide +kernel
theorem dX8_lay_41 : decode cX8_lay 41 = .ok (.getfield 153, 3) := by decide +kernel
theorem dX8_lay_44 : decode cX8_lay 44 = .ok (.iconst 1, 1) := by decide +kernel
theorem dX8_lay_45 : decode cX8_lay 45 = .ok (.isub, 1) := by decide +kernel
theorem dX8_lay_46 : decode cX8_lay 46 = .ok (.laload, 1) := by decide +kernel
theorem dX8_lay_47 : decode cX8_lay 47 = .ok (.lstore_n 3, 1) := by decide +kernel
theorem dX8_lay_48 : decode cX8_lay 48 = .ok (.aload_n 0, 1) := by decide +kernel
theorem dX8_lay_49 : decode cX8_lay 49 = .ok (.getfield 23, 3) := by decide +kernel
theorem dX8_lay_52 : decode cX8_lay 52 = .ok (.aload_n 0, 1) := by decide +kernel
theorem dX8_lay_53 : decode cX8_lay 53 = .ok (.getfield 153, 3) := by decide +kernel
theorem dX8_lay_56 : decode cX8_lay 56 = .ok (.iconst 1, 1) := by decide +kernel
theorem dX8_lay_57 : decode cX8_lay 57 = .ok (.isub, 1) := by decide +kernel
theorem dX8_lay_58 : decode cX8_lay 58 = .ok (.aload_n 0, 1) := by decide +kernel
theorem dX8_lay_59 : decode cX8_lay 59 = .ok (.invokevirtual 156, 3) := by decide +kernel
theorem dX8_lay_62 : decode cX8_lay 62 = .ok (.iconst 1, 1) := by decide +kernel
theorem dX8_lay_63 : decode cX8_lay 63 = .ok (.if_icmp .ne 20, 3) := by decide +kernel
theorem dX8_lay_66 : decode cX8_lay 66 = .ok (.lload_n 3, 1) := by decide +kernel
theorem dX8_lay_67 : decode cX8_lay 67 = .ok (.lconst 0, 1) := by decide +kernel
theorem dX8_lay_68 : decode cX8_lay 68 = .ok (.lcmp, 1) := by decide +kernel
theorem dX8_lay_69 : decode cX8_lay 69 = .ok (.ifCond .ne 7, 3) := by decide +kernel
theorem dX8_lay_72 : decode cX8_lay 72 = .ok (.iconst 1, 1) := by decide +kernel
theorem dX8_lay_73 : decode cX8_lay 73 = .ok (.goto 4, 3) := by decide +kernel
theorem dX8_lay_76 : decode cX8_lay 76 = .ok (.iconst 0, 1) := by decide +kernel
theorem dX8_lay_77 : decode cX8_lay 77 = .ok (.invokestatic 146, 3) := by decide +kernel
theorem dX8_lay_80 : decode cX8_lay 80 = .ok (.goto 5, 3) := by decide +kernel
theorem dX8_lay_83 : decode cX8_lay 83 = .ok (.lload_n 3, 1) := by decide +kernel
theorem dX8_lay_84 : decode cX8_lay 84 = .ok (.lneg, 1) := by decide +kernel
theorem dX8_lay_85 : decode cX8_lay 85 = .ok (.lastore, 1) := by decide +kernel
theorem dX8_lay_86 : decode cX8_lay 86 = .ok (.aload_n 0, 1) := by decide +kernel
theorem dX8_lay_87 : decode cX8_lay 87 = .ok (.dup, 1) := by decide +kernel
theorem dX8_lay_88 : decode cX8_lay 88 = .ok (.getfield 150, 3) := by decide +kernel
theorem dX8_lay_91 : decode cX8_lay 91 = .ok (.iconst 1, 1) := by decide +kernel
theorem dX8_lay_92 : decode cX8_lay 92 = .ok (.isub, 1) := by decide +kernel
theorem dX8_lay_93 : decode cX8_lay 93 = .ok (.putfield 150, 3) := by decide +kernel
theorem dX8_lay_96 : decode cX8_lay 96 = .ok (.goto (-76), 3) := by decide +kernel
theorem dX8_lay_99 : decode cX8_lay 99 = .ok (.return_, 1) := by decide +kernel
def kX8_lay (live : am_E) (Ret : am_R) : am_code := [(0, am_aload 0 1), (1, am_getR live 8 10 4), (4, am_aload 0 5), (5, am_getI live 8 12 8), (8, am_lload 1 9), (9, am_last live 1 10), (10, am_aload 0 11), (11, am_dup 12), (12, am_getI live 8 12 15), (15, am_const (.int 1) 16), (16, am_i2 (fun x y => x + y) 17), (17, am_putI live 8 12 20), (20, am_aload 0 21), (21, am_callV live 8 0 TX8_top 24), (24, am_const (.int 1) 25), (25, am_if2 (fun x y => x = y) 36 28), (28, am_aload 0 29), (29, am_callV live 8 0 TX8_top 32), (32, am_const (.int 2) 33), (33, am_if2 (fun x y => x = y) 36 99), (36, am_aload 0 37), (37, am_getR live 8 10 40), (40, am_aload 0 41), (41, am_getI live 8 12 44), (44, am_const (.int 1) 45), (45, am_i2 (fun x y => x - y) 46), (46, am_lald live 1 47), (47, am_lstore 3 5 48), (48, am_aload 0 49), (49, am_getR live 8 10 52), (52, am_aload 0 53), (53, am_getI live 8 12 56), (56, am_const (.int 1) 57), (57, am_i2 (fun x y => x - y) 58), (58, am_aload 0 59), (59, am_callV live 8 0 TX8_top 62), (62, am_const (.int 1) 63), (63, am_if2 (fun x y => x = y) 66 83), (66, am_lload 3 67), (67, am_const (.long 0) 68), (68, am_lcmp 69), (69, am_if1 (fun x => x = 0) 72 76), (72, am_const (.int 1) 73), (73, am_goto 77), (76, am_const (.int 0) 77), (77, am_callS live 1 TX8_told 80), (80, am_goto 85), (83, am_lload 3 84), (84, am_l1 (fun x => -x) 85), (85, am_last live 1 86), (86, am_aload 0 87), (87, am_dup 88), (88, am_getI live 8 11 91), (91, am_const (.int 1) 92), (92, am_i2 (fun x y => x - y) 93), (93, am_putI live 8 11 96), (96, am_goto 20), (99, am_retV Ret)]
theorem koX8_lay (live : am_E) (Ret : am_R) : ∀ q ∈ kX8_lay live Ret, am_ok RX8 cX8_lay 5 none 1 20 live Ret q.1 q.2 :=
  am_kc (ak_aload_n dX8_lay_0 rfl rfl) <|
  am_kc (ak_getR (C := RX8) (T := TX8) (N := 27) rfl inX8w (by decide) rfl rfl rfl wd_905 dX8_lay_1 rfl) <|
  am_kc (ak_aload_n dX8_lay_4 rfl rfl) <|
  am_kc (ak_getI (C := RX8) (T := TX8) (N := 27) rfl inX8w (by decide) rfl rfl rfl wd_907 dX8_lay_5 rfl) <|
  am_kc (ak_lload_n dX8_lay_8 rfl rfl) <|
  am_kc (ak_last (t := 1) (fun _ => rfl) rfl dX8_lay_9 rfl) <|
  am_kc (ak_aload_n dX8_lay_10 rfl rfl) <|
  am_kc (ak_dup dX8_lay_11 rfl) <|
  am_kc (ak_getI (C := RX8) (T := TX8) (N := 27) rfl inX8w (by decide) rfl rfl rfl wd_907 dX8_lay_12 rfl) <|
  am_kc (ak_iconst dX8_lay_15 (by decide +kernel) rfl) <|
  am_kc (ak_iadd dX8_lay_16 rfl) <|
  am_kc (ak_putI (C := RX8) (T := TX8) (N := 27) rfl inX8w tyX8_ok nmX8 (by decide) rfl rfl rfl rfl (by decide +kernel) wd_907 dX8_lay_17 rfl) <|
  am_kc (ak_aload_n dX8_lay_20 rfl rfl) <|
  am_kc (ak_callV (C := RX8) (F := TX8) (N := 27) metX8_top rfl ⟨rfl, by decide +kernel, by decide +kernel, by decide +kernel⟩ (am_w5 wd_1113 wd_1115 wd_35 wd_67 wd_1116) (by decide) dX8_lay_21 rfl) <|
  am_kc (ak_iconst dX8_lay_24 (by decide +kernel) rfl) <|
  am_kc (ak_icmp_eq dX8_lay_25 (by decide +kernel) rfl) <|
  am_kc (ak_aload_n dX8_lay_28 rfl rfl) <|
  am_kc (ak_callV (C := RX8) (F := TX8) (N := 27) metX8_top rfl ⟨rfl, by decide +kernel, by decide +kernel, by decide +kernel⟩ (am_w5 wd_1113 wd_1115 wd_35 wd_67 wd_1116) (by decide) dX8_lay_29 rfl) <|
  am_kc (ak_iconst dX8_lay_32 (by decide +kernel) rfl) <|
  am_kc (ak_icmp_ne dX8_lay_33 (by decide +kernel) rfl) <|
  am_kc (ak_aload_n dX8_lay_36 rfl rfl) <|
  am_kc (ak_getR (C := RX8) (T := TX8) (N := 27) rfl inX8w (by decide) rfl rfl rfl wd_905 dX8_lay_37 rfl) <|
  am_kc (ak_aload_n dX8_lay_40 rfl rfl) <|
  am_kc (ak_getI (C := RX8) (T := TX8) (N := 27) rfl inX8w (by decide) rfl rfl rfl wd_907 dX8_lay_41 rfl) <|
  am_kc (ak_iconst dX8_lay_44 (by decide +kernel) rfl) <|
  am_kc (ak_isub dX8_lay_45 rfl) <|
  am_kc (ak_lald (t := 1) (fun _ => rfl) rfl dX8_lay_46 rfl) <|
  am_kc (ak_lstore_n dX8_lay_47 rfl rfl) <|
  am_kc (ak_aload_n dX8_lay_48 rfl rfl) <|
  am_kc (ak_getR (C := RX8) (T := TX8) (N := 27) rfl inX8w (by decide) rfl rfl rfl wd_905 dX8_lay_49 rfl) <|
  am_kc (ak_aload_n dX8_lay_52 rfl rfl) <|
  am_kc (ak_getI (C := RX8) (T := TX8) (N := 27) rfl inX8w (by decide) rfl rfl rfl wd_907 dX8_lay_53 rfl) <|
  am_kc (ak_iconst dX8_lay_56 (by decide +kernel) rfl) <|
  am_kc (ak_isub dX8_lay_57 rfl) <|
  am_kc (ak_aload_n dX8_lay_58 rfl rfl) <|
  am_kc (ak_callV (C := RX8) (F := TX8) (N := 27) metX8_top rfl ⟨rfl, by decide +kernel, by decide +kernel, by decide +kernel⟩ (am_w5 wd_1113 wd_1115 wd_35 wd_67 wd_1116) (by decide) dX8_lay_59 rfl) <|
  am_kc (ak_iconst dX8_lay_62 (by decide +kernel) rfl) <|
  am_kc (ak_icmp_ne dX8_lay_63 (by decide +kernel) rfl) <|
  am_kc (ak_lload_n dX8_lay_66 rfl rfl) <|
  am_kc (ak_lconst dX8_lay_67 (by decide +kernel) rfl) <|
  am_kc (ak_lcmp dX8_lay_68 rfl) <|
  am_kc (ak_if_ne dX8_lay_69 (by decide +kernel) rfl) <|
  am_kc (ak_iconst dX8_lay_72 (by decide +kernel) rfl) <|
  am_kc (ak_goto dX8_lay_73 (by decide +kernel)) <|
  am_kc (ak_iconst dX8_lay_76 (by decide +kernel) rfl) <|
  am_kc (ak_callS metX8_told ⟨rfl, by decide +kernel, by decide +kernel, by decide +kernel⟩ (am_w4 wd_1117 wd_1118 wd_67 wd_1119) (by decide) dX8_lay_77 rfl) <|
  am_kc (ak_goto dX8_lay_80 (by decide +kernel)) <|
  am_kc (ak_lload_n dX8_lay_83 rfl rfl) <|
  am_kc (ak_lneg dX8_lay_84 rfl) <|
  am_kc (ak_last (t := 1) (fun _ => rfl) rfl dX8_lay_85 rfl) <|
  am_kc (ak_aload_n dX8_lay_86 rfl rfl) <|
  am_kc (ak_dup dX8_lay_87 rfl) <|
  am_kc (ak_getI (C := RX8) (T := TX8) (N := 27) rfl inX8w (by decide) rfl rfl rfl wd_906 dX8_lay_88 rfl) <|
  am_kc (ak_iconst dX8_lay_91 (by decide +kernel) rfl) <|
  am_kc (ak_isub dX8_lay_92 rfl) <|
  am_kc (ak_putI (C := RX8) (T := TX8) (N := 27) rfl inX8w tyX8_ok nmX8 (by decide) rfl rfl rfl rfl (by decide +kernel) wd_906 dX8_lay_93 rfl) <|
  am_kc (ak_goto dX8_lay_96 (by decide +kernel)) <|
  am_kc (ak_retV dX8_lay_99) <| am_kn
def TX8_lay : am_T := fun live as M R => match as with
  | [.ref n, .long v] => am_mn live ∧ n = 200 ∧ r_cw M 0 (fun w0 => w0 ≤ 59 ∧ ∀ M', r_wg M M' → r_wI M' 1 (w0 + 1) → R none M')
  | _ => False
def JX8_lay : am_E → List Value → am_M → am_R → am_inv := fun live as M0 R pc => match as with
  | [.ref n, .long v] => (match pc with
    | 20 => some ([0], fun k L st M => ∃ w0, L = [(0, .ref 200)] ∧ st = [] ∧ k = ((M.1 200 11).toInt.toNat, 0) ∧ r_wI M 1 w0 ∧ r_wg M0 M ∧ ∀ M', r_wg M0 M' → r_wI M' 1 w0 → R none M')
    | _ => none)
  | _ => none
set_option maxRecDepth 100000 in
set_option maxHeartbeats 4000000 in
theorem metX8_lay : am_Met yX8_lay cX8_lay 5 none (1) (20) TX8_lay := by
  refine am_met (own := RX8) (by decide +kernel) rfl kX8_lay koX8_lay 100 JX8_lay ?_ ?_
  · intro live as M Ret h
    unfold TX8_lay at h
    split at h
    · next n v =>
      refine ⟨Nat.le_of_ble_eq_true rfl, ?_⟩
      change am_wp _ _ _ _ [(0, Value.ref n), (1, Value.long v)] _ _
      obtain ⟨hmn, rfl, w0, hw, h9, h⟩ := h
      have hmn2 := hmn
      obtain ⟨i1, i2, rfl⟩ := hmn2
      obtain ⟨⟨u1, u2, u5⟩, u3, u4⟩ := hw.u
      have l205 : am_len 205 = 120 := rfl
      have e12 := i_inc (x := M.1 200 12) (by omega) (by omega)
      repeat' (first | (with_reducible exact hmn) | apply And.intro | exact rfl | intro hx | (refine Exists.intro _ (And.intro rfl ?_)))
      all_goals try first | (with_reducible change am_tI _ _) | (change Ret _ _) | (change Ret _ _ _) | (change Exists _)
      all_goals try dsimp only at *
      all_goals try exact absurd ‹(1000 : Int64) = 0› (by decide)
      all_goals first
        | omega
        | (rw [l205]; omega)
        | skip
      refine ⟨_, w0 + 1, rfl, rfl, rfl, ?_, r_wg.rf.w205.w12, h⟩
      refine ⟨(), ⟨?_, ?_, by omega⟩, ?_, ?_⟩
      · rw [am_wI_1, if_neg (fun q => absurd q.2 (by decide))]; exact u1
      · rw [am_wI_1, if_neg (fun q => absurd q.2 (by decide))]; show (M.1 200 11).toInt ≤ _; omega
      · rw [am_wI_self, show (am_wI (am_wJ M 205 (M.1 200 12).toNatClampNeg v) 200 12 ((am_wJ M 205 (M.1 200 12).toNatClampNeg v).1 200 12 + 1)).1 200 11 = M.1 200 11 by rw [am_wI_1, if_neg (fun q => absurd q.2 (by decide))]; rfl, show (am_wI (am_wJ M 205 (M.1 200 12).toNatClampNeg v) 200 12 ((am_wJ M 205 (M.1 200 12).toNatClampNeg v).1 200 12 + 1)).1 204 = M.1 204 from funext fun k => by rw [am_wI_1, if_neg (fun q => absurd q.1 (by decide))]; rfl]
        show (M.1 200 12 + 1).toInt = _
        omega
      · rw [am_wI_self]
        show (M.1 200 12 + 1).toInt ≤ _
        omega
    · exact h.elim
  · intro live as M0 Ret h k pc I hI L st M hi
    unfold TX8_lay at h
    split at h
    · next n v =>
      obtain ⟨hmn, rfl, w9, hw9, h99, h9⟩ := h
      have hmn2 := hmn
      obtain ⟨i1, i2, rfl⟩ := hmn2
      have l205 : am_len 205 = 120 := rfl
      change (match pc with | 20 => _ | _ => none) = _ at hI
      split at hI
      · cases hI
        obtain ⟨w0, rfl, rfl, rfl, hw, hk, h⟩ := hi
        obtain ⟨⟨u1, u2, u5⟩, u3, u4⟩ := hw.u
        have u120 : 0 ≤ (M.1 200 11).toInt ∧ (M.1 200 11).toInt ≤ 120 := ⟨u1, by omega⟩
        have e13 := i_sub (x := M.1 200 12) (y := 1) (by simp only [Int32.reduceToInt]; omega) (by simp only [Int32.reduceToInt]; omega)
        simp only [Int32.reduceToInt] at e13
        by_cases hz : r_top M = 1 ∨ r_top M = 2
        · have hp := r_top_pos (fun q => by rcases hz with z | z <;> rw [z] at q <;> exact absurd q (by decide)) u1
          have hwt : r_wt (r_top M) = 0 := by rcases hz with z | z <;> rw [z] <;> decide
          have e11 := i_sub (x := M.1 200 11) (y := 1) (by simp only [Int32.reduceToInt]; omega) (by simp only [Int32.reduceToInt]; omega)
          simp only [Int32.reduceToInt] at e11
          have ho := r_off1 hw hp
          rw [hwt] at ho
          rcases hz with hz | hz
          · skip
            repeat' (first | (with_reducible exact hz) | (with_reducible exact hmn) | (with_reducible exact u120) | apply And.intro | exact rfl | (intro hx; with_reducible exact absurd hz hx) | intro hx | (refine Exists.intro _ (And.intro rfl ?_)))
            all_goals try first | (with_reducible change am_tI _ _) | (change Ret _ _) | (change Ret _ _ _) | (change Exists _)
            all_goals try dsimp only at *
            all_goals try exact absurd ‹(1000 : Int64) = 0› (by decide)
            all_goals first
              | omega
              | (rw [l205]; omega)
              | exact absurd hz (by with_reducible assumption)
              | exact ⟨_, am_lt_l (by rw [am_wI_self]; show (M.1 200 11 - 1).toInt.toNat < _; omega), w0, rfl, rfl, rfl, ho, hk.w205.w11, h⟩
          · have hz1 : ¬ r_top M = 1 := fun q => by rw [hz] at q; exact absurd q (by decide)
            repeat' (first | (with_reducible exact hz) | (with_reducible exact hmn) | (with_reducible exact u120) | apply And.intro | exact rfl | (intro hx; with_reducible exact absurd hx hz1) | (intro hx; with_reducible exact absurd hz hx) | intro hx | (refine Exists.intro _ (And.intro rfl ?_)))
            all_goals try first | (with_reducible change am_tI _ _) | (change Ret _ _) | (change Ret _ _ _) | (change Exists _)
            all_goals try dsimp only at *
            all_goals try exact absurd ‹(1000 : Int64) = 0› (by decide)
            all_goals first
              | omega
              | (rw [l205]; omega)
              | exact ⟨_, am_lt_l (by rw [am_wI_self]; show (M.1 200 11 - 1).toInt.toNat < _; omega), w0, rfl, rfl, rfl, ho, hk.w205.w11, h⟩
        · have hz1 : ¬ r_top M = 1 := fun q => hz (Or.inl q)
          have hz2 : ¬ r_top M = 2 := fun q => hz (Or.inr q)
          repeat' (first | (with_reducible exact hmn) | (with_reducible exact u120) | apply And.intro | exact rfl | (intro hx; with_reducible exact absurd hx hz1) | (intro hx; with_reducible exact absurd hx hz2) | intro hx | (refine Exists.intro _ (And.intro rfl ?_)))
          all_goals try first | (with_reducible change am_tI _ _) | (change Ret _ _) | (change Ret _ _ _) | (change Exists _)
          all_goals try dsimp only at *
          all_goals try exact absurd ‹(1000 : Int64) = 0› (by decide)
          exact h _ hk hw
      · cases hI
    · exact h.elim
