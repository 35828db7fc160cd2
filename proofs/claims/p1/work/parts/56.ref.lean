/-! p1: the reference, sums of nobody -/
theorem wd_899 : Cond.fieldLink "LearnLoansModel" 114 "LearnLoansModel" "tryWhat" "I" ∈ am_ws := am_wsi (List.mem_of_getElem? (i := 899) (by decide +kernel)) (by decide +kernel)
theorem wd_900 : Cond.fieldLink "LearnLoansModel" 120 "LearnLoansModel" "tryIs" "I" ∈ am_ws := am_wsi (List.mem_of_getElem? (i := 900) (by decide +kernel)) (by decide +kernel)
theorem wd_901 : Cond.fieldLink "LearnLoansModel" 117 "LearnLoansModel" "tryFrom" "I" ∈ am_ws := am_wsi (List.mem_of_getElem? (i := 901) (by decide +kernel)) (by decide +kernel)
theorem dX8_triedOf_0 : decode cX8_triedOf 0 = .ok (.aload_n 0, 1) := by decide +kernel
theorem dX8_triedOf_1 : decode cX8_triedOf 1 = .ok (.iload_n 1, 1) := by decide +kernel
theorem dX8_triedOf_2 : decode cX8_triedOf 2 = .ok (.putfield 57, 3) := by decide +kernel
theorem dX8_triedOf_5 : decode cX8_triedOf 5 = .ok (.aload_n 0, 1) := by decide +kernel
theorem dX8_triedOf_6 : decode cX8_triedOf 6 = .ok (.iload_n 2, 1) := by decide +kernel
theorem dX8_triedOf_7 : decode cX8_triedOf 7 = .ok (.putfield 114, 3) := by decide +kernel
theorem dX8_triedOf_10 : decode cX8_triedOf 10 = .ok (.aload_n 0, 1) := by decide +kernel
theorem dX8_triedOf_11 : decode cX8_triedOf 11 = .ok (.iload_n 3, 1) := by decide +kernel
theorem dX8_triedOf_12 : decode cX8_triedOf 12 = .ok (.putfield 120, 3) := by decide +kernel
theorem dX8_triedOf_15 : decode cX8_triedOf 15 = .ok (.aload_n 0, 1) := by decide +kernel
theorem dX8_triedOf_16 : decode cX8_triedOf 16 = .ok (.iload 4, 2) := by decide +kernel
theorem dX8_triedOf_18 : decode cX8_triedOf 18 = .ok (.putfield 117, 3) := by decide +kernel
theorem dX8_triedOf_21 : decode cX8_triedOf 21 = .ok (.lconst 0, 1) := by decide +kernel
theorem dX8_triedOf_22 : decode cX8_triedOf 22 = .ok (.lstore 6, 2) := by decide +kernel
theorem dX8_triedOf_24 : decode cX8_triedOf 24 = .ok (.iconst 0, 1) := by decide +kernel
theorem dX8_triedOf_25 : decode cX8_triedOf 25 = .ok (.istore 8, 2) := by decide +kernel
theorem dX8_triedOf_27 : decode cX8_triedOf 27 = .ok (.iload 8, 2) := by decide +kernel
theorem dX8_triedOf_29 : decode cX8_triedOf 29 = .ok (.aload_n 0, 1) := by decide +kernel
theorem dX8_triedOf_30 : decode cX8_triedOf 30 = .ok (.getfield 7, 3) := by decide +kernel
theorem dX8_triedOf_33 : decode cX8_triedOf 33 = .ok (.iconst 0, 1) := by decide +kernel
theorem dX8_triedOf_34 : decode cX8_triedOf 34 = .ok (.iaload, 1) := by decide +kernel
theorem dX8_triedOf_35 : decode cX8_triedOf 35 = .ok (.if_icmp .ge 31, 3) := by decide +kernel
theorem dX8_triedOf_38 : decode cX8_triedOf 38 = .ok (.aload_n 0, 1) := by decide +kernel
theorem dX8_triedOf_39 : decode cX8_triedOf 39 = .ok (.iload 8, 2) := by decide +kernel
theorem dX8_triedOf_41 : decode cX8_triedOf 41 = .ok (.iload 5, 2) := by decide +kernel
theorem dX8_triedOf_43 : decode cX8_triedOf 43 = .ok (.bipush 39, 2) := by decide +kernel
theorem dX8_triedOf_45 : decode cX8_triedOf 45 = .ok (.invokevirtual 239, 3) := by decide +kernel
theorem dX8_triedOf_48 : decode cX8_triedOf 48 = .ok (.lload 6, 2) := by decide +kernel
theorem dX8_triedOf_50 : decode cX8_triedOf 50 = .ok (.aload_n 0, 1) := by decide +kernel
theorem dX8_triedOf_51 : decode cX8_triedOf 51 = .ok (.iload 8, 2) := by decide +kernel
theorem dX8_triedOf_53 : decode cX8_triedOf 53 = .ok (.iconst 1, 1) := by decide +kernel
theorem dX8_triedOf_54 : decode cX8_triedOf 54 = .ok (.invokevirtual 243, 3) := by decide +kernel
theorem dX8_triedOf_57 : decode cX8_triedOf 57 = .ok (.ladd, 1) := by decide +kernel
theorem dX8_triedOf_58 : decode cX8_triedOf 58 = .ok (.lstore 6, 2) := by decide +kernel
theorem dX8_triedOf_60 : decode cX8_triedOf 60 = .ok (.iinc 8 1, 3) := by decide +kernel
theorem dX8_triedOf_63 : decode cX8_triedOf 63 = .ok (.goto (-36), 3) := by decide +kernel
theorem dX8_triedOf_66 : decode cX8_triedOf 66 = .ok (.aload_n 0, 1) := by decide +kernel
theorem dX8_triedOf_67 : decode cX8_triedOf 67 = .ok (.iconst (-1), 1) := by decide +kernel
theorem dX8_triedOf_68 : decode cX8_triedOf 68 = .ok (.putfield 57, 3) := by decide +kernel
theorem dX8_triedOf_71 : decode cX8_triedOf 71 = .ok (.lload 6, 2) := by decide +kernel
theorem dX8_triedOf_73 : decode cX8_triedOf 73 = .ok (.lreturn, 1) := by decide +kernel
def kX8_triedOf (live : am_E) (Ret : am_R) : am_code := [(0, am_aload 0 1), (1, am_iload 1 2), (2, am_putI live 8 3 5), (5, am_aload 0 6), (6, am_iload 2 7), (7, am_putI live 8 4 10), (10, am_aload 0 11), (11, am_iload 3 12), (12, am_putI live 8 5 15), (15, am_aload 0 16), (16, am_iload 4 18), (18, am_putI live 8 6 21), (21, am_const (.long 0) 22), (22, am_lstore 6 9 24), (24, am_const (.int 0) 25), (25, am_istore 8 9 27), (27, am_iload 8 29), (29, am_aload 0 30), (30, am_getR live 8 0 33), (33, am_const (.int 0) 34), (34, am_ald live 0 35), (35, am_if2 (fun x y => y ≤ x) 66 38), (38, am_aload 0 39), (39, am_iload 8 41), (41, am_iload 5 43), (43, am_const (.int 39) 45), (45, am_callV live 8 3 am_TF 48), (48, am_lload 6 50), (50, am_aload 0 51), (51, am_iload 8 53), (53, am_const (.int 1) 54), (54, am_callV live 8 2 am_TF 57), (57, am_l2 (fun x y => x + y) 58), (58, am_lstore 6 9 60), (60, am_iinc 8 9 1 63), (63, am_goto 27), (66, am_aload 0 67), (67, am_const (.int (-1)) 68), (68, am_putI live 8 3 71), (71, am_lload 6 73), (73, am_retL Ret)]
theorem koX8_triedOf (live : am_E) (Ret : am_R) : ∀ q ∈ kX8_triedOf live Ret, am_ok RX8 cX8_triedOf 9 (some .long) 1 25 live Ret q.1 q.2 :=
  am_kc (ak_aload_n dX8_triedOf_0 rfl rfl) <|
  am_kc (ak_iload_n dX8_triedOf_1 rfl rfl) <|
  am_kc (ak_putI (C := RX8) (T := TX8) (N := 27) rfl inX8w tyX8_ok nmX8 (by decide) rfl rfl rfl rfl (by decide +kernel) wd_898 dX8_triedOf_2 rfl) <|
  am_kc (ak_aload_n dX8_triedOf_5 rfl rfl) <|
  am_kc (ak_iload_n dX8_triedOf_6 rfl rfl) <|
  am_kc (ak_putI (C := RX8) (T := TX8) (N := 27) rfl inX8w tyX8_ok nmX8 (by decide) rfl rfl rfl rfl (by decide +kernel) wd_899 dX8_triedOf_7 rfl) <|
  am_kc (ak_aload_n dX8_triedOf_10 rfl rfl) <|
  am_kc (ak_iload_n dX8_triedOf_11 rfl rfl) <|
  am_kc (ak_putI (C := RX8) (T := TX8) (N := 27) rfl inX8w tyX8_ok nmX8 (by decide) rfl rfl rfl rfl (by decide +kernel) wd_900 dX8_triedOf_12 rfl) <|
  am_kc (ak_aload_n dX8_triedOf_15 rfl rfl) <|
  am_kc (ak_iload dX8_triedOf_16 rfl) <|
  am_kc (ak_putI (C := RX8) (T := TX8) (N := 27) rfl inX8w tyX8_ok nmX8 (by decide) rfl rfl rfl rfl (by decide +kernel) wd_901 dX8_triedOf_18 rfl) <|
  am_kc (ak_lconst dX8_triedOf_21 (by decide +kernel) rfl) <|
  am_kc (ak_lstore dX8_triedOf_22 rfl) <|
  am_kc (ak_iconst dX8_triedOf_24 (by decide +kernel) rfl) <|
  am_kc (ak_istore dX8_triedOf_25 rfl) <|
  am_kc (ak_iload dX8_triedOf_27 rfl) <|
  am_kc (ak_aload_n dX8_triedOf_29 rfl rfl) <|
  am_kc (ak_getR (C := RX8) (T := TX8) (N := 27) rfl inX8w (by decide) rfl rfl rfl wd_895 dX8_triedOf_30 rfl) <|
  am_kc (ak_iconst dX8_triedOf_33 (by decide +kernel) rfl) <|
  am_kc (ak_iald (t := 0) (fun _ => rfl) rfl dX8_triedOf_34 rfl) <|
  am_kc (ak_icmp_ge dX8_triedOf_35 (by decide +kernel) rfl) <|
  am_kc (ak_aload_n dX8_triedOf_38 rfl rfl) <|
  am_kc (ak_iload dX8_triedOf_39 rfl) <|
  am_kc (ak_iload dX8_triedOf_41 rfl) <|
  am_kc (ak_bipush dX8_triedOf_43 (by decide +kernel) rfl) <|
  am_kc (ak_callV (C := RX8) (F := TX8) (N := 27) (am_metF _ _ _ _) rfl ⟨rfl, by decide +kernel, by decide +kernel, by decide +kernel⟩ (am_w5 wd_1158 wd_1160 wd_42 wd_67 wd_1161) (by decide) dX8_triedOf_45 rfl) <|
  am_kc (ak_lload dX8_triedOf_48 rfl) <|
  am_kc (ak_aload_n dX8_triedOf_50 rfl rfl) <|
  am_kc (ak_iload dX8_triedOf_51 rfl) <|
  am_kc (ak_iconst dX8_triedOf_53 (by decide +kernel) rfl) <|
  am_kc (ak_callV (C := RX8) (F := TX8) (N := 27) (am_metF _ _ _ _) rfl ⟨rfl, by decide +kernel, by decide +kernel, by decide +kernel⟩ (am_w5 wd_1195 wd_1197 wd_50 wd_67 wd_1198) (by decide) dX8_triedOf_54 rfl) <|
  am_kc (ak_ladd dX8_triedOf_57 rfl) <|
  am_kc (ak_lstore dX8_triedOf_58 rfl) <|
  am_kc (ak_iinc dX8_triedOf_60 (by decide +kernel) rfl) <|
  am_kc (ak_goto dX8_triedOf_63 (by decide +kernel)) <|
  am_kc (ak_aload_n dX8_triedOf_66 rfl rfl) <|
  am_kc (ak_iconst dX8_triedOf_67 (by decide +kernel) rfl) <|
  am_kc (ak_putI (C := RX8) (T := TX8) (N := 27) rfl inX8w tyX8_ok nmX8 (by decide) rfl rfl rfl rfl (by decide +kernel) wd_898 dX8_triedOf_68 rfl) <|
  am_kc (ak_lload dX8_triedOf_71 rfl) <|
  am_kc (ak_retL dX8_triedOf_73) <| am_kn
def TX8_triedOf : am_T := fun live as M R => match as with
  | [.ref n, .int p, .int w, .int v, .int f, .int y] => am_mn live ∧ n = 200 ∧ M.1 201 (Int32.toNatClampNeg 0) = 0 ∧ ∀ M', am_ch am_hi M M' → R (some (.long 0)) M'
  | _ => False
set_option maxRecDepth 100000 in
set_option maxHeartbeats 4000000 in
theorem metX8_triedOf : am_Met yX8_triedOf cX8_triedOf 9 (some .long) (1) (25) TX8_triedOf := by
  refine am_met (own := RX8) (by decide +kernel) rfl kX8_triedOf koX8_triedOf 100 (fun _ _ _ _ _ => none) (fun live as M Ret h => ?_) (fun _ _ _ _ _ _ _ _ hI => by cases hI)
  unfold TX8_triedOf at h
  split at h
  · next n p w v f y =>
    refine ⟨Nat.le_of_ble_eq_true rfl, ?_⟩
    change am_wp _ _ _ _ [(0, Value.ref n), (1, Value.int p), (2, Value.int w), (3, Value.int v), (4, Value.int f), (5, Value.int y)] _ _
    obtain ⟨⟨i1, i2, rfl⟩, rfl, q0, h⟩ := h
    have hp : (am_wI (am_wI (am_wI (am_wI M 200 3 p) 200 4 w) 200 5 v) 200 6 f).1 201 (Int32.toNatClampNeg 0) ≤ 0 := by
      show M.1 201 (Int32.toNatClampNeg 0) ≤ 0
      rw [q0]
      decide
    repeat' (first | apply And.intro | exact rfl | (intro hx; with_reducible exact absurd hp hx) | (intro hx; exact absurd hx (by decide)) | (intro hx; exact absurd (by decide) hx) | decide | intro hx | (refine Exists.intro _ (And.intro rfl ?_)))
    all_goals try first | (with_reducible change am_tI _ _) | (change Ret _ _) | (change Ret _ _ _) | (change Exists _)
    all_goals try dsimp only at *
    all_goals try exact absurd ‹(1000 : Int64) = 0› (by decide)
    all_goals exact h _ (by repeat (first | exact am_ch.rf | refine am_ch.wI ?_ (by show 200 ≤ (_ : Nat); decide) | refine am_ch.wJ ?_ (by show 200 ≤ (_ : Nat); decide)))
  · exact h.elim
theorem dX8_tried_0 : decode cX8_tried 0 = .ok (.iload_n 1, 1) := by decide +kernel
theorem dX8_tried_1 : decode cX8_tried 1 = .ok (.invokestatic 104, 3) := by decide +kernel
theorem dX8_tried_4 : decode cX8_tried 4 = .ok (.ifCond .eq 34, 3) := by decide +kernel
theorem dX8_tried_7 : decode cX8_tried 7 = .ok (.iload_n 2, 1) := by decide +kernel
theorem dX8_tried_8 : decode cX8_tried 8 = .ok (.invokestatic 107, 3) := by decide +kernel
theorem dX8_tried_11 : decode cX8_tried 11 = .ok (.ifCond .eq 27, 3) := by decide +kernel
theorem dX8_tried_14 : decode cX8_tried 14 = .ok (.iload_n 2, 1) := by decide +kernel
theorem dX8_tried_15 : decode cX8_tried 15 = .ok (.iload_n 3, 1) := by decide +kernel
theorem dX8_tried_16 : decode cX8_tried 16 = .ok (.invokestatic 110, 3) := by decide +kernel
theorem dX8_tried_19 : decode cX8_tried 19 = .ok (.ifCond .eq 19, 3) := by decide +kernel
theorem dX8_tried_22 : decode cX8_tried 22 = .ok (.iload 4, 2) := by decide +kernel
theorem dX8_tried_24 : decode cX8_tried 24 = .ok (.invokestatic 72, 3) := by decide +kernel
theorem dX8_tried_27 : decode cX8_tried 27 = .ok (.ifCond .eq 11, 3) := by decide +kernel
theorem dX8_tried_30 : decode cX8_tried 30 = .ok (.iload 5, 2) := by decide +kernel
theorem dX8_tried_32 : decode cX8_tried 32 = .ok (.invokestatic 72, 3) := by decide +kernel
theorem dX8_tried_35 : decode cX8_tried 35 = .ok (.ifCond .ne 7, 3) := by decide +kernel
theorem dX8_tried_38 : decode cX8_tried 38 = .ok (.ldc2_w 237, 3) := by decide +kernel
theorem dX8_tried_41 : decode cX8_tried 41 = .ok (.lreturn, 1) := by decide +kernel
theorem dX8_tried_42 : decode cX8_tried 42 = .ok (.aload_n 0, 1) := by decide +kernel
theorem dX8_tried_43 : decode cX8_tried 43 = .ok (.iload_n 1, 1) := by decide +kernel
theorem dX8_tried_44 : decode cX8_tried 44 = .ok (.iload_n 2, 1) := by decide +kernel
theorem dX8_tried_45 : decode cX8_tried 45 = .ok (.iload_n 3, 1) := by decide +kernel
theorem dX8_tried_46 : decode cX8_tried 46 = .ok (.iload 4, 2) := by decide +kernel
theorem dX8_tried_48 : decode cX8_tried 48 = .ok (.iload 5, 2) := by decide +kernel
theorem dX8_tried_50 : decode cX8_tried 50 = .ok (.invokevirtual 280, 3) := by decide +kernel
theorem dX8_tried_53 : decode cX8_tried 53 = .ok (.lreturn, 1) := by decide +kernel
def kX8_tried (live : am_E) (Ret : am_R) : am_code := [(0, am_iload 1 1), (1, am_callS live 1 TX8_isPlan 4), (4, am_if1 (fun x => x = 0) 38 7), (7, am_iload 2 8), (8, am_callS live 1 TX8_isWhat 11), (11, am_if1 (fun x => x = 0) 38 14), (14, am_iload 2 15), (15, am_iload 3 16), (16, am_callS live 2 TX8_mayBe 19), (19, am_if1 (fun x => x = 0) 38 22), (22, am_iload 4 24), (24, am_callS live 1 TX8_isYear 27), (27, am_if1 (fun x => x = 0) 38 30), (30, am_iload 5 32), (32, am_callS live 1 TX8_isYear 35), (35, am_if1 (fun x => x = 0) 38 42), (38, am_const (.long (-2)) 41), (41, am_retL Ret), (42, am_aload 0 43), (43, am_iload 1 44), (44, am_iload 2 45), (45, am_iload 3 46), (46, am_iload 4 48), (48, am_iload 5 50), (50, am_callV live 8 5 TX8_triedOf 53), (53, am_retL Ret)]
theorem koX8_tried (live : am_E) (Ret : am_R) : ∀ q ∈ kX8_tried live Ret, am_ok RX8 cX8_tried 6 (some .long) 2 53 live Ret q.1 q.2 :=
  am_kc (ak_iload_n dX8_tried_0 rfl rfl) <|
  am_kc (ak_callS metX8_isPlan ⟨rfl, by decide +kernel, by decide +kernel, by decide +kernel⟩ (am_w4 wd_1034 wd_1035 wd_67 wd_1036) (by decide) dX8_tried_1 rfl) <|
  am_kc (ak_if_eq dX8_tried_4 (by decide +kernel) rfl) <|
  am_kc (ak_iload_n dX8_tried_7 rfl rfl) <|
  am_kc (ak_callS metX8_isWhat ⟨rfl, by decide +kernel, by decide +kernel, by decide +kernel⟩ (am_w4 wd_1038 wd_1039 wd_67 wd_1040) (by decide) dX8_tried_8 rfl) <|
  am_kc (ak_if_eq dX8_tried_11 (by decide +kernel) rfl) <|
  am_kc (ak_iload_n dX8_tried_14 rfl rfl) <|
  am_kc (ak_iload_n dX8_tried_15 rfl rfl) <|
  am_kc (ak_callS metX8_mayBe ⟨rfl, by decide +kernel, by decide +kernel, by decide +kernel⟩ (am_w4 wd_1042 wd_1043 wd_67 wd_1044) (by decide) dX8_tried_16 rfl) <|
  am_kc (ak_if_eq dX8_tried_19 (by decide +kernel) rfl) <|
  am_kc (ak_iload dX8_tried_22 rfl) <|
  am_kc (ak_callS metX8_isYear ⟨rfl, by decide +kernel, by decide +kernel, by decide +kernel⟩ (am_w4 wd_982 wd_983 wd_67 wd_984) (by decide) dX8_tried_24 rfl) <|
  am_kc (ak_if_eq dX8_tried_27 (by decide +kernel) rfl) <|
  am_kc (ak_iload dX8_tried_30 rfl) <|
  am_kc (ak_callS metX8_isYear ⟨rfl, by decide +kernel, by decide +kernel, by decide +kernel⟩ (am_w4 wd_982 wd_983 wd_67 wd_984) (by decide) dX8_tried_32 rfl) <|
  am_kc (ak_if_ne dX8_tried_35 (by decide +kernel) rfl) <|
  am_kc (ak_ldc2 wd_1153 dX8_tried_38 rfl) <|
  am_kc (ak_retL dX8_tried_41) <|
  am_kc (ak_aload_n dX8_tried_42 rfl rfl) <|
  am_kc (ak_iload_n dX8_tried_43 rfl rfl) <|
  am_kc (ak_iload_n dX8_tried_44 rfl rfl) <|
  am_kc (ak_iload_n dX8_tried_45 rfl rfl) <|
  am_kc (ak_iload dX8_tried_46 rfl) <|
  am_kc (ak_iload dX8_tried_48 rfl) <|
  am_kc (ak_callV (C := RX8) (F := TX8) (N := 27) metX8_triedOf rfl ⟨rfl, by decide +kernel, by decide +kernel, by decide +kernel⟩ (am_w5 wd_1270 wd_1272 wd_56 wd_67 wd_1273) (by decide) dX8_tried_50 rfl) <|
  am_kc (ak_retL dX8_tried_53) <| am_kn
def TX8_tried : am_T := fun live as M R => match as with
  | [.ref n, .int p, .int w, .int v, .int f, .int y] => am_mn live ∧ n = 200 ∧ am_F8 M ∧ ∀ M', am_ch am_hi M M' → R (some (.long (a_tried p w v f y))) M'
  | _ => False
set_option maxRecDepth 100000 in
set_option maxHeartbeats 4000000 in
theorem metX8_tried : am_Met yX8_tried cX8_tried 6 (some .long) (2) (53) TX8_tried := by
  refine am_met (own := RX8) (by decide +kernel) rfl kX8_tried koX8_tried 300 (fun _ _ _ _ _ => none) (fun live as M Ret h => ?_) (fun _ _ _ _ _ _ _ _ hI => by cases hI)
  unfold TX8_tried at h
  split at h
  · next n p w v f y =>
    refine ⟨Nat.le_of_ble_eq_true rfl, ?_⟩
    change am_wp _ _ _ _ [(0, Value.ref n), (1, Value.int p), (2, Value.int w), (3, Value.int v), (4, Value.int f), (5, Value.int y)] _ _
    obtain ⟨⟨i1, i2, rfl⟩, rfl, hF, h⟩ := h
    have hF0 := hF
    obtain ⟨s1, s2, s3, s4, s5⟩ := hF
    have q0 : M.1 201 (Int32.toNatClampNeg 0) = 0 := s1 0 (by decide)
    have q1 : M.1 201 (Int32.toNatClampNeg 1) = 0 := s1 1 (by decide)
    have q2 : M.1 201 (Int32.toNatClampNeg 2) = 0 := s1 2 (by decide)
    have q3 : M.1 201 (Int32.toNatClampNeg 3) = 0 := s1 3 (by decide)
    have q4 : M.1 201 (Int32.toNatClampNeg 4) = 0 := s1 4 (by decide)
    have q5 : M.1 201 (Int32.toNatClampNeg 5) = 0 := s1 5 (by decide)
    have r0 : M.1 201 0 = 0 := q0
    have r1 : M.1 201 1 = 0 := q1
    have r2 : M.1 201 2 = 0 := q2
    have r3 : M.1 201 3 = 0 := q3
    have r4 : M.1 201 4 = 0 := q4
    have r5 : M.1 201 5 = 0 := q5
    have l201 : (am_len 201 : Int) = 3760 := rfl
    have s0 := True.intro
    by_cases hc : (0 ≤ p ∧ p < 5) ∧ am_isN w v ∧ (0 ≤ f ∧ f < 40) ∧ (0 ≤ y ∧ y < 40)
    ·
      have z0 : (0 ≤ p ∧ p < 5) := by clear h hF0 s1 s2 s3 s4 s5; simp only [am_isNum, am_isN, i_le, i_lt, i_eq, j_le, Int32.toInt_toInt64, Int32.reduceToInt, Int64.reduceToInt, Int32.toInt_zero] at *; omega
      have hn0 : ¬ (if (0 ≤ p ∧ p < 5) then (1 : Int32) else 0) = 0 := by rw [if_pos (z0)]; decide
      have z1 : (0 ≤ w ∧ w < 6) := by clear h hF0 s1 s2 s3 s4 s5; simp only [am_isNum, am_isN, i_le, i_lt, i_eq, j_le, Int32.toInt_toInt64, Int32.reduceToInt, Int64.reduceToInt, Int32.toInt_zero] at *; omega
      have hn1 : ¬ (if (0 ≤ w ∧ w < 6) then (1 : Int32) else 0) = 0 := by rw [if_pos (z1)]; decide
      have z2 : am_isNum w v := by clear h hF0 s1 s2 s3 s4 s5; simp only [am_isNum, am_isN, i_le, i_lt, i_eq, j_le, Int32.toInt_toInt64, Int32.reduceToInt, Int64.reduceToInt, Int32.toInt_zero] at *; omega
      have hn2 : am_isNum w v := z2
      have z3 : (0 ≤ f ∧ f < 40) := by clear h hF0 s1 s2 s3 s4 s5; simp only [am_isNum, am_isN, i_le, i_lt, i_eq, j_le, Int32.toInt_toInt64, Int32.reduceToInt, Int64.reduceToInt, Int32.toInt_zero] at *; omega
      have hn3 : ¬ (if (0 ≤ f ∧ f < 40) then (1 : Int32) else 0) = 0 := by rw [if_pos (z3)]; decide
      have z4 : (0 ≤ y ∧ y < 40) := by clear h hF0 s1 s2 s3 s4 s5; simp only [am_isNum, am_isN, i_le, i_lt, i_eq, j_le, Int32.toInt_toInt64, Int32.reduceToInt, Int64.reduceToInt, Int32.toInt_zero] at *; omega
      have hn4 : ¬ (if (0 ≤ y ∧ y < 40) then (1 : Int32) else 0) = 0 := by rw [if_pos (z4)]; decide
      have e9 : a_tried p w v f y = _ := if_pos hc
      rw [e9] at h
      repeat' (first | (with_reducible exact z1) | (with_reducible exact q0) | apply And.intro | exact rfl | (intro hx; with_reducible exact absurd hx hn0) | (intro hx; with_reducible exact absurd hx hn1) | (intro hx; with_reducible exact absurd hx hn3) | (intro hx; with_reducible exact absurd hx hn4) | (intro hx; with_reducible exact absurd hn2 hx) | (intro hx; exact absurd hx (by decide)) | (intro hx; exact absurd (by decide) hx) | decide | intro hx | (refine Exists.intro _ (And.intro rfl ?_)))
      all_goals try first | (with_reducible change am_tI _ _) | (change Ret _ _) | (change Ret _ _ _) | (change Exists _)
      all_goals try dsimp only at *
      all_goals try exact absurd ‹(1000 : Int64) = 0› (by decide)
      all_goals first
        | exact ⟨i1, i2, rfl⟩
        | exact z1.1
        | exact z1.2
        | exact q0
        | exact h _ ‹am_ch _ _ _›
        | exact h _ (by repeat (first | exact am_ch.rf | refine am_ch.wI ?_ (by show 200 ≤ (_ : Nat); decide) | refine am_ch.wJ ?_ (by show 200 ≤ (_ : Nat); decide)))
        | exact am_rJ (h _ (by repeat (first | exact am_ch.rf | refine am_ch.wI ?_ (by show 200 ≤ (_ : Nat); decide) | refine am_ch.wJ ?_ (by show 200 ≤ (_ : Nat); decide)))) (by first | rfl | exact r0.symm | exact r2.symm | exact r4.symm | exact r5.symm | (rw [am_wI_s]; (repeat (rw [am_wI_o (by first | (rw [q0]; decide) | (rw [q2]; decide) | (rw [q4]; decide) | (rw [q5]; decide))])); (first | rw [q0] | rw [q2] | rw [q4] | rw [q5]); (first | done | rfl)) | (simp only [am_wI_1, q0, q1, q2, q3, q4, q5]; done) | (simp only [am_wI_1, r0, r1, r2, r3, r4, r5]; done) | (simp only [am_wI_1, r0, r1, r2, r3, r4, r5]; rfl) | (simp only []; done) | (rw []))
        | (clear h; decide)
        | (clear h; simp only [q0, q1, q2, q3, q4, q5]; decide)
        | (clear h; simp only [r0, r1, r2, r3, r4, r5]; decide)
        | (clear h; simp only [l201]; omega)
    ·
      have e9 : a_tried p w v f y = _ := if_neg hc
      rw [e9] at h
      by_cases z0 : (0 ≤ p ∧ p < 5)
      rotate_left
      ·
        have hp : (if (0 ≤ p ∧ p < 5) then (1 : Int32) else 0) = 0 := if_neg z0
        repeat' (first | apply And.intro | exact rfl | (intro hx; with_reducible exact absurd hp hx) | (intro hx; exact absurd hx (by decide)) | (intro hx; exact absurd (by decide) hx) | decide | intro hx | (refine Exists.intro _ (And.intro rfl ?_)))
        all_goals try first | (with_reducible change am_tI _ _) | (change Ret _ _) | (change Ret _ _ _) | (change Exists _)
        all_goals try dsimp only at *
        all_goals try exact absurd ‹(1000 : Int64) = 0› (by decide)
        all_goals first | exact h _ am_ch.rf | exact ⟨i1, i2, rfl⟩ | exact z1.1 | exact z1.2
      have hn0 : ¬ (if (0 ≤ p ∧ p < 5) then (1 : Int32) else 0) = 0 := by rw [if_pos (z0)]; decide
      by_cases z1 : (0 ≤ w ∧ w < 6)
      rotate_left
      ·
        have hp : (if (0 ≤ w ∧ w < 6) then (1 : Int32) else 0) = 0 := if_neg z1
        repeat' (first | apply And.intro | exact rfl | (intro hx; with_reducible exact absurd hx hn0) | (intro hx; with_reducible exact absurd hp hx) | (intro hx; exact absurd hx (by decide)) | (intro hx; exact absurd (by decide) hx) | decide | intro hx | (refine Exists.intro _ (And.intro rfl ?_)))
        all_goals try first | (with_reducible change am_tI _ _) | (change Ret _ _) | (change Ret _ _ _) | (change Exists _)
        all_goals try dsimp only at *
        all_goals try exact absurd ‹(1000 : Int64) = 0› (by decide)
        all_goals first | exact h _ am_ch.rf | exact ⟨i1, i2, rfl⟩ | exact z1.1 | exact z1.2
      have hn1 : ¬ (if (0 ≤ w ∧ w < 6) then (1 : Int32) else 0) = 0 := by rw [if_pos (z1)]; decide
      by_cases z2 : am_isNum w v
      rotate_left
      ·
        repeat' (first | apply And.intro | exact rfl | (intro hx; with_reducible exact absurd hx hn0) | (intro hx; with_reducible exact absurd hx hn1) | (intro hx; with_reducible exact absurd hx z2) | (intro hx; exact absurd hx (by decide)) | (intro hx; exact absurd (by decide) hx) | decide | intro hx | (refine Exists.intro _ (And.intro rfl ?_)))
        all_goals try first | (with_reducible change am_tI _ _) | (change Ret _ _) | (change Ret _ _ _) | (change Exists _)
        all_goals try dsimp only at *
        all_goals try exact absurd ‹(1000 : Int64) = 0› (by decide)
        all_goals first | exact h _ am_ch.rf | exact ⟨i1, i2, rfl⟩ | exact z1.1 | exact z1.2
      have hn2 : am_isNum w v := z2
      by_cases z3 : (0 ≤ f ∧ f < 40)
      rotate_left
      ·
        have hp : (if (0 ≤ f ∧ f < 40) then (1 : Int32) else 0) = 0 := if_neg z3
        repeat' (first | apply And.intro | exact rfl | (intro hx; with_reducible exact absurd hx hn0) | (intro hx; with_reducible exact absurd hx hn1) | (intro hx; with_reducible exact absurd hn2 hx) | (intro hx; with_reducible exact absurd hp hx) | (intro hx; exact absurd hx (by decide)) | (intro hx; exact absurd (by decide) hx) | decide | intro hx | (refine Exists.intro _ (And.intro rfl ?_)))
        all_goals try first | (with_reducible change am_tI _ _) | (change Ret _ _) | (change Ret _ _ _) | (change Exists _)
        all_goals try dsimp only at *
        all_goals try exact absurd ‹(1000 : Int64) = 0› (by decide)
        all_goals first | exact h _ am_ch.rf | exact ⟨i1, i2, rfl⟩ | exact z1.1 | exact z1.2
      have hn3 : ¬ (if (0 ≤ f ∧ f < 40) then (1 : Int32) else 0) = 0 := by rw [if_pos (z3)]; decide
      by_cases z4 : (0 ≤ y ∧ y < 40)
      rotate_left
      ·
        have hp : (if (0 ≤ y ∧ y < 40) then (1 : Int32) else 0) = 0 := if_neg z4
        repeat' (first | apply And.intro | exact rfl | (intro hx; with_reducible exact absurd hx hn0) | (intro hx; with_reducible exact absurd hx hn1) | (intro hx; with_reducible exact absurd hx hn3) | (intro hx; with_reducible exact absurd hn2 hx) | (intro hx; with_reducible exact absurd hp hx) | (intro hx; exact absurd hx (by decide)) | (intro hx; exact absurd (by decide) hx) | decide | intro hx | (refine Exists.intro _ (And.intro rfl ?_)))
        all_goals try first | (with_reducible change am_tI _ _) | (change Ret _ _) | (change Ret _ _ _) | (change Exists _)
        all_goals try dsimp only at *
        all_goals try exact absurd ‹(1000 : Int64) = 0› (by decide)
        all_goals first | exact h _ am_ch.rf | exact ⟨i1, i2, rfl⟩ | exact z1.1 | exact z1.2
      have hn4 : ¬ (if (0 ≤ y ∧ y < 40) then (1 : Int32) else 0) = 0 := by rw [if_pos (z4)]; decide
      exact absurd (by clear h e9 hc hF0 s1 s2 s3 s4 s5; simp only [am_isNum, am_isN, i_le, i_lt, i_eq, j_le, Int32.toInt_toInt64, Int32.reduceToInt, Int64.reduceToInt, Int32.toInt_zero] at *; omega) hc
  · exact h.elim
theorem dX8_book_0 : decode cX8_book 0 = .ok (.iload_n 1, 1) := by decide +kernel
theorem dX8_book_1 : decode cX8_book 1 = .ok (.i2l, 1) := by decide +kernel
theorem dX8_book_2 : decode cX8_book 2 = .ok (.lconst 0, 1) := by decide +kernel
theorem dX8_book_3 : decode cX8_book 3 = .ok (.ldc2_w 79, 3) := by decide +kernel
theorem dX8_book_6 : decode cX8_book 6 = .ok (.invokestatic 66, 3) := by decide +kernel
theorem dX8_book_9 : decode cX8_book 9 = .ok (.ifCond .eq 28, 3) := by decide +kernel
theorem dX8_book_12 : decode cX8_book 12 = .ok (.iload_n 2, 1) := by decide +kernel
theorem dX8_book_13 : decode cX8_book 13 = .ok (.invokestatic 72, 3) := by decide +kernel
theorem dX8_book_16 : decode cX8_book 16 = .ok (.ifCond .eq 21, 3) := by decide +kernel
theorem dX8_book_19 : decode cX8_book 19 = .ok (.iload_n 3, 1) := by decide +kernel
theorem dX8_book_20 : decode cX8_book 20 = .ok (.invokestatic 72, 3) := by decide +kernel
theorem dX8_book_23 : decode cX8_book 23 = .ok (.ifCond .eq 14, 3) := by decide +kernel
theorem dX8_book_26 : decode cX8_book 26 = .ok (.iload 4, 2) := by decide +kernel
theorem dX8_book_28 : decode cX8_book 28 = .ok (.i2l, 1) := by decide +kernel
theorem dX8_book_29 : decode cX8_book 29 = .ok (.lconst 0, 1) := by decide +kernel
theorem dX8_book_30 : decode cX8_book 30 = .ok (.lconst 1, 1) := by decide +kernel
theorem dX8_book_31 : decode cX8_book 31 = .ok (.invokestatic 66, 3) := by decide +kernel
theorem dX8_book_34 : decode cX8_book 34 = .ok (.ifCond .ne 7, 3) := by decide +kernel
theorem dX8_book_37 : decode cX8_book 37 = .ok (.ldc2_w 237, 3) := by decide +kernel
theorem dX8_book_40 : decode cX8_book 40 = .ok (.lreturn, 1) := by decide +kernel
theorem dX8_book_41 : decode cX8_book 41 = .ok (.lconst 0, 1) := by decide +kernel
theorem dX8_book_42 : decode cX8_book 42 = .ok (.lstore 5, 2) := by decide +kernel
theorem dX8_book_44 : decode cX8_book 44 = .ok (.iconst 0, 1) := by decide +kernel
theorem dX8_book_45 : decode cX8_book 45 = .ok (.istore 7, 2) := by decide +kernel
theorem dX8_book_47 : decode cX8_book 47 = .ok (.iload 7, 2) := by decide +kernel
theorem dX8_book_49 : decode cX8_book 49 = .ok (.aload_n 0, 1) := by decide +kernel
theorem dX8_book_50 : decode cX8_book 50 = .ok (.getfield 7, 3) := by decide +kernel
theorem dX8_book_53 : decode cX8_book 53 = .ok (.iconst 0, 1) := by decide +kernel
theorem dX8_book_54 : decode cX8_book 54 = .ok (.iaload, 1) := by decide +kernel
theorem dX8_book_55 : decode cX8_book 55 = .ok (.if_icmp .ge 77, 3) := by decide +kernel
theorem dX8_book_58 : decode cX8_book 58 = .ok (.aload_n 0, 1) := by decide +kernel
theorem dX8_book_59 : decode cX8_book 59 = .ok (.iload 7, 2) := by decide +kernel
theorem dX8_book_61 : decode cX8_book 61 = .ok (.iload_n 2, 1) := by decide +kernel
theorem dX8_book_62 : decode cX8_book 62 = .ok (.iload_n 3, 1) := by decide +kernel
theorem dX8_book_63 : decode cX8_book 63 = .ok (.invokevirtual 239, 3) := by decide +kernel
theorem dX8_book_66 : decode cX8_book 66 = .ok (.iconst 0, 1) := by decide +kernel
theorem dX8_book_67 : decode cX8_book 67 = .ok (.istore 8, 2) := by decide +kernel
theorem dX8_book_69 : decode cX8_book 69 = .ok (.iload 8, 2) := by decide +kernel
theorem dX8_book_71 : decode cX8_book 71 = .ok (.aload_n 0, 1) := by decide +kernel
theorem dX8_book_72 : decode cX8_book 72 = .ok (.getfield 7, 3) := by decide +kernel
theorem dX8_book_75 : decode cX8_book 75 = .ok (.iconst 1, 1) := by decide +kernel
theorem dX8_book_76 : decode cX8_book 76 = .ok (.iaload, 1) := by decide +kernel
theorem dX8_book_77 : decode cX8_book 77 = .ok (.if_icmp .ge 49, 3) := by decide +kernel
theorem dX8_book_80 : decode cX8_book 80 = .ok (.lload 5, 2) := by decide +kernel
theorem dX8_book_82 : decode cX8_book 82 = .ok (.aload_n 0, 1) := by decide +kernel
theorem dX8_book_83 : decode cX8_book 83 = .ok (.iload 8, 2) := by decide +kernel
theorem dX8_book_85 : decode cX8_book 85 = .ok (.iconst 0, 1) := by decide +kernel
theorem dX8_book_86 : decode cX8_book 86 = .ok (.invokevirtual 202, 3) := by decide +kernel
theorem dX8_book_89 : decode cX8_book 89 = .ok (.iload 7, 2) := by decide +kernel
theorem dX8_book_91 : decode cX8_book 91 = .ok (.if_icmp .ne 25, 3) := by decide +kernel
theorem dX8_book_94 : decode cX8_book 94 = .ok (.aload_n 0, 1) := by decide +kernel
theorem dX8_book_95 : decode cX8_book 95 = .ok (.iload 8, 2) := by decide +kernel
theorem dX8_book_97 : decode cX8_book 97 = .ok (.bipush 6, 2) := by decide +kernel
theorem dX8_book_99 : decode cX8_book 99 = .ok (.invokevirtual 202, 3) := by decide +kernel
theorem dX8_book_102 : decode cX8_book 102 = .ok (.iload_n 1, 1) := by decide +kernel
theorem dX8_book_103 : decode cX8_book 103 = .ok (.if_icmp .ne 13, 3) := by decide +kernel
theorem dX8_book_106 : decode cX8_book 106 = .ok (.aload_n 0, 1) := by decide +kernel
theorem dX8_book_107 : decode cX8_book 107 = .ok (.getfield 39, 3) := by decide +kernel
theorem dX8_book_110 : decode cX8_book 110 = .ok (.iload 8, 2) := by decide +kernel
theorem dX8_book_112 : decode cX8_book 112 = .ok (.laload, 1) := by decide +kernel
theorem dX8_book_113 : decode cX8_book 113 = .ok (.goto 4, 3) := by decide +kernel
theorem dX8_book_116 : decode cX8_book 116 = .ok (.lconst 0, 1) := by decide +kernel
theorem dX8_book_117 : decode cX8_book 117 = .ok (.ladd, 1) := by decide +kernel
theorem dX8_book_118 : decode cX8_book 118 = .ok (.lstore 5, 2) := by decide +kernel
theorem dX8_book_120 : decode cX8_book 120 = .ok (.iinc 8 1, 3) := by decide +kernel
theorem dX8_book_123 : decode cX8_book 123 = .ok (.goto (-54), 3) := by decide +kernel
theorem dX8_book_126 : decode cX8_book 126 = .ok (.iinc 7 1, 3) := by decide +kernel
theorem dX8_book_129 : decode cX8_book 129 = .ok (.goto (-82), 3) := by decide +kernel
theorem dX8_book_132 : decode cX8_book 132 = .ok (.lconst 0, 1) := by decide +kernel
theorem dX8_book_133 : decode cX8_book 133 = .ok (.lstore 7, 2) := by decide +kernel
theorem dX8_book_135 : decode cX8_book 135 = .ok (.sipush 3513, 3) := by decide +kernel
theorem dX8_book_138 : decode cX8_book 138 = .ok (.istore 9, 2) := by decide +kernel
theorem dX8_book_140 : decode cX8_book 140 = .ok (.iload 9, 2) := by decide +kernel
theorem dX8_book_142 : decode cX8_book 142 = .ok (.sipush 3513, 3) := by decide +kernel
theorem dX8_book_145 : decode cX8_book 145 = .ok (.iconst 3, 1) := by decide +kernel
theorem dX8_book_146 : decode cX8_book 146 = .ok (.aload_n 0, 1) := by decide +kernel
theorem dX8_book_147 : decode cX8_book 147 = .ok (.getfield 7, 3) := by decide +kernel
theorem dX8_book_150 : decode cX8_book 150 = .ok (.iconst 4, 1) := by decide +kernel
theorem dX8_book_151 : decode cX8_book 151 = .ok (.iaload, 1) := by decide +kernel
theorem dX8_book_152 : decode cX8_book 152 = .ok (.imul, 1) := by decide +kernel
theorem dX8_book_153 : decode cX8_book 153 = .ok (.iadd, 1) := by decide +kernel
theorem dX8_book_154 : decode cX8_book 154 = .ok (.if_icmp .ge 52, 3) := by decide +kernel
theorem dX8_book_157 : decode cX8_book 157 = .ok (.lload 7, 2) := by decide +kernel
theorem dX8_book_159 : decode cX8_book 159 = .ok (.aload_n 0, 1) := by decide +kernel
theorem dX8_book_160 : decode cX8_book 160 = .ok (.getfield 7, 3) := by decide +kernel
theorem dX8_book_163 : decode cX8_book 163 = .ok (.iload 9, 2) := by decide +kernel
theorem dX8_book_165 : decode cX8_book 165 = .ok (.iaload, 1) := by decide +kernel
theorem dX8_book_166 : decode cX8_book 166 = .ok (.iload_n 1, 1) := by decide +kernel
theorem dX8_book_167 : decode cX8_book 167 = .ok (.if_icmp .ne 29, 3) := by decide +kernel
theorem dX8_book_170 : decode cX8_book 170 = .ok (.aload_n 0, 1) := by decide +kernel
theorem dX8_book_171 : decode cX8_book 171 = .ok (.getfield 7, 3) := by decide +kernel
theorem dX8_book_174 : decode cX8_book 174 = .ok (.iload 9, 2) := by decide +kernel
theorem dX8_book_176 : decode cX8_book 176 = .ok (.iconst 1, 1) := by decide +kernel
theorem dX8_book_177 : decode cX8_book 177 = .ok (.iadd, 1) := by decide +kernel
theorem dX8_book_178 : decode cX8_book 178 = .ok (.iaload, 1) := by decide +kernel
theorem dX8_book_179 : decode cX8_book 179 = .ok (.iload_n 2, 1) := by decide +kernel
theorem dX8_book_180 : decode cX8_book 180 = .ok (.if_icmp .gt 16, 3) := by decide +kernel
theorem dX8_book_183 : decode cX8_book 183 = .ok (.aload_n 0, 1) := by decide +kernel
theorem dX8_book_184 : decode cX8_book 184 = .ok (.getfield 7, 3) := by decide +kernel
theorem dX8_book_187 : decode cX8_book 187 = .ok (.iload 9, 2) := by decide +kernel
theorem dX8_book_189 : decode cX8_book 189 = .ok (.iconst 2, 1) := by decide +kernel
theorem dX8_book_190 : decode cX8_book 190 = .ok (.iadd, 1) := by decide +kernel
theorem dX8_book_191 : decode cX8_book 191 = .ok (.iaload, 1) := by decide +kernel
theorem dX8_book_192 : decode cX8_book 192 = .ok (.i2l, 1) := by decide +kernel
theorem dX8_book_193 : decode cX8_book 193 = .ok (.goto 4, 3) := by decide +kernel
theorem dX8_book_196 : decode cX8_book 196 = .ok (.lconst 0, 1) := by decide +kernel
theorem dX8_book_197 : decode cX8_book 197 = .ok (.ladd, 1) := by decide +kernel
theorem dX8_book_198 : decode cX8_book 198 = .ok (.lstore 7, 2) := by decide +kernel
theorem dX8_book_200 : decode cX8_book 200 = .ok (.iinc 9 3, 3) := by decide +kernel
theorem dX8_book_203 : decode cX8_book 203 = .ok (.goto (-63), 3) := by decide +kernel
theorem dX8_book_206 : decode cX8_book 206 = .ok (.iload 4, 2) := by decide +kernel
theorem dX8_book_208 : decode cX8_book 208 = .ok (.ifCond .ne 8, 3) := by decide +kernel
theorem dX8_book_211 : decode cX8_book 211 = .ok (.lload 5, 2) := by decide +kernel
theorem dX8_book_213 : decode cX8_book 213 = .ok (.goto 20, 3) := by decide +kernel
theorem dX8_book_216 : decode cX8_book 216 = .ok (.lload 7, 2) := by decide +kernel
theorem dX8_book_218 : decode cX8_book 218 = .ok (.lload 5, 2) := by decide +kernel
theorem dX8_book_220 : decode cX8_book 220 = .ok (.lcmp, 1) := by decide +kernel
theorem dX8_book_221 : decode cX8_book 221 = .ok (.ifCond .le 11, 3) := by decide +kernel
theorem dX8_book_224 : decode cX8_book 224 = .ok (.lload 7, 2) := by decide +kernel
theorem dX8_book_226 : decode cX8_book 226 = .ok (.lload 5, 2) := by decide +kernel
theorem dX8_book_228 : decode cX8_book 228 = .ok (.lsub, 1) := by decide +kernel
theorem dX8_book_229 : decode cX8_book 229 = .ok (.goto 4, 3) := by decide +kernel
theorem dX8_book_232 : decode cX8_book 232 = .ok (.lconst 0, 1) := by decide +kernel
theorem dX8_book_233 : decode cX8_book 233 = .ok (.lreturn, 1) := by decide +kernel
def kX8_book (live : am_E) (Ret : am_R) : am_code := [(0, am_iload 1 1), (1, am_i2l 2), (2, am_const (.long 0) 3), (3, am_const (.long 3) 6), (6, am_callS live 3 TX8_in 9), (9, am_if1 (fun x => x = 0) 37 12), (12, am_iload 2 13), (13, am_callS live 1 TX8_isYear 16), (16, am_if1 (fun x => x = 0) 37 19), (19, am_iload 3 20), (20, am_callS live 1 TX8_isYear 23), (23, am_if1 (fun x => x = 0) 37 26), (26, am_iload 4 28), (28, am_i2l 29), (29, am_const (.long 0) 30), (30, am_const (.long 1) 31), (31, am_callS live 3 TX8_in 34), (34, am_if1 (fun x => x = 0) 37 41), (37, am_const (.long (-2)) 40), (40, am_retL Ret), (41, am_const (.long 0) 42), (42, am_lstore 5 10 44), (44, am_const (.int 0) 45), (45, am_istore 7 10 47), (47, am_iload 7 49), (49, am_aload 0 50), (50, am_getR live 8 0 53), (53, am_const (.int 0) 54), (54, am_ald live 0 55), (55, am_if2 (fun x y => y ≤ x) 132 58), (58, am_aload 0 59), (59, am_iload 7 61), (61, am_iload 2 62), (62, am_iload 3 63), (63, am_callV live 8 3 am_TF 66), (66, am_const (.int 0) 67), (67, am_istore 8 10 69), (69, am_iload 8 71), (71, am_aload 0 72), (72, am_getR live 8 0 75), (75, am_const (.int 1) 76), (76, am_ald live 0 77), (77, am_if2 (fun x y => y ≤ x) 126 80), (80, am_lload 5 82), (82, am_aload 0 83), (83, am_iload 8 85), (85, am_const (.int 0) 86), (86, am_callV live 8 2 am_TF 89), (89, am_iload 7 91), (91, am_if2 (fun x y => x = y) 94 116), (94, am_aload 0 95), (95, am_iload 8 97), (97, am_const (.int 6) 99), (99, am_callV live 8 2 am_TF 102), (102, am_iload 1 103), (103, am_if2 (fun x y => x = y) 106 116), (106, am_aload 0 107), (107, am_getR live 8 18 110), (110, am_iload 8 112), (112, am_lald live 1 113), (113, am_goto 117), (116, am_const (.long 0) 117), (117, am_l2 (fun x y => x + y) 118), (118, am_lstore 5 10 120), (120, am_iinc 8 10 1 123), (123, am_goto 69), (126, am_iinc 7 10 1 129), (129, am_goto 47), (132, am_const (.long 0) 133), (133, am_lstore 7 10 135), (135, am_const (.int 3513) 138), (138, am_istore 9 10 140), (140, am_iload 9 142), (142, am_const (.int 3513) 145), (145, am_const (.int 3) 146), (146, am_aload 0 147), (147, am_getR live 8 0 150), (150, am_const (.int 4) 151), (151, am_ald live 0 152), (152, am_i2 (fun x y => x * y) 153), (153, am_i2 (fun x y => x + y) 154), (154, am_if2 (fun x y => y ≤ x) 206 157), (157, am_lload 7 159), (159, am_aload 0 160), (160, am_getR live 8 0 163), (163, am_iload 9 165), (165, am_ald live 0 166), (166, am_iload 1 167), (167, am_if2 (fun x y => x = y) 170 196), (170, am_aload 0 171), (171, am_getR live 8 0 174), (174, am_iload 9 176), (176, am_const (.int 1) 177), (177, am_i2 (fun x y => x + y) 178), (178, am_ald live 0 179), (179, am_iload 2 180), (180, am_if2 (fun x y => y < x) 196 183), (183, am_aload 0 184), (184, am_getR live 8 0 187), (187, am_iload 9 189), (189, am_const (.int 2) 190), (190, am_i2 (fun x y => x + y) 191), (191, am_ald live 0 192), (192, am_i2l 193), (193, am_goto 197), (196, am_const (.long 0) 197), (197, am_l2 (fun x y => x + y) 198), (198, am_lstore 7 10 200), (200, am_iinc 9 10 3 203), (203, am_goto 140), (206, am_iload 4 208), (208, am_if1 (fun x => x = 0) 211 216), (211, am_lload 5 213), (213, am_goto 233), (216, am_lload 7 218), (218, am_lload 5 220), (220, am_lcmp 221), (221, am_if1 (fun x => x ≤ 0) 232 224), (224, am_lload 7 226), (226, am_lload 5 228), (228, am_l2 (fun x y => x - y) 229), (229, am_goto 233), (232, am_const (.long 0) 233), (233, am_retL Ret)]
theorem koX8_book (live : am_E) (Ret : am_R) : ∀ q ∈ kX8_book live Ret, am_ok RX8 cX8_book 10 (some .long) 2 45 live Ret q.1 q.2 :=
  am_kc (ak_iload_n dX8_book_0 rfl rfl) <|
  am_kc (ak_i2l dX8_book_1 rfl) <|
  am_kc (ak_lconst dX8_book_2 (by decide +kernel) rfl) <|
  am_kc (ak_ldc2 wd_997 dX8_book_3 rfl) <|
  am_kc (ak_callS metX8_in ⟨rfl, by decide +kernel, by decide +kernel, by decide +kernel⟩ (am_w4 wd_986 wd_987 wd_67 wd_988) (by decide) dX8_book_6 rfl) <|
  am_kc (ak_if_eq dX8_book_9 (by decide +kernel) rfl) <|
  am_kc (ak_iload_n dX8_book_12 rfl rfl) <|
  am_kc (ak_callS metX8_isYear ⟨rfl, by decide +kernel, by decide +kernel, by decide +kernel⟩ (am_w4 wd_982 wd_983 wd_67 wd_984) (by decide) dX8_book_13 rfl) <|
  am_kc (ak_if_eq dX8_book_16 (by decide +kernel) rfl) <|
  am_kc (ak_iload_n dX8_book_19 rfl rfl) <|
  am_kc (ak_callS metX8_isYear ⟨rfl, by decide +kernel, by decide +kernel, by decide +kernel⟩ (am_w4 wd_982 wd_983 wd_67 wd_984) (by decide) dX8_book_20 rfl) <|
  am_kc (ak_if_eq dX8_book_23 (by decide +kernel) rfl) <|
  am_kc (ak_iload dX8_book_26 rfl) <|
  am_kc (ak_i2l dX8_book_28 rfl) <|
  am_kc (ak_lconst dX8_book_29 (by decide +kernel) rfl) <|
  am_kc (ak_lconst dX8_book_30 (by decide +kernel) rfl) <|
  am_kc (ak_callS metX8_in ⟨rfl, by decide +kernel, by decide +kernel, by decide +kernel⟩ (am_w4 wd_986 wd_987 wd_67 wd_988) (by decide) dX8_book_31 rfl) <|
  am_kc (ak_if_ne dX8_book_34 (by decide +kernel) rfl) <|
  am_kc (ak_ldc2 wd_1153 dX8_book_37 rfl) <|
  am_kc (ak_retL dX8_book_40) <|
  am_kc (ak_lconst dX8_book_41 (by decide +kernel) rfl) <|
  am_kc (ak_lstore dX8_book_42 rfl) <|
  am_kc (ak_iconst dX8_book_44 (by decide +kernel) rfl) <|
  am_kc (ak_istore dX8_book_45 rfl) <|
  am_kc (ak_iload dX8_book_47 rfl) <|
  am_kc (ak_aload_n dX8_book_49 rfl rfl) <|
  am_kc (ak_getR (C := RX8) (T := TX8) (N := 27) rfl inX8w (by decide) rfl rfl rfl wd_895 dX8_book_50 rfl) <|
  am_kc (ak_iconst dX8_book_53 (by decide +kernel) rfl) <|
  am_kc (ak_iald (t := 0) (fun _ => rfl) rfl dX8_book_54 rfl) <|
  am_kc (ak_icmp_ge dX8_book_55 (by decide +kernel) rfl) <|
  am_kc (ak_aload_n dX8_book_58 rfl rfl) <|
  am_kc (ak_iload dX8_book_59 rfl) <|
  am_kc (ak_iload_n dX8_book_61 rfl rfl) <|
  am_kc (ak_iload_n dX8_book_62 rfl rfl) <|
  am_kc (ak_callV (C := RX8) (F := TX8) (N := 27) (am_metF _ _ _ _) rfl ⟨rfl, by decide +kernel, by decide +kernel, by decide +kernel⟩ (am_w5 wd_1158 wd_1160 wd_42 wd_67 wd_1161) (by decide) dX8_book_63 rfl) <|
  am_kc (ak_iconst dX8_book_66 (by decide +kernel) rfl) <|
  am_kc (ak_istore dX8_book_67 rfl) <|
  am_kc (ak_iload dX8_book_69 rfl) <|
  am_kc (ak_aload_n dX8_book_71 rfl rfl) <|
  am_kc (ak_getR (C := RX8) (T := TX8) (N := 27) rfl inX8w (by decide) rfl rfl rfl wd_895 dX8_book_72 rfl) <|
  am_kc (ak_iconst dX8_book_75 (by decide +kernel) rfl) <|
  am_kc (ak_iald (t := 0) (fun _ => rfl) rfl dX8_book_76 rfl) <|
  am_kc (ak_icmp_ge dX8_book_77 (by decide +kernel) rfl) <|
  am_kc (ak_lload dX8_book_80 rfl) <|
  am_kc (ak_aload_n dX8_book_82 rfl rfl) <|
  am_kc (ak_iload dX8_book_83 rfl) <|
  am_kc (ak_iconst dX8_book_85 (by decide +kernel) rfl) <|
  am_kc (ak_callV (C := RX8) (F := TX8) (N := 27) (am_metF _ _ _ _) rfl ⟨rfl, by decide +kernel, by decide +kernel, by decide +kernel⟩ (am_w5 wd_1154 wd_1156 wd_41 wd_67 wd_1157) (by decide) dX8_book_86 rfl) <|
  am_kc (ak_iload dX8_book_89 rfl) <|
  am_kc (ak_icmp_ne dX8_book_91 (by decide +kernel) rfl) <|
  am_kc (ak_aload_n dX8_book_94 rfl rfl) <|
  am_kc (ak_iload dX8_book_95 rfl) <|
  am_kc (ak_bipush dX8_book_97 (by decide +kernel) rfl) <|
  am_kc (ak_callV (C := RX8) (F := TX8) (N := 27) (am_metF _ _ _ _) rfl ⟨rfl, by decide +kernel, by decide +kernel, by decide +kernel⟩ (am_w5 wd_1154 wd_1156 wd_41 wd_67 wd_1157) (by decide) dX8_book_99 rfl) <|
  am_kc (ak_iload_n dX8_book_102 rfl rfl) <|
  am_kc (ak_icmp_ne dX8_book_103 (by decide +kernel) rfl) <|
  am_kc (ak_aload_n dX8_book_106 rfl rfl) <|
  am_kc (ak_getR (C := RX8) (T := TX8) (N := 27) rfl inX8w (by decide) rfl rfl rfl wd_913 dX8_book_107 rfl) <|
  am_kc (ak_iload dX8_book_110 rfl) <|
  am_kc (ak_lald (t := 1) (fun _ => rfl) rfl dX8_book_112 rfl) <|
  am_kc (ak_goto dX8_book_113 (by decide +kernel)) <|
  am_kc (ak_lconst dX8_book_116 (by decide +kernel) rfl) <|
  am_kc (ak_ladd dX8_book_117 rfl) <|
  am_kc (ak_lstore dX8_book_118 rfl) <|
  am_kc (ak_iinc dX8_book_120 (by decide +kernel) rfl) <|
  am_kc (ak_goto dX8_book_123 (by decide +kernel)) <|
  am_kc (ak_iinc dX8_book_126 (by decide +kernel) rfl) <|
  am_kc (ak_goto dX8_book_129 (by decide +kernel)) <|
  am_kc (ak_lconst dX8_book_132 (by decide +kernel) rfl) <|
  am_kc (ak_lstore dX8_book_133 rfl) <|
  am_kc (ak_sipush dX8_book_135 (by decide +kernel) rfl) <|
  am_kc (ak_istore dX8_book_138 rfl) <|
  am_kc (ak_iload dX8_book_140 rfl) <|
  am_kc (ak_sipush dX8_book_142 (by decide +kernel) rfl) <|
  am_kc (ak_iconst dX8_book_145 (by decide +kernel) rfl) <|
  am_kc (ak_aload_n dX8_book_146 rfl rfl) <|
  am_kc (ak_getR (C := RX8) (T := TX8) (N := 27) rfl inX8w (by decide) rfl rfl rfl wd_895 dX8_book_147 rfl) <|
  am_kc (ak_iconst dX8_book_150 (by decide +kernel) rfl) <|
  am_kc (ak_iald (t := 0) (fun _ => rfl) rfl dX8_book_151 rfl) <|
  am_kc (ak_imul dX8_book_152 rfl) <|
  am_kc (ak_iadd dX8_book_153 rfl) <|
  am_kc (ak_icmp_ge dX8_book_154 (by decide +kernel) rfl) <|
  am_kc (ak_lload dX8_book_157 rfl) <|
  am_kc (ak_aload_n dX8_book_159 rfl rfl) <|
  am_kc (ak_getR (C := RX8) (T := TX8) (N := 27) rfl inX8w (by decide) rfl rfl rfl wd_895 dX8_book_160 rfl) <|
  am_kc (ak_iload dX8_book_163 rfl) <|
  am_kc (ak_iald (t := 0) (fun _ => rfl) rfl dX8_book_165 rfl) <|
  am_kc (ak_iload_n dX8_book_166 rfl rfl) <|
  am_kc (ak_icmp_ne dX8_book_167 (by decide +kernel) rfl) <|
  am_kc (ak_aload_n dX8_book_170 rfl rfl) <|
  am_kc (ak_getR (C := RX8) (T := TX8) (N := 27) rfl inX8w (by decide) rfl rfl rfl wd_895 dX8_book_171 rfl) <|
  am_kc (ak_iload dX8_book_174 rfl) <|
  am_kc (ak_iconst dX8_book_176 (by decide +kernel) rfl) <|
  am_kc (ak_iadd dX8_book_177 rfl) <|
  am_kc (ak_iald (t := 0) (fun _ => rfl) rfl dX8_book_178 rfl) <|
  am_kc (ak_iload_n dX8_book_179 rfl rfl) <|
  am_kc (ak_icmp_gt dX8_book_180 (by decide +kernel) rfl) <|
  am_kc (ak_aload_n dX8_book_183 rfl rfl) <|
  am_kc (ak_getR (C := RX8) (T := TX8) (N := 27) rfl inX8w (by decide) rfl rfl rfl wd_895 dX8_book_184 rfl) <|
  am_kc (ak_iload dX8_book_187 rfl) <|
  am_kc (ak_iconst dX8_book_189 (by decide +kernel) rfl) <|
  am_kc (ak_iadd dX8_book_190 rfl) <|
  am_kc (ak_iald (t := 0) (fun _ => rfl) rfl dX8_book_191 rfl) <|
  am_kc (ak_i2l dX8_book_192 rfl) <|
  am_kc (ak_goto dX8_book_193 (by decide +kernel)) <|
  am_kc (ak_lconst dX8_book_196 (by decide +kernel) rfl) <|
  am_kc (ak_ladd dX8_book_197 rfl) <|
  am_kc (ak_lstore dX8_book_198 rfl) <|
  am_kc (ak_iinc dX8_book_200 (by decide +kernel) rfl) <|
  am_kc (ak_goto dX8_book_203 (by decide +kernel)) <|
  am_kc (ak_iload dX8_book_206 rfl) <|
  am_kc (ak_if_ne dX8_book_208 (by decide +kernel) rfl) <|
  am_kc (ak_lload dX8_book_211 rfl) <|
  am_kc (ak_goto dX8_book_213 (by decide +kernel)) <|
  am_kc (ak_lload dX8_book_216 rfl) <|
  am_kc (ak_lload dX8_book_218 rfl) <|
  am_kc (ak_lcmp dX8_book_220 rfl) <|
  am_kc (ak_if_le dX8_book_221 (by decide +kernel) rfl) <|
  am_kc (ak_lload dX8_book_224 rfl) <|
  am_kc (ak_lload dX8_book_226 rfl) <|
  am_kc (ak_lsub dX8_book_228 rfl) <|
  am_kc (ak_goto dX8_book_229 (by decide +kernel)) <|
  am_kc (ak_lconst dX8_book_232 (by decide +kernel) rfl) <|
  am_kc (ak_retL dX8_book_233) <| am_kn
def TX8_book : am_T := fun live as M R => match as with
  | [.ref n, .int b, .int y, .int k, .int w] => am_mn live ∧ n = 200 ∧ am_F8 M ∧ ∀ M', am_ch am_hi M M' → R (some (.long (a_book b y k w))) M'
  | _ => False
set_option maxRecDepth 100000 in
set_option maxHeartbeats 4000000 in
theorem metX8_book : am_Met yX8_book cX8_book 10 (some .long) (2) (45) TX8_book := by
  refine am_met (own := RX8) (by decide +kernel) rfl kX8_book koX8_book 300 (fun _ _ _ _ _ => none) (fun live as M Ret h => ?_) (fun _ _ _ _ _ _ _ _ hI => by cases hI)
  unfold TX8_book at h
  split at h
  · next n b y k w =>
    refine ⟨Nat.le_of_ble_eq_true rfl, ?_⟩
    change am_wp _ _ _ _ [(0, Value.ref n), (1, Value.int b), (2, Value.int y), (3, Value.int k), (4, Value.int w)] _ _
    obtain ⟨⟨i1, i2, rfl⟩, rfl, hF, h⟩ := h
    have hF0 := hF
    obtain ⟨s1, s2, s3, s4, s5⟩ := hF
    have q0 : M.1 201 (Int32.toNatClampNeg 0) = 0 := s1 0 (by decide)
    have q1 : M.1 201 (Int32.toNatClampNeg 1) = 0 := s1 1 (by decide)
    have q2 : M.1 201 (Int32.toNatClampNeg 2) = 0 := s1 2 (by decide)
    have q3 : M.1 201 (Int32.toNatClampNeg 3) = 0 := s1 3 (by decide)
    have q4 : M.1 201 (Int32.toNatClampNeg 4) = 0 := s1 4 (by decide)
    have q5 : M.1 201 (Int32.toNatClampNeg 5) = 0 := s1 5 (by decide)
    have r0 : M.1 201 0 = 0 := q0
    have r1 : M.1 201 1 = 0 := q1
    have r2 : M.1 201 2 = 0 := q2
    have r3 : M.1 201 3 = 0 := q3
    have r4 : M.1 201 4 = 0 := q4
    have r5 : M.1 201 5 = 0 := q5
    have l201 : (am_len 201 : Int) = 3760 := rfl
    have s0 := True.intro
    by_cases hc : (0 ≤ b ∧ b ≤ 3) ∧ (0 ≤ y ∧ y < 40) ∧ (0 ≤ k ∧ k < 40) ∧ (0 ≤ w ∧ w ≤ 1)
    ·
      have z0 : ((0 : Int64) ≤ b.toInt64 ∧ b.toInt64 ≤ 3) := by clear h hF0 s1 s2 s3 s4 s5; simp only [am_isNum, am_isN, i_le, i_lt, i_eq, j_le, Int32.toInt_toInt64, Int32.reduceToInt, Int64.reduceToInt, Int32.toInt_zero] at *; omega
      have hn0 : ¬ (if ((0 : Int64) ≤ b.toInt64 ∧ b.toInt64 ≤ 3) then (1 : Int32) else 0) = 0 := by rw [if_pos (z0)]; decide
      have z1 : (0 ≤ y ∧ y < 40) := by clear h hF0 s1 s2 s3 s4 s5; simp only [am_isNum, am_isN, i_le, i_lt, i_eq, j_le, Int32.toInt_toInt64, Int32.reduceToInt, Int64.reduceToInt, Int32.toInt_zero] at *; omega
      have hn1 : ¬ (if (0 ≤ y ∧ y < 40) then (1 : Int32) else 0) = 0 := by rw [if_pos (z1)]; decide
      have z2 : (0 ≤ k ∧ k < 40) := by clear h hF0 s1 s2 s3 s4 s5; simp only [am_isNum, am_isN, i_le, i_lt, i_eq, j_le, Int32.toInt_toInt64, Int32.reduceToInt, Int64.reduceToInt, Int32.toInt_zero] at *; omega
      have hn2 : ¬ (if (0 ≤ k ∧ k < 40) then (1 : Int32) else 0) = 0 := by rw [if_pos (z2)]; decide
      have z3 : ((0 : Int64) ≤ w.toInt64 ∧ w.toInt64 ≤ 1) := by clear h hF0 s1 s2 s3 s4 s5; simp only [am_isNum, am_isN, i_le, i_lt, i_eq, j_le, Int32.toInt_toInt64, Int32.reduceToInt, Int64.reduceToInt, Int32.toInt_zero] at *; omega
      have hn3 : ¬ (if ((0 : Int64) ≤ w.toInt64 ∧ w.toInt64 ≤ 1) then (1 : Int32) else 0) = 0 := by rw [if_pos (z3)]; decide
      have e9 : a_book b y k w = _ := if_pos hc
      rw [e9] at h
      have hq0 : M.1 201 (Int32.toNatClampNeg 0) ≤ 0 := by rw [q0]; decide
      have hq4 : 3513 + 3 * M.1 201 (Int32.toNatClampNeg 4) ≤ 3513 := by rw [q4]; decide
      repeat' (first | apply And.intro | exact rfl | (intro hx; with_reducible exact absurd hx hn0) | (intro hx; with_reducible exact absurd hx hn1) | (intro hx; with_reducible exact absurd hx hn2) | (intro hx; with_reducible exact absurd hx hn3) | (intro hx; with_reducible exact absurd hq0 hx) | (intro hx; with_reducible exact absurd hq4 hx) | (intro hx; exact absurd hx (by decide)) | (intro hx; exact absurd (by decide) hx) | decide | intro hx | (refine Exists.intro _ (And.intro rfl ?_)))
      all_goals try first | (with_reducible change am_tI _ _) | (change Ret _ _) | (change Ret _ _ _) | (change Exists _)
      all_goals try dsimp only at *
      all_goals try exact absurd ‹(1000 : Int64) = 0› (by decide)
      all_goals first
        | exact h _ am_ch.rf
        | exact am_rJ (h _ am_ch.rf) (by first | rfl | exact r0.symm | exact r2.symm | exact r4.symm | exact r5.symm | (rw [am_wI_s]; (repeat (rw [am_wI_o (by first | (rw [q0]; decide) | (rw [q2]; decide) | (rw [q4]; decide) | (rw [q5]; decide))])); (first | rw [q0] | rw [q2] | rw [q4] | rw [q5]); (first | done | rfl)) | (simp only [am_wI_1, q0, q1, q2, q3, q4, q5]; done) | (simp only [am_wI_1, r0, r1, r2, r3, r4, r5]; done) | (simp only [am_wI_1, r0, r1, r2, r3, r4, r5]; rfl) | (simp only []; done) | (rw []))
        | (clear h; decide)
        | (clear h; simp only [q0, q1, q2, q3, q4, q5]; decide)
        | (clear h; simp only [r0, r1, r2, r3, r4, r5]; decide)
        | (clear h; simp only [l201]; omega)
    ·
      have e9 : a_book b y k w = _ := if_neg hc
      rw [e9] at h
      by_cases z0 : ((0 : Int64) ≤ b.toInt64 ∧ b.toInt64 ≤ 3)
      rotate_left
      ·
        have hp : (if ((0 : Int64) ≤ b.toInt64 ∧ b.toInt64 ≤ 3) then (1 : Int32) else 0) = 0 := if_neg z0
        repeat' (first | apply And.intro | exact rfl | (intro hx; with_reducible exact absurd hp hx) | (intro hx; exact absurd hx (by decide)) | (intro hx; exact absurd (by decide) hx) | decide | intro hx | (refine Exists.intro _ (And.intro rfl ?_)))
        all_goals try first | (with_reducible change am_tI _ _) | (change Ret _ _) | (change Ret _ _ _) | (change Exists _)
        all_goals try dsimp only at *
        all_goals try exact absurd ‹(1000 : Int64) = 0› (by decide)
        all_goals first | exact h _ am_ch.rf | exact ⟨i1, i2, rfl⟩ | exact z1.1 | exact z1.2
      have hn0 : ¬ (if ((0 : Int64) ≤ b.toInt64 ∧ b.toInt64 ≤ 3) then (1 : Int32) else 0) = 0 := by rw [if_pos (z0)]; decide
      by_cases z1 : (0 ≤ y ∧ y < 40)
      rotate_left
      ·
        have hp : (if (0 ≤ y ∧ y < 40) then (1 : Int32) else 0) = 0 := if_neg z1
        repeat' (first | apply And.intro | exact rfl | (intro hx; with_reducible exact absurd hx hn0) | (intro hx; with_reducible exact absurd hp hx) | (intro hx; exact absurd hx (by decide)) | (intro hx; exact absurd (by decide) hx) | decide | intro hx | (refine Exists.intro _ (And.intro rfl ?_)))
        all_goals try first | (with_reducible change am_tI _ _) | (change Ret _ _) | (change Ret _ _ _) | (change Exists _)
        all_goals try dsimp only at *
        all_goals try exact absurd ‹(1000 : Int64) = 0› (by decide)
        all_goals first | exact h _ am_ch.rf | exact ⟨i1, i2, rfl⟩ | exact z1.1 | exact z1.2
      have hn1 : ¬ (if (0 ≤ y ∧ y < 40) then (1 : Int32) else 0) = 0 := by rw [if_pos (z1)]; decide
      by_cases z2 : (0 ≤ k ∧ k < 40)
      rotate_left
      ·
        have hp : (if (0 ≤ k ∧ k < 40) then (1 : Int32) else 0) = 0 := if_neg z2
        repeat' (first | apply And.intro | exact rfl | (intro hx; with_reducible exact absurd hx hn0) | (intro hx; with_reducible exact absurd hx hn1) | (intro hx; with_reducible exact absurd hp hx) | (intro hx; exact absurd hx (by decide)) | (intro hx; exact absurd (by decide) hx) | decide | intro hx | (refine Exists.intro _ (And.intro rfl ?_)))
        all_goals try first | (with_reducible change am_tI _ _) | (change Ret _ _) | (change Ret _ _ _) | (change Exists _)
        all_goals try dsimp only at *
        all_goals try exact absurd ‹(1000 : Int64) = 0› (by decide)
        all_goals first | exact h _ am_ch.rf | exact ⟨i1, i2, rfl⟩ | exact z1.1 | exact z1.2
      have hn2 : ¬ (if (0 ≤ k ∧ k < 40) then (1 : Int32) else 0) = 0 := by rw [if_pos (z2)]; decide
      by_cases z3 : ((0 : Int64) ≤ w.toInt64 ∧ w.toInt64 ≤ 1)
      rotate_left
      ·
        have hp : (if ((0 : Int64) ≤ w.toInt64 ∧ w.toInt64 ≤ 1) then (1 : Int32) else 0) = 0 := if_neg z3
        repeat' (first | apply And.intro | exact rfl | (intro hx; with_reducible exact absurd hx hn0) | (intro hx; with_reducible exact absurd hx hn1) | (intro hx; with_reducible exact absurd hx hn2) | (intro hx; with_reducible exact absurd hp hx) | (intro hx; exact absurd hx (by decide)) | (intro hx; exact absurd (by decide) hx) | decide | intro hx | (refine Exists.intro _ (And.intro rfl ?_)))
        all_goals try first | (with_reducible change am_tI _ _) | (change Ret _ _) | (change Ret _ _ _) | (change Exists _)
        all_goals try dsimp only at *
        all_goals try exact absurd ‹(1000 : Int64) = 0› (by decide)
        all_goals first | exact h _ am_ch.rf | exact ⟨i1, i2, rfl⟩ | exact z1.1 | exact z1.2
      have hn3 : ¬ (if ((0 : Int64) ≤ w.toInt64 ∧ w.toInt64 ≤ 1) then (1 : Int32) else 0) = 0 := by rw [if_pos (z3)]; decide
      exact absurd (by clear h e9 hc hF0 s1 s2 s3 s4 s5; simp only [am_isNum, am_isN, i_le, i_lt, i_eq, j_le, Int32.toInt_toInt64, Int32.reduceToInt, Int64.reduceToInt, Int32.toInt_zero] at *; omega) hc
  · exact h.elim
theorem dX8_from_0 : decode cX8_from 0 = .ok (.iload_n 1, 1) := by decide +kernel
theorem dX8_from_1 : decode cX8_from 1 = .ok (.i2l, 1) := by decide +kernel
theorem dX8_from_2 : decode cX8_from 2 = .ok (.lconst 0, 1) := by decide +kernel
theorem dX8_from_3 : decode cX8_from 3 = .ok (.lconst 1, 1) := by decide +kernel
theorem dX8_from_4 : decode cX8_from 4 = .ok (.invokestatic 66, 3) := by decide +kernel
theorem dX8_from_7 : decode cX8_from 7 = .ok (.ifCond .ne 6, 3) := by decide +kernel
theorem dX8_from_10 : decode cX8_from 10 = .ok (.bipush (-2), 2) := by decide +kernel
theorem dX8_from_12 : decode cX8_from 12 = .ok (.ireturn, 1) := by decide +kernel
theorem dX8_from_13 : decode cX8_from 13 = .ok (.aload_n 0, 1) := by decide +kernel
theorem dX8_from_14 : decode cX8_from 14 = .ok (.getfield 16, 3) := by decide +kernel
theorem dX8_from_17 : decode cX8_from 17 = .ok (.iload_n 1, 1) := by decide +kernel
theorem dX8_from_18 : decode cX8_from 18 = .ok (.baload, 1) := by decide +kernel
theorem dX8_from_19 : decode cX8_from 19 = .ok (.ifCond .ne 6, 3) := by decide +kernel
theorem dX8_from_22 : decode cX8_from 22 = .ok (.bipush (-3), 2) := by decide +kernel
theorem dX8_from_24 : decode cX8_from 24 = .ok (.ireturn, 1) := by decide +kernel
theorem dX8_from_25 : decode cX8_from 25 = .ok (.iconst 0, 1) := by decide +kernel
theorem dX8_from_26 : decode cX8_from 26 = .ok (.istore_n 2, 1) := by decide +kernel
theorem dX8_from_27 : decode cX8_from 27 = .ok (.iload_n 2, 1) := by decide +kernel
theorem dX8_from_28 : decode cX8_from 28 = .ok (.sipush 3760, 3) := by decide +kernel
theorem dX8_from_31 : decode cX8_from 31 = .ok (.if_icmp .ge 27, 3) := by decide +kernel
theorem dX8_from_34 : decode cX8_from 34 = .ok (.aload_n 0, 1) := by decide +kernel
theorem dX8_from_35 : decode cX8_from 35 = .ok (.getfield 7, 3) := by decide +kernel
theorem dX8_from_38 : decode cX8_from 38 = .ok (.iload_n 2, 1) := by decide +kernel
theorem dX8_from_39 : decode cX8_from 39 = .ok (.aload_n 0, 1) := by decide +kernel
theorem dX8_from_40 : decode cX8_from 40 = .ok (.getfield 13, 3) := by decide +kernel
theorem dX8_from_43 : decode cX8_from 43 = .ok (.sipush 3760, 3) := by decide +kernel
theorem dX8_from_46 : decode cX8_from 46 = .ok (.iload_n 1, 1) := by decide +kernel
theorem dX8_from_47 : decode cX8_from 47 = .ok (.imul, 1) := by decide +kernel
theorem dX8_from_48 : decode cX8_from 48 = .ok (.iload_n 2, 1) := by decide +kernel
theorem dX8_from_49 : decode cX8_from 49 = .ok (.iadd, 1) := by decide +kernel
theorem dX8_from_50 : decode cX8_from 50 = .ok (.iaload, 1) := by decide +kernel
theorem dX8_from_51 : decode cX8_from 51 = .ok (.iastore, 1) := by decide +kernel
theorem dX8_from_52 : decode cX8_from 52 = .ok (.iinc 2 1, 3) := by decide +kernel
theorem dX8_from_55 : decode cX8_from 55 = .ok (.goto (-28), 3) := by decide +kernel
theorem dX8_from_58 : decode cX8_from 58 = .ok (.iconst 1, 1) := by decide +kernel
theorem dX8_from_59 : decode cX8_from 59 = .ok (.ireturn, 1) := by decide +kernel
def kX8_from (live : am_E) (Ret : am_R) : am_code := [(0, am_iload 1 1), (1, am_i2l 2), (2, am_const (.long 0) 3), (3, am_const (.long 1) 4), (4, am_callS live 3 TX8_in 7), (7, am_if1 (fun x => x = 0) 10 13), (10, am_const (.int (-2)) 12), (12, am_retI Ret), (13, am_aload 0 14), (14, am_getR live 8 2 17), (17, am_iload 1 18), (18, am_ald live 2 19), (19, am_if1 (fun x => x = 0) 22 25), (22, am_const (.int (-3)) 24), (24, am_retI Ret), (25, am_const (.int 0) 26), (26, am_istore 2 3 27), (27, am_iload 2 28), (28, am_const (.int 3760) 31), (31, am_if2 (fun x y => y ≤ x) 58 34), (34, am_aload 0 35), (35, am_getR live 8 0 38), (38, am_iload 2 39), (39, am_aload 0 40), (40, am_getR live 8 1 43), (43, am_const (.int 3760) 46), (46, am_iload 1 47), (47, am_i2 (fun x y => x * y) 48), (48, am_iload 2 49), (49, am_i2 (fun x y => x + y) 50), (50, am_ald live 0 51), (51, am_ast live 0 52), (52, am_iinc 2 3 1 55), (55, am_goto 27), (58, am_const (.int 1) 59), (59, am_retI Ret)]
theorem koX8_from (live : am_E) (Ret : am_R) : ∀ q ∈ kX8_from live Ret, am_ok RX8 cX8_from 3 (some .int) 1 25 live Ret q.1 q.2 :=
  am_kc (ak_iload_n dX8_from_0 rfl rfl) <|
  am_kc (ak_i2l dX8_from_1 rfl) <|
  am_kc (ak_lconst dX8_from_2 (by decide +kernel) rfl) <|
  am_kc (ak_lconst dX8_from_3 (by decide +kernel) rfl) <|
  am_kc (ak_callS metX8_in ⟨rfl, by decide +kernel, by decide +kernel, by decide +kernel⟩ (am_w4 wd_986 wd_987 wd_67 wd_988) (by decide) dX8_from_4 rfl) <|
  am_kc (ak_if_ne dX8_from_7 (by decide +kernel) rfl) <|
  am_kc (ak_bipush dX8_from_10 (by decide +kernel) rfl) <|
  am_kc (ak_retI dX8_from_12) <|
  am_kc (ak_aload_n dX8_from_13 rfl rfl) <|
  am_kc (ak_getR (C := RX8) (T := TX8) (N := 27) rfl inX8w (by decide) rfl rfl rfl wd_897 dX8_from_14 rfl) <|
  am_kc (ak_iload_n dX8_from_17 rfl rfl) <|
  am_kc (ak_zald (t := 2) (fun _ => rfl) rfl dX8_from_18 rfl) <|
  am_kc (ak_if_ne dX8_from_19 (by decide +kernel) rfl) <|
  am_kc (ak_bipush dX8_from_22 (by decide +kernel) rfl) <|
  am_kc (ak_retI dX8_from_24) <|
  am_kc (ak_iconst dX8_from_25 (by decide +kernel) rfl) <|
  am_kc (ak_istore_n dX8_from_26 rfl rfl) <|
  am_kc (ak_iload_n dX8_from_27 rfl rfl) <|
  am_kc (ak_sipush dX8_from_28 (by decide +kernel) rfl) <|
  am_kc (ak_icmp_ge dX8_from_31 (by decide +kernel) rfl) <|
  am_kc (ak_aload_n dX8_from_34 rfl rfl) <|
  am_kc (ak_getR (C := RX8) (T := TX8) (N := 27) rfl inX8w (by decide) rfl rfl rfl wd_895 dX8_from_35 rfl) <|
  am_kc (ak_iload_n dX8_from_38 rfl rfl) <|
  am_kc (ak_aload_n dX8_from_39 rfl rfl) <|
  am_kc (ak_getR (C := RX8) (T := TX8) (N := 27) rfl inX8w (by decide) rfl rfl rfl wd_896 dX8_from_40 rfl) <|
  am_kc (ak_sipush dX8_from_43 (by decide +kernel) rfl) <|
  am_kc (ak_iload_n dX8_from_46 rfl rfl) <|
  am_kc (ak_imul dX8_from_47 rfl) <|
  am_kc (ak_iload_n dX8_from_48 rfl rfl) <|
  am_kc (ak_iadd dX8_from_49 rfl) <|
  am_kc (ak_iald (t := 0) (fun _ => rfl) rfl dX8_from_50 rfl) <|
  am_kc (ak_iast (t := 0) (fun _ => rfl) rfl dX8_from_51 rfl) <|
  am_kc (ak_iinc dX8_from_52 (by decide +kernel) rfl) <|
  am_kc (ak_goto dX8_from_55 (by decide +kernel)) <|
  am_kc (ak_iconst dX8_from_58 (by decide +kernel) rfl) <|
  am_kc (ak_retI dX8_from_59) <| am_kn
def TX8_from : am_T := fun live as M R => match as with
  | [.ref n, .int i] => am_mn live ∧ n = 200 ∧ am_F8 M ∧ ∀ M', am_ch am_hi M M' → R (some (.int (a_from i))) M'
  | _ => False
set_option maxRecDepth 100000 in
set_option maxHeartbeats 4000000 in
theorem metX8_from : am_Met yX8_from cX8_from 3 (some .int) (1) (25) TX8_from := by
  refine am_met (own := RX8) (by decide +kernel) rfl kX8_from koX8_from 300 (fun _ _ _ _ _ => none) (fun live as M Ret h => ?_) (fun _ _ _ _ _ _ _ _ hI => by cases hI)
  unfold TX8_from at h
  split at h
  · next n i =>
    refine ⟨Nat.le_of_ble_eq_true rfl, ?_⟩
    change am_wp _ _ _ _ [(0, Value.ref n), (1, Value.int i)] _ _
    obtain ⟨⟨i1, i2, rfl⟩, rfl, hF, h⟩ := h
    have hF0 := hF
    obtain ⟨s1, s2, s3, s4, s5⟩ := hF
    have q0 : M.1 201 (Int32.toNatClampNeg 0) = 0 := s1 0 (by decide)
    have q1 : M.1 201 (Int32.toNatClampNeg 1) = 0 := s1 1 (by decide)
    have q2 : M.1 201 (Int32.toNatClampNeg 2) = 0 := s1 2 (by decide)
    have q3 : M.1 201 (Int32.toNatClampNeg 3) = 0 := s1 3 (by decide)
    have q4 : M.1 201 (Int32.toNatClampNeg 4) = 0 := s1 4 (by decide)
    have q5 : M.1 201 (Int32.toNatClampNeg 5) = 0 := s1 5 (by decide)
    have r0 : M.1 201 0 = 0 := q0
    have r1 : M.1 201 1 = 0 := q1
    have r2 : M.1 201 2 = 0 := q2
    have r3 : M.1 201 3 = 0 := q3
    have r4 : M.1 201 4 = 0 := q4
    have r5 : M.1 201 5 = 0 := q5
    have l201 : (am_len 201 : Int) = 3760 := rfl
    have s0 := True.intro
    by_cases hc : (0 ≤ i ∧ i ≤ 1)
    ·
      have z0 : ((0 : Int64) ≤ i.toInt64 ∧ i.toInt64 ≤ 1) := by clear h hF0 s1 s2 s3 s4 s5; simp only [am_isNum, am_isN, i_le, i_lt, i_eq, j_le, Int32.toInt_toInt64, Int32.reduceToInt, Int64.reduceToInt, Int32.toInt_zero] at *; omega
      have hn0 : ¬ (if ((0 : Int64) ≤ i.toInt64 ∧ i.toInt64 ≤ 1) then (1 : Int32) else 0) = 0 := by rw [if_pos (z0)]; decide
      have e9 : a_from i = _ := if_pos hc
      rw [e9] at h
      have y0 : 0 ≤ i.toInt ∧ i.toInt < 2 := by simp only [i_le, Int32.reduceToInt] at hc; omega
      have t : M.1 203 i.toNatClampNeg = 0 := s5 _ (by have := i_clamp y0.1; omega)
      have y1 := y0.1
      have y2 := y0.2
      have l203 : (am_len 203 : Int) = 2 := rfl
      repeat' (first | (with_reducible exact y1) | apply And.intro | exact rfl | (intro hx; with_reducible exact absurd hx hn0) | (intro hx; with_reducible exact absurd t hx) | (intro hx; exact absurd hx (by decide)) | (intro hx; exact absurd (by decide) hx) | decide | intro hx | (refine Exists.intro _ (And.intro rfl ?_)))
      all_goals try first | (with_reducible change am_tI _ _) | (change Ret _ _) | (change Ret _ _ _) | (change Exists _)
      all_goals try dsimp only at *
      all_goals try exact absurd ‹(1000 : Int64) = 0› (by decide)
      all_goals first
        | (clear h; rw [l203]; exact y2)
        | exact h _ am_ch.rf
        | exact am_rI (h _ am_ch.rf) (by first | rfl | exact r0.symm | exact r2.symm | exact r4.symm | exact r5.symm | (rw [am_wI_s]; (repeat (rw [am_wI_o (by first | (rw [q0]; decide) | (rw [q2]; decide) | (rw [q4]; decide) | (rw [q5]; decide))])); (first | rw [q0] | rw [q2] | rw [q4] | rw [q5]); (first | done | rfl)) | (simp only [am_wI_1, q0, q1, q2, q3, q4, q5]; done) | (simp only [am_wI_1, r0, r1, r2, r3, r4, r5]; done) | (simp only [am_wI_1, r0, r1, r2, r3, r4, r5]; rfl) | (simp only []; done) | (rw []))
        | (clear h; decide)
        | (clear h; simp only [q0, q1, q2, q3, q4, q5]; decide)
        | (clear h; simp only [r0, r1, r2, r3, r4, r5]; decide)
        | (clear h; simp only [l201]; omega)
    ·
      have e9 : a_from i = _ := if_neg hc
      rw [e9] at h
      by_cases z0 : ((0 : Int64) ≤ i.toInt64 ∧ i.toInt64 ≤ 1)
      rotate_left
      ·
        have hp : (if ((0 : Int64) ≤ i.toInt64 ∧ i.toInt64 ≤ 1) then (1 : Int32) else 0) = 0 := if_neg z0
        repeat' (first | apply And.intro | exact rfl | (intro hx; with_reducible exact absurd hp hx) | (intro hx; exact absurd hx (by decide)) | (intro hx; exact absurd (by decide) hx) | decide | intro hx | (refine Exists.intro _ (And.intro rfl ?_)))
        all_goals try first | (with_reducible change am_tI _ _) | (change Ret _ _) | (change Ret _ _ _) | (change Exists _)
        all_goals try dsimp only at *
        all_goals try exact absurd ‹(1000 : Int64) = 0› (by decide)
        all_goals first | exact h _ am_ch.rf | exact ⟨i1, i2, rfl⟩ | exact z1.1 | exact z1.2
      have hn0 : ¬ (if ((0 : Int64) ≤ i.toInt64 ∧ i.toInt64 ≤ 1) then (1 : Int32) else 0) = 0 := by rw [if_pos (z0)]; decide
      exact absurd (by clear h e9 hc hF0 s1 s2 s3 s4 s5; simp only [am_isNum, am_isN, i_le, i_lt, i_eq, j_le, Int32.toInt_toInt64, Int32.reduceToInt, Int64.reduceToInt, Int32.toInt_zero] at *; omega) hc
  · exact h.elim
