theorem am_Met.weak {y : MethodName} {cc : ByteArray} {nL : Nat} {rt : Option FieldType} {rf rl : Nat} {T T2 : am_T} (h : am_Met y cc nL rt rf rl T) (hT : ∀ live as M R, T2 live as M R → T live as M R) : am_Met y cc nL rt rf rl T2 := fun l D cA al B live as M Ret q => h l D cA al B live as M Ret (hT live as M Ret q)
def am_s31 : Nat → Nat → Prop := fun a _ => a = 31 ∨ a = 32
def TX0_addActA : am_T := fun live as M R => match as with
  | [.ref n, .int p, .int w, .int v, .int f, .int b, .int e] => am_mn live ∧ n = 20 ∧ ∀ M', am_ch am_s31 M M' → R (some (.int (M.1 31 2))) M'
  | _ => False
theorem metX0_addActA : am_Met yX0_addAct cX0_addAct 8 (some .int) (2) (47) TX0_addActA := metX0_addAct.weak (fun live as M R q => by
  unfold TX0_addActA at q
  split at q
  · next n p w v f b e => exact ⟨q.1, q.2.1, q.2.2 _ ((am_ch.rf).addAct (fun _ => Or.inl rfl) (fun _ => Or.inr rfl))⟩
  · exact q.elim)
theorem wd_649 : Cond.methodLink "LearnLoans" 284 yX4_together ∈ am_ws := am_wsi (List.mem_of_getElem? (i := 649) (by decide +kernel)) (by decide +kernel)
theorem wd_650 : Cond.instanceMethod yX4_together ∈ am_ws := am_wsi (List.mem_of_getElem? (i := 650) (by decide +kernel)) (by decide +kernel)
theorem wd_651 : Cond.selects "LearnLoans$Run" yX4_together yX4_together ∈ am_ws := am_wsi (List.mem_of_getElem? (i := 651) (by decide +kernel)) (by decide +kernel)
theorem wd_652 : Cond.code yX4_together cX4_together 5 (some .long) ∈ am_ws := am_wsi (List.mem_of_getElem? (i := 652) (by decide +kernel)) (by decide +kernel)
theorem wd_808 : Cond.methodLink "LearnLoans" 290 yX3_dropLast ∈ am_ws := am_wsi (List.mem_of_getElem? (i := 808) (by decide +kernel)) (by decide +kernel)
theorem wd_809 : Cond.instanceMethod yX3_dropLast ∈ am_ws := am_wsi (List.mem_of_getElem? (i := 809) (by decide +kernel)) (by decide +kernel)
theorem wd_810 : Cond.selects "LearnLoans$Rows" yX3_dropLast yX3_dropLast ∈ am_ws := am_wsi (List.mem_of_getElem? (i := 810) (by decide +kernel)) (by decide +kernel)
theorem wd_811 : Cond.code yX3_dropLast cX3_dropLast 1 none ∈ am_ws := am_wsi (List.mem_of_getElem? (i := 811) (by decide +kernel)) (by decide +kernel)
theorem dX7_takenIf_0 : decode cX7_takenIf 0 = .ok (.aload_n 0, 1) := by decide +kernel
theorem dX7_takenIf_1 : decode cX7_takenIf 1 = .ok (.getfield 27, 3) := by decide +kernel
theorem dX7_takenIf_4 : decode cX7_takenIf 4 = .ok (.iload_n 1, 1) := by decide +kernel
theorem dX7_takenIf_5 : decode cX7_takenIf 5 = .ok (.iload_n 2, 1) := by decide +kernel
theorem dX7_takenIf_6 : decode cX7_takenIf 6 = .ok (.iload_n 3, 1) := by decide +kernel
theorem dX7_takenIf_7 : decode cX7_takenIf 7 = .ok (.iload 4, 2) := by decide +kernel
theorem dX7_takenIf_9 : decode cX7_takenIf 9 = .ok (.iconst 0, 1) := by decide +kernel
theorem dX7_takenIf_10 : decode cX7_takenIf 10 = .ok (.bipush 39, 2) := by decide +kernel
theorem dX7_takenIf_12 : decode cX7_takenIf 12 = .ok (.invokevirtual 111, 3) := by decide +kernel
theorem dX7_takenIf_15 : decode cX7_takenIf 15 = .ok (.pop, 1) := by decide +kernel
theorem dX7_takenIf_16 : decode cX7_takenIf 16 = .ok (.lconst 0, 1) := by decide +kernel
theorem dX7_takenIf_17 : decode cX7_takenIf 17 = .ok (.lstore 6, 2) := by decide +kernel
theorem dX7_takenIf_19 : decode cX7_takenIf 19 = .ok (.iconst 0, 1) := by decide +kernel
theorem dX7_takenIf_20 : decode cX7_takenIf 20 = .ok (.istore 8, 2) := by decide +kernel
theorem dX7_takenIf_22 : decode cX7_takenIf 22 = .ok (.iload 8, 2) := by decide +kernel
theorem dX7_takenIf_24 : decode cX7_takenIf 24 = .ok (.aload_n 0, 1) := by decide +kernel
theorem dX7_takenIf_25 : decode cX7_takenIf 25 = .ok (.getfield 27, 3) := by decide +kernel
theorem dX7_takenIf_28 : decode cX7_takenIf 28 = .ok (.getfield 38, 3) := by decide +kernel
theorem dX7_takenIf_31 : decode cX7_takenIf 31 = .ok (.getfield 42, 3) := by decide +kernel
theorem dX7_takenIf_34 : decode cX7_takenIf 34 = .ok (.if_icmp .ge 42, 3) := by decide +kernel
theorem dX7_takenIf_37 : decode cX7_takenIf 37 = .ok (.aload_n 0, 1) := by decide +kernel
theorem dX7_takenIf_38 : decode cX7_takenIf 38 = .ok (.getfield 20, 3) := by decide +kernel
theorem dX7_takenIf_41 : decode cX7_takenIf 41 = .ok (.iload 8, 2) := by decide +kernel
theorem dX7_takenIf_43 : decode cX7_takenIf 43 = .ok (.bipush 39, 2) := by decide +kernel
theorem dX7_takenIf_45 : decode cX7_takenIf 45 = .ok (.invokevirtual 151, 3) := by decide +kernel
theorem dX7_takenIf_48 : decode cX7_takenIf 48 = .ok (.aload_n 0, 1) := by decide +kernel
theorem dX7_takenIf_49 : decode cX7_takenIf 49 = .ok (.getfield 20, 3) := by decide +kernel
theorem dX7_takenIf_52 : decode cX7_takenIf 52 = .ok (.iload 5, 2) := by decide +kernel
theorem dX7_takenIf_54 : decode cX7_takenIf 54 = .ok (.invokevirtual 155, 3) := by decide +kernel
theorem dX7_takenIf_57 : decode cX7_takenIf 57 = .ok (.lload 6, 2) := by decide +kernel
theorem dX7_takenIf_59 : decode cX7_takenIf 59 = .ok (.aload_n 0, 1) := by decide +kernel
theorem dX7_takenIf_60 : decode cX7_takenIf 60 = .ok (.getfield 20, 3) := by decide +kernel
theorem dX7_takenIf_63 : decode cX7_takenIf 63 = .ok (.iconst 1, 1) := by decide +kernel
theorem dX7_takenIf_64 : decode cX7_takenIf 64 = .ok (.invokevirtual 284, 3) := by decide +kernel
theorem dX7_takenIf_67 : decode cX7_takenIf 67 = .ok (.ladd, 1) := by decide +kernel
theorem dX7_takenIf_68 : decode cX7_takenIf 68 = .ok (.lstore 6, 2) := by decide +kernel
theorem dX7_takenIf_70 : decode cX7_takenIf 70 = .ok (.iinc 8 1, 3) := by decide +kernel
theorem dX7_takenIf_73 : decode cX7_takenIf 73 = .ok (.goto (-51), 3) := by decide +kernel
theorem dX7_takenIf_76 : decode cX7_takenIf 76 = .ok (.aload_n 0, 1) := by decide +kernel
theorem dX7_takenIf_77 : decode cX7_takenIf 77 = .ok (.getfield 27, 3) := by decide +kernel
theorem dX7_takenIf_80 : decode cX7_takenIf 80 = .ok (.getfield 104, 3) := by decide +kernel
theorem dX7_takenIf_83 : decode cX7_takenIf 83 = .ok (.invokevirtual 290, 3) := by decide +kernel
theorem dX7_takenIf_86 : decode cX7_takenIf 86 = .ok (.lload 6, 2) := by decide +kernel
theorem dX7_takenIf_88 : decode cX7_takenIf 88 = .ok (.lreturn, 1) := by decide +kernel
def kX7_takenIf (live : am_E) (Ret : am_R) : am_code := [(0, am_aload 0 1), (1, am_getR live 7 0 4), (4, am_iload 1 5), (5, am_iload 2 6), (6, am_iload 3 7), (7, am_iload 4 9), (9, am_const (.int 0) 10), (10, am_const (.int 39) 12), (12, am_callV live 0 6 TX0_addActA 15), (15, am_pop 16), (16, am_const (.long 0) 17), (17, am_lstore 6 9 19), (19, am_const (.int 0) 20), (20, am_istore 8 9 22), (22, am_iload 8 24), (24, am_aload 0 25), (25, am_getR live 7 0 28), (28, am_getR live 0 0 31), (31, am_getI live 2 7 34), (34, am_if2 (fun x y => y ≤ x) 76 37), (37, am_aload 0 38), (38, am_getR live 7 2 41), (41, am_iload 8 43), (43, am_const (.int 39) 45), (45, am_callV live 4 2 am_TF 48), (48, am_aload 0 49), (49, am_getR live 7 2 52), (52, am_iload 5 54), (54, am_callV live 4 1 am_TF 57), (57, am_lload 6 59), (59, am_aload 0 60), (60, am_getR live 7 2 63), (63, am_const (.int 1) 64), (64, am_callV live 4 1 am_TF 67), (67, am_l2 (fun x y => x + y) 68), (68, am_lstore 6 9 70), (70, am_iinc 8 9 1 73), (73, am_goto 22), (76, am_aload 0 77), (77, am_getR live 7 0 80), (80, am_getR live 0 3 83), (83, am_callV live 3 0 TX3_dropLast 86), (86, am_lload 6 88), (88, am_retL Ret)]
theorem koX7_takenIf (live : am_E) (Ret : am_R) : ∀ q ∈ kX7_takenIf live Ret, am_ok RX7 cX7_takenIf 9 (some .long) 3 200 live Ret q.1 q.2 :=
  am_kc (ak_aload_n dX7_takenIf_0 rfl rfl) <|
  am_kc (ak_getR (C := RX7) (T := TX7) (N := 4) rfl inX7w (by decide) rfl rfl rfl wd_390 dX7_takenIf_1 rfl) <|
  am_kc (ak_iload_n dX7_takenIf_4 rfl rfl) <|
  am_kc (ak_iload_n dX7_takenIf_5 rfl rfl) <|
  am_kc (ak_iload_n dX7_takenIf_6 rfl rfl) <|
  am_kc (ak_iload dX7_takenIf_7 rfl) <|
  am_kc (ak_iconst dX7_takenIf_9 (by decide +kernel) rfl) <|
  am_kc (ak_bipush dX7_takenIf_10 (by decide +kernel) rfl) <|
  am_kc (ak_callV (C := RX0) (F := TX0) (N := 13) metX0_addActA rfl ⟨rfl, by decide +kernel, by decide +kernel, by decide +kernel⟩ (am_w5 wd_476 wd_477 wd_478 wd_61 wd_479) (by decide) dX7_takenIf_12 rfl) <|
  am_kc (ak_pop dX7_takenIf_15 rfl) <|
  am_kc (ak_lconst dX7_takenIf_16 (by decide +kernel) rfl) <|
  am_kc (ak_lstore dX7_takenIf_17 rfl) <|
  am_kc (ak_iconst dX7_takenIf_19 (by decide +kernel) rfl) <|
  am_kc (ak_istore dX7_takenIf_20 rfl) <|
  am_kc (ak_iload dX7_takenIf_22 rfl) <|
  am_kc (ak_aload_n dX7_takenIf_24 rfl rfl) <|
  am_kc (ak_getR (C := RX7) (T := TX7) (N := 4) rfl inX7w (by decide) rfl rfl rfl wd_390 dX7_takenIf_25 rfl) <|
  am_kc (ak_getR (C := RX0) (T := TX0) (N := 13) rfl inX0w (by decide) rfl rfl rfl wd_194 dX7_takenIf_28 rfl) <|
  am_kc (ak_getI (C := RX2) (T := TX2) (N := 8) rfl inX2w (by decide) rfl rfl rfl wd_121 dX7_takenIf_31 rfl) <|
  am_kc (ak_icmp_ge dX7_takenIf_34 (by decide +kernel) rfl) <|
  am_kc (ak_aload_n dX7_takenIf_37 rfl rfl) <|
  am_kc (ak_getR (C := RX7) (T := TX7) (N := 4) rfl inX7w (by decide) rfl rfl rfl wd_392 dX7_takenIf_38 rfl) <|
  am_kc (ak_iload dX7_takenIf_41 rfl) <|
  am_kc (ak_bipush dX7_takenIf_43 (by decide +kernel) rfl) <|
  am_kc (ak_callV (C := RX4) (F := TX4) (N := 19) (am_metF _ _ _ _) rfl ⟨rfl, by decide +kernel, by decide +kernel, by decide +kernel⟩ (am_w5 wd_546 wd_547 wd_548 wd_60 wd_549) (by decide) dX7_takenIf_45 rfl) <|
  am_kc (ak_aload_n dX7_takenIf_48 rfl rfl) <|
  am_kc (ak_getR (C := RX7) (T := TX7) (N := 4) rfl inX7w (by decide) rfl rfl rfl wd_392 dX7_takenIf_49 rfl) <|
  am_kc (ak_iload dX7_takenIf_52 rfl) <|
  am_kc (ak_callV (C := RX4) (F := TX4) (N := 19) (am_metF _ _ _ _) rfl ⟨rfl, by decide +kernel, by decide +kernel, by decide +kernel⟩ (am_w5 wd_559 wd_560 wd_561 wd_60 wd_562) (by decide) dX7_takenIf_54 rfl) <|
  am_kc (ak_lload dX7_takenIf_57 rfl) <|
  am_kc (ak_aload_n dX7_takenIf_59 rfl rfl) <|
  am_kc (ak_getR (C := RX7) (T := TX7) (N := 4) rfl inX7w (by decide) rfl rfl rfl wd_392 dX7_takenIf_60 rfl) <|
  am_kc (ak_iconst dX7_takenIf_63 (by decide +kernel) rfl) <|
  am_kc (ak_callV (C := RX4) (F := TX4) (N := 19) (am_metF _ _ _ _) rfl ⟨rfl, by decide +kernel, by decide +kernel, by decide +kernel⟩ (am_w5 wd_649 wd_650 wd_651 wd_60 wd_652) (by decide) dX7_takenIf_64 rfl) <|
  am_kc (ak_ladd dX7_takenIf_67 rfl) <|
  am_kc (ak_lstore dX7_takenIf_68 rfl) <|
  am_kc (ak_iinc dX7_takenIf_70 (by decide +kernel) rfl) <|
  am_kc (ak_goto dX7_takenIf_73 (by decide +kernel)) <|
  am_kc (ak_aload_n dX7_takenIf_76 rfl rfl) <|
  am_kc (ak_getR (C := RX7) (T := TX7) (N := 4) rfl inX7w (by decide) rfl rfl rfl wd_390 dX7_takenIf_77 rfl) <|
  am_kc (ak_getR (C := RX0) (T := TX0) (N := 13) rfl inX0w (by decide) rfl rfl rfl wd_204 dX7_takenIf_80 rfl) <|
  am_kc (ak_callV (C := RX3) (F := TX3) (N := 3) metX3_dropLast rfl ⟨rfl, by decide +kernel, by decide +kernel, by decide +kernel⟩ (am_w5 wd_808 wd_809 wd_810 wd_64 wd_811) (by decide) dX7_takenIf_83 rfl) <|
  am_kc (ak_lload dX7_takenIf_86 rfl) <|
  am_kc (ak_retL dX7_takenIf_88) <| am_kn
def TX7_takenIf : am_T := fun live as M R => match as with
  | [.ref n, .int p, .int w, .int v, .int f, .int y] => am_mn live ∧ n = 0 ∧ M.1 21 7 = 0 ∧ ∀ M', am_ch am_lo M M' → R (some (.long 0)) M'
  | _ => False
set_option maxRecDepth 100000 in
set_option maxHeartbeats 4000000 in
theorem metX7_takenIf : am_Met yX7_takenIf cX7_takenIf 9 (some .long) (3) (200) TX7_takenIf := by
  refine am_met (own := RX7) (by decide +kernel) rfl kX7_takenIf koX7_takenIf 100 (fun _ _ _ _ _ => none) (fun live as M Ret h => ?_) (fun _ _ _ _ _ _ _ _ hI => by cases hI)
  unfold TX7_takenIf at h
  split at h
  · next n p w v f y =>
    refine ⟨Nat.le_of_ble_eq_true rfl, ?_⟩
    change am_wp _ _ _ _ [(0, Value.ref n), (1, Value.int p), (2, Value.int w), (3, Value.int v), (4, Value.int f), (5, Value.int y)] _ _
    obtain ⟨⟨i1, i2, rfl⟩, rfl, hs, h⟩ := h
    repeat' (first | apply And.intro | exact rfl | intro hx | (refine Exists.intro _ (And.intro rfl ?_)))
    all_goals try first | (with_reducible change am_tI _ _) | (change Ret _ _) | (change Ret _ _ _) | (change Exists _)
    all_goals try dsimp only at *
    all_goals try exact absurd ‹(1000 : Int64) = 0› (by decide)
    all_goals first
      | exact ⟨i1, i2, rfl⟩
      | exact h _ ((am_ch.mono ‹am_ch am_s31 M _› (fun a b z => by
          show a < 200
          rcases z with z | z <;> omega)).wIc (by show (_ : Nat) < 200; decide))
      | (exfalso
         refine ‹¬ ((_ : am_M).1 21 7 ≤ 0)› ?_
         rw [(‹am_ch am_s31 M _›).1 21 7 (by intro z; rcases z with z | z <;> exact absurd z (by decide)), hs]
         decide)
  · exact h.elim
