/-! p1: texts of a new object -/
theorem wd_215 : Cond.fieldLink "LearnLoans" 174 "LearnLoans$House" "texts" "[LLearnLoans$Text;" ∈ am_ws := am_wsi (List.mem_of_getElem? (i := 215) (by decide +kernel)) (by decide +kernel)
theorem wd_174 : Cond.fieldLink "LearnLoans" 178 "LearnLoans$Text" "size" "I" ∈ am_ws := am_wsi (List.mem_of_getElem? (i := 174) (by decide +kernel)) (by decide +kernel)
theorem wd_668 : Cond.methodLink "LearnLoans" 181 yX5_add ∈ am_ws := am_wsi (List.mem_of_getElem? (i := 668) (by decide +kernel)) (by decide +kernel)
theorem wd_669 : Cond.instanceMethod yX5_add ∈ am_ws := am_wsi (List.mem_of_getElem? (i := 669) (by decide +kernel)) (by decide +kernel)
theorem wd_670 : Cond.selects "LearnLoans$Text" yX5_add yX5_add ∈ am_ws := am_wsi (List.mem_of_getElem? (i := 670) (by decide +kernel)) (by decide +kernel)
theorem wd_671 : Cond.code yX5_add cX5_add 2 none ∈ am_ws := am_wsi (List.mem_of_getElem? (i := 671) (by decide +kernel)) (by decide +kernel)
theorem dX7_write_0 : decode cX7_write 0 = .ok (.iload_n 1, 1) := by decide +kernel
theorem dX7_write_1 : decode cX7_write 1 = .ok (.invokestatic 98, 3) := by decide +kernel
theorem dX7_write_4 : decode cX7_write 4 = .ok (.ifCond .eq 13, 3) := by decide +kernel
theorem dX7_write_7 : decode cX7_write 7 = .ok (.iload_n 2, 1) := by decide +kernel
theorem dX7_write_8 : decode cX7_write 8 = .ok (.iconst 0, 1) := by decide +kernel
theorem dX7_write_9 : decode cX7_write 9 = .ok (.bipush 127, 2) := by decide +kernel
theorem dX7_write_11 : decode cX7_write 11 = .ok (.invokestatic 55, 3) := by decide +kernel
theorem dX7_write_14 : decode cX7_write 14 = .ok (.ifCond .ne 6, 3) := by decide +kernel
theorem dX7_write_17 : decode cX7_write 17 = .ok (.bipush (-2), 2) := by decide +kernel
theorem dX7_write_19 : decode cX7_write 19 = .ok (.ireturn, 1) := by decide +kernel
theorem dX7_write_20 : decode cX7_write 20 = .ok (.aload_n 0, 1) := by decide +kernel
theorem dX7_write_21 : decode cX7_write 21 = .ok (.getfield 27, 3) := by decide +kernel
theorem dX7_write_24 : decode cX7_write 24 = .ok (.getfield 174, 3) := by decide +kernel
theorem dX7_write_27 : decode cX7_write 27 = .ok (.iload_n 1, 1) := by decide +kernel
theorem dX7_write_28 : decode cX7_write 28 = .ok (.aaload, 1) := by decide +kernel
theorem dX7_write_29 : decode cX7_write 29 = .ok (.astore_n 3, 1) := by decide +kernel
theorem dX7_write_30 : decode cX7_write 30 = .ok (.aload_n 3, 1) := by decide +kernel
theorem dX7_write_31 : decode cX7_write 31 = .ok (.getfield 178, 3) := by decide +kernel
theorem dX7_write_34 : decode cX7_write 34 = .ok (.bipush 50, 2) := by decide +kernel
theorem dX7_write_36 : decode cX7_write 36 = .ok (.if_icmp .lt 6, 3) := by decide +kernel
theorem dX7_write_39 : decode cX7_write 39 = .ok (.bipush (-4), 2) := by decide +kernel
theorem dX7_write_41 : decode cX7_write 41 = .ok (.ireturn, 1) := by decide +kernel
theorem dX7_write_42 : decode cX7_write 42 = .ok (.aload_n 3, 1) := by decide +kernel
theorem dX7_write_43 : decode cX7_write 43 = .ok (.iload_n 2, 1) := by decide +kernel
theorem dX7_write_44 : decode cX7_write 44 = .ok (.invokevirtual 181, 3) := by decide +kernel
theorem dX7_write_47 : decode cX7_write 47 = .ok (.aload_n 3, 1) := by decide +kernel
theorem dX7_write_48 : decode cX7_write 48 = .ok (.getfield 178, 3) := by decide +kernel
theorem dX7_write_51 : decode cX7_write 51 = .ok (.ireturn, 1) := by decide +kernel
def kX7_write (live : am_E) (Ret : am_R) : am_code := [(0, am_iload 1 1), (1, am_callS live 1 TX7_isPlan 4), (4, am_if1 (fun x => x = 0) 17 7), (7, am_iload 2 8), (8, am_const (.int 0) 9), (9, am_const (.int 127) 11), (11, am_callS live 3 TX7_within 14), (14, am_if1 (fun x => x = 0) 17 20), (17, am_const (.int (-2)) 19), (19, am_retI Ret), (20, am_aload 0 21), (21, am_getR live 7 0 24), (24, am_getR live 0 7 27), (27, am_iload 1 28), (28, am_aald live 3 29), (29, am_astore 3 4 30), (30, am_aload 3 31), (31, am_getI live 5 5 34), (34, am_const (.int 50) 36), (36, am_if2 (fun x y => x < y) 42 39), (39, am_const (.int (-4)) 41), (41, am_retI Ret), (42, am_aload 3 43), (43, am_iload 2 44), (44, am_callV live 5 1 TX5_add 47), (47, am_aload 3 48), (48, am_getI live 5 5 51), (51, am_retI Ret)]
theorem koX7_write (live : am_E) (Ret : am_R) : ∀ q ∈ kX7_write live Ret, am_ok RX7 cX7_write 4 (some .int) 334 8442 live Ret q.1 q.2 :=
  am_kc (ak_iload_n dX7_write_0 rfl rfl) <|
  am_kc (ak_callS metX7_isPlan ⟨rfl, by decide +kernel, by decide +kernel, by decide +kernel⟩ (am_w4 wd_466 wd_467 wd_58 wd_468) (by decide) dX7_write_1 rfl) <|
  am_kc (ak_if_eq dX7_write_4 (by decide +kernel) rfl) <|
  am_kc (ak_iload_n dX7_write_7 rfl rfl) <|
  am_kc (ak_iconst dX7_write_8 (by decide +kernel) rfl) <|
  am_kc (ak_bipush dX7_write_9 (by decide +kernel) rfl) <|
  am_kc (ak_callS metX7_within ⟨rfl, by decide +kernel, by decide +kernel, by decide +kernel⟩ (am_w4 wd_418 wd_419 wd_58 wd_420) (by decide) dX7_write_11 rfl) <|
  am_kc (ak_if_ne dX7_write_14 (by decide +kernel) rfl) <|
  am_kc (ak_bipush dX7_write_17 (by decide +kernel) rfl) <|
  am_kc (ak_retI dX7_write_19) <|
  am_kc (ak_aload_n dX7_write_20 rfl rfl) <|
  am_kc (ak_getR (C := RX7) (T := TX7) (N := 4) rfl inX7w (by decide) rfl rfl rfl wd_390 dX7_write_21 rfl) <|
  am_kc (ak_getR (C := RX0) (T := TX0) (N := 13) rfl inX0w (by decide) rfl rfl rfl wd_215 dX7_write_24 rfl) <|
  am_kc (ak_iload_n dX7_write_27 rfl rfl) <|
  am_kc (ak_aald (t := 3) (fun _ => rfl) rfl dX7_write_28 rfl) <|
  am_kc (ak_astore_n dX7_write_29 rfl rfl) <|
  am_kc (ak_aload_n dX7_write_30 rfl rfl) <|
  am_kc (ak_getI (C := RX5) (T := TX5) (N := 7) rfl inX5w (by decide) rfl rfl rfl wd_174 dX7_write_31 rfl) <|
  am_kc (ak_bipush dX7_write_34 (by decide +kernel) rfl) <|
  am_kc (ak_icmp_lt dX7_write_36 (by decide +kernel) rfl) <|
  am_kc (ak_bipush dX7_write_39 (by decide +kernel) rfl) <|
  am_kc (ak_retI dX7_write_41) <|
  am_kc (ak_aload_n dX7_write_42 rfl rfl) <|
  am_kc (ak_iload_n dX7_write_43 rfl rfl) <|
  am_kc (ak_callV (C := RX5) (F := TX5) (N := 7) metX5_add rfl ⟨rfl, by decide +kernel, by decide +kernel, by decide +kernel⟩ (am_w5 wd_668 wd_669 wd_670 wd_65 wd_671) (by decide) dX7_write_44 rfl) <|
  am_kc (ak_aload_n dX7_write_47 rfl rfl) <|
  am_kc (ak_getI (C := RX5) (T := TX5) (N := 7) rfl inX5w (by decide) rfl rfl rfl wd_174 dX7_write_48 rfl) <|
  am_kc (ak_retI dX7_write_51) <| am_kn
def TX7_write : am_T := fun live as M R => match as with
  | [.ref n, .int p, .int c] => am_mn live ∧ n = 0 ∧ am_F7 M ∧ ∀ M', am_ch am_lo M M' → R (some (.int (a_write p c))) M'
  | _ => False
set_option maxRecDepth 100000 in
set_option maxHeartbeats 4000000 in
theorem metX7_write : am_Met yX7_write cX7_write 4 (some .int) (334) (8442) TX7_write := by
  refine am_met (own := RX7) (by decide +kernel) rfl kX7_write koX7_write 300 (fun _ _ _ _ _ => none) (fun live as M Ret h => ?_) (fun _ _ _ _ _ _ _ _ hI => by cases hI)
  unfold TX7_write at h
  split at h
  · next n p c =>
    refine ⟨Nat.le_of_ble_eq_true rfl, ?_⟩
    change am_wp _ _ _ _ [(0, Value.ref n), (1, Value.int p), (2, Value.int c)] _ _
    obtain ⟨⟨i1, i2, rfl⟩, rfl, hF, h⟩ := h
    obtain ⟨s1, s2, s3, s4, s5, s6, s7, s8, s9, w1, w2, w3, w4⟩ := hF
    by_cases hc : (0 ≤ p ∧ p < 5) ∧ (0 ≤ c ∧ c ≤ 127)
    ·
      have e : a_write p c = _ := if_pos hc
      rw [e] at h
      have hs : p = 0 ∨ p = 1 ∨ p = 2 ∨ p = 3 ∨ p = 4 := by
        have z : 0 ≤ p ∧ p < 5 := hc.1
        simp only [i_le, i_lt, i_eq, Int32.reduceToInt] at z ⊢
        omega
      have hn : ¬ (if 0 ≤ c ∧ c ≤ 127 then (1 : Int32) else 0) = 0 := by rw [if_pos hc.2]; decide
      rcases hs with rfl | rfl | rfl | rfl | rfl
      ·
        have t5 : M.1 39 5 = 0 := (s9 0 (by decide)).1
        have t6 : M.1 39 6 = 1 := (s9 0 (by decide)).2.1
        have t2 : M.1 39 2 = 0 := (s9 0 (by decide)).2.2
        have hlt : M.1 39 5 < 50 := by rw [t5]; decide
        have h0 : am_t0 M 39 := ⟨(), by rw [t2]; decide, by rw [t5]; decide⟩
        repeat' (first | (with_reducible exact h0) | apply And.intro | exact rfl | (intro hx; with_reducible exact absurd hx hn) | (intro hx; with_reducible exact absurd hlt hx) | (intro hx; exact absurd hx (by decide)) | (intro hx; exact absurd (by decide) hx) | decide | intro hx | (refine Exists.intro _ (And.intro rfl ?_)) | (refine Exists.intro _ (Exists.intro _ (And.intro rfl (And.intro rfl ?_)))))
        all_goals try first | (with_reducible change am_tI _ _) | (change Ret _ _) | (change Ret _ _ _) | (change Exists _)
        all_goals try dsimp only at *
        all_goals try exact absurd ‹(1000 : Int64) = 0› (by decide)
        all_goals first
          | (refine am_rI (h _ (am_ch.tr (M' := am_wI (am_wI M 40 (M.1 39 5).toNatClampNeg c) 39 5 (M.1 39 5 + 1)) (by repeat (first | exact am_ch.rf | refine am_ch.wI ?_ (by show (_ : Nat) < 200; decide) | refine am_ch.rput ?_ (fun _ => by show (_ : Nat) < 200; decide) | refine am_ch.radd ?_ (fun _ => by show (_ : Nat) < 200; decide) (by show (_ : Nat) < 200; decide) | refine am_ch.lay ?_ (fun _ => by show (_ : Nat) < 200; decide) | refine am_ch.wIc ?_ (by show (_ : Nat) < 200; decide))) (am_ch.mono (S := am_tS 39 41) ‹_› (fun a b z => by
              show a < 200
              rcases z with z | z
              · omega
              · omega)))) ?_
             rw [am_ch_t5 (t := 39) (c := 41) ‹_› (by decide), am_wI_1, if_pos ⟨rfl, rfl⟩, t5]
             rfl)
          | (exfalso
             clear h
             have z : ¬ (50 : Int) ≤ (M.1 39 5).toInt := by rw [t5]; decide
             exact z ‹_›)
      ·
        have t5 : M.1 42 5 = 0 := (s9 1 (by decide)).1
        have t6 : M.1 42 6 = 1 := (s9 1 (by decide)).2.1
        have t2 : M.1 42 2 = 0 := (s9 1 (by decide)).2.2
        have hlt : M.1 42 5 < 50 := by rw [t5]; decide
        have h0 : am_t0 M 42 := ⟨(), by rw [t2]; decide, by rw [t5]; decide⟩
        repeat' (first | (with_reducible exact h0) | apply And.intro | exact rfl | (intro hx; with_reducible exact absurd hx hn) | (intro hx; with_reducible exact absurd hlt hx) | (intro hx; exact absurd hx (by decide)) | (intro hx; exact absurd (by decide) hx) | decide | intro hx | (refine Exists.intro _ (And.intro rfl ?_)) | (refine Exists.intro _ (Exists.intro _ (And.intro rfl (And.intro rfl ?_)))))
        all_goals try first | (with_reducible change am_tI _ _) | (change Ret _ _) | (change Ret _ _ _) | (change Exists _)
        all_goals try dsimp only at *
        all_goals try exact absurd ‹(1000 : Int64) = 0› (by decide)
        all_goals first
          | (refine am_rI (h _ (am_ch.tr (M' := am_wI (am_wI M 43 (M.1 42 5).toNatClampNeg c) 42 5 (M.1 42 5 + 1)) (by repeat (first | exact am_ch.rf | refine am_ch.wI ?_ (by show (_ : Nat) < 200; decide) | refine am_ch.rput ?_ (fun _ => by show (_ : Nat) < 200; decide) | refine am_ch.radd ?_ (fun _ => by show (_ : Nat) < 200; decide) (by show (_ : Nat) < 200; decide) | refine am_ch.lay ?_ (fun _ => by show (_ : Nat) < 200; decide) | refine am_ch.wIc ?_ (by show (_ : Nat) < 200; decide))) (am_ch.mono (S := am_tS 42 44) ‹_› (fun a b z => by
              show a < 200
              rcases z with z | z
              · omega
              · omega)))) ?_
             rw [am_ch_t5 (t := 42) (c := 44) ‹_› (by decide), am_wI_1, if_pos ⟨rfl, rfl⟩, t5]
             rfl)
          | (exfalso
             clear h
             have z : ¬ (50 : Int) ≤ (M.1 42 5).toInt := by rw [t5]; decide
             exact z ‹_›)
      ·
        have t5 : M.1 45 5 = 0 := (s9 2 (by decide)).1
        have t6 : M.1 45 6 = 1 := (s9 2 (by decide)).2.1
        have t2 : M.1 45 2 = 0 := (s9 2 (by decide)).2.2
        have hlt : M.1 45 5 < 50 := by rw [t5]; decide
        have h0 : am_t0 M 45 := ⟨(), by rw [t2]; decide, by rw [t5]; decide⟩
        repeat' (first | (with_reducible exact h0) | apply And.intro | exact rfl | (intro hx; with_reducible exact absurd hx hn) | (intro hx; with_reducible exact absurd hlt hx) | (intro hx; exact absurd hx (by decide)) | (intro hx; exact absurd (by decide) hx) | decide | intro hx | (refine Exists.intro _ (And.intro rfl ?_)) | (refine Exists.intro _ (Exists.intro _ (And.intro rfl (And.intro rfl ?_)))))
        all_goals try first | (with_reducible change am_tI _ _) | (change Ret _ _) | (change Ret _ _ _) | (change Exists _)
        all_goals try dsimp only at *
        all_goals try exact absurd ‹(1000 : Int64) = 0› (by decide)
        all_goals first
          | (refine am_rI (h _ (am_ch.tr (M' := am_wI (am_wI M 46 (M.1 45 5).toNatClampNeg c) 45 5 (M.1 45 5 + 1)) (by repeat (first | exact am_ch.rf | refine am_ch.wI ?_ (by show (_ : Nat) < 200; decide) | refine am_ch.rput ?_ (fun _ => by show (_ : Nat) < 200; decide) | refine am_ch.radd ?_ (fun _ => by show (_ : Nat) < 200; decide) (by show (_ : Nat) < 200; decide) | refine am_ch.lay ?_ (fun _ => by show (_ : Nat) < 200; decide) | refine am_ch.wIc ?_ (by show (_ : Nat) < 200; decide))) (am_ch.mono (S := am_tS 45 47) ‹_› (fun a b z => by
              show a < 200
              rcases z with z | z
              · omega
              · omega)))) ?_
             rw [am_ch_t5 (t := 45) (c := 47) ‹_› (by decide), am_wI_1, if_pos ⟨rfl, rfl⟩, t5]
             rfl)
          | (exfalso
             clear h
             have z : ¬ (50 : Int) ≤ (M.1 45 5).toInt := by rw [t5]; decide
             exact z ‹_›)
      ·
        have t5 : M.1 48 5 = 0 := (s9 3 (by decide)).1
        have t6 : M.1 48 6 = 1 := (s9 3 (by decide)).2.1
        have t2 : M.1 48 2 = 0 := (s9 3 (by decide)).2.2
        have hlt : M.1 48 5 < 50 := by rw [t5]; decide
        have h0 : am_t0 M 48 := ⟨(), by rw [t2]; decide, by rw [t5]; decide⟩
        repeat' (first | (with_reducible exact h0) | apply And.intro | exact rfl | (intro hx; with_reducible exact absurd hx hn) | (intro hx; with_reducible exact absurd hlt hx) | (intro hx; exact absurd hx (by decide)) | (intro hx; exact absurd (by decide) hx) | decide | intro hx | (refine Exists.intro _ (And.intro rfl ?_)) | (refine Exists.intro _ (Exists.intro _ (And.intro rfl (And.intro rfl ?_)))))
        all_goals try first | (with_reducible change am_tI _ _) | (change Ret _ _) | (change Ret _ _ _) | (change Exists _)
        all_goals try dsimp only at *
        all_goals try exact absurd ‹(1000 : Int64) = 0› (by decide)
        all_goals first
          | (refine am_rI (h _ (am_ch.tr (M' := am_wI (am_wI M 49 (M.1 48 5).toNatClampNeg c) 48 5 (M.1 48 5 + 1)) (by repeat (first | exact am_ch.rf | refine am_ch.wI ?_ (by show (_ : Nat) < 200; decide) | refine am_ch.rput ?_ (fun _ => by show (_ : Nat) < 200; decide) | refine am_ch.radd ?_ (fun _ => by show (_ : Nat) < 200; decide) (by show (_ : Nat) < 200; decide) | refine am_ch.lay ?_ (fun _ => by show (_ : Nat) < 200; decide) | refine am_ch.wIc ?_ (by show (_ : Nat) < 200; decide))) (am_ch.mono (S := am_tS 48 50) ‹_› (fun a b z => by
              show a < 200
              rcases z with z | z
              · omega
              · omega)))) ?_
             rw [am_ch_t5 (t := 48) (c := 50) ‹_› (by decide), am_wI_1, if_pos ⟨rfl, rfl⟩, t5]
             rfl)
          | (exfalso
             clear h
             have z : ¬ (50 : Int) ≤ (M.1 48 5).toInt := by rw [t5]; decide
             exact z ‹_›)
      ·
        have t5 : M.1 51 5 = 0 := (s9 4 (by decide)).1
        have t6 : M.1 51 6 = 1 := (s9 4 (by decide)).2.1
        have t2 : M.1 51 2 = 0 := (s9 4 (by decide)).2.2
        have hlt : M.1 51 5 < 50 := by rw [t5]; decide
        have h0 : am_t0 M 51 := ⟨(), by rw [t2]; decide, by rw [t5]; decide⟩
        repeat' (first | (with_reducible exact h0) | apply And.intro | exact rfl | (intro hx; with_reducible exact absurd hx hn) | (intro hx; with_reducible exact absurd hlt hx) | (intro hx; exact absurd hx (by decide)) | (intro hx; exact absurd (by decide) hx) | decide | intro hx | (refine Exists.intro _ (And.intro rfl ?_)) | (refine Exists.intro _ (Exists.intro _ (And.intro rfl (And.intro rfl ?_)))))
        all_goals try first | (with_reducible change am_tI _ _) | (change Ret _ _) | (change Ret _ _ _) | (change Exists _)
        all_goals try dsimp only at *
        all_goals try exact absurd ‹(1000 : Int64) = 0› (by decide)
        all_goals first
          | (refine am_rI (h _ (am_ch.tr (M' := am_wI (am_wI M 52 (M.1 51 5).toNatClampNeg c) 51 5 (M.1 51 5 + 1)) (by repeat (first | exact am_ch.rf | refine am_ch.wI ?_ (by show (_ : Nat) < 200; decide) | refine am_ch.rput ?_ (fun _ => by show (_ : Nat) < 200; decide) | refine am_ch.radd ?_ (fun _ => by show (_ : Nat) < 200; decide) (by show (_ : Nat) < 200; decide) | refine am_ch.lay ?_ (fun _ => by show (_ : Nat) < 200; decide) | refine am_ch.wIc ?_ (by show (_ : Nat) < 200; decide))) (am_ch.mono (S := am_tS 51 53) ‹_› (fun a b z => by
              show a < 200
              rcases z with z | z
              · omega
              · omega)))) ?_
             rw [am_ch_t5 (t := 51) (c := 53) ‹_› (by decide), am_wI_1, if_pos ⟨rfl, rfl⟩, t5]
             rfl)
          | (exfalso
             clear h
             have z : ¬ (50 : Int) ≤ (M.1 51 5).toInt := by rw [t5]; decide
             exact z ‹_›)
    ·
      have e : a_write p c = _ := if_neg hc
      rw [e] at h
      by_cases hp : 0 ≤ p ∧ p < 5
      ·
        have hn : ¬ (if 0 ≤ p ∧ p < 5 then (1 : Int32) else 0) = 0 := by rw [if_pos hp]; decide
        have hq : (if 0 ≤ c ∧ c ≤ 127 then (1 : Int32) else 0) = 0 := if_neg (fun z => hc ⟨hp, z⟩)
        repeat' (first | apply And.intro | exact rfl | (intro hx; with_reducible exact absurd hx hn) | (intro hx; with_reducible exact absurd hq hx) | intro hx | (refine Exists.intro _ (And.intro rfl ?_)))
        all_goals try first | (with_reducible change am_tI _ _) | (change Ret _ _) | (change Ret _ _ _) | (change Exists _)
        all_goals try dsimp only at *
        all_goals try exact absurd ‹(1000 : Int64) = 0› (by decide)
        all_goals exact h _ am_ch.rf
      ·
        have hq : (if 0 ≤ p ∧ p < 5 then (1 : Int32) else 0) = 0 := if_neg hp
        repeat' (first | apply And.intro | exact rfl | (intro hx; with_reducible exact absurd hq hx) | intro hx | (refine Exists.intro _ (And.intro rfl ?_)))
        all_goals try first | (with_reducible change am_tI _ _) | (change Ret _ _) | (change Ret _ _ _) | (change Exists _)
        all_goals try dsimp only at *
        all_goals try exact absurd ‹(1000 : Int64) = 0› (by decide)
        all_goals exact h _ am_ch.rf
  · exact h.elim
theorem wd_722 : Cond.methodLink "LearnLoans" 183 yX5_clear ∈ am_ws := am_wsi (List.mem_of_getElem? (i := 722) (by decide +kernel)) (by decide +kernel)
theorem wd_723 : Cond.instanceMethod yX5_clear ∈ am_ws := am_wsi (List.mem_of_getElem? (i := 723) (by decide +kernel)) (by decide +kernel)
theorem wd_724 : Cond.selects "LearnLoans$Text" yX5_clear yX5_clear ∈ am_ws := am_wsi (List.mem_of_getElem? (i := 724) (by decide +kernel)) (by decide +kernel)
theorem wd_725 : Cond.code yX5_clear cX5_clear 1 none ∈ am_ws := am_wsi (List.mem_of_getElem? (i := 725) (by decide +kernel)) (by decide +kernel)
theorem dX7_erase_0 : decode cX7_erase 0 = .ok (.iload_n 1, 1) := by decide +kernel
theorem dX7_erase_1 : decode cX7_erase 1 = .ok (.invokestatic 98, 3) := by decide +kernel
theorem dX7_erase_4 : decode cX7_erase 4 = .ok (.ifCond .ne 6, 3) := by decide +kernel
theorem dX7_erase_7 : decode cX7_erase 7 = .ok (.bipush (-2), 2) := by decide +kernel
theorem dX7_erase_9 : decode cX7_erase 9 = .ok (.ireturn, 1) := by decide +kernel
theorem dX7_erase_10 : decode cX7_erase 10 = .ok (.aload_n 0, 1) := by decide +kernel
theorem dX7_erase_11 : decode cX7_erase 11 = .ok (.getfield 27, 3) := by decide +kernel
theorem dX7_erase_14 : decode cX7_erase 14 = .ok (.getfield 174, 3) := by decide +kernel
theorem dX7_erase_17 : decode cX7_erase 17 = .ok (.iload_n 1, 1) := by decide +kernel
theorem dX7_erase_18 : decode cX7_erase 18 = .ok (.aaload, 1) := by decide +kernel
theorem dX7_erase_19 : decode cX7_erase 19 = .ok (.astore_n 2, 1) := by decide +kernel
theorem dX7_erase_20 : decode cX7_erase 20 = .ok (.aload_n 2, 1) := by decide +kernel
theorem dX7_erase_21 : decode cX7_erase 21 = .ok (.getfield 178, 3) := by decide +kernel
theorem dX7_erase_24 : decode cX7_erase 24 = .ok (.istore_n 3, 1) := by decide +kernel
theorem dX7_erase_25 : decode cX7_erase 25 = .ok (.aload_n 2, 1) := by decide +kernel
theorem dX7_erase_26 : decode cX7_erase 26 = .ok (.invokevirtual 183, 3) := by decide +kernel
theorem dX7_erase_29 : decode cX7_erase 29 = .ok (.iload_n 3, 1) := by decide +kernel
theorem dX7_erase_30 : decode cX7_erase 30 = .ok (.ireturn, 1) := by decide +kernel
def kX7_erase (live : am_E) (Ret : am_R) : am_code := [(0, am_iload 1 1), (1, am_callS live 1 TX7_isPlan 4), (4, am_if1 (fun x => x = 0) 7 10), (7, am_const (.int (-2)) 9), (9, am_retI Ret), (10, am_aload 0 11), (11, am_getR live 7 0 14), (14, am_getR live 0 7 17), (17, am_iload 1 18), (18, am_aald live 3 19), (19, am_astore 2 4 20), (20, am_aload 2 21), (21, am_getI live 5 5 24), (24, am_istore 3 4 25), (25, am_aload 2 26), (26, am_callV live 5 0 TX5_clear 29), (29, am_iload 3 30), (30, am_retI Ret)]
theorem koX7_erase (live : am_E) (Ret : am_R) : ∀ q ∈ kX7_erase live Ret, am_ok RX7 cX7_erase 4 (some .int) 1 20 live Ret q.1 q.2 :=
  am_kc (ak_iload_n dX7_erase_0 rfl rfl) <|
  am_kc (ak_callS metX7_isPlan ⟨rfl, by decide +kernel, by decide +kernel, by decide +kernel⟩ (am_w4 wd_466 wd_467 wd_58 wd_468) (by decide) dX7_erase_1 rfl) <|
  am_kc (ak_if_ne dX7_erase_4 (by decide +kernel) rfl) <|
  am_kc (ak_bipush dX7_erase_7 (by decide +kernel) rfl) <|
  am_kc (ak_retI dX7_erase_9) <|
  am_kc (ak_aload_n dX7_erase_10 rfl rfl) <|
  am_kc (ak_getR (C := RX7) (T := TX7) (N := 4) rfl inX7w (by decide) rfl rfl rfl wd_390 dX7_erase_11 rfl) <|
  am_kc (ak_getR (C := RX0) (T := TX0) (N := 13) rfl inX0w (by decide) rfl rfl rfl wd_215 dX7_erase_14 rfl) <|
  am_kc (ak_iload_n dX7_erase_17 rfl rfl) <|
  am_kc (ak_aald (t := 3) (fun _ => rfl) rfl dX7_erase_18 rfl) <|
  am_kc (ak_astore_n dX7_erase_19 rfl rfl) <|
  am_kc (ak_aload_n dX7_erase_20 rfl rfl) <|
  am_kc (ak_getI (C := RX5) (T := TX5) (N := 7) rfl inX5w (by decide) rfl rfl rfl wd_174 dX7_erase_21 rfl) <|
  am_kc (ak_istore_n dX7_erase_24 rfl rfl) <|
  am_kc (ak_aload_n dX7_erase_25 rfl rfl) <|
  am_kc (ak_callV (C := RX5) (F := TX5) (N := 7) metX5_clear rfl ⟨rfl, by decide +kernel, by decide +kernel, by decide +kernel⟩ (am_w5 wd_722 wd_723 wd_724 wd_65 wd_725) (by decide) dX7_erase_26 rfl) <|
  am_kc (ak_iload_n dX7_erase_29 rfl rfl) <|
  am_kc (ak_retI dX7_erase_30) <| am_kn
def TX7_erase : am_T := fun live as M R => match as with
  | [.ref n, .int p] => am_mn live ∧ n = 0 ∧ am_F7 M ∧ ∀ M', am_ch am_lo M M' → R (some (.int (a_erase p))) M'
  | _ => False
set_option maxRecDepth 100000 in
set_option maxHeartbeats 4000000 in
theorem metX7_erase : am_Met yX7_erase cX7_erase 4 (some .int) (1) (20) TX7_erase := by
  refine am_met (own := RX7) (by decide +kernel) rfl kX7_erase koX7_erase 300 (fun _ _ _ _ _ => none) (fun live as M Ret h => ?_) (fun _ _ _ _ _ _ _ _ hI => by cases hI)
  unfold TX7_erase at h
  split at h
  · next n p =>
    refine ⟨Nat.le_of_ble_eq_true rfl, ?_⟩
    change am_wp _ _ _ _ [(0, Value.ref n), (1, Value.int p)] _ _
    obtain ⟨⟨i1, i2, rfl⟩, rfl, hF, h⟩ := h
    obtain ⟨s1, s2, s3, s4, s5, s6, s7, s8, s9, w1, w2, w3, w4⟩ := hF
    by_cases hc : (0 ≤ p ∧ p < 5)
    ·
      have e : a_erase p = _ := if_pos hc
      rw [e] at h
      have hs : p = 0 ∨ p = 1 ∨ p = 2 ∨ p = 3 ∨ p = 4 := by
        have z : 0 ≤ p ∧ p < 5 := hc
        simp only [i_le, i_lt, i_eq, Int32.reduceToInt] at z ⊢
        omega
      rcases hs with rfl | rfl | rfl | rfl | rfl
      ·
        have t5 : M.1 39 5 = 0 := (s9 0 (by decide)).1
        have t6 : M.1 39 6 = 1 := (s9 0 (by decide)).2.1
        have t2 : M.1 39 2 = 0 := (s9 0 (by decide)).2.2
        repeat' (first | apply And.intro | exact rfl | (intro hx; exact absurd hx (by decide)) | (intro hx; exact absurd (by decide) hx) | decide | intro hx | (refine Exists.intro _ (And.intro rfl ?_)) | (refine Exists.intro _ (Exists.intro _ (And.intro rfl (And.intro rfl ?_)))))
        all_goals try first | (with_reducible change am_tI _ _) | (change Ret _ _) | (change Ret _ _ _) | (change Exists _)
        all_goals try dsimp only at *
        all_goals try exact absurd ‹(1000 : Int64) = 0› (by decide)
        all_goals exact am_rI (h _ (by repeat (first | exact am_ch.rf | refine am_ch.wI ?_ (by show (_ : Nat) < 200; decide) | refine am_ch.rput ?_ (fun _ => by show (_ : Nat) < 200; decide) | refine am_ch.radd ?_ (fun _ => by show (_ : Nat) < 200; decide) (by show (_ : Nat) < 200; decide) | refine am_ch.lay ?_ (fun _ => by show (_ : Nat) < 200; decide) | refine am_ch.wIc ?_ (by show (_ : Nat) < 200; decide)))) t5.symm
      ·
        have t5 : M.1 42 5 = 0 := (s9 1 (by decide)).1
        have t6 : M.1 42 6 = 1 := (s9 1 (by decide)).2.1
        have t2 : M.1 42 2 = 0 := (s9 1 (by decide)).2.2
        repeat' (first | apply And.intro | exact rfl | (intro hx; exact absurd hx (by decide)) | (intro hx; exact absurd (by decide) hx) | decide | intro hx | (refine Exists.intro _ (And.intro rfl ?_)) | (refine Exists.intro _ (Exists.intro _ (And.intro rfl (And.intro rfl ?_)))))
        all_goals try first | (with_reducible change am_tI _ _) | (change Ret _ _) | (change Ret _ _ _) | (change Exists _)
        all_goals try dsimp only at *
        all_goals try exact absurd ‹(1000 : Int64) = 0› (by decide)
        all_goals exact am_rI (h _ (by repeat (first | exact am_ch.rf | refine am_ch.wI ?_ (by show (_ : Nat) < 200; decide) | refine am_ch.rput ?_ (fun _ => by show (_ : Nat) < 200; decide) | refine am_ch.radd ?_ (fun _ => by show (_ : Nat) < 200; decide) (by show (_ : Nat) < 200; decide) | refine am_ch.lay ?_ (fun _ => by show (_ : Nat) < 200; decide) | refine am_ch.wIc ?_ (by show (_ : Nat) < 200; decide)))) t5.symm
      ·
        have t5 : M.1 45 5 = 0 := (s9 2 (by decide)).1
        have t6 : M.1 45 6 = 1 := (s9 2 (by decide)).2.1
        have t2 : M.1 45 2 = 0 := (s9 2 (by decide)).2.2
        repeat' (first | apply And.intro | exact rfl | (intro hx; exact absurd hx (by decide)) | (intro hx; exact absurd (by decide) hx) | decide | intro hx | (refine Exists.intro _ (And.intro rfl ?_)) | (refine Exists.intro _ (Exists.intro _ (And.intro rfl (And.intro rfl ?_)))))
        all_goals try first | (with_reducible change am_tI _ _) | (change Ret _ _) | (change Ret _ _ _) | (change Exists _)
        all_goals try dsimp only at *
        all_goals try exact absurd ‹(1000 : Int64) = 0› (by decide)
        all_goals exact am_rI (h _ (by repeat (first | exact am_ch.rf | refine am_ch.wI ?_ (by show (_ : Nat) < 200; decide) | refine am_ch.rput ?_ (fun _ => by show (_ : Nat) < 200; decide) | refine am_ch.radd ?_ (fun _ => by show (_ : Nat) < 200; decide) (by show (_ : Nat) < 200; decide) | refine am_ch.lay ?_ (fun _ => by show (_ : Nat) < 200; decide) | refine am_ch.wIc ?_ (by show (_ : Nat) < 200; decide)))) t5.symm
      ·
        have t5 : M.1 48 5 = 0 := (s9 3 (by decide)).1
        have t6 : M.1 48 6 = 1 := (s9 3 (by decide)).2.1
        have t2 : M.1 48 2 = 0 := (s9 3 (by decide)).2.2
        repeat' (first | apply And.intro | exact rfl | (intro hx; exact absurd hx (by decide)) | (intro hx; exact absurd (by decide) hx) | decide | intro hx | (refine Exists.intro _ (And.intro rfl ?_)) | (refine Exists.intro _ (Exists.intro _ (And.intro rfl (And.intro rfl ?_)))))
        all_goals try first | (with_reducible change am_tI _ _) | (change Ret _ _) | (change Ret _ _ _) | (change Exists _)
        all_goals try dsimp only at *
        all_goals try exact absurd ‹(1000 : Int64) = 0› (by decide)
        all_goals exact am_rI (h _ (by repeat (first | exact am_ch.rf | refine am_ch.wI ?_ (by show (_ : Nat) < 200; decide) | refine am_ch.rput ?_ (fun _ => by show (_ : Nat) < 200; decide) | refine am_ch.radd ?_ (fun _ => by show (_ : Nat) < 200; decide) (by show (_ : Nat) < 200; decide) | refine am_ch.lay ?_ (fun _ => by show (_ : Nat) < 200; decide) | refine am_ch.wIc ?_ (by show (_ : Nat) < 200; decide)))) t5.symm
      ·
        have t5 : M.1 51 5 = 0 := (s9 4 (by decide)).1
        have t6 : M.1 51 6 = 1 := (s9 4 (by decide)).2.1
        have t2 : M.1 51 2 = 0 := (s9 4 (by decide)).2.2
        repeat' (first | apply And.intro | exact rfl | (intro hx; exact absurd hx (by decide)) | (intro hx; exact absurd (by decide) hx) | decide | intro hx | (refine Exists.intro _ (And.intro rfl ?_)) | (refine Exists.intro _ (Exists.intro _ (And.intro rfl (And.intro rfl ?_)))))
        all_goals try first | (with_reducible change am_tI _ _) | (change Ret _ _) | (change Ret _ _ _) | (change Exists _)
        all_goals try dsimp only at *
        all_goals try exact absurd ‹(1000 : Int64) = 0› (by decide)
        all_goals exact am_rI (h _ (by repeat (first | exact am_ch.rf | refine am_ch.wI ?_ (by show (_ : Nat) < 200; decide) | refine am_ch.rput ?_ (fun _ => by show (_ : Nat) < 200; decide) | refine am_ch.radd ?_ (fun _ => by show (_ : Nat) < 200; decide) (by show (_ : Nat) < 200; decide) | refine am_ch.lay ?_ (fun _ => by show (_ : Nat) < 200; decide) | refine am_ch.wIc ?_ (by show (_ : Nat) < 200; decide)))) t5.symm
    ·
      have e : a_erase p = _ := if_neg hc
      rw [e] at h
      have hq : (if 0 ≤ p ∧ p < 5 then (1 : Int32) else 0) = 0 := if_neg hc
      repeat' (first | apply And.intro | exact rfl | (intro hx; with_reducible exact absurd hq hx) | intro hx | (refine Exists.intro _ (And.intro rfl ?_)))
      all_goals try first | (with_reducible change am_tI _ _) | (change Ret _ _) | (change Ret _ _ _) | (change Exists _)
      all_goals try dsimp only at *
      all_goals try exact absurd ‹(1000 : Int64) = 0› (by decide)
      all_goals exact h _ am_ch.rf
  · exact h.elim
theorem wd_177 : Cond.fieldLink "LearnLoans" 186 "LearnLoans$Text" "wrong" "I" ∈ am_ws := am_wsi (List.mem_of_getElem? (i := 177) (by decide +kernel)) (by decide +kernel)
theorem dX7_fault_0 : decode cX7_fault 0 = .ok (.iload_n 1, 1) := by decide +kernel
theorem dX7_fault_1 : decode cX7_fault 1 = .ok (.invokestatic 98, 3) := by decide +kernel
theorem dX7_fault_4 : decode cX7_fault 4 = .ok (.ifCond .eq 18, 3) := by decide +kernel
theorem dX7_fault_7 : decode cX7_fault 7 = .ok (.aload_n 0, 1) := by decide +kernel
theorem dX7_fault_8 : decode cX7_fault 8 = .ok (.getfield 27, 3) := by decide +kernel
theorem dX7_fault_11 : decode cX7_fault 11 = .ok (.getfield 174, 3) := by decide +kernel
theorem dX7_fault_14 : decode cX7_fault 14 = .ok (.iload_n 1, 1) := by decide +kernel
theorem dX7_fault_15 : decode cX7_fault 15 = .ok (.aaload, 1) := by decide +kernel
theorem dX7_fault_16 : decode cX7_fault 16 = .ok (.getfield 186, 3) := by decide +kernel
theorem dX7_fault_19 : decode cX7_fault 19 = .ok (.goto 5, 3) := by decide +kernel
theorem dX7_fault_22 : decode cX7_fault 22 = .ok (.bipush (-2), 2) := by decide +kernel
theorem dX7_fault_24 : decode cX7_fault 24 = .ok (.ireturn, 1) := by decide +kernel
def kX7_fault (live : am_E) (Ret : am_R) : am_code := [(0, am_iload 1 1), (1, am_callS live 1 TX7_isPlan 4), (4, am_if1 (fun x => x = 0) 22 7), (7, am_aload 0 8), (8, am_getR live 7 0 11), (11, am_getR live 0 7 14), (14, am_iload 1 15), (15, am_aald live 3 16), (16, am_getI live 5 6 19), (19, am_goto 24), (22, am_const (.int (-2)) 24), (24, am_retI Ret)]
theorem koX7_fault (live : am_E) (Ret : am_R) : ∀ q ∈ kX7_fault live Ret, am_ok RX7 cX7_fault 2 (some .int) 1 20 live Ret q.1 q.2 :=
  am_kc (ak_iload_n dX7_fault_0 rfl rfl) <|
  am_kc (ak_callS metX7_isPlan ⟨rfl, by decide +kernel, by decide +kernel, by decide +kernel⟩ (am_w4 wd_466 wd_467 wd_58 wd_468) (by decide) dX7_fault_1 rfl) <|
  am_kc (ak_if_eq dX7_fault_4 (by decide +kernel) rfl) <|
  am_kc (ak_aload_n dX7_fault_7 rfl rfl) <|
  am_kc (ak_getR (C := RX7) (T := TX7) (N := 4) rfl inX7w (by decide) rfl rfl rfl wd_390 dX7_fault_8 rfl) <|
  am_kc (ak_getR (C := RX0) (T := TX0) (N := 13) rfl inX0w (by decide) rfl rfl rfl wd_215 dX7_fault_11 rfl) <|
  am_kc (ak_iload_n dX7_fault_14 rfl rfl) <|
  am_kc (ak_aald (t := 3) (fun _ => rfl) rfl dX7_fault_15 rfl) <|
  am_kc (ak_getI (C := RX5) (T := TX5) (N := 7) rfl inX5w (by decide) rfl rfl rfl wd_177 dX7_fault_16 rfl) <|
  am_kc (ak_goto dX7_fault_19 (by decide +kernel)) <|
  am_kc (ak_bipush dX7_fault_22 (by decide +kernel) rfl) <|
  am_kc (ak_retI dX7_fault_24) <| am_kn
def TX7_fault : am_T := fun live as M R => match as with
  | [.ref n, .int p] => am_mn live ∧ n = 0 ∧ am_F7 M ∧ ∀ M', am_ch am_lo M M' → R (some (.int (a_fault p))) M'
  | _ => False
set_option maxRecDepth 100000 in
set_option maxHeartbeats 4000000 in
theorem metX7_fault : am_Met yX7_fault cX7_fault 2 (some .int) (1) (20) TX7_fault := by
  refine am_met (own := RX7) (by decide +kernel) rfl kX7_fault koX7_fault 300 (fun _ _ _ _ _ => none) (fun live as M Ret h => ?_) (fun _ _ _ _ _ _ _ _ hI => by cases hI)
  unfold TX7_fault at h
  split at h
  · next n p =>
    refine ⟨Nat.le_of_ble_eq_true rfl, ?_⟩
    change am_wp _ _ _ _ [(0, Value.ref n), (1, Value.int p)] _ _
    obtain ⟨⟨i1, i2, rfl⟩, rfl, hF, h⟩ := h
    obtain ⟨s1, s2, s3, s4, s5, s6, s7, s8, s9, w1, w2, w3, w4⟩ := hF
    by_cases hc : (0 ≤ p ∧ p < 5)
    ·
      have e : a_fault p = _ := if_pos hc
      rw [e] at h
      have hs : p = 0 ∨ p = 1 ∨ p = 2 ∨ p = 3 ∨ p = 4 := by
        have z : 0 ≤ p ∧ p < 5 := hc
        simp only [i_le, i_lt, i_eq, Int32.reduceToInt] at z ⊢
        omega
      rcases hs with rfl | rfl | rfl | rfl | rfl
      ·
        have t5 : M.1 39 5 = 0 := (s9 0 (by decide)).1
        have t6 : M.1 39 6 = 1 := (s9 0 (by decide)).2.1
        have t2 : M.1 39 2 = 0 := (s9 0 (by decide)).2.2
        repeat' (first | apply And.intro | exact rfl | (intro hx; exact absurd hx (by decide)) | (intro hx; exact absurd (by decide) hx) | decide | intro hx | (refine Exists.intro _ (And.intro rfl ?_)) | (refine Exists.intro _ (Exists.intro _ (And.intro rfl (And.intro rfl ?_)))))
        all_goals try first | (with_reducible change am_tI _ _) | (change Ret _ _) | (change Ret _ _ _) | (change Exists _)
        all_goals try dsimp only at *
        all_goals try exact absurd ‹(1000 : Int64) = 0› (by decide)
        all_goals exact am_rI (h _ am_ch.rf) t6.symm
      ·
        have t5 : M.1 42 5 = 0 := (s9 1 (by decide)).1
        have t6 : M.1 42 6 = 1 := (s9 1 (by decide)).2.1
        have t2 : M.1 42 2 = 0 := (s9 1 (by decide)).2.2
        repeat' (first | apply And.intro | exact rfl | (intro hx; exact absurd hx (by decide)) | (intro hx; exact absurd (by decide) hx) | decide | intro hx | (refine Exists.intro _ (And.intro rfl ?_)) | (refine Exists.intro _ (Exists.intro _ (And.intro rfl (And.intro rfl ?_)))))
        all_goals try first | (with_reducible change am_tI _ _) | (change Ret _ _) | (change Ret _ _ _) | (change Exists _)
        all_goals try dsimp only at *
        all_goals try exact absurd ‹(1000 : Int64) = 0› (by decide)
        all_goals exact am_rI (h _ am_ch.rf) t6.symm
      ·
        have t5 : M.1 45 5 = 0 := (s9 2 (by decide)).1
        have t6 : M.1 45 6 = 1 := (s9 2 (by decide)).2.1
        have t2 : M.1 45 2 = 0 := (s9 2 (by decide)).2.2
        repeat' (first | apply And.intro | exact rfl | (intro hx; exact absurd hx (by decide)) | (intro hx; exact absurd (by decide) hx) | decide | intro hx | (refine Exists.intro _ (And.intro rfl ?_)) | (refine Exists.intro _ (Exists.intro _ (And.intro rfl (And.intro rfl ?_)))))
        all_goals try first | (with_reducible change am_tI _ _) | (change Ret _ _) | (change Ret _ _ _) | (change Exists _)
        all_goals try dsimp only at *
        all_goals try exact absurd ‹(1000 : Int64) = 0› (by decide)
        all_goals exact am_rI (h _ am_ch.rf) t6.symm
      ·
        have t5 : M.1 48 5 = 0 := (s9 3 (by decide)).1
        have t6 : M.1 48 6 = 1 := (s9 3 (by decide)).2.1
        have t2 : M.1 48 2 = 0 := (s9 3 (by decide)).2.2
        repeat' (first | apply And.intro | exact rfl | (intro hx; exact absurd hx (by decide)) | (intro hx; exact absurd (by decide) hx) | decide | intro hx | (refine Exists.intro _ (And.intro rfl ?_)) | (refine Exists.intro _ (Exists.intro _ (And.intro rfl (And.intro rfl ?_)))))
        all_goals try first | (with_reducible change am_tI _ _) | (change Ret _ _) | (change Ret _ _ _) | (change Exists _)
        all_goals try dsimp only at *
        all_goals try exact absurd ‹(1000 : Int64) = 0› (by decide)
        all_goals exact am_rI (h _ am_ch.rf) t6.symm
      ·
        have t5 : M.1 51 5 = 0 := (s9 4 (by decide)).1
        have t6 : M.1 51 6 = 1 := (s9 4 (by decide)).2.1
        have t2 : M.1 51 2 = 0 := (s9 4 (by decide)).2.2
        repeat' (first | apply And.intro | exact rfl | (intro hx; exact absurd hx (by decide)) | (intro hx; exact absurd (by decide) hx) | decide | intro hx | (refine Exists.intro _ (And.intro rfl ?_)) | (refine Exists.intro _ (Exists.intro _ (And.intro rfl (And.intro rfl ?_)))))
        all_goals try first | (with_reducible change am_tI _ _) | (change Ret _ _) | (change Ret _ _ _) | (change Exists _)
        all_goals try dsimp only at *
        all_goals try exact absurd ‹(1000 : Int64) = 0› (by decide)
        all_goals exact am_rI (h _ am_ch.rf) t6.symm
    ·
      have e : a_fault p = _ := if_neg hc
      rw [e] at h
      have hq : (if 0 ≤ p ∧ p < 5 then (1 : Int32) else 0) = 0 := if_neg hc
      repeat' (first | apply And.intro | exact rfl | (intro hx; with_reducible exact absurd hq hx) | intro hx | (refine Exists.intro _ (And.intro rfl ?_)))
      all_goals try first | (with_reducible change am_tI _ _) | (change Ret _ _) | (change Ret _ _ _) | (change Exists _)
      all_goals try dsimp only at *
      all_goals try exact absurd ‹(1000 : Int64) = 0› (by decide)
      all_goals exact h _ am_ch.rf
  · exact h.elim
