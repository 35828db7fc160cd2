/-! People and House: what is read; an act more -/
set_option maxRecDepth 100000 in
theorem wd_113 : Cond.fieldLink "LearnLoans$People" 21 "LearnLoans$People" "first" "[I" ∈ am_ws := am_wt1 (List.mem_of_getElem? (i := 56) (by rfl)) (by decide +kernel)
set_option maxRecDepth 100000 in
theorem wd_119 : Cond.fieldLink "LearnLoans$People" 30 "LearnLoans$People" "secondKnown" "[I" ∈ am_ws := am_wt1 (List.mem_of_getElem? (i := 62) (by rfl)) (by decide +kernel)
set_option maxRecDepth 100000 in
theorem wd_117 : Cond.fieldLink "LearnLoans$People" 27 "LearnLoans$People" "second" "[I" ∈ am_ws := am_wt1 (List.mem_of_getElem? (i := 60) (by rfl)) (by decide +kernel)
set_option maxRecDepth 100000 in
theorem wd_115 : Cond.fieldLink "LearnLoans$People" 24 "LearnLoans$People" "firstKnown" "[I" ∈ am_ws := am_wt1 (List.mem_of_getElem? (i := 58) (by rfl)) (by decide +kernel)
def rwX2_earned : List dz_r := [(0, .iload_n 1, 1), (1, .bipush 40, 2), (3, .imul, 1), (4, .iload_n 2, 1), (5, .iadd, 1), (6, .istore 4, 2), (8, .iload 4, 2), (10, .ifCond .lt 13, 3), (13, .iload 4, 2), (15, .aload_n 0, 1), (16, .getfield 21, 3), (19, .arraylength, 1), (20, .if_icmp .lt 5, 3), (23, .iconst (-1), 1), (24, .ireturn, 1), (25, .aload_n 0, 1), (26, .getfield 30, 3), (29, .iload 4, 2), (31, .iaload, 1), (32, .iconst (-1), 1), (33, .if_icmp .eq 22, 3), (36, .aload_n 0, 1), (37, .getfield 30, 3), (40, .iload 4, 2), (42, .iaload, 1), (43, .iload_n 3, 1), (44, .if_icmp .gt 11, 3), (47, .aload_n 0, 1), (48, .getfield 27, 3), (51, .iload 4, 2), (53, .iaload, 1), (54, .ireturn, 1), (55, .aload_n 0, 1), (56, .getfield 24, 3), (59, .iload 4, 2), (61, .iaload, 1), (62, .iconst (-1), 1), (63, .if_icmp .eq 24, 3), (66, .aload_n 0, 1), (67, .getfield 24, 3), (70, .iload 4, 2), (72, .iaload, 1), (73, .iload_n 3, 1), (74, .if_icmp .gt 13, 3), (77, .aload_n 0, 1), (78, .getfield 21, 3), (81, .iload 4, 2), (83, .iaload, 1), (84, .goto 4, 3), (87, .iconst (-1), 1), (88, .ireturn, 1)]
theorem dzX2_earned : dz cX2_earned rwX2_earned := dz_all 0 (by decide +kernel)
def kX2_earned (live : am_E) (Ret : am_R) : am_code := [(0, am_iload 1 1), (1, am_const (.int 40) 3), (3, am_i2 (fun x y => x * y) 4), (4, am_iload 2 5), (5, am_i2 (fun x y => x + y) 6), (6, am_istore 4 5 8), (8, am_iload 4 10), (10, am_if1 (fun x => x < 0) 23 13), (13, am_iload 4 15), (15, am_aload 0 16), (16, am_getR live 2 3 19), (19, am_alen live 0 20), (20, am_if2 (fun x y => x < y) 25 23), (23, am_const (.int (-1)) 24), (24, am_retI Ret), (25, am_aload 0 26), (26, am_getR live 2 6 29), (29, am_iload 4 31), (31, am_ald live 0 32), (32, am_const (.int (-1)) 33), (33, am_if2 (fun x y => x = y) 55 36), (36, am_aload 0 37), (37, am_getR live 2 6 40), (40, am_iload 4 42), (42, am_ald live 0 43), (43, am_iload 3 44), (44, am_if2 (fun x y => y < x) 55 47), (47, am_aload 0 48), (48, am_getR live 2 5 51), (51, am_iload 4 53), (53, am_ald live 0 54), (54, am_retI Ret), (55, am_aload 0 56), (56, am_getR live 2 4 59), (59, am_iload 4 61), (61, am_ald live 0 62), (62, am_const (.int (-1)) 63), (63, am_if2 (fun x y => x = y) 87 66), (66, am_aload 0 67), (67, am_getR live 2 4 70), (70, am_iload 4 72), (72, am_ald live 0 73), (73, am_iload 3 74), (74, am_if2 (fun x y => y < x) 87 77), (77, am_aload 0 78), (78, am_getR live 2 3 81), (81, am_iload 4 83), (83, am_ald live 0 84), (84, am_goto 88), (87, am_const (.int (-1)) 88), (88, am_retI Ret)]
theorem koX2_earned (live : am_E) (Ret : am_R) : ∀ q ∈ kX2_earned live Ret, am_ok RX2 cX2_earned 5 (some .int) 0 0 live Ret q.1 q.2 :=
  am_kz dzX2_earned <|
  am_kd (fun d => ak_iload_n d rfl rfl) <|
  am_kd (fun d => ak_bipush d (by decide +kernel) rfl) <|
  am_kd (fun d => ak_imul d rfl) <|
  am_kd (fun d => ak_iload_n d rfl rfl) <|
  am_kd (fun d => ak_iadd d rfl) <|
  am_kd (fun d => ak_istore d rfl) <|
  am_kd (fun d => ak_iload d rfl) <|
  am_kd (fun d => ak_if_lt d (by decide +kernel) rfl) <|
  am_kd (fun d => ak_iload d rfl) <|
  am_kd (fun d => ak_aload_n d rfl rfl) <|
  am_kd (fun d => ak_getR (C := RX2) (T := TX2) (N := 8) rfl inX2w (by decide) rfl rfl rfl wd_113 d rfl) <|
  am_kd (fun d => ak_alen (t := 0) (fun _ => rfl) d rfl) <|
  am_kd (fun d => ak_icmp_lt d (by decide +kernel) rfl) <|
  am_kd (fun d => ak_iconst d (by decide +kernel) rfl) <|
  am_kd (fun d => ak_retI d) <|
  am_kd (fun d => ak_aload_n d rfl rfl) <|
  am_kd (fun d => ak_getR (C := RX2) (T := TX2) (N := 8) rfl inX2w (by decide) rfl rfl rfl wd_119 d rfl) <|
  am_kd (fun d => ak_iload d rfl) <|
  am_kd (fun d => ak_iald (t := 0) (fun _ => rfl) rfl d rfl) <|
  am_kd (fun d => ak_iconst d (by decide +kernel) rfl) <|
  am_kd (fun d => ak_icmp_eq d (by decide +kernel) rfl) <|
  am_kd (fun d => ak_aload_n d rfl rfl) <|
  am_kd (fun d => ak_getR (C := RX2) (T := TX2) (N := 8) rfl inX2w (by decide) rfl rfl rfl wd_119 d rfl) <|
  am_kd (fun d => ak_iload d rfl) <|
  am_kd (fun d => ak_iald (t := 0) (fun _ => rfl) rfl d rfl) <|
  am_kd (fun d => ak_iload_n d rfl rfl) <|
  am_kd (fun d => ak_icmp_gt d (by decide +kernel) rfl) <|
  am_kd (fun d => ak_aload_n d rfl rfl) <|
  am_kd (fun d => ak_getR (C := RX2) (T := TX2) (N := 8) rfl inX2w (by decide) rfl rfl rfl wd_117 d rfl) <|
  am_kd (fun d => ak_iload d rfl) <|
  am_kd (fun d => ak_iald (t := 0) (fun _ => rfl) rfl d rfl) <|
  am_kd (fun d => ak_retI d) <|
  am_kd (fun d => ak_aload_n d rfl rfl) <|
  am_kd (fun d => ak_getR (C := RX2) (T := TX2) (N := 8) rfl inX2w (by decide) rfl rfl rfl wd_115 d rfl) <|
  am_kd (fun d => ak_iload d rfl) <|
  am_kd (fun d => ak_iald (t := 0) (fun _ => rfl) rfl d rfl) <|
  am_kd (fun d => ak_iconst d (by decide +kernel) rfl) <|
  am_kd (fun d => ak_icmp_eq d (by decide +kernel) rfl) <|
  am_kd (fun d => ak_aload_n d rfl rfl) <|
  am_kd (fun d => ak_getR (C := RX2) (T := TX2) (N := 8) rfl inX2w (by decide) rfl rfl rfl wd_115 d rfl) <|
  am_kd (fun d => ak_iload d rfl) <|
  am_kd (fun d => ak_iald (t := 0) (fun _ => rfl) rfl d rfl) <|
  am_kd (fun d => ak_iload_n d rfl rfl) <|
  am_kd (fun d => ak_icmp_gt d (by decide +kernel) rfl) <|
  am_kd (fun d => ak_aload_n d rfl rfl) <|
  am_kd (fun d => ak_getR (C := RX2) (T := TX2) (N := 8) rfl inX2w (by decide) rfl rfl rfl wd_113 d rfl) <|
  am_kd (fun d => ak_iload d rfl) <|
  am_kd (fun d => ak_iald (t := 0) (fun _ => rfl) rfl d rfl) <|
  am_kd (fun d => ak_goto d (by decide +kernel)) <|
  am_kd (fun d => ak_iconst d (by decide +kernel) rfl) <|
  am_kd (fun d => ak_retI d) <| am_kdn
def am_earn (M : am_M) (i k : Int32) : Int32 := if ¬ (0 ≤ i.toInt ∧ i.toInt < 480) then -1 else if M.1 28 i.toNatClampNeg ≠ -1 ∧ M.1 28 i.toNatClampNeg ≤ k then M.1 27 i.toNatClampNeg else if M.1 26 i.toNatClampNeg ≠ -1 ∧ M.1 26 i.toNatClampNeg ≤ k then M.1 25 i.toNatClampNeg else -1
theorem am_earn_no {M : am_M} {i k : Int32} (h : ¬ (0 ≤ i.toInt ∧ i.toInt < 480)) : am_earn M i k = -1 := if_pos h
theorem am_earn_2 {M : am_M} {i k : Int32} (h : 0 ≤ i.toInt ∧ i.toInt < 480) (h2 : ¬ M.1 28 i.toNatClampNeg = -1) (h3 : M.1 28 i.toNatClampNeg ≤ k) : am_earn M i k = M.1 27 i.toNatClampNeg := by
  unfold am_earn
  rw [if_neg (not_not_intro h), if_pos ⟨h2, h3⟩]
theorem am_earn_1 {M : am_M} {i k : Int32} (h : 0 ≤ i.toInt ∧ i.toInt < 480) (h2 : ¬ (M.1 28 i.toNatClampNeg ≠ -1 ∧ M.1 28 i.toNatClampNeg ≤ k)) : am_earn M i k = if M.1 26 i.toNatClampNeg ≠ -1 ∧ M.1 26 i.toNatClampNeg ≤ k then M.1 25 i.toNatClampNeg else -1 := by
  unfold am_earn
  rw [if_neg (not_not_intro h), if_neg h2]
def TX2_earned : am_T := fun live as M R => match as with
  | [.ref n, .int p, .int y, .int k] => am_mn live ∧ n = 21 ∧ R (some (.int (am_earn M (p * 40 + y) k))) M
  | _ => False
set_option maxRecDepth 100000 in
set_option maxHeartbeats 4000000 in
theorem metX2_earned : am_Met yX2_earned cX2_earned 5 (some .int) (0) (0) TX2_earned := by
  refine am_met (own := RX2) (by decide +kernel) rfl kX2_earned koX2_earned 200 (fun _ _ _ _ _ => none) (fun live as M Ret h => ?_) (fun _ _ _ _ _ _ _ _ hI => by cases hI)
  unfold TX2_earned at h
  split at h
  · next n p y k =>
    refine ⟨Nat.le_of_ble_eq_true rfl, ?_⟩
    change am_wp _ _ _ _ [(0, Value.ref n), (1, Value.int p), (2, Value.int y), (3, Value.int k)] _ _
    obtain ⟨⟨i1, i2, rfl⟩, rfl, h⟩ := h
    have hn : (Int32.ofNat (am_len 25)).toInt = 480 := by decide +kernel
    have l25 : am_len 25 = 480 := rfl
    have l26 : am_len 26 = 480 := rfl
    have l27 : am_len 27 = 480 := rfl
    have l28 : am_len 28 = 480 := rfl
    repeat' (first | apply And.intro | exact rfl | intro hx | (refine Exists.intro _ (And.intro rfl ?_)))
    all_goals try first | (with_reducible change am_tI _ _) | (change Ret _ _) | (change Ret _ _ _) | (change Exists _)
    all_goals try dsimp only at *
    all_goals try (with_reducible exact absurd ‹(1000 : Int64) = 0› am_z1000)
    all_goals generalize p * 40 + y = i at *
    all_goals simp only [i_lt, i_le, hn, l25, l26, l27, l28, Int32.toInt_zero] at *
    all_goals first | omega | grind [am_earn, i_le]
  · exact h.elim
set_option maxRecDepth 100000 in
theorem wd_108 : Cond.fieldLink "LearnLoans$People" 15 "LearnLoans$People" "died" "[I" ∈ am_ws := am_wt1 (List.mem_of_getElem? (i := 51) (by rfl)) (by decide +kernel)
def rwX2_isDead : List dz_r := [(0, .aload_n 0, 1), (1, .getfield 15, 3), (4, .iload_n 1, 1), (5, .iaload, 1), (6, .iconst (-1), 1), (7, .if_icmp .eq 17, 3), (10, .aload_n 0, 1), (11, .getfield 15, 3), (14, .iload_n 1, 1), (15, .iaload, 1), (16, .iload_n 2, 1), (17, .if_icmp .gt 7, 3), (20, .iconst 1, 1), (21, .goto 4, 3), (24, .iconst 0, 1), (25, .ireturn, 1)]
theorem dzX2_isDead : dz cX2_isDead rwX2_isDead := dz_all 0 (by decide +kernel)
def kX2_isDead (live : am_E) (Ret : am_R) : am_code := [(0, am_aload 0 1), (1, am_getR live 2 1 4), (4, am_iload 1 5), (5, am_ald live 0 6), (6, am_const (.int (-1)) 7), (7, am_if2 (fun x y => x = y) 24 10), (10, am_aload 0 11), (11, am_getR live 2 1 14), (14, am_iload 1 15), (15, am_ald live 0 16), (16, am_iload 2 17), (17, am_if2 (fun x y => y < x) 24 20), (20, am_const (.int 1) 21), (21, am_goto 25), (24, am_const (.int 0) 25), (25, am_retZ Ret)]
theorem koX2_isDead (live : am_E) (Ret : am_R) : ∀ q ∈ kX2_isDead live Ret, am_ok RX2 cX2_isDead 3 (some .boolean) 0 0 live Ret q.1 q.2 :=
  am_kz dzX2_isDead <|
  am_kd (fun d => ak_aload_n d rfl rfl) <|
  am_kd (fun d => ak_getR (C := RX2) (T := TX2) (N := 8) rfl inX2w (by decide) rfl rfl rfl wd_108 d rfl) <|
  am_kd (fun d => ak_iload_n d rfl rfl) <|
  am_kd (fun d => ak_iald (t := 0) (fun _ => rfl) rfl d rfl) <|
  am_kd (fun d => ak_iconst d (by decide +kernel) rfl) <|
  am_kd (fun d => ak_icmp_eq d (by decide +kernel) rfl) <|
  am_kd (fun d => ak_aload_n d rfl rfl) <|
  am_kd (fun d => ak_getR (C := RX2) (T := TX2) (N := 8) rfl inX2w (by decide) rfl rfl rfl wd_108 d rfl) <|
  am_kd (fun d => ak_iload_n d rfl rfl) <|
  am_kd (fun d => ak_iald (t := 0) (fun _ => rfl) rfl d rfl) <|
  am_kd (fun d => ak_iload_n d rfl rfl) <|
  am_kd (fun d => ak_icmp_gt d (by decide +kernel) rfl) <|
  am_kd (fun d => ak_iconst d (by decide +kernel) rfl) <|
  am_kd (fun d => ak_goto d (by decide +kernel)) <|
  am_kd (fun d => ak_iconst d (by decide +kernel) rfl) <|
  am_kd (fun d => ak_retZ d) <| am_kdn
def TX2_isDead : am_T := fun live as M R => match as with
  | [.ref n, .int p, .int y] => am_mn live ∧ n = 21 ∧ am_in p 12 ∧ R (some (.int (if M.1 23 p.toNatClampNeg ≠ -1 ∧ M.1 23 p.toNatClampNeg ≤ y then 1 else 0))) M
  | _ => False
set_option maxRecDepth 100000 in
set_option maxHeartbeats 4000000 in
theorem metX2_isDead : am_Met yX2_isDead cX2_isDead 3 (some .boolean) (0) (0) TX2_isDead := by
  refine am_met (own := RX2) (by decide +kernel) rfl kX2_isDead koX2_isDead 60 (fun _ _ _ _ _ => none) (fun live as M Ret h => ?_) (fun _ _ _ _ _ _ _ _ hI => by cases hI)
  unfold TX2_isDead at h
  split at h
  · next n p y =>
    refine ⟨Nat.le_of_ble_eq_true rfl, ?_⟩
    change am_wp _ _ _ _ [(0, Value.ref n), (1, Value.int p), (2, Value.int y)] _ _
    obtain ⟨⟨i1, i2, rfl⟩, rfl, hp, h⟩ := h
    have l23 : am_len 23 = 12 := rfl
    repeat' (first | apply And.intro | exact rfl | intro hx | (refine Exists.intro _ (And.intro rfl ?_)))
    all_goals try first | (with_reducible change am_tI _ _) | (change Ret _ _) | (change Ret _ _ _) | (change Exists _)
    all_goals try dsimp only at *
    all_goals try (with_reducible exact absurd ‹(1000 : Int64) = 0› am_z1000)
    all_goals first | (left; rfl) | (right; rfl) | (with_reducible exact hp.1) | (with_reducible exact hp.2) | grind | exact hp.1 | exact hp.2
  · exact h.elim
set_option maxRecDepth 100000 in
theorem wd_261 : Cond.fieldLink "LearnLoans$Letters" 7 "LearnLoans$Letters" "rate" "J" ∈ am_ws := am_wt1 (List.mem_of_getElem? (i := 204) (by rfl)) (by decide +kernel)
set_option maxRecDepth 100000 in
theorem wd_263 : Cond.fieldLink "LearnLoans$Letters" 13 "LearnLoans$Letters" "prices" "J" ∈ am_ws := am_wt1 (List.mem_of_getElem? (i := 206) (by rfl)) (by decide +kernel)
set_option maxRecDepth 100000 in
theorem wd_265 : Cond.fieldLink "LearnLoans$Letters" 16 "LearnLoans$Letters" "earned" "J" ∈ am_ws := am_wt1 (List.mem_of_getElem? (i := 208) (by rfl)) (by decide +kernel)
set_option maxRecDepth 100000 in
theorem wd_267 : Cond.fieldLink "LearnLoans$Letters" 19 "LearnLoans$Letters" "line" "J" ∈ am_ws := am_wt1 (List.mem_of_getElem? (i := 210) (by rfl)) (by decide +kernel)
set_option maxRecDepth 100000 in
theorem wd_269 : Cond.fieldLink "LearnLoans$Letters" 22 "LearnLoans$Letters" "years" "J" ∈ am_ws := am_wt1 (List.mem_of_getElem? (i := 212) (by rfl)) (by decide +kernel)
set_option maxRecDepth 100000 in
theorem wd_271 : Cond.fieldLink "LearnLoans$Letters" 25 "LearnLoans$Letters" "owed" "J" ∈ am_ws := am_wt1 (List.mem_of_getElem? (i := 214) (by rfl)) (by decide +kernel)
set_option maxRecDepth 100000 in
theorem wd_273 : Cond.fieldLink "LearnLoans$Letters" 28 "LearnLoans$Letters" "land" "J" ∈ am_ws := am_wt1 (List.mem_of_getElem? (i := 216) (by rfl)) (by decide +kernel)
theorem dX1_valueOf_0 : decode cX1_valueOf 0 = .ok (.iload_n 1, 1) := by decide +kernel
theorem dX1_valueOf_1 : decode cX1_valueOf 1 = .ok (.lookupswitch 89 #[(101, 69), (108, 74), (111, 84), (112, 64), (114, 59), (121, 79)], 59) := by decide +kernel
theorem dX1_valueOf_60 : decode cX1_valueOf 60 = .ok (.aload_n 0, 1) := by decide +kernel
theorem dX1_valueOf_61 : decode cX1_valueOf 61 = .ok (.getfield 7, 3) := by decide +kernel
theorem dX1_valueOf_64 : decode cX1_valueOf 64 = .ok (.lreturn, 1) := by decide +kernel
theorem dX1_valueOf_65 : decode cX1_valueOf 65 = .ok (.aload_n 0, 1) := by decide +kernel
theorem dX1_valueOf_66 : decode cX1_valueOf 66 = .ok (.getfield 13, 3) := by decide +kernel
theorem dX1_valueOf_69 : decode cX1_valueOf 69 = .ok (.lreturn, 1) := by decide +kernel
theorem dX1_valueOf_70 : decode cX1_valueOf 70 = .ok (.aload_n 0, 1) := by decide +kernel
theorem dX1_valueOf_71 : decode cX1_valueOf 71 = .ok (.getfield 16, 3) := by decide +kernel
theorem dX1_valueOf_74 : decode cX1_valueOf 74 = .ok (.lreturn, 1) := by decide +kernel
theorem dX1_valueOf_75 : decode cX1_valueOf 75 = .ok (.aload_n 0, 1) := by decide +kernel
theorem dX1_valueOf_76 : decode cX1_valueOf 76 = .ok (.getfield 19, 3) := by decide +kernel
theorem dX1_valueOf_79 : decode cX1_valueOf 79 = .ok (.lreturn, 1) := by decide +kernel
theorem dX1_valueOf_80 : decode cX1_valueOf 80 = .ok (.aload_n 0, 1) := by decide +kernel
theorem dX1_valueOf_81 : decode cX1_valueOf 81 = .ok (.getfield 22, 3) := by decide +kernel
theorem dX1_valueOf_84 : decode cX1_valueOf 84 = .ok (.lreturn, 1) := by decide +kernel
theorem dX1_valueOf_85 : decode cX1_valueOf 85 = .ok (.aload_n 0, 1) := by decide +kernel
theorem dX1_valueOf_86 : decode cX1_valueOf 86 = .ok (.getfield 25, 3) := by decide +kernel
theorem dX1_valueOf_89 : decode cX1_valueOf 89 = .ok (.lreturn, 1) := by decide +kernel
theorem dX1_valueOf_90 : decode cX1_valueOf 90 = .ok (.aload_n 0, 1) := by decide +kernel
theorem dX1_valueOf_91 : decode cX1_valueOf 91 = .ok (.getfield 28, 3) := by decide +kernel
theorem dX1_valueOf_94 : decode cX1_valueOf 94 = .ok (.lreturn, 1) := by decide +kernel
def kX1_valueOf (live : am_E) (Ret : am_R) : am_code := [(0, am_iload 1 1), (1, am_switch [(101, 70), (108, 75), (111, 85), (112, 65), (114, 60), (121, 80)] 90), (60, am_aload 0 61), (61, am_getJ live 1 0 64), (64, am_retL Ret), (65, am_aload 0 66), (66, am_getJ live 1 1 69), (69, am_retL Ret), (70, am_aload 0 71), (71, am_getJ live 1 2 74), (74, am_retL Ret), (75, am_aload 0 76), (76, am_getJ live 1 3 79), (79, am_retL Ret), (80, am_aload 0 81), (81, am_getJ live 1 4 84), (84, am_retL Ret), (85, am_aload 0 86), (86, am_getJ live 1 5 89), (89, am_retL Ret), (90, am_aload 0 91), (91, am_getJ live 1 6 94), (94, am_retL Ret)]
theorem koX1_valueOf (live : am_E) (Ret : am_R) : ∀ q ∈ kX1_valueOf live Ret, am_ok RX1 cX1_valueOf 2 (some .long) 0 0 live Ret q.1 q.2 :=
  am_kc (ak_iload_n dX1_valueOf_0 rfl rfl) <|
  am_kc (ak_lswitch dX1_valueOf_1 (by decide +kernel) (by decide +kernel) (by decide +kernel)) <|
  am_kc (ak_aload_n dX1_valueOf_60 rfl rfl) <|
  am_kc (ak_getJ (C := RX1) (T := TX1) (N := 7) rfl inX1w (by decide) rfl rfl rfl wd_261 dX1_valueOf_61 rfl) <|
  am_kc (ak_retL dX1_valueOf_64) <|
  am_kc (ak_aload_n dX1_valueOf_65 rfl rfl) <|
  am_kc (ak_getJ (C := RX1) (T := TX1) (N := 7) rfl inX1w (by decide) rfl rfl rfl wd_263 dX1_valueOf_66 rfl) <|
  am_kc (ak_retL dX1_valueOf_69) <|
  am_kc (ak_aload_n dX1_valueOf_70 rfl rfl) <|
  am_kc (ak_getJ (C := RX1) (T := TX1) (N := 7) rfl inX1w (by decide) rfl rfl rfl wd_265 dX1_valueOf_71 rfl) <|
  am_kc (ak_retL dX1_valueOf_74) <|
  am_kc (ak_aload_n dX1_valueOf_75 rfl rfl) <|
  am_kc (ak_getJ (C := RX1) (T := TX1) (N := 7) rfl inX1w (by decide) rfl rfl rfl wd_267 dX1_valueOf_76 rfl) <|
  am_kc (ak_retL dX1_valueOf_79) <|
  am_kc (ak_aload_n dX1_valueOf_80 rfl rfl) <|
  am_kc (ak_getJ (C := RX1) (T := TX1) (N := 7) rfl inX1w (by decide) rfl rfl rfl wd_269 dX1_valueOf_81 rfl) <|
  am_kc (ak_retL dX1_valueOf_84) <|
  am_kc (ak_aload_n dX1_valueOf_85 rfl rfl) <|
  am_kc (ak_getJ (C := RX1) (T := TX1) (N := 7) rfl inX1w (by decide) rfl rfl rfl wd_271 dX1_valueOf_86 rfl) <|
  am_kc (ak_retL dX1_valueOf_89) <|
  am_kc (ak_aload_n dX1_valueOf_90 rfl rfl) <|
  am_kc (ak_getJ (C := RX1) (T := TX1) (N := 7) rfl inX1w (by decide) rfl rfl rfl wd_273 dX1_valueOf_91 rfl) <|
  am_kc (ak_retL dX1_valueOf_94) <| am_kn
def am_letter (M : am_M) (s : Int32) : Int64 := if s = 114 then M.2 9 0 else if s = 112 then M.2 9 1 else if s = 101 then M.2 9 2 else if s = 108 then M.2 9 3 else if s = 121 then M.2 9 4 else if s = 111 then M.2 9 5 else M.2 9 6
def TX1_valueOf : am_T := fun live as M R => match as with
  | [.ref n, .int s] => am_mn live ∧ n = 9 ∧ R (some (.long (am_letter M s))) M
  | _ => False
set_option maxRecDepth 100000 in
set_option maxHeartbeats 4000000 in
theorem metX1_valueOf : am_Met yX1_valueOf cX1_valueOf 2 (some .long) (0) (0) TX1_valueOf := by
  refine am_met (own := RX1) (by decide +kernel) rfl kX1_valueOf koX1_valueOf 60 (fun _ _ _ _ _ => none) (fun live as M Ret h => ?_) (fun _ _ _ _ _ _ _ _ hI => by cases hI)
  unfold TX1_valueOf at h
  split at h
  · next n s =>
    refine ⟨Nat.le_of_ble_eq_true rfl, ?_⟩
    change am_wp _ _ _ _ [(0, Value.ref n), (1, Value.int s)] _ _
    obtain ⟨⟨i1, i2, rfl⟩, rfl, h⟩ := h
    repeat' (first | apply And.intro | exact rfl | intro hx | (refine Exists.intro _ (And.intro rfl ?_)))
    all_goals try first | (with_reducible change am_tI _ _) | (change Ret _ _) | (change Ret _ _ _) | (change Exists _)
    all_goals try dsimp only at *
    all_goals try (with_reducible exact absurd ‹(1000 : Int64) = 0› am_z1000)
    all_goals grind [am_letter]
  · exact h.elim
set_option maxRecDepth 100000 in
theorem wd_202 : Cond.fieldLink "LearnLoans$House" 30 "LearnLoans$House" "acts" "LLearnLoans$Rows;" ∈ am_ws := am_wt1 (List.mem_of_getElem? (i := 145) (by rfl)) (by decide +kernel)
theorem hy_X3_add : yX3_add.cls ≠ "java/lang/invoke/MethodHandle" ∧ yX3_add.cls ≠ "java/lang/invoke/VarHandle" ∧ (parseMethodDescriptor yX3_add.desc).map (fun d => d.parameters.length) = some 3 := ⟨by decide +kernel, by decide +kernel, by decide +kernel⟩
set_option maxRecDepth 100000 in
theorem wd_480 : Cond.methodLink "LearnLoans$House" 67 yX3_add ∈ am_ws := am_wt2 (List.mem_of_getElem? (i := 183) (by rfl)) (by decide +kernel)
set_option maxRecDepth 100000 in
theorem wd_481 : Cond.instanceMethod yX3_add ∈ am_ws := am_wt2 (List.mem_of_getElem? (i := 184) (by rfl)) (by decide +kernel)
set_option maxRecDepth 100000 in
theorem wd_482 : Cond.selects "LearnLoans$Rows" yX3_add yX3_add ∈ am_ws := am_wt2 (List.mem_of_getElem? (i := 185) (by rfl)) (by decide +kernel)
set_option maxRecDepth 100000 in
theorem wd_483 : Cond.code yX3_add cX3_add 4 (some .int) ∈ am_ws := am_wt2 (List.mem_of_getElem? (i := 186) (by rfl)) (by decide +kernel)
set_option maxRecDepth 100000 in
theorem wd_488 : Cond.methodLink "LearnLoans$House" 71 yX3_put ∈ am_ws := am_wt2 (List.mem_of_getElem? (i := 191) (by rfl)) (by decide +kernel)
def rwX0_addAct : List dz_r := [(0, .aload_n 0, 1), (1, .getfield 30, 3), (4, .iload_n 1, 1), (5, .iload_n 2, 1), (6, .iload_n 3, 1), (7, .invokevirtual 67, 3), (10, .istore 7, 2), (12, .aload_n 0, 1), (13, .getfield 30, 3), (16, .iload 7, 2), (18, .iconst 3, 1), (19, .iload 4, 2), (21, .invokevirtual 71, 3), (24, .aload_n 0, 1), (25, .getfield 30, 3), (28, .iload 7, 2), (30, .iconst 4, 1), (31, .iload 5, 2), (33, .invokevirtual 71, 3), (36, .aload_n 0, 1), (37, .getfield 30, 3), (40, .iload 7, 2), (42, .iconst 5, 1), (43, .iload 6, 2), (45, .invokevirtual 71, 3), (48, .iload 7, 2), (50, .ireturn, 1)]
theorem dzX0_addAct : dz cX0_addAct rwX0_addAct := dz_all 0 (by decide +kernel)
def kX0_addAct (live : am_E) (Ret : am_R) : am_code := [(0, am_aload 0 1), (1, am_getR live 0 3 4), (4, am_iload 1 5), (5, am_iload 2 6), (6, am_iload 3 7), (7, am_callV live 3 3 TX3_add 10), (10, am_istore 7 8 12), (12, am_aload 0 13), (13, am_getR live 0 3 16), (16, am_iload 7 18), (18, am_const (.int 3) 19), (19, am_iload 4 21), (21, am_callV live 3 3 TX3_put 24), (24, am_aload 0 25), (25, am_getR live 0 3 28), (28, am_iload 7 30), (30, am_const (.int 4) 31), (31, am_iload 5 33), (33, am_callV live 3 3 TX3_put 36), (36, am_aload 0 37), (37, am_getR live 0 3 40), (40, am_iload 7 42), (42, am_const (.int 5) 43), (43, am_iload 6 45), (45, am_callV live 3 3 TX3_put 48), (48, am_iload 7 50), (50, am_retI Ret)]
theorem koX0_addAct (live : am_E) (Ret : am_R) : ∀ q ∈ kX0_addAct live Ret, am_ok RX0 cX0_addAct 8 (some .int) 2 47 live Ret q.1 q.2 :=
  am_kz dzX0_addAct <|
  am_kd (fun d => ak_aload_n d rfl rfl) <|
  am_kd (fun d => ak_getR (C := RX0) (T := TX0) (N := 13) rfl inX0w (by decide) rfl rfl rfl wd_202 d rfl) <|
  am_kd (fun d => ak_iload_n d rfl rfl) <|
  am_kd (fun d => ak_iload_n d rfl rfl) <|
  am_kd (fun d => ak_iload_n d rfl rfl) <|
  am_kd (fun d => ak_callV (C := RX3) (F := TX3) (N := 3) metX3_add rfl ⟨rfl, hy_X3_add⟩ (am_w5 wd_480 wd_481 wd_482 wd_64 wd_483) (by decide) d rfl) <|
  am_kd (fun d => ak_istore d rfl) <|
  am_kd (fun d => ak_aload_n d rfl rfl) <|
  am_kd (fun d => ak_getR (C := RX0) (T := TX0) (N := 13) rfl inX0w (by decide) rfl rfl rfl wd_202 d rfl) <|
  am_kd (fun d => ak_iload d rfl) <|
  am_kd (fun d => ak_iconst d (by decide +kernel) rfl) <|
  am_kd (fun d => ak_iload d rfl) <|
  am_kd (fun d => ak_callV (C := RX3) (F := TX3) (N := 3) metX3_put rfl ⟨rfl, hy_X3_put⟩ (am_w5 wd_488 wd_485 wd_486 wd_64 wd_487) (by decide) d rfl) <|
  am_kd (fun d => ak_aload_n d rfl rfl) <|
  am_kd (fun d => ak_getR (C := RX0) (T := TX0) (N := 13) rfl inX0w (by decide) rfl rfl rfl wd_202 d rfl) <|
  am_kd (fun d => ak_iload d rfl) <|
  am_kd (fun d => ak_iconst d (by decide +kernel) rfl) <|
  am_kd (fun d => ak_iload d rfl) <|
  am_kd (fun d => ak_callV (C := RX3) (F := TX3) (N := 3) metX3_put rfl ⟨rfl, hy_X3_put⟩ (am_w5 wd_488 wd_485 wd_486 wd_64 wd_487) (by decide) d rfl) <|
  am_kd (fun d => ak_aload_n d rfl rfl) <|
  am_kd (fun d => ak_getR (C := RX0) (T := TX0) (N := 13) rfl inX0w (by decide) rfl rfl rfl wd_202 d rfl) <|
  am_kd (fun d => ak_iload d rfl) <|
  am_kd (fun d => ak_iconst d (by decide +kernel) rfl) <|
  am_kd (fun d => ak_iload d rfl) <|
  am_kd (fun d => ak_callV (C := RX3) (F := TX3) (N := 3) metX3_put rfl ⟨rfl, hy_X3_put⟩ (am_w5 wd_488 wd_485 wd_486 wd_64 wd_487) (by decide) d rfl) <|
  am_kd (fun d => ak_iload d rfl) <|
  am_kd (fun d => ak_retI d) <| am_kdn
def am_addAct (M : am_M) (p w v f b e : Int32) : am_M := am_rput (am_rput (am_rput (am_radd M 31 32 p w v) 31 32 (M.1 31 2) 3 f) 31 32 (M.1 31 2) 4 b) 31 32 (M.1 31 2) 5 e
def TX0_addAct : am_T := fun live as M R => match as with
  | [.ref n, .int p, .int w, .int v, .int f, .int b, .int e] => am_mn live ∧ n = 20 ∧ R (some (.int (M.1 31 2))) (am_addAct M p w v f b e)
  | _ => False
set_option maxRecDepth 100000 in
set_option maxHeartbeats 4000000 in
theorem metX0_addAct : am_Met yX0_addAct cX0_addAct 8 (some .int) (2) (47) TX0_addAct := by
  refine am_met (own := RX0) (by decide +kernel) rfl kX0_addAct koX0_addAct 120 (fun _ _ _ _ _ => none) (fun live as M Ret h => ?_) (fun _ _ _ _ _ _ _ _ hI => by cases hI)
  unfold TX0_addAct at h
  split at h
  · next n p w v f b e =>
    refine ⟨Nat.le_of_ble_eq_true rfl, ?_⟩
    change am_wp _ _ _ _ [(0, Value.ref n), (1, Value.int p), (2, Value.int w), (3, Value.int v), (4, Value.int f), (5, Value.int b), (6, Value.int e)] _ _
    obtain ⟨⟨i1, i2, rfl⟩, rfl, h⟩ := h
    have e1 : M.1 31 2 + 1 - 1 = M.1 31 2 := by rw [Int32.add_sub_cancel]
    repeat' (first | apply And.intro | exact rfl | intro hx | (refine Exists.intro _ (And.intro rfl ?_)))
    all_goals try first | (with_reducible change am_tI _ _) | (change Ret _ _) | (change Ret _ _ _) | (change Exists _)
    all_goals try dsimp only at *
    all_goals try (with_reducible exact absurd ‹(1000 : Int64) = 0› am_z1000)
    simp only [e1]
    exact h
  · exact h.elim
set_option maxRecDepth 100000 in
theorem wd_205 : Cond.fieldLink "LearnLoans$House" 34 "LearnLoans$House" "loans" "LLearnLoans$Rows;" ∈ am_ws := am_wt1 (List.mem_of_getElem? (i := 148) (by rfl)) (by decide +kernel)
theorem hy_X3_at : yX3_at.cls ≠ "java/lang/invoke/MethodHandle" ∧ yX3_at.cls ≠ "java/lang/invoke/VarHandle" ∧ (parseMethodDescriptor yX3_at.desc).map (fun d => d.parameters.length) = some 2 := ⟨by decide +kernel, by decide +kernel, by decide +kernel⟩
set_option maxRecDepth 100000 in
theorem wd_529 : Cond.methodLink "LearnLoans$House" 75 yX3_at ∈ am_ws := am_wt2 (List.mem_of_getElem? (i := 232) (by rfl)) (by decide +kernel)
set_option maxRecDepth 100000 in
theorem wd_503 : Cond.instanceMethod yX3_at ∈ am_ws := am_wt2 (List.mem_of_getElem? (i := 206) (by rfl)) (by decide +kernel)
set_option maxRecDepth 100000 in
theorem wd_504 : Cond.selects "LearnLoans$Rows" yX3_at yX3_at ∈ am_ws := am_wt2 (List.mem_of_getElem? (i := 207) (by rfl)) (by decide +kernel)
set_option maxRecDepth 100000 in
theorem wd_505 : Cond.code yX3_at cX3_at 4 (some .int) ∈ am_ws := am_wt2 (List.mem_of_getElem? (i := 208) (by rfl)) (by decide +kernel)
set_option maxRecDepth 100000 in
theorem wd_530 : Cond.constantLong "LearnLoans$House" 79 750 ∈ am_ws := am_wt2 (List.mem_of_getElem? (i := 233) (by rfl)) (by decide +kernel)
set_option maxRecDepth 100000 in
theorem wd_531 : Cond.constantLong "LearnLoans$House" 81 1000 ∈ am_ws := am_wt2 (List.mem_of_getElem? (i := 234) (by rfl)) (by decide +kernel)
set_option maxRecDepth 100000 in
theorem wd_532 : Cond.constantLong "LearnLoans$House" 83 500 ∈ am_ws := am_wt2 (List.mem_of_getElem? (i := 235) (by rfl)) (by decide +kernel)
def rwX0_givenBack : List dz_r := [(0, .aload_n 0, 1), (1, .getfield 34, 3), (4, .iload_n 1, 1), (5, .iconst 3, 1), (6, .invokevirtual 75, 3), (9, .i2l, 1), (10, .lstore_n 2, 1), (11, .aload_n 0, 1), (12, .getfield 34, 3), (15, .iload_n 1, 1), (16, .iconst 5, 1), (17, .invokevirtual 75, 3), (20, .aload_n 0, 1), (21, .getfield 34, 3), (24, .iload_n 1, 1), (25, .iconst 2, 1), (26, .invokevirtual 75, 3), (29, .isub, 1), (30, .istore 4, 2), (32, .iload 4, 2), (34, .ifCond .ne 13, 3), (37, .lload_n 2, 1), (38, .ldc2_w 79, 3), (41, .lmul, 1), (42, .ldc2_w 81, 3), (45, .ldiv, 1), (46, .lreturn, 1), (47, .iload 4, 2), (49, .iconst 1, 1), (50, .if_icmp .ne 15, 3), (53, .lload_n 2, 1), (54, .ldc2_w 83, 3), (57, .lmul, 1), (58, .ldc2_w 81, 3), (61, .ldiv, 1), (62, .goto 4, 3), (65, .lconst 0, 1), (66, .lreturn, 1)]
theorem dzX0_givenBack : dz cX0_givenBack rwX0_givenBack := dz_all 0 (by decide +kernel)
def kX0_givenBack (live : am_E) (Ret : am_R) : am_code := [(0, am_aload 0 1), (1, am_getR live 0 4 4), (4, am_iload 1 5), (5, am_const (.int 3) 6), (6, am_callV live 3 2 TX3_at 9), (9, am_i2l 10), (10, am_lstore 2 5 11), (11, am_aload 0 12), (12, am_getR live 0 4 15), (15, am_iload 1 16), (16, am_const (.int 5) 17), (17, am_callV live 3 2 TX3_at 20), (20, am_aload 0 21), (21, am_getR live 0 4 24), (24, am_iload 1 25), (25, am_const (.int 2) 26), (26, am_callV live 3 2 TX3_at 29), (29, am_i2 (fun x y => x - y) 30), (30, am_istore 4 5 32), (32, am_iload 4 34), (34, am_if1 (fun x => x = 0) 37 47), (37, am_lload 2 38), (38, am_const (.long 750) 41), (41, am_l2 (fun x y => x * y) 42), (42, am_const (.long 1000) 45), (45, am_l2z (fun x y => x / y) 46), (46, am_retL Ret), (47, am_iload 4 49), (49, am_const (.int 1) 50), (50, am_if2 (fun x y => x = y) 53 65), (53, am_lload 2 54), (54, am_const (.long 500) 57), (57, am_l2 (fun x y => x * y) 58), (58, am_const (.long 1000) 61), (61, am_l2z (fun x y => x / y) 62), (62, am_goto 66), (65, am_const (.long 0) 66), (66, am_retL Ret)]
theorem koX0_givenBack (live : am_E) (Ret : am_R) : ∀ q ∈ kX0_givenBack live Ret, am_ok RX0 cX0_givenBack 5 (some .long) 1 23 live Ret q.1 q.2 :=
  am_kz dzX0_givenBack <|
  am_kd (fun d => ak_aload_n d rfl rfl) <|
  am_kd (fun d => ak_getR (C := RX0) (T := TX0) (N := 13) rfl inX0w (by decide) rfl rfl rfl wd_205 d rfl) <|
  am_kd (fun d => ak_iload_n d rfl rfl) <|
  am_kd (fun d => ak_iconst d (by decide +kernel) rfl) <|
  am_kd (fun d => ak_callV (C := RX3) (F := TX3) (N := 3) metX3_at rfl ⟨rfl, hy_X3_at⟩ (am_w5 wd_529 wd_503 wd_504 wd_64 wd_505) (by decide) d rfl) <|
  am_kd (fun d => ak_i2l d rfl) <|
  am_kd (fun d => ak_lstore_n d rfl rfl) <|
  am_kd (fun d => ak_aload_n d rfl rfl) <|
  am_kd (fun d => ak_getR (C := RX0) (T := TX0) (N := 13) rfl inX0w (by decide) rfl rfl rfl wd_205 d rfl) <|
  am_kd (fun d => ak_iload_n d rfl rfl) <|
  am_kd (fun d => ak_iconst d (by decide +kernel) rfl) <|
  am_kd (fun d => ak_callV (C := RX3) (F := TX3) (N := 3) metX3_at rfl ⟨rfl, hy_X3_at⟩ (am_w5 wd_529 wd_503 wd_504 wd_64 wd_505) (by decide) d rfl) <|
  am_kd (fun d => ak_aload_n d rfl rfl) <|
  am_kd (fun d => ak_getR (C := RX0) (T := TX0) (N := 13) rfl inX0w (by decide) rfl rfl rfl wd_205 d rfl) <|
  am_kd (fun d => ak_iload_n d rfl rfl) <|
  am_kd (fun d => ak_iconst d (by decide +kernel) rfl) <|
  am_kd (fun d => ak_callV (C := RX3) (F := TX3) (N := 3) metX3_at rfl ⟨rfl, hy_X3_at⟩ (am_w5 wd_529 wd_503 wd_504 wd_64 wd_505) (by decide) d rfl) <|
  am_kd (fun d => ak_isub d rfl) <|
  am_kd (fun d => ak_istore d rfl) <|
  am_kd (fun d => ak_iload d rfl) <|
  am_kd (fun d => ak_if_ne d (by decide +kernel) rfl) <|
  am_kd (fun d => ak_lload_n d rfl rfl) <|
  am_kd (fun d => ak_ldc2 wd_530 d rfl) <|
  am_kd (fun d => ak_lmul d rfl) <|
  am_kd (fun d => ak_ldc2 wd_531 d rfl) <|
  am_kd (fun d => ak_ldiv d rfl) <|
  am_kd (fun d => ak_retL d) <|
  am_kd (fun d => ak_iload d rfl) <|
  am_kd (fun d => ak_iconst d (by decide +kernel) rfl) <|
  am_kd (fun d => ak_icmp_ne d (by decide +kernel) rfl) <|
  am_kd (fun d => ak_lload_n d rfl rfl) <|
  am_kd (fun d => ak_ldc2 wd_532 d rfl) <|
  am_kd (fun d => ak_lmul d rfl) <|
  am_kd (fun d => ak_ldc2 wd_531 d rfl) <|
  am_kd (fun d => ak_ldiv d rfl) <|
  am_kd (fun d => ak_goto d (by decide +kernel)) <|
  am_kd (fun d => ak_lconst d (by decide +kernel) rfl) <|
  am_kd (fun d => ak_retL d) <| am_kdn
def am_sumGiven (s d : Int32) : Int64 := if d = 0 then s.toInt64 * 750 / 1000 else if d = 1 then s.toInt64 * 500 / 1000 else 0
def am_loanAt (M : am_M) (l k : Int32) : Int32 := am_at (M.1 34) 240 (l * M.1 33 1 + k)
def TX0_givenBack : am_T := fun live as M R => match as with
  | [.ref n, .int l] => am_mn live ∧ n = 20 ∧ R (some (.long (am_sumGiven (am_loanAt M l 3) (am_loanAt M l 5 - am_loanAt M l 2)))) M
  | _ => False
set_option maxRecDepth 100000 in
set_option maxHeartbeats 4000000 in
theorem metX0_givenBack : am_Met yX0_givenBack cX0_givenBack 5 (some .long) (1) (23) TX0_givenBack := by
  refine am_met (own := RX0) (by decide +kernel) rfl kX0_givenBack koX0_givenBack 120 (fun _ _ _ _ _ => none) (fun live as M Ret h => ?_) (fun _ _ _ _ _ _ _ _ hI => by cases hI)
  unfold TX0_givenBack at h
  split at h
  · next n l =>
    refine ⟨Nat.le_of_ble_eq_true rfl, ?_⟩
    change am_wp _ _ _ _ [(0, Value.ref n), (1, Value.int l)] _ _
    obtain ⟨⟨i1, i2, rfl⟩, rfl, h⟩ := h
    have l34 : am_len 34 = 240 := rfl
    repeat' (first | apply And.intro | exact rfl | intro hx | (refine Exists.intro _ (And.intro rfl ?_)))
    all_goals try first | (with_reducible change am_tI _ _) | (change Ret _ _) | (change Ret _ _ _) | (change Exists _)
    all_goals try dsimp only at *
    all_goals try (with_reducible exact absurd ‹(1000 : Int64) = 0› am_z1000)
    all_goals
      simp only [am_sumGiven, am_loanAt, l34] at *
      simp_all
  · exact h.elim
set_option maxRecDepth 100000 in
theorem wd_216 : Cond.fieldLink "LearnLoans$House" 49 "LearnLoans$House" "promises" "LLearnLoans$Rows;" ∈ am_ws := am_wt1 (List.mem_of_getElem? (i := 159) (by rfl)) (by decide +kernel)
set_option maxRecDepth 100000 in
theorem wd_151 : Cond.fieldLink "LearnLoans$House" 85 "LearnLoans$Rows" "size" "I" ∈ am_ws := am_wt1 (List.mem_of_getElem? (i := 94) (by rfl)) (by decide +kernel)
def rwX0_promised : List dz_r := [(0, .lconst 0, 1), (1, .lstore_n 3, 1), (2, .iconst 0, 1), (3, .istore 5, 2), (5, .iload 5, 2), (7, .aload_n 0, 1), (8, .getfield 49, 3), (11, .getfield 85, 3), (14, .if_icmp .ge 51, 3), (17, .aload_n 0, 1), (18, .getfield 49, 3), (21, .iload 5, 2), (23, .iconst 0, 1), (24, .invokevirtual 75, 3), (27, .iload_n 1, 1), (28, .if_icmp .ne 31, 3), (31, .aload_n 0, 1), (32, .getfield 49, 3), (35, .iload 5, 2), (37, .iconst 1, 1), (38, .invokevirtual 75, 3), (41, .iload_n 2, 1), (42, .if_icmp .gt 17, 3), (45, .lload_n 3, 1), (46, .aload_n 0, 1), (47, .getfield 49, 3), (50, .iload 5, 2), (52, .iconst 2, 1), (53, .invokevirtual 75, 3), (56, .i2l, 1), (57, .ladd, 1), (58, .lstore_n 3, 1), (59, .iinc 5 1, 3), (62, .goto (-57), 3), (65, .lload_n 3, 1), (66, .lreturn, 1)]
theorem dzX0_promised : dz cX0_promised rwX0_promised := dz_all 0 (by decide +kernel)
def kX0_promised (live : am_E) (Ret : am_R) : am_code := [(0, am_const (.long 0) 1), (1, am_lstore 3 6 2), (2, am_const (.int 0) 3), (3, am_istore 5 6 5), (5, am_iload 5 7), (7, am_aload 0 8), (8, am_getR live 0 8 11), (11, am_getI live 3 2 14), (14, am_if2 (fun x y => y ≤ x) 65 17), (17, am_aload 0 18), (18, am_getR live 0 8 21), (21, am_iload 5 23), (23, am_const (.int 0) 24), (24, am_callV live 3 2 TX3_at 27), (27, am_iload 1 28), (28, am_if2 (fun x y => x = y) 31 59), (31, am_aload 0 32), (32, am_getR live 0 8 35), (35, am_iload 5 37), (37, am_const (.int 1) 38), (38, am_callV live 3 2 TX3_at 41), (41, am_iload 2 42), (42, am_if2 (fun x y => y < x) 59 45), (45, am_lload 3 46), (46, am_aload 0 47), (47, am_getR live 0 8 50), (50, am_iload 5 52), (52, am_const (.int 2) 53), (53, am_callV live 3 2 TX3_at 56), (56, am_i2l 57), (57, am_l2 (fun x y => x + y) 58), (58, am_lstore 3 6 59), (59, am_iinc 5 6 1 62), (62, am_goto 5), (65, am_lload 3 66), (66, am_retL Ret)]
theorem koX0_promised (live : am_E) (Ret : am_R) : ∀ q ∈ kX0_promised live Ret, am_ok RX0 cX0_promised 6 (some .long) 1 23 live Ret q.1 q.2 :=
  am_kz dzX0_promised <|
  am_kd (fun d => ak_lconst d (by decide +kernel) rfl) <|
  am_kd (fun d => ak_lstore_n d rfl rfl) <|
  am_kd (fun d => ak_iconst d (by decide +kernel) rfl) <|
  am_kd (fun d => ak_istore d rfl) <|
  am_kd (fun d => ak_iload d rfl) <|
  am_kd (fun d => ak_aload_n d rfl rfl) <|
  am_kd (fun d => ak_getR (C := RX0) (T := TX0) (N := 13) rfl inX0w (by decide) rfl rfl rfl wd_216 d rfl) <|
  am_kd (fun d => ak_getI (C := RX3) (T := TX3) (N := 3) rfl inX3w (by decide) rfl rfl rfl wd_151 d rfl) <|
  am_kd (fun d => ak_icmp_ge d (by decide +kernel) rfl) <|
  am_kd (fun d => ak_aload_n d rfl rfl) <|
  am_kd (fun d => ak_getR (C := RX0) (T := TX0) (N := 13) rfl inX0w (by decide) rfl rfl rfl wd_216 d rfl) <|
  am_kd (fun d => ak_iload d rfl) <|
  am_kd (fun d => ak_iconst d (by decide +kernel) rfl) <|
  am_kd (fun d => ak_callV (C := RX3) (F := TX3) (N := 3) metX3_at rfl ⟨rfl, hy_X3_at⟩ (am_w5 wd_529 wd_503 wd_504 wd_64 wd_505) (by decide) d rfl) <|
  am_kd (fun d => ak_iload_n d rfl rfl) <|
  am_kd (fun d => ak_icmp_ne d (by decide +kernel) rfl) <|
  am_kd (fun d => ak_aload_n d rfl rfl) <|
  am_kd (fun d => ak_getR (C := RX0) (T := TX0) (N := 13) rfl inX0w (by decide) rfl rfl rfl wd_216 d rfl) <|
  am_kd (fun d => ak_iload d rfl) <|
  am_kd (fun d => ak_iconst d (by decide +kernel) rfl) <|
  am_kd (fun d => ak_callV (C := RX3) (F := TX3) (N := 3) metX3_at rfl ⟨rfl, hy_X3_at⟩ (am_w5 wd_529 wd_503 wd_504 wd_64 wd_505) (by decide) d rfl) <|
  am_kd (fun d => ak_iload_n d rfl rfl) <|
  am_kd (fun d => ak_icmp_gt d (by decide +kernel) rfl) <|
  am_kd (fun d => ak_lload_n d rfl rfl) <|
  am_kd (fun d => ak_aload_n d rfl rfl) <|
  am_kd (fun d => ak_getR (C := RX0) (T := TX0) (N := 13) rfl inX0w (by decide) rfl rfl rfl wd_216 d rfl) <|
  am_kd (fun d => ak_iload d rfl) <|
  am_kd (fun d => ak_iconst d (by decide +kernel) rfl) <|
  am_kd (fun d => ak_callV (C := RX3) (F := TX3) (N := 3) metX3_at rfl ⟨rfl, hy_X3_at⟩ (am_w5 wd_529 wd_503 wd_504 wd_64 wd_505) (by decide) d rfl) <|
  am_kd (fun d => ak_i2l d rfl) <|
  am_kd (fun d => ak_ladd d rfl) <|
  am_kd (fun d => ak_lstore_n d rfl rfl) <|
  am_kd (fun d => ak_iinc d (by decide +kernel) rfl) <|
  am_kd (fun d => ak_goto d (by decide +kernel)) <|
  am_kd (fun d => ak_lload_n d rfl rfl) <|
  am_kd (fun d => ak_retL d) <| am_kdn
def TX0_promised : am_T := fun live as M R => match as with
  | [.ref n, .int b, .int y] => am_mn live ∧ n = 20 ∧ (M.1 54 2).toInt ≤ 100000 ∧ ∀ v, R (some (.long v)) M
  | _ => False
def JX0_promised : am_E → List Value → am_M → am_R → am_inv := fun live as M0 _ pc => match as with
  | [.ref n, .int b, .int y] => (match pc with
    | 5 => some ([0, 1, 2, 3, 5], fun k L st M => ∃ (v : Int64) (i : Int32), L = [(0, .ref n), (1, .int b), (2, .int y), (3, .long v), (5, .int i)] ∧ st = [] ∧ k = ((100001 - i.toInt).toNat, 0) ∧ 0 ≤ i.toInt ∧ M = M0)
    | _ => none)
  | _ => none
set_option maxRecDepth 100000 in
set_option maxHeartbeats 4000000 in
theorem metX0_promised : am_Met yX0_promised cX0_promised 6 (some .long) (1) (23) TX0_promised := by
  refine am_met (own := RX0) (by decide +kernel) rfl kX0_promised koX0_promised 60 JX0_promised ?_ ?_
  · intro live as M Ret h
    unfold TX0_promised at h
    split at h
    · next n b y =>
      refine ⟨Nat.le_of_ble_eq_true rfl, ?_⟩
      change am_wp _ _ _ _ [(0, Value.ref n), (1, Value.int b), (2, Value.int y)] _ _
      obtain ⟨⟨i1, i2, rfl⟩, rfl, hs, h⟩ := h
      repeat' (first | apply And.intro | exact rfl | intro hx | (refine Exists.intro _ (And.intro rfl ?_)))
      all_goals try first | (with_reducible change am_tI _ _) | (change Ret _ _) | (change Ret _ _ _) | (change Exists _)
      all_goals try dsimp only at *
      all_goals try (with_reducible exact absurd ‹(1000 : Int64) = 0› am_z1000)
      exact ⟨_, _, _, rfl, rfl, rfl, by decide, rfl⟩
    · exact h.elim
  · intro live as M0 Ret h k pc I hI L st M hi
    unfold TX0_promised at h
    split at h
    · next n b y =>
      obtain ⟨⟨i1, i2, rfl⟩, rfl, hs, h⟩ := h
      change (match pc with | 5 => _ | _ => none) = _ at hI
      split at hI
      · cases hI
        obtain ⟨v, i, rfl, rfl, rfl, e1, rfl⟩ := hi
        repeat' (first | apply And.intro | exact rfl | intro hx | (refine Exists.intro _ (And.intro rfl ?_)))
        all_goals try first | (with_reducible change am_tI _ _) | (change Ret _ _) | (change Ret _ _ _) | (change Exists _)
        all_goals try dsimp only at *
        all_goals try (with_reducible exact absurd ‹(1000 : Int64) = 0› am_z1000)
        all_goals try exact h _
        all_goals
          refine ⟨_, Or.inl ?_, _, i + 1, rfl, rfl, rfl, ?_, rfl⟩
          all_goals simp only [i_lt, i_le] at *
          all_goals
            have hi := i_add (x := i) (y := 1) (by simp only [Int32.reduceToInt]; omega) (by simp only [Int32.reduceToInt]; omega)
            simp only [Int32.reduceToInt] at hi
            omega
      · cases hI
    · exact h.elim
