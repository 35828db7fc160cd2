/-! the class: whether a person, a loan; a stretch laid; which is nearer -/
set_option maxRecDepth 100000 in
theorem wd_390 : Cond.fieldLink "LearnLoans" 27 "LearnLoans" "house" "LLearnLoans$House;" ∈ am_ws := am_wsi (List.mem_of_getElem? (i := 390) (by rfl)) (by decide +kernel)
set_option maxRecDepth 100000 in
theorem wd_194 : Cond.fieldLink "LearnLoans" 38 "LearnLoans$House" "people" "LLearnLoans$People;" ∈ am_ws := am_wsi (List.mem_of_getElem? (i := 194) (by rfl)) (by decide +kernel)
set_option maxRecDepth 100000 in
theorem wd_121 : Cond.fieldLink "LearnLoans" 42 "LearnLoans$People" "size" "I" ∈ am_ws := am_wsi (List.mem_of_getElem? (i := 121) (by rfl)) (by decide +kernel)
theorem dX7_isPerson_0 : decode cX7_isPerson 0 = .ok (.iload_n 1, 1) := by decide +kernel
theorem dX7_isPerson_1 : decode cX7_isPerson 1 = .ok (.ifCond .lt 21, 3) := by decide +kernel
theorem dX7_isPerson_4 : decode cX7_isPerson 4 = .ok (.iload_n 1, 1) := by decide +kernel
theorem dX7_isPerson_5 : decode cX7_isPerson 5 = .ok (.aload_n 0, 1) := by decide +kernel
theorem dX7_isPerson_6 : decode cX7_isPerson 6 = .ok (.getfield 27, 3) := by decide +kernel
theorem dX7_isPerson_9 : decode cX7_isPerson 9 = .ok (.getfield 38, 3) := by decide +kernel
theorem dX7_isPerson_12 : decode cX7_isPerson 12 = .ok (.getfield 42, 3) := by decide +kernel
theorem dX7_isPerson_15 : decode cX7_isPerson 15 = .ok (.if_icmp .ge 7, 3) := by decide +kernel
theorem dX7_isPerson_18 : decode cX7_isPerson 18 = .ok (.iconst 1, 1) := by decide +kernel
theorem dX7_isPerson_19 : decode cX7_isPerson 19 = .ok (.goto 4, 3) := by decide +kernel
theorem dX7_isPerson_22 : decode cX7_isPerson 22 = .ok (.iconst 0, 1) := by decide +kernel
theorem dX7_isPerson_23 : decode cX7_isPerson 23 = .ok (.ireturn, 1) := by decide +kernel
def kX7_isPerson (live : am_E) (Ret : am_R) : am_code := [(0, am_iload 1 1), (1, am_if1 (fun x => x < 0) 22 4), (4, am_iload 1 5), (5, am_aload 0 6), (6, am_getR live 7 0 9), (9, am_getR live 0 0 12), (12, am_getI live 2 7 15), (15, am_if2 (fun x y => y ≤ x) 22 18), (18, am_const (.int 1) 19), (19, am_goto 23), (22, am_const (.int 0) 23), (23, am_retZ Ret)]
theorem koX7_isPerson (live : am_E) (Ret : am_R) : ∀ q ∈ kX7_isPerson live Ret, am_ok RX7 cX7_isPerson 2 (some .boolean) 0 0 live Ret q.1 q.2 :=
  am_kc (ak_iload_n dX7_isPerson_0 rfl rfl) <|
  am_kc (ak_if_lt dX7_isPerson_1 (by decide +kernel) rfl) <|
  am_kc (ak_iload_n dX7_isPerson_4 rfl rfl) <|
  am_kc (ak_aload_n dX7_isPerson_5 rfl rfl) <|
  am_kc (ak_getR (C := RX7) (T := TX7) (N := 4) rfl inX7w (by decide) rfl rfl rfl wd_390 dX7_isPerson_6 rfl) <|
  am_kc (ak_getR (C := RX0) (T := TX0) (N := 13) rfl inX0w (by decide) rfl rfl rfl wd_194 dX7_isPerson_9 rfl) <|
  am_kc (ak_getI (C := RX2) (T := TX2) (N := 8) rfl inX2w (by decide) rfl rfl rfl wd_121 dX7_isPerson_12 rfl) <|
  am_kc (ak_icmp_ge dX7_isPerson_15 (by decide +kernel) rfl) <|
  am_kc (ak_iconst dX7_isPerson_18 (by decide +kernel) rfl) <|
  am_kc (ak_goto dX7_isPerson_19 (by decide +kernel)) <|
  am_kc (ak_iconst dX7_isPerson_22 (by decide +kernel) rfl) <|
  am_kc (ak_retZ dX7_isPerson_23) <| am_kn
def TX7_isPerson : am_T := fun live as M R => match as with
  | [.ref n, .int v] => am_mn live ∧ n = 0 ∧ R (some (.int (if 0 ≤ v ∧ v < M.1 21 7 then 1 else 0))) M
  | _ => False
set_option maxRecDepth 100000 in
set_option maxHeartbeats 4000000 in
theorem metX7_isPerson : am_Met yX7_isPerson cX7_isPerson 2 (some .boolean) (0) (0) TX7_isPerson := by
  refine am_met (own := RX7) (by decide +kernel) rfl kX7_isPerson koX7_isPerson 60 (fun _ _ _ _ _ => none) (fun live as M Ret h => ?_) (fun _ _ _ _ _ _ _ _ hI => by cases hI)
  unfold TX7_isPerson at h
  split at h
  · next n v =>
    refine ⟨Nat.le_of_ble_eq_true rfl, ?_⟩
    change am_wp _ _ _ _ [(0, Value.ref n), (1, Value.int v)] _ _
    obtain ⟨⟨i1, i2, rfl⟩, rfl, h⟩ := h
    repeat' (first | apply And.intro | exact rfl | intro hx | (refine Exists.intro _ (And.intro rfl ?_)))
    all_goals try first | (with_reducible change am_tI _ _) | (change Ret _ _) | (change Ret _ _ _) | (change Exists _)
    all_goals try dsimp only at *
    all_goals try exact absurd ‹(1000 : Int64) = 0› (by decide)
    all_goals first | (left; rfl) | (right; rfl) | grind
  · exact h.elim
set_option maxRecDepth 100000 in
theorem wd_207 : Cond.fieldLink "LearnLoans" 122 "LearnLoans$House" "loans" "LLearnLoans$Rows;" ∈ am_ws := am_wsi (List.mem_of_getElem? (i := 207) (by rfl)) (by decide +kernel)
set_option maxRecDepth 100000 in
theorem wd_152 : Cond.fieldLink "LearnLoans" 108 "LearnLoans$Rows" "size" "I" ∈ am_ws := am_wsi (List.mem_of_getElem? (i := 152) (by rfl)) (by decide +kernel)
theorem dX7_isLoan_0 : decode cX7_isLoan 0 = .ok (.iload_n 1, 1) := by decide +kernel
theorem dX7_isLoan_1 : decode cX7_isLoan 1 = .ok (.ifCond .lt 21, 3) := by decide +kernel
theorem dX7_isLoan_4 : decode cX7_isLoan 4 = .ok (.iload_n 1, 1) := by decide +kernel
theorem dX7_isLoan_5 : decode cX7_isLoan 5 = .ok (.aload_n 0, 1) := by decide +kernel
theorem dX7_isLoan_6 : decode cX7_isLoan 6 = .ok (.getfield 27, 3) := by decide +kernel
theorem dX7_isLoan_9 : decode cX7_isLoan 9 = .ok (.getfield 122, 3) := by decide +kernel
theorem dX7_isLoan_12 : decode cX7_isLoan 12 = .ok (.getfield 108, 3) := by decide +kernel
theorem dX7_isLoan_15 : decode cX7_isLoan 15 = .ok (.if_icmp .ge 7, 3) := by decide +kernel
theorem dX7_isLoan_18 : decode cX7_isLoan 18 = .ok (.iconst 1, 1) := by decide +kernel
theorem dX7_isLoan_19 : decode cX7_isLoan 19 = .ok (.goto 4, 3) := by decide +kernel
theorem dX7_isLoan_22 : decode cX7_isLoan 22 = .ok (.iconst 0, 1) := by decide +kernel
theorem dX7_isLoan_23 : decode cX7_isLoan 23 = .ok (.ireturn, 1) := by decide +kernel
def kX7_isLoan (live : am_E) (Ret : am_R) : am_code := [(0, am_iload 1 1), (1, am_if1 (fun x => x < 0) 22 4), (4, am_iload 1 5), (5, am_aload 0 6), (6, am_getR live 7 0 9), (9, am_getR live 0 4 12), (12, am_getI live 3 2 15), (15, am_if2 (fun x y => y ≤ x) 22 18), (18, am_const (.int 1) 19), (19, am_goto 23), (22, am_const (.int 0) 23), (23, am_retZ Ret)]
theorem koX7_isLoan (live : am_E) (Ret : am_R) : ∀ q ∈ kX7_isLoan live Ret, am_ok RX7 cX7_isLoan 2 (some .boolean) 0 0 live Ret q.1 q.2 :=
  am_kc (ak_iload_n dX7_isLoan_0 rfl rfl) <|
  am_kc (ak_if_lt dX7_isLoan_1 (by decide +kernel) rfl) <|
  am_kc (ak_iload_n dX7_isLoan_4 rfl rfl) <|
  am_kc (ak_aload_n dX7_isLoan_5 rfl rfl) <|
  am_kc (ak_getR (C := RX7) (T := TX7) (N := 4) rfl inX7w (by decide) rfl rfl rfl wd_390 dX7_isLoan_6 rfl) <|
  am_kc (ak_getR (C := RX0) (T := TX0) (N := 13) rfl inX0w (by decide) rfl rfl rfl wd_207 dX7_isLoan_9 rfl) <|
  am_kc (ak_getI (C := RX3) (T := TX3) (N := 3) rfl inX3w (by decide) rfl rfl rfl wd_152 dX7_isLoan_12 rfl) <|
  am_kc (ak_icmp_ge dX7_isLoan_15 (by decide +kernel) rfl) <|
  am_kc (ak_iconst dX7_isLoan_18 (by decide +kernel) rfl) <|
  am_kc (ak_goto dX7_isLoan_19 (by decide +kernel)) <|
  am_kc (ak_iconst dX7_isLoan_22 (by decide +kernel) rfl) <|
  am_kc (ak_retZ dX7_isLoan_23) <| am_kn
def TX7_isLoan : am_T := fun live as M R => match as with
  | [.ref n, .int v] => am_mn live ∧ n = 0 ∧ R (some (.int (if 0 ≤ v ∧ v < M.1 33 2 then 1 else 0))) M
  | _ => False
set_option maxRecDepth 100000 in
set_option maxHeartbeats 4000000 in
theorem metX7_isLoan : am_Met yX7_isLoan cX7_isLoan 2 (some .boolean) (0) (0) TX7_isLoan := by
  refine am_met (own := RX7) (by decide +kernel) rfl kX7_isLoan koX7_isLoan 60 (fun _ _ _ _ _ => none) (fun live as M Ret h => ?_) (fun _ _ _ _ _ _ _ _ hI => by cases hI)
  unfold TX7_isLoan at h
  split at h
  · next n v =>
    refine ⟨Nat.le_of_ble_eq_true rfl, ?_⟩
    change am_wp _ _ _ _ [(0, Value.ref n), (1, Value.int v)] _ _
    obtain ⟨⟨i1, i2, rfl⟩, rfl, h⟩ := h
    repeat' (first | apply And.intro | exact rfl | intro hx | (refine Exists.intro _ (And.intro rfl ?_)))
    all_goals try first | (with_reducible change am_tI _ _) | (change Ret _ _) | (change Ret _ _ _) | (change Exists _)
    all_goals try dsimp only at *
    all_goals try exact absurd ‹(1000 : Int64) = 0› (by decide)
    all_goals first | (left; rfl) | (right; rfl) | grind
  · exact h.elim
set_option maxRecDepth 100000 in
theorem wd_472 : Cond.fieldLink "LearnLoans" 276 "LearnLoans" "LEAST" "[I" ∈ am_ws := am_wsi (List.mem_of_getElem? (i := 472) (by rfl)) (by decide +kernel)
set_option maxRecDepth 100000 in
theorem wd_474 : Cond.fieldLink "LearnLoans" 279 "LearnLoans" "MOST" "[I" ∈ am_ws := am_wsi (List.mem_of_getElem? (i := 474) (by rfl)) (by decide +kernel)
theorem dX7_isNumber_0 : decode cX7_isNumber 0 = .ok (.iload_n 0, 1) := by decide +kernel
theorem dX7_isNumber_1 : decode cX7_isNumber 1 = .ok (.ifCond .lt 31, 3) := by decide +kernel
theorem dX7_isNumber_4 : decode cX7_isNumber 4 = .ok (.iload_n 0, 1) := by decide +kernel
theorem dX7_isNumber_5 : decode cX7_isNumber 5 = .ok (.bipush 6, 2) := by decide +kernel
theorem dX7_isNumber_7 : decode cX7_isNumber 7 = .ok (.if_icmp .ge 25, 3) := by decide +kernel
theorem dX7_isNumber_10 : decode cX7_isNumber 10 = .ok (.iload_n 1, 1) := by decide +kernel
theorem dX7_isNumber_11 : decode cX7_isNumber 11 = .ok (.getstatic 276, 3) := by decide +kernel
theorem dX7_isNumber_14 : decode cX7_isNumber 14 = .ok (.iload_n 0, 1) := by decide +kernel
theorem dX7_isNumber_15 : decode cX7_isNumber 15 = .ok (.iaload, 1) := by decide +kernel
theorem dX7_isNumber_16 : decode cX7_isNumber 16 = .ok (.if_icmp .lt 16, 3) := by decide +kernel
theorem dX7_isNumber_19 : decode cX7_isNumber 19 = .ok (.iload_n 1, 1) := by decide +kernel
theorem dX7_isNumber_20 : decode cX7_isNumber 20 = .ok (.getstatic 279, 3) := by decide +kernel
theorem dX7_isNumber_23 : decode cX7_isNumber 23 = .ok (.iload_n 0, 1) := by decide +kernel
theorem dX7_isNumber_24 : decode cX7_isNumber 24 = .ok (.iaload, 1) := by decide +kernel
theorem dX7_isNumber_25 : decode cX7_isNumber 25 = .ok (.if_icmp .gt 7, 3) := by decide +kernel
theorem dX7_isNumber_28 : decode cX7_isNumber 28 = .ok (.iconst 1, 1) := by decide +kernel
theorem dX7_isNumber_29 : decode cX7_isNumber 29 = .ok (.goto 4, 3) := by decide +kernel
theorem dX7_isNumber_32 : decode cX7_isNumber 32 = .ok (.iconst 0, 1) := by decide +kernel
theorem dX7_isNumber_33 : decode cX7_isNumber 33 = .ok (.ireturn, 1) := by decide +kernel
def kX7_isNumber (live : am_E) (Ret : am_R) : am_code := [(0, am_iload 0 1), (1, am_if1 (fun x => x < 0) 32 4), (4, am_iload 0 5), (5, am_const (.int 6) 7), (7, am_if2 (fun x y => y ≤ x) 32 10), (10, am_iload 1 11), (11, am_const (.ref 1001) 14), (14, am_iload 0 15), (15, am_sld 1 16), (16, am_if2 (fun x y => x < y) 32 19), (19, am_iload 1 20), (20, am_const (.ref 1002) 23), (23, am_iload 0 24), (24, am_sld 2 25), (25, am_if2 (fun x y => y < x) 32 28), (28, am_const (.int 1) 29), (29, am_goto 33), (32, am_const (.int 0) 33), (33, am_retZ Ret)]
theorem koX7_isNumber (live : am_E) (Ret : am_R) : ∀ q ∈ kX7_isNumber live Ret, am_ok RX7 cX7_isNumber 2 (some .boolean) 0 0 live Ret q.1 q.2 :=
  am_kc (ak_iload_n dX7_isNumber_0 rfl rfl) <|
  am_kc (ak_if_lt dX7_isNumber_1 (by decide +kernel) rfl) <|
  am_kc (ak_iload_n dX7_isNumber_4 rfl rfl) <|
  am_kc (ak_bipush dX7_isNumber_5 (by decide +kernel) rfl) <|
  am_kc (ak_icmp_ge dX7_isNumber_7 (by decide +kernel) rfl) <|
  am_kc (ak_iload_n dX7_isNumber_10 rfl rfl) <|
  am_kc (ak_gets (k := 1) (by decide) rfl wd_472 dX7_isNumber_11 rfl) <|
  am_kc (ak_iload_n dX7_isNumber_14 rfl rfl) <|
  am_kc (ak_sld (by decide) dX7_isNumber_15 rfl) <|
  am_kc (ak_icmp_lt dX7_isNumber_16 (by decide +kernel) rfl) <|
  am_kc (ak_iload_n dX7_isNumber_19 rfl rfl) <|
  am_kc (ak_gets (k := 2) (by decide) rfl wd_474 dX7_isNumber_20 rfl) <|
  am_kc (ak_iload_n dX7_isNumber_23 rfl rfl) <|
  am_kc (ak_sld (by decide) dX7_isNumber_24 rfl) <|
  am_kc (ak_icmp_gt dX7_isNumber_25 (by decide +kernel) rfl) <|
  am_kc (ak_iconst dX7_isNumber_28 (by decide +kernel) rfl) <|
  am_kc (ak_goto dX7_isNumber_29 (by decide +kernel)) <|
  am_kc (ak_iconst dX7_isNumber_32 (by decide +kernel) rfl) <|
  am_kc (ak_retZ dX7_isNumber_33) <| am_kn
def am_isNum (w v : Int32) : Prop := (0 ≤ w ∧ w < 6) ∧ am_sf 1 w.toNatClampNeg ≤ v ∧ v ≤ am_sf 2 w.toNatClampNeg
def TX7_isNumber : am_T := fun live as M R => match as with
  | [.int w, .int v] => (am_isNum w v → R (some (.int 1)) M) ∧ (¬ am_isNum w v → R (some (.int 0)) M)
  | _ => False
set_option maxRecDepth 100000 in
set_option maxHeartbeats 4000000 in
theorem metX7_isNumber : am_Met yX7_isNumber cX7_isNumber 2 (some .boolean) (0) (0) TX7_isNumber := by
  refine am_met (own := RX7) (by decide +kernel) rfl kX7_isNumber koX7_isNumber 60 (fun _ _ _ _ _ => none) (fun live as M Ret h => ?_) (fun _ _ _ _ _ _ _ _ hI => by cases hI)
  unfold TX7_isNumber at h
  split at h
  · next w v =>
    refine ⟨Nat.le_of_ble_eq_true rfl, ?_⟩
    change am_wp _ _ _ _ [(0, Value.int w), (1, Value.int v)] _ _
    repeat' (first | apply And.intro | exact rfl | intro hx | (refine Exists.intro _ (And.intro rfl ?_)))
    all_goals try first | (with_reducible change am_tI _ _) | (change Ret _ _) | (change Ret _ _ _) | (change Exists _)
    all_goals try dsimp only at *
    all_goals try exact absurd ‹(1000 : Int64) = 0› (by decide)
    all_goals first | (left; rfl) | (right; rfl) | skip
    all_goals first | grind [am_isNum] | (simp only [i_lt, i_le, am_sN, Int32.reduceToInt] at *; omega)
  · exact h.elim
set_option maxRecDepth 100000 in
theorem wd_427 : Cond.methodLink "LearnLoans" 282 Lib.Math.max.name ∈ am_ws := am_wsi (List.mem_of_getElem? (i := 427) (by rfl)) (by decide +kernel)
set_option maxRecDepth 100000 in
theorem wd_428 : Cond.static Lib.Math.max.name ∈ am_ws := am_wsi (List.mem_of_getElem? (i := 428) (by rfl)) (by decide +kernel)
set_option maxRecDepth 100000 in
theorem wd_68 : Cond.initialized "java/lang/Math" ∈ am_ws := am_wsi (List.mem_of_getElem? (i := 68) (by rfl)) (by decide +kernel)
set_option maxRecDepth 100000 in
theorem wd_429 : Cond.code Lib.Math.max.name Lib.Math.max.code 2 (some .int) ∈ am_ws := am_wsi (List.mem_of_getElem? (i := 429) (by rfl)) (by decide +kernel)
theorem dX7_lay_0 : decode cX7_lay 0 = .ok (.iload_n 1, 1) := by decide +kernel
theorem dX7_lay_1 : decode cX7_lay 1 = .ok (.iconst 0, 1) := by decide +kernel
theorem dX7_lay_2 : decode cX7_lay 2 = .ok (.invokestatic 282, 3) := by decide +kernel
theorem dX7_lay_5 : decode cX7_lay 5 = .ok (.istore 4, 2) := by decide +kernel
theorem dX7_lay_7 : decode cX7_lay 7 = .ok (.iload 4, 2) := by decide +kernel
theorem dX7_lay_9 : decode cX7_lay 9 = .ok (.iload_n 2, 1) := by decide +kernel
theorem dX7_lay_10 : decode cX7_lay 10 = .ok (.if_icmp .gt 21, 3) := by decide +kernel
theorem dX7_lay_13 : decode cX7_lay 13 = .ok (.iload 4, 2) := by decide +kernel
theorem dX7_lay_15 : decode cX7_lay 15 = .ok (.aload_n 0, 1) := by decide +kernel
theorem dX7_lay_16 : decode cX7_lay 16 = .ok (.arraylength, 1) := by decide +kernel
theorem dX7_lay_17 : decode cX7_lay 17 = .ok (.if_icmp .ge 14, 3) := by decide +kernel
theorem dX7_lay_20 : decode cX7_lay 20 = .ok (.aload_n 0, 1) := by decide +kernel
theorem dX7_lay_21 : decode cX7_lay 21 = .ok (.iload 4, 2) := by decide +kernel
theorem dX7_lay_23 : decode cX7_lay 23 = .ok (.iload_n 3, 1) := by decide +kernel
theorem dX7_lay_24 : decode cX7_lay 24 = .ok (.iastore, 1) := by decide +kernel
theorem dX7_lay_25 : decode cX7_lay 25 = .ok (.iinc 4 1, 3) := by decide +kernel
theorem dX7_lay_28 : decode cX7_lay 28 = .ok (.goto (-21), 3) := by decide +kernel
theorem dX7_lay_31 : decode cX7_lay 31 = .ok (.return_, 1) := by decide +kernel
def kX7_lay (live : am_E) (Ret : am_R) : am_code := [(0, am_iload 1 1), (1, am_const (.int 0) 2), (2, am_math2 (fun x y => if x < y then y else x) 23 5), (5, am_istore 4 5 7), (7, am_iload 4 9), (9, am_iload 2 10), (10, am_if2 (fun x y => y < x) 31 13), (13, am_iload 4 15), (15, am_aload 0 16), (16, am_alen live 0 17), (17, am_if2 (fun x y => y ≤ x) 31 20), (20, am_aload 0 21), (21, am_iload 4 23), (23, am_iload 3 24), (24, am_ast live 0 25), (25, am_iinc 4 5 1 28), (28, am_goto 7), (31, am_retV Ret)]
theorem koX7_lay (live : am_E) (Ret : am_R) : ∀ q ∈ kX7_lay live Ret, am_ok RX7 cX7_lay 5 none 1 23 live Ret q.1 q.2 :=
  am_kc (ak_iload_n dX7_lay_0 rfl rfl) <|
  am_kc (ak_iconst dX7_lay_1 (by decide +kernel) rfl) <|
  am_kc (ak_imax (am_w4 wd_427 wd_428 wd_68 wd_429) (by decide) dX7_lay_2 rfl) <|
  am_kc (ak_istore dX7_lay_5 rfl) <|
  am_kc (ak_iload dX7_lay_7 rfl) <|
  am_kc (ak_iload_n dX7_lay_9 rfl rfl) <|
  am_kc (ak_icmp_gt dX7_lay_10 (by decide +kernel) rfl) <|
  am_kc (ak_iload dX7_lay_13 rfl) <|
  am_kc (ak_aload_n dX7_lay_15 rfl rfl) <|
  am_kc (ak_alen (t := 0) (fun _ => rfl) dX7_lay_16 rfl) <|
  am_kc (ak_icmp_ge dX7_lay_17 (by decide +kernel) rfl) <|
  am_kc (ak_aload_n dX7_lay_20 rfl rfl) <|
  am_kc (ak_iload dX7_lay_21 rfl) <|
  am_kc (ak_iload_n dX7_lay_23 rfl rfl) <|
  am_kc (ak_iast (t := 0) (fun _ => rfl) rfl dX7_lay_24 rfl) <|
  am_kc (ak_iinc dX7_lay_25 (by decide +kernel) rfl) <|
  am_kc (ak_goto dX7_lay_28 (by decide +kernel)) <|
  am_kc (ak_retV dX7_lay_31) <| am_kn
def TX7_lay : am_T := fun live as M R => match as with
  | [.ref c, .int a, .int b, .int v] => am_if (am_isA live 0 c && Nat.blt (am_len c) 100000) (R none (am_lay M c (max a.toInt 0) (min b.toInt ((am_len c : Int) - 1)) v))
  | _ => False
def JX7_lay : am_E → List Value → am_M → am_R → am_inv := fun live as M0 _ pc => match as with
  | [.ref c, .int a, .int b, .int v] => (match pc with
    | 7 => some ([0, 2, 3, 4], fun k L st M => ∃ i : Int32, L = [(0, .ref c), (2, .int b), (3, .int v), (4, .int i)] ∧ st = [] ∧ k = ((am_len c + 1 - i.toInt).toNat, 0) ∧ max a.toInt 0 ≤ i.toInt ∧ (i.toInt = max a.toInt 0 ∨ i.toInt ≤ min b.toInt ((am_len c : Int) - 1) + 1) ∧ M = am_lay M0 c (max a.toInt 0) (i.toInt - 1) v)
    | _ => none)
  | _ => none
set_option maxRecDepth 100000 in
set_option maxHeartbeats 4000000 in
theorem metX7_lay : am_Met yX7_lay cX7_lay 5 none (1) (23) TX7_lay := by
  refine am_met (own := RX7) (by decide +kernel) rfl kX7_lay koX7_lay 60 JX7_lay ?_ ?_
  · intro live as M Ret h
    unfold TX7_lay at h
    split at h
    · next c a b v =>
      refine ⟨Nat.le_of_ble_eq_true rfl, ?_⟩
      change am_wp _ _ _ _ [(0, Value.ref c), (1, Value.int a), (2, Value.int b), (3, Value.int v)] _ _
      have hh := am_if_mp h
      clear h
      obtain ⟨hb, h⟩ := hh
      rw [Bool.and_eq_true] at hb
      obtain ⟨h1, h4⟩ := hb
      have h4 : am_len c < 100000 := Nat.le_of_ble_eq_true h4
      repeat' (first | (with_reducible exact h1) | apply And.intro | exact rfl | intro hx | (refine Exists.intro _ (And.intro rfl ?_)) | ((with_reducible change _ = true); simp only [h1, Bool.true_and]; rfl))
      all_goals try first | (with_reducible change am_tI _ _) | (change Ret _ _) | (change Ret _ _ _) | (change Exists _)
      all_goals try dsimp only at *
      all_goals try exact absurd ‹(1000 : Int64) = 0› (by decide)
      have hlo := i_lo a
      refine ⟨_, _, rfl, rfl, rfl, ?_, Or.inl ?_, (am_lay_nil ?_).symm⟩
      all_goals
        split
        all_goals
          simp only [i_lt, Int32.reduceToInt] at *
          omega
    · exact h.elim
  · intro live as M0 Ret h k pc I hI L st M hi
    unfold TX7_lay at h
    split at h
    · next c a b v =>
      have hh := am_if_mp h
      clear h
      obtain ⟨hb, h⟩ := hh
      rw [Bool.and_eq_true] at hb
      obtain ⟨h1, h4⟩ := hb
      have h4 : am_len c < 100000 := Nat.le_of_ble_eq_true h4
      change (match pc with | 7 => _ | _ => none) = _ at hI
      split at hI
      · cases hI
        obtain ⟨i, rfl, rfl, rfl, e1, e2, rfl⟩ := hi
        have hn : (Int32.ofNat (am_len c)).toInt = (am_len c : Int) := i_nat (by omega)
        repeat' (first | (with_reducible exact h1) | apply And.intro | exact rfl | intro hx | (refine Exists.intro _ (And.intro rfl ?_)) | ((with_reducible change _ = true); simp only [h1, Bool.true_and]; rfl))
        all_goals try first | (with_reducible change am_tI _ _) | (change Ret _ _) | (change Ret _ _ _) | (change Exists _)
        all_goals try dsimp only at *
        all_goals try exact absurd ‹(1000 : Int64) = 0› (by decide)
        rotate_right
        · refine ⟨_, Or.inl ?_, i + 1, rfl, rfl, rfl, ?_, Or.inr ?_, ?_⟩
          all_goals simp only [i_lt, i_le, hn] at *
          all_goals
            have hi := i_add (x := i) (y := 1) (by simp only [Int32.reduceToInt]; omega) (by simp only [Int32.reduceToInt]; omega)
            simp only [Int32.reduceToInt] at hi
          · simp only [hi]; omega
          · omega
          · omega
          · rw [am_lay_put (by omega) (i_clamp (by omega))]
            exact am_lay_eq (fun q => by omega)
        all_goals simp only [i_lt, i_le, hn] at *
        · rw [am_lay_eq (lo' := max a.toInt 0) (hi' := min b.toInt ((am_len c : Int) - 1)) (fun q => by omega)]; exact h
        · rw [am_lay_eq (lo' := max a.toInt 0) (hi' := min b.toInt ((am_len c : Int) - 1)) (fun q => by omega)]; exact h
        · omega
        · omega
      · cases hI
    · exact h.elim
