-- part 10.small.lean.txt
section
/-! small methods of the class -/
def rwX7_within : List dz_r := [(0, .iload_n 0, 1), (1, .iload_n 1, 1), (2, .if_icmp .lt 12, 3), (5, .iload_n 0, 1), (6, .iload_n 2, 1), (7, .if_icmp .gt 7, 3), (10, .iconst 1, 1), (11, .goto 4, 3), (14, .iconst 0, 1), (15, .ireturn, 1)]
theorem dzX7_within : dz cX7_within rwX7_within := dz_all 0 (by decide +kernel)
def kX7_within (live : am_E) (Ret : am_R) : am_code := [(0, am_iload 0 1), (1, am_iload 1 2), (2, am_if2 (fun x y => x < y) 14 5), (5, am_iload 0 6), (6, am_iload 2 7), (7, am_if2 (fun x y => y < x) 14 10), (10, am_const (.int 1) 11), (11, am_goto 15), (14, am_const (.int 0) 15), (15, am_retZ Ret)]
theorem koX7_within (live : am_E) (Ret : am_R) : ∀ q ∈ kX7_within live Ret, am_ok RX7 cX7_within 3 (some .boolean) 0 0 live Ret q.1 q.2 :=
  am_kz dzX7_within <|
  am_kd (fun d => ak_iload_n d rfl rfl) <|
  am_kd (fun d => ak_iload_n d rfl rfl) <|
  am_kd (fun d => ak_icmp_lt d (by decide +kernel) rfl) <|
  am_kd (fun d => ak_iload_n d rfl rfl) <|
  am_kd (fun d => ak_iload_n d rfl rfl) <|
  am_kd (fun d => ak_icmp_gt d (by decide +kernel) rfl) <|
  am_kd (fun d => ak_iconst d (by decide +kernel) rfl) <|
  am_kd (fun d => ak_goto d (by decide +kernel)) <|
  am_kd (fun d => ak_iconst d (by decide +kernel) rfl) <|
  am_kd (fun d => ak_retZ d) <| am_kdn
def TX7_within : am_T := fun _ as M R => match as with
  | [.int v, .int a, .int b] => R (some (.int (if a ≤ v ∧ v ≤ b then 1 else 0))) M
  | _ => False
set_option maxRecDepth 100000 in
set_option maxHeartbeats 4000000 in
theorem metX7_within : am_Met yX7_within cX7_within 3 (some .boolean) (0) (0) TX7_within := by
  refine am_met (own := RX7) (by decide +kernel) rfl kX7_within koX7_within 60 (fun _ _ _ _ _ => none) (fun live as M Ret h => ?_) (fun _ _ _ _ _ _ _ _ hI => by cases hI)
  unfold TX7_within at h
  split at h
  · next v a b =>
    refine ⟨Nat.le_of_ble_eq_true rfl, ?_⟩
    change am_wp _ _ _ _ [(0, Value.int v), (1, Value.int a), (2, Value.int b)] _ _
    repeat' (first | apply And.intro | exact rfl | intro hx | (refine Exists.intro _ (And.intro rfl ?_)))
    all_goals try first | (with_reducible change am_tI _ _) | (change Ret _ _) | (change Ret _ _ _) | (change Exists _)
    all_goals try dsimp only at *
    all_goals try (with_reducible exact absurd ‹(1000 : Int64) = 0› am_z1000)
    all_goals first | (left; rfl) | (right; rfl) | grind
  · exact h.elim
def rwX7_isYear : List dz_r := [(0, .iload_n 0, 1), (1, .ifCond .lt 13, 3), (4, .iload_n 0, 1), (5, .bipush 40, 2), (7, .if_icmp .ge 7, 3), (10, .iconst 1, 1), (11, .goto 4, 3), (14, .iconst 0, 1), (15, .ireturn, 1)]
theorem dzX7_isYear : dz cX7_isYear rwX7_isYear := dz_all 0 (by decide +kernel)
def kX7_isYear (live : am_E) (Ret : am_R) : am_code := [(0, am_iload 0 1), (1, am_if1 (fun x => x < 0) 14 4), (4, am_iload 0 5), (5, am_const (.int 40) 7), (7, am_if2 (fun x y => y ≤ x) 14 10), (10, am_const (.int 1) 11), (11, am_goto 15), (14, am_const (.int 0) 15), (15, am_retZ Ret)]
theorem koX7_isYear (live : am_E) (Ret : am_R) : ∀ q ∈ kX7_isYear live Ret, am_ok RX7 cX7_isYear 1 (some .boolean) 0 0 live Ret q.1 q.2 :=
  am_kz dzX7_isYear <|
  am_kd (fun d => ak_iload_n d rfl rfl) <|
  am_kd (fun d => ak_if_lt d (by decide +kernel) rfl) <|
  am_kd (fun d => ak_iload_n d rfl rfl) <|
  am_kd (fun d => ak_bipush d (by decide +kernel) rfl) <|
  am_kd (fun d => ak_icmp_ge d (by decide +kernel) rfl) <|
  am_kd (fun d => ak_iconst d (by decide +kernel) rfl) <|
  am_kd (fun d => ak_goto d (by decide +kernel)) <|
  am_kd (fun d => ak_iconst d (by decide +kernel) rfl) <|
  am_kd (fun d => ak_retZ d) <| am_kdn
def TX7_isYear : am_T := fun _ as M R => match as with
  | [.int v] => R (some (.int (if 0 ≤ v ∧ v < 40 then 1 else 0))) M
  | _ => False
set_option maxRecDepth 100000 in
set_option maxHeartbeats 4000000 in
theorem metX7_isYear : am_Met yX7_isYear cX7_isYear 1 (some .boolean) (0) (0) TX7_isYear := by
  refine am_met (own := RX7) (by decide +kernel) rfl kX7_isYear koX7_isYear 60 (fun _ _ _ _ _ => none) (fun live as M Ret h => ?_) (fun _ _ _ _ _ _ _ _ hI => by cases hI)
  unfold TX7_isYear at h
  split at h
  · next v =>
    refine ⟨Nat.le_of_ble_eq_true rfl, ?_⟩
    change am_wp _ _ _ _ [(0, Value.int v)] _ _
    repeat' (first | apply And.intro | exact rfl | intro hx | (refine Exists.intro _ (And.intro rfl ?_)))
    all_goals try first | (with_reducible change am_tI _ _) | (change Ret _ _) | (change Ret _ _ _) | (change Exists _)
    all_goals try dsimp only at *
    all_goals try (with_reducible exact absurd ‹(1000 : Int64) = 0› am_z1000)
    all_goals first | (left; rfl) | (right; rfl) | grind
  · exact h.elim
def rwX7_isSpan : List dz_r := [(0, .iload_n 0, 1), (1, .ifCond .lt 18, 3), (4, .iload_n 0, 1), (5, .iload_n 1, 1), (6, .if_icmp .gt 13, 3), (9, .iload_n 1, 1), (10, .bipush 40, 2), (12, .if_icmp .ge 7, 3), (15, .iconst 1, 1), (16, .goto 4, 3), (19, .iconst 0, 1), (20, .ireturn, 1)]
theorem dzX7_isSpan : dz cX7_isSpan rwX7_isSpan := dz_all 0 (by decide +kernel)
def kX7_isSpan (live : am_E) (Ret : am_R) : am_code := [(0, am_iload 0 1), (1, am_if1 (fun x => x < 0) 19 4), (4, am_iload 0 5), (5, am_iload 1 6), (6, am_if2 (fun x y => y < x) 19 9), (9, am_iload 1 10), (10, am_const (.int 40) 12), (12, am_if2 (fun x y => y ≤ x) 19 15), (15, am_const (.int 1) 16), (16, am_goto 20), (19, am_const (.int 0) 20), (20, am_retZ Ret)]
theorem koX7_isSpan (live : am_E) (Ret : am_R) : ∀ q ∈ kX7_isSpan live Ret, am_ok RX7 cX7_isSpan 2 (some .boolean) 0 0 live Ret q.1 q.2 :=
  am_kz dzX7_isSpan <|
  am_kd (fun d => ak_iload_n d rfl rfl) <|
  am_kd (fun d => ak_if_lt d (by decide +kernel) rfl) <|
  am_kd (fun d => ak_iload_n d rfl rfl) <|
  am_kd (fun d => ak_iload_n d rfl rfl) <|
  am_kd (fun d => ak_icmp_gt d (by decide +kernel) rfl) <|
  am_kd (fun d => ak_iload_n d rfl rfl) <|
  am_kd (fun d => ak_bipush d (by decide +kernel) rfl) <|
  am_kd (fun d => ak_icmp_ge d (by decide +kernel) rfl) <|
  am_kd (fun d => ak_iconst d (by decide +kernel) rfl) <|
  am_kd (fun d => ak_goto d (by decide +kernel)) <|
  am_kd (fun d => ak_iconst d (by decide +kernel) rfl) <|
  am_kd (fun d => ak_retZ d) <| am_kdn
def TX7_isSpan : am_T := fun _ as M R => match as with
  | [.int a, .int b] => R (some (.int (if 0 ≤ a ∧ a ≤ b ∧ b < 40 then 1 else 0))) M
  | _ => False
set_option maxRecDepth 100000 in
set_option maxHeartbeats 4000000 in
theorem metX7_isSpan : am_Met yX7_isSpan cX7_isSpan 2 (some .boolean) (0) (0) TX7_isSpan := by
  refine am_met (own := RX7) (by decide +kernel) rfl kX7_isSpan koX7_isSpan 60 (fun _ _ _ _ _ => none) (fun live as M Ret h => ?_) (fun _ _ _ _ _ _ _ _ hI => by cases hI)
  unfold TX7_isSpan at h
  split at h
  · next a b =>
    refine ⟨Nat.le_of_ble_eq_true rfl, ?_⟩
    change am_wp _ _ _ _ [(0, Value.int a), (1, Value.int b)] _ _
    repeat' (first | apply And.intro | exact rfl | intro hx | (refine Exists.intro _ (And.intro rfl ?_)))
    all_goals try first | (with_reducible change am_tI _ _) | (change Ret _ _) | (change Ret _ _ _) | (change Exists _)
    all_goals try dsimp only at *
    all_goals try (with_reducible exact absurd ‹(1000 : Int64) = 0› am_z1000)
    all_goals first | (left; rfl) | (right; rfl) | grind
  · exact h.elim
set_option maxRecDepth 100000 in
theorem wd_449 : Cond.constant "LearnLoans" 275 10000000 ∈ am_ws := am_wt2 (List.mem_of_getElem? (i := 152) (by rfl)) (by decide +kernel)
def rwX7_isPence : List dz_r := [(0, .iload_n 0, 1), (1, .ifCond .lt 14, 3), (4, .iload_n 0, 1), (5, .ldc_w 275, 3), (8, .if_icmp .gt 7, 3), (11, .iconst 1, 1), (12, .goto 4, 3), (15, .iconst 0, 1), (16, .ireturn, 1)]
theorem dzX7_isPence : dz cX7_isPence rwX7_isPence := dz_all 0 (by decide +kernel)
def kX7_isPence (live : am_E) (Ret : am_R) : am_code := [(0, am_iload 0 1), (1, am_if1 (fun x => x < 0) 15 4), (4, am_iload 0 5), (5, am_const (.int 10000000) 8), (8, am_if2 (fun x y => y < x) 15 11), (11, am_const (.int 1) 12), (12, am_goto 16), (15, am_const (.int 0) 16), (16, am_retZ Ret)]
theorem koX7_isPence (live : am_E) (Ret : am_R) : ∀ q ∈ kX7_isPence live Ret, am_ok RX7 cX7_isPence 1 (some .boolean) 0 0 live Ret q.1 q.2 :=
  am_kz dzX7_isPence <|
  am_kd (fun d => ak_iload_n d rfl rfl) <|
  am_kd (fun d => ak_if_lt d (by decide +kernel) rfl) <|
  am_kd (fun d => ak_iload_n d rfl rfl) <|
  am_kd (fun d => ak_ldcw wd_449 d rfl) <|
  am_kd (fun d => ak_icmp_gt d (by decide +kernel) rfl) <|
  am_kd (fun d => ak_iconst d (by decide +kernel) rfl) <|
  am_kd (fun d => ak_goto d (by decide +kernel)) <|
  am_kd (fun d => ak_iconst d (by decide +kernel) rfl) <|
  am_kd (fun d => ak_retZ d) <| am_kdn
def TX7_isPence : am_T := fun _ as M R => match as with
  | [.int v] => R (some (.int (if 0 ≤ v ∧ v ≤ 10000000 then 1 else 0))) M
  | _ => False
set_option maxRecDepth 100000 in
set_option maxHeartbeats 4000000 in
theorem metX7_isPence : am_Met yX7_isPence cX7_isPence 1 (some .boolean) (0) (0) TX7_isPence := by
  refine am_met (own := RX7) (by decide +kernel) rfl kX7_isPence koX7_isPence 60 (fun _ _ _ _ _ => none) (fun live as M Ret h => ?_) (fun _ _ _ _ _ _ _ _ hI => by cases hI)
  unfold TX7_isPence at h
  split at h
  · next v =>
    refine ⟨Nat.le_of_ble_eq_true rfl, ?_⟩
    change am_wp _ _ _ _ [(0, Value.int v)] _ _
    repeat' (first | apply And.intro | exact rfl | intro hx | (refine Exists.intro _ (And.intro rfl ?_)))
    all_goals try first | (with_reducible change am_tI _ _) | (change Ret _ _) | (change Ret _ _ _) | (change Exists _)
    all_goals try dsimp only at *
    all_goals try (with_reducible exact absurd ‹(1000 : Int64) = 0› am_z1000)
    all_goals first | (left; rfl) | (right; rfl) | grind
  · exact h.elim
def rwX7_isPlan : List dz_r := [(0, .iload_n 0, 1), (1, .ifCond .lt 12, 3), (4, .iload_n 0, 1), (5, .iconst 5, 1), (6, .if_icmp .ge 7, 3), (9, .iconst 1, 1), (10, .goto 4, 3), (13, .iconst 0, 1), (14, .ireturn, 1)]
theorem dzX7_isPlan : dz cX7_isPlan rwX7_isPlan := dz_all 0 (by decide +kernel)
def kX7_isPlan (live : am_E) (Ret : am_R) : am_code := [(0, am_iload 0 1), (1, am_if1 (fun x => x < 0) 13 4), (4, am_iload 0 5), (5, am_const (.int 5) 6), (6, am_if2 (fun x y => y ≤ x) 13 9), (9, am_const (.int 1) 10), (10, am_goto 14), (13, am_const (.int 0) 14), (14, am_retZ Ret)]
theorem koX7_isPlan (live : am_E) (Ret : am_R) : ∀ q ∈ kX7_isPlan live Ret, am_ok RX7 cX7_isPlan 1 (some .boolean) 0 0 live Ret q.1 q.2 :=
  am_kz dzX7_isPlan <|
  am_kd (fun d => ak_iload_n d rfl rfl) <|
  am_kd (fun d => ak_if_lt d (by decide +kernel) rfl) <|
  am_kd (fun d => ak_iload_n d rfl rfl) <|
  am_kd (fun d => ak_iconst d (by decide +kernel) rfl) <|
  am_kd (fun d => ak_icmp_ge d (by decide +kernel) rfl) <|
  am_kd (fun d => ak_iconst d (by decide +kernel) rfl) <|
  am_kd (fun d => ak_goto d (by decide +kernel)) <|
  am_kd (fun d => ak_iconst d (by decide +kernel) rfl) <|
  am_kd (fun d => ak_retZ d) <| am_kdn
def TX7_isPlan : am_T := fun _ as M R => match as with
  | [.int v] => R (some (.int (if 0 ≤ v ∧ v < 5 then 1 else 0))) M
  | _ => False
set_option maxRecDepth 100000 in
set_option maxHeartbeats 4000000 in
theorem metX7_isPlan : am_Met yX7_isPlan cX7_isPlan 1 (some .boolean) (0) (0) TX7_isPlan := by
  refine am_met (own := RX7) (by decide +kernel) rfl kX7_isPlan koX7_isPlan 60 (fun _ _ _ _ _ => none) (fun live as M Ret h => ?_) (fun _ _ _ _ _ _ _ _ hI => by cases hI)
  unfold TX7_isPlan at h
  split at h
  · next v =>
    refine ⟨Nat.le_of_ble_eq_true rfl, ?_⟩
    change am_wp _ _ _ _ [(0, Value.int v)] _ _
    repeat' (first | apply And.intro | exact rfl | intro hx | (refine Exists.intro _ (And.intro rfl ?_)))
    all_goals try first | (with_reducible change am_tI _ _) | (change Ret _ _) | (change Ret _ _ _) | (change Exists _)
    all_goals try dsimp only at *
    all_goals try (with_reducible exact absurd ‹(1000 : Int64) = 0› am_z1000)
    all_goals first | (left; rfl) | (right; rfl) | grind
  · exact h.elim
def rwX7_isChance : List dz_r := [(0, .iload_n 0, 1), (1, .ifCond .lt 13, 3), (4, .iload_n 0, 1), (5, .bipush 10, 2), (7, .if_icmp .gt 7, 3), (10, .iconst 1, 1), (11, .goto 4, 3), (14, .iconst 0, 1), (15, .ireturn, 1)]
theorem dzX7_isChance : dz cX7_isChance rwX7_isChance := dz_all 0 (by decide +kernel)
def kX7_isChance (live : am_E) (Ret : am_R) : am_code := [(0, am_iload 0 1), (1, am_if1 (fun x => x < 0) 14 4), (4, am_iload 0 5), (5, am_const (.int 10) 7), (7, am_if2 (fun x y => y < x) 14 10), (10, am_const (.int 1) 11), (11, am_goto 15), (14, am_const (.int 0) 15), (15, am_retZ Ret)]
theorem koX7_isChance (live : am_E) (Ret : am_R) : ∀ q ∈ kX7_isChance live Ret, am_ok RX7 cX7_isChance 1 (some .boolean) 0 0 live Ret q.1 q.2 :=
  am_kz dzX7_isChance <|
  am_kd (fun d => ak_iload_n d rfl rfl) <|
  am_kd (fun d => ak_if_lt d (by decide +kernel) rfl) <|
  am_kd (fun d => ak_iload_n d rfl rfl) <|
  am_kd (fun d => ak_bipush d (by decide +kernel) rfl) <|
  am_kd (fun d => ak_icmp_gt d (by decide +kernel) rfl) <|
  am_kd (fun d => ak_iconst d (by decide +kernel) rfl) <|
  am_kd (fun d => ak_goto d (by decide +kernel)) <|
  am_kd (fun d => ak_iconst d (by decide +kernel) rfl) <|
  am_kd (fun d => ak_retZ d) <| am_kdn
def TX7_isChance : am_T := fun _ as M R => match as with
  | [.int v] => R (some (.int (if 0 ≤ v ∧ v ≤ 10 then 1 else 0))) M
  | _ => False
set_option maxRecDepth 100000 in
set_option maxHeartbeats 4000000 in
theorem metX7_isChance : am_Met yX7_isChance cX7_isChance 1 (some .boolean) (0) (0) TX7_isChance := by
  refine am_met (own := RX7) (by decide +kernel) rfl kX7_isChance koX7_isChance 60 (fun _ _ _ _ _ => none) (fun live as M Ret h => ?_) (fun _ _ _ _ _ _ _ _ hI => by cases hI)
  unfold TX7_isChance at h
  split at h
  · next v =>
    refine ⟨Nat.le_of_ble_eq_true rfl, ?_⟩
    change am_wp _ _ _ _ [(0, Value.int v)] _ _
    repeat' (first | apply And.intro | exact rfl | intro hx | (refine Exists.intro _ (And.intro rfl ?_)))
    all_goals try first | (with_reducible change am_tI _ _) | (change Ret _ _) | (change Ret _ _ _) | (change Exists _)
    all_goals try dsimp only at *
    all_goals try (with_reducible exact absurd ‹(1000 : Int64) = 0› am_z1000)
    all_goals first | (left; rfl) | (right; rfl) | grind
  · exact h.elim
set_option maxRecDepth 100000 in
theorem wd_148 : Cond.fieldLink "LearnLoans$Rows" 15 "LearnLoans$Rows" "wide" "I" ∈ am_ws := am_wt1 (List.mem_of_getElem? (i := 91) (by rfl)) (by decide +kernel)
set_option maxRecDepth 100000 in
theorem wd_147 : Cond.fieldLink "LearnLoans$Rows" 9 "LearnLoans$Rows" "cells" "[I" ∈ am_ws := am_wt1 (List.mem_of_getElem? (i := 90) (by rfl)) (by decide +kernel)
def rwX3_at : List dz_r := [(0, .iload_n 1, 1), (1, .aload_n 0, 1), (2, .getfield 15, 3), (5, .imul, 1), (6, .iload_n 2, 1), (7, .iadd, 1), (8, .istore_n 3, 1), (9, .iload_n 3, 1), (10, .ifCond .lt 21, 3), (13, .iload_n 3, 1), (14, .aload_n 0, 1), (15, .getfield 9, 3), (18, .arraylength, 1), (19, .if_icmp .ge 12, 3), (22, .aload_n 0, 1), (23, .getfield 9, 3), (26, .iload_n 3, 1), (27, .iaload, 1), (28, .goto 4, 3), (31, .iconst (-1), 1), (32, .ireturn, 1)]
theorem dzX3_at : dz cX3_at rwX3_at := dz_all 0 (by decide +kernel)
def kX3_at (live : am_E) (Ret : am_R) : am_code := [(0, am_iload 1 1), (1, am_aload 0 2), (2, am_getI live 3 1 5), (5, am_i2 (fun x y => x * y) 6), (6, am_iload 2 7), (7, am_i2 (fun x y => x + y) 8), (8, am_istore 3 4 9), (9, am_iload 3 10), (10, am_if1 (fun x => x < 0) 31 13), (13, am_iload 3 14), (14, am_aload 0 15), (15, am_getR live 3 0 18), (18, am_alen live 0 19), (19, am_if2 (fun x y => y ≤ x) 31 22), (22, am_aload 0 23), (23, am_getR live 3 0 26), (26, am_iload 3 27), (27, am_ald live 0 28), (28, am_goto 32), (31, am_const (.int (-1)) 32), (32, am_retI Ret)]
theorem koX3_at (live : am_E) (Ret : am_R) : ∀ q ∈ kX3_at live Ret, am_ok RX3 cX3_at 4 (some .int) 0 0 live Ret q.1 q.2 :=
  am_kz dzX3_at <|
  am_kd (fun d => ak_iload_n d rfl rfl) <|
  am_kd (fun d => ak_aload_n d rfl rfl) <|
  am_kd (fun d => ak_getI (C := RX3) (T := TX3) (N := 3) rfl inX3w (by decide) rfl rfl rfl wd_148 d rfl) <|
  am_kd (fun d => ak_imul d rfl) <|
  am_kd (fun d => ak_iload_n d rfl rfl) <|
  am_kd (fun d => ak_iadd d rfl) <|
  am_kd (fun d => ak_istore_n d rfl rfl) <|
  am_kd (fun d => ak_iload_n d rfl rfl) <|
  am_kd (fun d => ak_if_lt d (by decide +kernel) rfl) <|
  am_kd (fun d => ak_iload_n d rfl rfl) <|
  am_kd (fun d => ak_aload_n d rfl rfl) <|
  am_kd (fun d => ak_getR (C := RX3) (T := TX3) (N := 3) rfl inX3w (by decide) rfl rfl rfl wd_147 d rfl) <|
  am_kd (fun d => ak_alen (t := 0) (fun _ => rfl) d rfl) <|
  am_kd (fun d => ak_icmp_ge d (by decide +kernel) rfl) <|
  am_kd (fun d => ak_aload_n d rfl rfl) <|
  am_kd (fun d => ak_getR (C := RX3) (T := TX3) (N := 3) rfl inX3w (by decide) rfl rfl rfl wd_147 d rfl) <|
  am_kd (fun d => ak_iload_n d rfl rfl) <|
  am_kd (fun d => ak_iald (t := 0) (fun _ => rfl) rfl d rfl) <|
  am_kd (fun d => ak_goto d (by decide +kernel)) <|
  am_kd (fun d => ak_iconst d (by decide +kernel) rfl) <|
  am_kd (fun d => ak_retI d) <| am_kdn
/-- Rows.at: this at the name r, its numbers at c -/
def TX3_at : am_T := fun live as M R => match as with
  | [.ref r, .int a, .int b] => am_ex (live.2 r 0) (fun c => am_if (am_isO live 3 r && am_isA live 0 c && Nat.blt (am_len c) 100000) (R (some (.int (am_at (M.1 c) (am_len c) (a * M.1 r 1 + b)))) M))
  | _ => False
set_option maxRecDepth 100000 in
set_option maxHeartbeats 4000000 in
theorem metX3_at : am_Met yX3_at cX3_at 4 (some .int) (0) (0) TX3_at := by
  refine am_met (own := RX3) (by decide +kernel) rfl kX3_at koX3_at 60 (fun _ _ _ _ _ => none) (fun live as M Ret h => ?_) (fun _ _ _ _ _ _ _ _ hI => by cases hI)
  unfold TX3_at at h
  split at h
  · next r a b =>
    refine ⟨Nat.le_of_ble_eq_true rfl, ?_⟩
    change am_wp _ _ _ _ [(0, Value.ref r), (1, Value.int a), (2, Value.int b)] _ _
    have hh := am_qm h
    clear h
    obtain ⟨c, h2, h⟩ := hh
    have hh := am_if_mp h
    clear h
    obtain ⟨hb, h⟩ := hh
    rw [Bool.and_eq_true, Bool.and_eq_true] at hb
    obtain ⟨⟨h1, h3⟩, h4⟩ := hb
    have h4 : am_len c < 100000 := Nat.le_of_ble_eq_true h4
    repeat' (first | (with_reducible exact h1) | (with_reducible exact h2) | (with_reducible exact h3) | (refine Exists.intro _ (And.intro h2 ?_)) | apply And.intro | exact rfl | intro hx | (refine Exists.intro _ (And.intro rfl ?_)) | ((with_reducible change _ = true); simp only [h1, h2, h3, Bool.true_and]; rfl))
    all_goals try first | (with_reducible change am_tI _ _) | (change Ret _ _) | (change Ret _ _ _) | (change Exists _)
    all_goals try dsimp only at *
    all_goals try (with_reducible exact absurd ‹(1000 : Int64) = 0› am_z1000)
    · rw [am_at_no (am_in_no1 ‹_›)] at h; exact h
    · rw [am_at_no (am_in_no2 h4 ‹_›)] at h; exact h
    · exact (am_in_of h4 ‹_› ‹_›).1
    · exact (am_in_of h4 ‹_› ‹_›).2
    · rw [am_at_in (am_in_of h4 ‹_› ‹_›)] at h; exact h
  · exact h.elim
end
-- part 11.small2.lean.txt
section
/-! the class: whether a person, a loan; a stretch laid; which is nearer -/
set_option maxRecDepth 100000 in
theorem wd_390 : Cond.fieldLink "LearnLoans" 27 "LearnLoans" "house" "LLearnLoans$House;" ∈ am_ws := am_wt2 (List.mem_of_getElem? (i := 93) (by rfl)) (by decide +kernel)
set_option maxRecDepth 100000 in
theorem wd_194 : Cond.fieldLink "LearnLoans" 38 "LearnLoans$House" "people" "LLearnLoans$People;" ∈ am_ws := am_wt1 (List.mem_of_getElem? (i := 137) (by rfl)) (by decide +kernel)
set_option maxRecDepth 100000 in
theorem wd_121 : Cond.fieldLink "LearnLoans" 42 "LearnLoans$People" "size" "I" ∈ am_ws := am_wt1 (List.mem_of_getElem? (i := 64) (by rfl)) (by decide +kernel)
def rwX7_isPerson : List dz_r := [(0, .iload_n 1, 1), (1, .ifCond .lt 21, 3), (4, .iload_n 1, 1), (5, .aload_n 0, 1), (6, .getfield 27, 3), (9, .getfield 38, 3), (12, .getfield 42, 3), (15, .if_icmp .ge 7, 3), (18, .iconst 1, 1), (19, .goto 4, 3), (22, .iconst 0, 1), (23, .ireturn, 1)]
theorem dzX7_isPerson : dz cX7_isPerson rwX7_isPerson := dz_all 0 (by decide +kernel)
def kX7_isPerson (live : am_E) (Ret : am_R) : am_code := [(0, am_iload 1 1), (1, am_if1 (fun x => x < 0) 22 4), (4, am_iload 1 5), (5, am_aload 0 6), (6, am_getR live 7 0 9), (9, am_getR live 0 0 12), (12, am_getI live 2 7 15), (15, am_if2 (fun x y => y ≤ x) 22 18), (18, am_const (.int 1) 19), (19, am_goto 23), (22, am_const (.int 0) 23), (23, am_retZ Ret)]
theorem koX7_isPerson (live : am_E) (Ret : am_R) : ∀ q ∈ kX7_isPerson live Ret, am_ok RX7 cX7_isPerson 2 (some .boolean) 0 0 live Ret q.1 q.2 :=
  am_kz dzX7_isPerson <|
  am_kd (fun d => ak_iload_n d rfl rfl) <|
  am_kd (fun d => ak_if_lt d (by decide +kernel) rfl) <|
  am_kd (fun d => ak_iload_n d rfl rfl) <|
  am_kd (fun d => ak_aload_n d rfl rfl) <|
  am_kd (fun d => ak_getR (C := RX7) (T := TX7) (N := 4) rfl inX7w (by decide) rfl rfl rfl wd_390 d rfl) <|
  am_kd (fun d => ak_getR (C := RX0) (T := TX0) (N := 13) rfl inX0w (by decide) rfl rfl rfl wd_194 d rfl) <|
  am_kd (fun d => ak_getI (C := RX2) (T := TX2) (N := 8) rfl inX2w (by decide) rfl rfl rfl wd_121 d rfl) <|
  am_kd (fun d => ak_icmp_ge d (by decide +kernel) rfl) <|
  am_kd (fun d => ak_iconst d (by decide +kernel) rfl) <|
  am_kd (fun d => ak_goto d (by decide +kernel)) <|
  am_kd (fun d => ak_iconst d (by decide +kernel) rfl) <|
  am_kd (fun d => ak_retZ d) <| am_kdn
def TX7_isPerson : am_T := fun live as M R => match as with
  | [.ref n, .int v] => am_mn live ∧ n = 0 ∧ R (some (.int (if 0 ≤ v ∧ v < M.1 21 7 then 1 else 0))) M
  | _ => False
set_option maxRecDepth 100000 in
set_option maxHeartbeats 4000000 in
theorem metX7_isPerson : am_Met yX7_isPerson cX7_isPerson 2 (some .boolean) (0) (0) TX7_isPerson := by
  refine am_met (own := RX7) (by decide +kernel) rfl kX7_isPerson koX7_isPerson 60 (fun _ _ _ _ _ => none) (fun live as M Ret h => ?_) (fun _ _ _ _ _ _ _ _ hI => by cases hI)
  unfold TX7_isPerson at h
  split at h
  · next n v =>
    refine ⟨Nat.le_of_ble_eq_true rfl, ?_⟩
    change am_wp _ _ _ _ [(0, Value.ref n), (1, Value.int v)] _ _
    obtain ⟨⟨i1, i2, rfl⟩, rfl, h⟩ := h
    repeat' (first | apply And.intro | exact rfl | intro hx | (refine Exists.intro _ (And.intro rfl ?_)))
    all_goals try first | (with_reducible change am_tI _ _) | (change Ret _ _) | (change Ret _ _ _) | (change Exists _)
    all_goals try dsimp only at *
    all_goals try (with_reducible exact absurd ‹(1000 : Int64) = 0› am_z1000)
    all_goals first | (left; rfl) | (right; rfl) | grind
  · exact h.elim
set_option maxRecDepth 100000 in
theorem wd_207 : Cond.fieldLink "LearnLoans" 122 "LearnLoans$House" "loans" "LLearnLoans$Rows;" ∈ am_ws := am_wt1 (List.mem_of_getElem? (i := 150) (by rfl)) (by decide +kernel)
set_option maxRecDepth 100000 in
theorem wd_152 : Cond.fieldLink "LearnLoans" 108 "LearnLoans$Rows" "size" "I" ∈ am_ws := am_wt1 (List.mem_of_getElem? (i := 95) (by rfl)) (by decide +kernel)
def rwX7_isLoan : List dz_r := [(0, .iload_n 1, 1), (1, .ifCond .lt 21, 3), (4, .iload_n 1, 1), (5, .aload_n 0, 1), (6, .getfield 27, 3), (9, .getfield 122, 3), (12, .getfield 108, 3), (15, .if_icmp .ge 7, 3), (18, .iconst 1, 1), (19, .goto 4, 3), (22, .iconst 0, 1), (23, .ireturn, 1)]
theorem dzX7_isLoan : dz cX7_isLoan rwX7_isLoan := dz_all 0 (by decide +kernel)
def kX7_isLoan (live : am_E) (Ret : am_R) : am_code := [(0, am_iload 1 1), (1, am_if1 (fun x => x < 0) 22 4), (4, am_iload 1 5), (5, am_aload 0 6), (6, am_getR live 7 0 9), (9, am_getR live 0 4 12), (12, am_getI live 3 2 15), (15, am_if2 (fun x y => y ≤ x) 22 18), (18, am_const (.int 1) 19), (19, am_goto 23), (22, am_const (.int 0) 23), (23, am_retZ Ret)]
theorem koX7_isLoan (live : am_E) (Ret : am_R) : ∀ q ∈ kX7_isLoan live Ret, am_ok RX7 cX7_isLoan 2 (some .boolean) 0 0 live Ret q.1 q.2 :=
  am_kz dzX7_isLoan <|
  am_kd (fun d => ak_iload_n d rfl rfl) <|
  am_kd (fun d => ak_if_lt d (by decide +kernel) rfl) <|
  am_kd (fun d => ak_iload_n d rfl rfl) <|
  am_kd (fun d => ak_aload_n d rfl rfl) <|
  am_kd (fun d => ak_getR (C := RX7) (T := TX7) (N := 4) rfl inX7w (by decide) rfl rfl rfl wd_390 d rfl) <|
  am_kd (fun d => ak_getR (C := RX0) (T := TX0) (N := 13) rfl inX0w (by decide) rfl rfl rfl wd_207 d rfl) <|
  am_kd (fun d => ak_getI (C := RX3) (T := TX3) (N := 3) rfl inX3w (by decide) rfl rfl rfl wd_152 d rfl) <|
  am_kd (fun d => ak_icmp_ge d (by decide +kernel) rfl) <|
  am_kd (fun d => ak_iconst d (by decide +kernel) rfl) <|
  am_kd (fun d => ak_goto d (by decide +kernel)) <|
  am_kd (fun d => ak_iconst d (by decide +kernel) rfl) <|
  am_kd (fun d => ak_retZ d) <| am_kdn
def TX7_isLoan : am_T := fun live as M R => match as with
  | [.ref n, .int v] => am_mn live ∧ n = 0 ∧ R (some (.int (if 0 ≤ v ∧ v < M.1 33 2 then 1 else 0))) M
  | _ => False
set_option maxRecDepth 100000 in
set_option maxHeartbeats 4000000 in
theorem metX7_isLoan : am_Met yX7_isLoan cX7_isLoan 2 (some .boolean) (0) (0) TX7_isLoan := by
  refine am_met (own := RX7) (by decide +kernel) rfl kX7_isLoan koX7_isLoan 60 (fun _ _ _ _ _ => none) (fun live as M Ret h => ?_) (fun _ _ _ _ _ _ _ _ hI => by cases hI)
  unfold TX7_isLoan at h
  split at h
  · next n v =>
    refine ⟨Nat.le_of_ble_eq_true rfl, ?_⟩
    change am_wp _ _ _ _ [(0, Value.ref n), (1, Value.int v)] _ _
    obtain ⟨⟨i1, i2, rfl⟩, rfl, h⟩ := h
    repeat' (first | apply And.intro | exact rfl | intro hx | (refine Exists.intro _ (And.intro rfl ?_)))
    all_goals try first | (with_reducible change am_tI _ _) | (change Ret _ _) | (change Ret _ _ _) | (change Exists _)
    all_goals try dsimp only at *
    all_goals try (with_reducible exact absurd ‹(1000 : Int64) = 0› am_z1000)
    all_goals first | (left; rfl) | (right; rfl) | grind
  · exact h.elim
set_option maxRecDepth 100000 in
theorem wd_472 : Cond.fieldLink "LearnLoans" 276 "LearnLoans" "LEAST" "[I" ∈ am_ws := am_wt2 (List.mem_of_getElem? (i := 175) (by rfl)) (by decide +kernel)
set_option maxRecDepth 100000 in
theorem wd_474 : Cond.fieldLink "LearnLoans" 279 "LearnLoans" "MOST" "[I" ∈ am_ws := am_wt2 (List.mem_of_getElem? (i := 177) (by rfl)) (by decide +kernel)
def rwX7_isNumber : List dz_r := [(0, .iload_n 0, 1), (1, .ifCond .lt 31, 3), (4, .iload_n 0, 1), (5, .bipush 6, 2), (7, .if_icmp .ge 25, 3), (10, .iload_n 1, 1), (11, .getstatic 276, 3), (14, .iload_n 0, 1), (15, .iaload, 1), (16, .if_icmp .lt 16, 3), (19, .iload_n 1, 1), (20, .getstatic 279, 3), (23, .iload_n 0, 1), (24, .iaload, 1), (25, .if_icmp .gt 7, 3), (28, .iconst 1, 1), (29, .goto 4, 3), (32, .iconst 0, 1), (33, .ireturn, 1)]
theorem dzX7_isNumber : dz cX7_isNumber rwX7_isNumber := dz_all 0 (by decide +kernel)
def kX7_isNumber (live : am_E) (Ret : am_R) : am_code := [(0, am_iload 0 1), (1, am_if1 (fun x => x < 0) 32 4), (4, am_iload 0 5), (5, am_const (.int 6) 7), (7, am_if2 (fun x y => y ≤ x) 32 10), (10, am_iload 1 11), (11, am_const (.ref 1001) 14), (14, am_iload 0 15), (15, am_sld 1 16), (16, am_if2 (fun x y => x < y) 32 19), (19, am_iload 1 20), (20, am_const (.ref 1002) 23), (23, am_iload 0 24), (24, am_sld 2 25), (25, am_if2 (fun x y => y < x) 32 28), (28, am_const (.int 1) 29), (29, am_goto 33), (32, am_const (.int 0) 33), (33, am_retZ Ret)]
theorem koX7_isNumber (live : am_E) (Ret : am_R) : ∀ q ∈ kX7_isNumber live Ret, am_ok RX7 cX7_isNumber 2 (some .boolean) 0 0 live Ret q.1 q.2 :=
  am_kz dzX7_isNumber <|
  am_kd (fun d => ak_iload_n d rfl rfl) <|
  am_kd (fun d => ak_if_lt d (by decide +kernel) rfl) <|
  am_kd (fun d => ak_iload_n d rfl rfl) <|
  am_kd (fun d => ak_bipush d (by decide +kernel) rfl) <|
  am_kd (fun d => ak_icmp_ge d (by decide +kernel) rfl) <|
  am_kd (fun d => ak_iload_n d rfl rfl) <|
  am_kd (fun d => ak_gets (k := 1) (by decide) rfl wd_472 d rfl) <|
  am_kd (fun d => ak_iload_n d rfl rfl) <|
  am_kd (fun d => ak_sld (by decide) d rfl) <|
  am_kd (fun d => ak_icmp_lt d (by decide +kernel) rfl) <|
  am_kd (fun d => ak_iload_n d rfl rfl) <|
  am_kd (fun d => ak_gets (k := 2) (by decide) rfl wd_474 d rfl) <|
  am_kd (fun d => ak_iload_n d rfl rfl) <|
  am_kd (fun d => ak_sld (by decide) d rfl) <|
  am_kd (fun d => ak_icmp_gt d (by decide +kernel) rfl) <|
  am_kd (fun d => ak_iconst d (by decide +kernel) rfl) <|
  am_kd (fun d => ak_goto d (by decide +kernel)) <|
  am_kd (fun d => ak_iconst d (by decide +kernel) rfl) <|
  am_kd (fun d => ak_retZ d) <| am_kdn
def am_isNum (w v : Int32) : Prop := (0 ≤ w ∧ w < 6) ∧ am_sf 1 w.toNatClampNeg ≤ v ∧ v ≤ am_sf 2 w.toNatClampNeg
def TX7_isNumber : am_T := fun live as M R => match as with
  | [.int w, .int v] => (am_isNum w v → R (some (.int 1)) M) ∧ (¬ am_isNum w v → R (some (.int 0)) M)
  | _ => False
set_option maxRecDepth 100000 in
set_option maxHeartbeats 4000000 in
theorem metX7_isNumber : am_Met yX7_isNumber cX7_isNumber 2 (some .boolean) (0) (0) TX7_isNumber := by
  refine am_met (own := RX7) (by decide +kernel) rfl kX7_isNumber koX7_isNumber 60 (fun _ _ _ _ _ => none) (fun live as M Ret h => ?_) (fun _ _ _ _ _ _ _ _ hI => by cases hI)
  unfold TX7_isNumber at h
  split at h
  · next w v =>
    refine ⟨Nat.le_of_ble_eq_true rfl, ?_⟩
    change am_wp _ _ _ _ [(0, Value.int w), (1, Value.int v)] _ _
    repeat' (first | apply And.intro | exact rfl | intro hx | (refine Exists.intro _ (And.intro rfl ?_)))
    all_goals try first | (with_reducible change am_tI _ _) | (change Ret _ _) | (change Ret _ _ _) | (change Exists _)
    all_goals try dsimp only at *
    all_goals try (with_reducible exact absurd ‹(1000 : Int64) = 0› am_z1000)
    all_goals first | (left; rfl) | (right; rfl) | skip
    all_goals first | grind [am_isNum] | (simp only [i_lt, i_le, am_sN, Int32.reduceToInt] at *; omega)
  · exact h.elim
set_option maxRecDepth 100000 in
theorem wd_427 : Cond.methodLink "LearnLoans" 282 Lib.Math.max.name ∈ am_ws := am_wt2 (List.mem_of_getElem? (i := 130) (by rfl)) (by decide +kernel)
set_option maxRecDepth 100000 in
theorem wd_428 : Cond.static Lib.Math.max.name ∈ am_ws := am_wt2 (List.mem_of_getElem? (i := 131) (by rfl)) (by decide +kernel)
set_option maxRecDepth 100000 in
theorem wd_68 : Cond.initialized "java/lang/Math" ∈ am_ws := am_wt1 (List.mem_of_getElem? (i := 11) (by rfl)) (by decide +kernel)
set_option maxRecDepth 100000 in
theorem wd_429 : Cond.code Lib.Math.max.name Lib.Math.max.code 2 (some .int) ∈ am_ws := am_wt2 (List.mem_of_getElem? (i := 132) (by rfl)) (by decide +kernel)
def rwX7_lay : List dz_r := [(0, .iload_n 1, 1), (1, .iconst 0, 1), (2, .invokestatic 282, 3), (5, .istore 4, 2), (7, .iload 4, 2), (9, .iload_n 2, 1), (10, .if_icmp .gt 21, 3), (13, .iload 4, 2), (15, .aload_n 0, 1), (16, .arraylength, 1), (17, .if_icmp .ge 14, 3), (20, .aload_n 0, 1), (21, .iload 4, 2), (23, .iload_n 3, 1), (24, .iastore, 1), (25, .iinc 4 1, 3), (28, .goto (-21), 3), (31, .return_, 1)]
theorem dzX7_lay : dz cX7_lay rwX7_lay := dz_all 0 (by decide +kernel)
def kX7_lay (live : am_E) (Ret : am_R) : am_code := [(0, am_iload 1 1), (1, am_const (.int 0) 2), (2, am_math2 (fun x y => if x < y then y else x) 23 5), (5, am_istore 4 5 7), (7, am_iload 4 9), (9, am_iload 2 10), (10, am_if2 (fun x y => y < x) 31 13), (13, am_iload 4 15), (15, am_aload 0 16), (16, am_alen live 0 17), (17, am_if2 (fun x y => y ≤ x) 31 20), (20, am_aload 0 21), (21, am_iload 4 23), (23, am_iload 3 24), (24, am_ast live 0 25), (25, am_iinc 4 5 1 28), (28, am_goto 7), (31, am_retV Ret)]
theorem koX7_lay (live : am_E) (Ret : am_R) : ∀ q ∈ kX7_lay live Ret, am_ok RX7 cX7_lay 5 none 1 23 live Ret q.1 q.2 :=
  am_kz dzX7_lay <|
  am_kd (fun d => ak_iload_n d rfl rfl) <|
  am_kd (fun d => ak_iconst d (by decide +kernel) rfl) <|
  am_kd (fun d => ak_imax (am_w4 wd_427 wd_428 wd_68 wd_429) (by decide) d rfl) <|
  am_kd (fun d => ak_istore d rfl) <|
  am_kd (fun d => ak_iload d rfl) <|
  am_kd (fun d => ak_iload_n d rfl rfl) <|
  am_kd (fun d => ak_icmp_gt d (by decide +kernel) rfl) <|
  am_kd (fun d => ak_iload d rfl) <|
  am_kd (fun d => ak_aload_n d rfl rfl) <|
  am_kd (fun d => ak_alen (t := 0) (fun _ => rfl) d rfl) <|
  am_kd (fun d => ak_icmp_ge d (by decide +kernel) rfl) <|
  am_kd (fun d => ak_aload_n d rfl rfl) <|
  am_kd (fun d => ak_iload d rfl) <|
  am_kd (fun d => ak_iload_n d rfl rfl) <|
  am_kd (fun d => ak_iast (t := 0) (fun _ => rfl) rfl d rfl) <|
  am_kd (fun d => ak_iinc d (by decide +kernel) rfl) <|
  am_kd (fun d => ak_goto d (by decide +kernel)) <|
  am_kd (fun d => ak_retV d) <| am_kdn
def TX7_lay : am_T := fun live as M R => match as with
  | [.ref c, .int a, .int b, .int v] => am_if (am_isA live 0 c && Nat.blt (am_len c) 100000) (R none (am_lay M c (max a.toInt 0) (min b.toInt ((am_len c : Int) - 1)) v))
  | _ => False
def JX7_lay : am_E → List Value → am_M → am_R → am_inv := fun live as M0 _ pc => match as with
  | [.ref c, .int a, .int b, .int v] => (match pc with
    | 7 => some ([0, 2, 3, 4], fun k L st M => ∃ i : Int32, L = [(0, .ref c), (2, .int b), (3, .int v), (4, .int i)] ∧ st = [] ∧ k = ((am_len c + 1 - i.toInt).toNat, 0) ∧ max a.toInt 0 ≤ i.toInt ∧ (i.toInt = max a.toInt 0 ∨ i.toInt ≤ min b.toInt ((am_len c : Int) - 1) + 1) ∧ M = am_lay M0 c (max a.toInt 0) (i.toInt - 1) v)
    | _ => none)
  | _ => none
set_option maxRecDepth 100000 in
set_option maxHeartbeats 4000000 in
theorem metX7_lay : am_Met yX7_lay cX7_lay 5 none (1) (23) TX7_lay := by
  refine am_met (own := RX7) (by decide +kernel) rfl kX7_lay koX7_lay 60 JX7_lay ?_ ?_
  · intro live as M Ret h
    unfold TX7_lay at h
    split at h
    · next c a b v =>
      refine ⟨Nat.le_of_ble_eq_true rfl, ?_⟩
      change am_wp _ _ _ _ [(0, Value.ref c), (1, Value.int a), (2, Value.int b), (3, Value.int v)] _ _
      have hh := am_if_mp h
      clear h
      obtain ⟨hb, h⟩ := hh
      rw [Bool.and_eq_true] at hb
      obtain ⟨h1, h4⟩ := hb
      have h4 : am_len c < 100000 := Nat.le_of_ble_eq_true h4
      repeat' (first | (with_reducible exact h1) | apply And.intro | exact rfl | intro hx | (refine Exists.intro _ (And.intro rfl ?_)) | ((with_reducible change _ = true); simp only [h1, Bool.true_and]; rfl))
      all_goals try first | (with_reducible change am_tI _ _) | (change Ret _ _) | (change Ret _ _ _) | (change Exists _)
      all_goals try dsimp only at *
      all_goals try (with_reducible exact absurd ‹(1000 : Int64) = 0› am_z1000)
      have hlo := i_lo a
      refine ⟨_, _, rfl, rfl, rfl, ?_, Or.inl ?_, (am_lay_nil ?_).symm⟩
      all_goals
        split
        all_goals
          simp only [i_lt, Int32.reduceToInt] at *
          omega
    · exact h.elim
  · intro live as M0 Ret h k pc I hI L st M hi
    unfold TX7_lay at h
    split at h
    · next c a b v =>
      have hh := am_if_mp h
      clear h
      obtain ⟨hb, h⟩ := hh
      rw [Bool.and_eq_true] at hb
      obtain ⟨h1, h4⟩ := hb
      have h4 : am_len c < 100000 := Nat.le_of_ble_eq_true h4
      change (match pc with | 7 => _ | _ => none) = _ at hI
      split at hI
      · cases hI
        obtain ⟨i, rfl, rfl, rfl, e1, e2, rfl⟩ := hi
        have hn : (Int32.ofNat (am_len c)).toInt = (am_len c : Int) := i_nat (by omega)
        repeat' (first | (with_reducible exact h1) | apply And.intro | exact rfl | intro hx | (refine Exists.intro _ (And.intro rfl ?_)) | ((with_reducible change _ = true); simp only [h1, Bool.true_and]; rfl))
        all_goals try first | (with_reducible change am_tI _ _) | (change Ret _ _) | (change Ret _ _ _) | (change Exists _)
        all_goals try dsimp only at *
        all_goals try (with_reducible exact absurd ‹(1000 : Int64) = 0› am_z1000)
        rotate_right
        · refine ⟨_, Or.inl ?_, i + 1, rfl, rfl, rfl, ?_, Or.inr ?_, ?_⟩
          all_goals simp only [i_lt, i_le, hn] at *
          all_goals
            have hi := i_add (x := i) (y := 1) (by simp only [Int32.reduceToInt]; omega) (by simp only [Int32.reduceToInt]; omega)
            simp only [Int32.reduceToInt] at hi
          · simp only [hi]; omega
          · omega
          · omega
          · rw [am_lay_put (by omega) (i_clamp (by omega))]
            exact am_lay_eq (fun q => by omega)
        all_goals simp only [i_lt, i_le, hn] at *
        · rw [am_lay_eq (lo' := max a.toInt 0) (hi' := min b.toInt ((am_len c : Int) - 1)) (fun q => by omega)]; exact h
        · rw [am_lay_eq (lo' := max a.toInt 0) (hi' := min b.toInt ((am_len c : Int) - 1)) (fun q => by omega)]; exact h
        · omega
        · omega
      · cases hI
    · exact h.elim
end
-- part 12.rows.lean.txt
section
/-! Rows -/
def rwX3_put : List dz_r := [(0, .iload_n 1, 1), (1, .aload_n 0, 1), (2, .getfield 15, 3), (5, .imul, 1), (6, .iload_n 2, 1), (7, .iadd, 1), (8, .istore 4, 2), (10, .iload_n 2, 1), (11, .aload_n 0, 1), (12, .getfield 15, 3), (15, .if_icmp .ge 26, 3), (18, .iload 4, 2), (20, .ifCond .lt 21, 3), (23, .iload 4, 2), (25, .aload_n 0, 1), (26, .getfield 9, 3), (29, .arraylength, 1), (30, .if_icmp .ge 11, 3), (33, .aload_n 0, 1), (34, .getfield 9, 3), (37, .iload 4, 2), (39, .iload_n 3, 1), (40, .iastore, 1), (41, .return_, 1)]
theorem dzX3_put : dz cX3_put rwX3_put := dz_all 0 (by decide +kernel)
def kX3_put (live : am_E) (Ret : am_R) : am_code := [(0, am_iload 1 1), (1, am_aload 0 2), (2, am_getI live 3 1 5), (5, am_i2 (fun x y => x * y) 6), (6, am_iload 2 7), (7, am_i2 (fun x y => x + y) 8), (8, am_istore 4 5 10), (10, am_iload 2 11), (11, am_aload 0 12), (12, am_getI live 3 1 15), (15, am_if2 (fun x y => y ≤ x) 41 18), (18, am_iload 4 20), (20, am_if1 (fun x => x < 0) 41 23), (23, am_iload 4 25), (25, am_aload 0 26), (26, am_getR live 3 0 29), (29, am_alen live 0 30), (30, am_if2 (fun x y => y ≤ x) 41 33), (33, am_aload 0 34), (34, am_getR live 3 0 37), (37, am_iload 4 39), (39, am_iload 3 40), (40, am_ast live 0 41), (41, am_retV Ret)]
theorem koX3_put (live : am_E) (Ret : am_R) : ∀ q ∈ kX3_put live Ret, am_ok RX3 cX3_put 5 none 0 0 live Ret q.1 q.2 :=
  am_kz dzX3_put <|
  am_kd (fun d => ak_iload_n d rfl rfl) <|
  am_kd (fun d => ak_aload_n d rfl rfl) <|
  am_kd (fun d => ak_getI (C := RX3) (T := TX3) (N := 3) rfl inX3w (by decide) rfl rfl rfl wd_148 d rfl) <|
  am_kd (fun d => ak_imul d rfl) <|
  am_kd (fun d => ak_iload_n d rfl rfl) <|
  am_kd (fun d => ak_iadd d rfl) <|
  am_kd (fun d => ak_istore d rfl) <|
  am_kd (fun d => ak_iload_n d rfl rfl) <|
  am_kd (fun d => ak_aload_n d rfl rfl) <|
  am_kd (fun d => ak_getI (C := RX3) (T := TX3) (N := 3) rfl inX3w (by decide) rfl rfl rfl wd_148 d rfl) <|
  am_kd (fun d => ak_icmp_ge d (by decide +kernel) rfl) <|
  am_kd (fun d => ak_iload d rfl) <|
  am_kd (fun d => ak_if_lt d (by decide +kernel) rfl) <|
  am_kd (fun d => ak_iload d rfl) <|
  am_kd (fun d => ak_aload_n d rfl rfl) <|
  am_kd (fun d => ak_getR (C := RX3) (T := TX3) (N := 3) rfl inX3w (by decide) rfl rfl rfl wd_147 d rfl) <|
  am_kd (fun d => ak_alen (t := 0) (fun _ => rfl) d rfl) <|
  am_kd (fun d => ak_icmp_ge d (by decide +kernel) rfl) <|
  am_kd (fun d => ak_aload_n d rfl rfl) <|
  am_kd (fun d => ak_getR (C := RX3) (T := TX3) (N := 3) rfl inX3w (by decide) rfl rfl rfl wd_147 d rfl) <|
  am_kd (fun d => ak_iload d rfl) <|
  am_kd (fun d => ak_iload_n d rfl rfl) <|
  am_kd (fun d => ak_iast (t := 0) (fun _ => rfl) rfl d rfl) <|
  am_kd (fun d => ak_retV d) <| am_kdn
def TX3_put : am_T := fun live as M R => match as with
  | [.ref r, .int a, .int b, .int v] => am_ex (live.2 r 0) (fun c => am_if (am_rc live r c) (R none (am_rput M r c a b v)))
  | _ => False
set_option maxRecDepth 100000 in
set_option maxHeartbeats 4000000 in
theorem metX3_put : am_Met yX3_put cX3_put 5 none (0) (0) TX3_put := by
  refine am_met (own := RX3) (by decide +kernel) rfl kX3_put koX3_put 60 (fun _ _ _ _ _ => none) (fun live as M Ret h => ?_) (fun _ _ _ _ _ _ _ _ hI => by cases hI)
  unfold TX3_put at h
  split at h
  · next r a b v =>
    refine ⟨Nat.le_of_ble_eq_true rfl, ?_⟩
    change am_wp _ _ _ _ [(0, Value.ref r), (1, Value.int a), (2, Value.int b), (3, Value.int v)] _ _
    have hh := am_qm h
    clear h
    obtain ⟨c, h2, h⟩ := hh
    have hh := am_if_mp h
    clear h
    obtain ⟨hb, h⟩ := hh
    obtain ⟨h1, h3, h4, h5⟩ := am_rc_spec hb
    repeat' (first | (with_reducible exact h1) | (with_reducible exact h2) | (with_reducible exact h3) | (refine Exists.intro _ (And.intro h2 ?_)) | apply And.intro | exact rfl | intro hx | (refine Exists.intro _ (And.intro rfl ?_)) | ((with_reducible change _ = true); simp only [h1, h2, h3, Bool.true_and]; rfl))
    all_goals try first | (with_reducible change am_tI _ _) | (change Ret _ _) | (change Ret _ _ _) | (change Exists _)
    all_goals try dsimp only at *
    all_goals try (with_reducible exact absurd ‹(1000 : Int64) = 0› am_z1000)
    · rw [am_rput_f (fun q => by have := q.1; simp only [i_lt, i_le] at *; omega)] at h; exact h
    · rw [am_rput_f (fun q => am_in_no1 ‹_› q.2)] at h; exact h
    · rw [am_rput_f (fun q => am_in_no2 h4 ‹_› q.2)] at h; exact h
    · exact (am_in_of h4 ‹_› ‹_›).1
    · exact (am_in_of h4 ‹_› ‹_›).2
    · rw [am_rput_t (by simp only [i_lt, i_le] at *; omega) (am_in_of h4 ‹_› ‹_›)] at h; exact h
  · exact h.elim
set_option maxRecDepth 100000 in
theorem wd_150 : Cond.fieldLink "LearnLoans$Rows" 19 "LearnLoans$Rows" "size" "I" ∈ am_ws := am_wt1 (List.mem_of_getElem? (i := 93) (by rfl)) (by decide +kernel)
theorem hy_X3_put : yX3_put.cls ≠ "java/lang/invoke/MethodHandle" ∧ yX3_put.cls ≠ "java/lang/invoke/VarHandle" ∧ (parseMethodDescriptor yX3_put.desc).map (fun d => d.parameters.length) = some 3 := ⟨by decide +kernel, by decide +kernel, by decide +kernel⟩
set_option maxRecDepth 100000 in
theorem wd_484 : Cond.methodLink "LearnLoans$Rows" 22 yX3_put ∈ am_ws := am_wt2 (List.mem_of_getElem? (i := 187) (by rfl)) (by decide +kernel)
set_option maxRecDepth 100000 in
theorem wd_485 : Cond.instanceMethod yX3_put ∈ am_ws := am_wt2 (List.mem_of_getElem? (i := 188) (by rfl)) (by decide +kernel)
set_option maxRecDepth 100000 in
theorem wd_486 : Cond.selects "LearnLoans$Rows" yX3_put yX3_put ∈ am_ws := am_wt2 (List.mem_of_getElem? (i := 189) (by rfl)) (by decide +kernel)
set_option maxRecDepth 100000 in
theorem wd_64 : Cond.initialized "LearnLoans$Rows" ∈ am_ws := am_wt1 (List.mem_of_getElem? (i := 7) (by rfl)) (by decide +kernel)
set_option maxRecDepth 100000 in
theorem wd_487 : Cond.code yX3_put cX3_put 5 none ∈ am_ws := am_wt2 (List.mem_of_getElem? (i := 190) (by rfl)) (by decide +kernel)
def rwX3_add : List dz_r := [(0, .aload_n 0, 1), (1, .aload_n 0, 1), (2, .getfield 19, 3), (5, .iconst 0, 1), (6, .iload_n 1, 1), (7, .invokevirtual 22, 3), (10, .aload_n 0, 1), (11, .aload_n 0, 1), (12, .getfield 19, 3), (15, .iconst 1, 1), (16, .iload_n 2, 1), (17, .invokevirtual 22, 3), (20, .aload_n 0, 1), (21, .aload_n 0, 1), (22, .getfield 19, 3), (25, .iconst 2, 1), (26, .iload_n 3, 1), (27, .invokevirtual 22, 3), (30, .aload_n 0, 1), (31, .dup, 1), (32, .getfield 19, 3), (35, .iconst 1, 1), (36, .iadd, 1), (37, .putfield 19, 3), (40, .aload_n 0, 1), (41, .getfield 19, 3), (44, .iconst 1, 1), (45, .isub, 1), (46, .ireturn, 1)]
theorem dzX3_add : dz cX3_add rwX3_add := dz_all 0 (by decide +kernel)
def kX3_add (live : am_E) (Ret : am_R) : am_code := [(0, am_aload 0 1), (1, am_aload 0 2), (2, am_getI live 3 2 5), (5, am_const (.int 0) 6), (6, am_iload 1 7), (7, am_callV live 3 3 TX3_put 10), (10, am_aload 0 11), (11, am_aload 0 12), (12, am_getI live 3 2 15), (15, am_const (.int 1) 16), (16, am_iload 2 17), (17, am_callV live 3 3 TX3_put 20), (20, am_aload 0 21), (21, am_aload 0 22), (22, am_getI live 3 2 25), (25, am_const (.int 2) 26), (26, am_iload 3 27), (27, am_callV live 3 3 TX3_put 30), (30, am_aload 0 31), (31, am_dup 32), (32, am_getI live 3 2 35), (35, am_const (.int 1) 36), (36, am_i2 (fun x y => x + y) 37), (37, am_putI live 3 2 40), (40, am_aload 0 41), (41, am_getI live 3 2 44), (44, am_const (.int 1) 45), (45, am_i2 (fun x y => x - y) 46), (46, am_retI Ret)]
theorem koX3_add (live : am_E) (Ret : am_R) : ∀ q ∈ kX3_add live Ret, am_ok RX3 cX3_add 4 (some .int) 1 24 live Ret q.1 q.2 :=
  am_kz dzX3_add <|
  am_kd (fun d => ak_aload_n d rfl rfl) <|
  am_kd (fun d => ak_aload_n d rfl rfl) <|
  am_kd (fun d => ak_getI (C := RX3) (T := TX3) (N := 3) rfl inX3w (by decide) rfl rfl rfl wd_150 d rfl) <|
  am_kd (fun d => ak_iconst d (by decide +kernel) rfl) <|
  am_kd (fun d => ak_iload_n d rfl rfl) <|
  am_kd (fun d => ak_callV (C := RX3) (F := TX3) (N := 3) metX3_put rfl ⟨rfl, hy_X3_put⟩ (am_w5 wd_484 wd_485 wd_486 wd_64 wd_487) (by decide) d rfl) <|
  am_kd (fun d => ak_aload_n d rfl rfl) <|
  am_kd (fun d => ak_aload_n d rfl rfl) <|
  am_kd (fun d => ak_getI (C := RX3) (T := TX3) (N := 3) rfl inX3w (by decide) rfl rfl rfl wd_150 d rfl) <|
  am_kd (fun d => ak_iconst d (by decide +kernel) rfl) <|
  am_kd (fun d => ak_iload_n d rfl rfl) <|
  am_kd (fun d => ak_callV (C := RX3) (F := TX3) (N := 3) metX3_put rfl ⟨rfl, hy_X3_put⟩ (am_w5 wd_484 wd_485 wd_486 wd_64 wd_487) (by decide) d rfl) <|
  am_kd (fun d => ak_aload_n d rfl rfl) <|
  am_kd (fun d => ak_aload_n d rfl rfl) <|
  am_kd (fun d => ak_getI (C := RX3) (T := TX3) (N := 3) rfl inX3w (by decide) rfl rfl rfl wd_150 d rfl) <|
  am_kd (fun d => ak_iconst d (by decide +kernel) rfl) <|
  am_kd (fun d => ak_iload_n d rfl rfl) <|
  am_kd (fun d => ak_callV (C := RX3) (F := TX3) (N := 3) metX3_put rfl ⟨rfl, hy_X3_put⟩ (am_w5 wd_484 wd_485 wd_486 wd_64 wd_487) (by decide) d rfl) <|
  am_kd (fun d => ak_aload_n d rfl rfl) <|
  am_kd (fun d => ak_dup d rfl) <|
  am_kd (fun d => ak_getI (C := RX3) (T := TX3) (N := 3) rfl inX3w (by decide) rfl rfl rfl wd_150 d rfl) <|
  am_kd (fun d => ak_iconst d (by decide +kernel) rfl) <|
  am_kd (fun d => ak_iadd d rfl) <|
  am_kd (fun d => ak_putI (C := RX3) (T := TX3) (N := 3) rfl inX3w tyX3_ok nmX3 (by decide) rfl rfl rfl rfl (by decide +kernel) wd_150 d rfl) <|
  am_kd (fun d => ak_aload_n d rfl rfl) <|
  am_kd (fun d => ak_getI (C := RX3) (T := TX3) (N := 3) rfl inX3w (by decide) rfl rfl rfl wd_150 d rfl) <|
  am_kd (fun d => ak_iconst d (by decide +kernel) rfl) <|
  am_kd (fun d => ak_isub d rfl) <|
  am_kd (fun d => ak_retI d) <| am_kdn
def am_radd (M : am_M) (r c : Nat) (x y z : Int32) : am_M := am_wI (am_rput (am_rput (am_rput M r c (M.1 r 2) 0 x) r c (M.1 r 2) 1 y) r c (M.1 r 2) 2 z) r 2 (M.1 r 2 + 1)
def TX3_add : am_T := fun live as M R => match as with
  | [.ref r, .int x, .int y, .int z] => am_ex (live.2 r 0) (fun c => am_if (am_rc live r c) (R (some (.int (M.1 r 2 + 1 - 1))) (am_radd M r c x y z)))
  | _ => False
set_option maxRecDepth 100000 in
set_option maxHeartbeats 4000000 in
theorem metX3_add : am_Met yX3_add cX3_add 4 (some .int) (1) (24) TX3_add := by
  refine am_met (own := RX3) (by decide +kernel) rfl kX3_add koX3_add 60 (fun _ _ _ _ _ => none) (fun live as M Ret h => ?_) (fun _ _ _ _ _ _ _ _ hI => by cases hI)
  unfold TX3_add at h
  split at h
  · next r x y z =>
    refine ⟨Nat.le_of_ble_eq_true rfl, ?_⟩
    change am_wp _ _ _ _ [(0, Value.ref r), (1, Value.int x), (2, Value.int y), (3, Value.int z)] _ _
    have hh := am_qm h
    clear h
    obtain ⟨c, h2, h⟩ := hh
    have hh := am_if_mp h
    clear h
    obtain ⟨hb, h⟩ := hh
    obtain ⟨h1, h3, h4, h5⟩ := am_rc_spec hb
    repeat' (first | (with_reducible exact h1) | (with_reducible exact h2) | (with_reducible exact hb) | (refine Exists.intro _ (And.intro h2 ?_)) | apply And.intro | exact rfl | intro hx | (refine Exists.intro _ (And.intro rfl ?_)) | ((with_reducible change _ = true); simp only [h1, h2, hb, Bool.true_and]; rfl))
    all_goals try first | (with_reducible change am_tI _ _) | (change Ret _ _) | (change Ret _ _ _) | (change Exists _)
    all_goals try dsimp only at *
    all_goals try (with_reducible exact absurd ‹(1000 : Int64) = 0› am_z1000)
    simp only [am_wI_1, am_rput_ne h5, and_self, if_true]
    exact h
  · exact h.elim
def rwX3_dropLast : List dz_r := [(0, .aload_n 0, 1), (1, .getfield 19, 3), (4, .ifCond .le 13, 3), (7, .aload_n 0, 1), (8, .dup, 1), (9, .getfield 19, 3), (12, .iconst 1, 1), (13, .isub, 1), (14, .putfield 19, 3), (17, .return_, 1)]
theorem dzX3_dropLast : dz cX3_dropLast rwX3_dropLast := dz_all 0 (by decide +kernel)
def kX3_dropLast (live : am_E) (Ret : am_R) : am_code := [(0, am_aload 0 1), (1, am_getI live 3 2 4), (4, am_if1 (fun x => x ≤ 0) 17 7), (7, am_aload 0 8), (8, am_dup 9), (9, am_getI live 3 2 12), (12, am_const (.int 1) 13), (13, am_i2 (fun x y => x - y) 14), (14, am_putI live 3 2 17), (17, am_retV Ret)]
theorem koX3_dropLast (live : am_E) (Ret : am_R) : ∀ q ∈ kX3_dropLast live Ret, am_ok RX3 cX3_dropLast 1 none 0 0 live Ret q.1 q.2 :=
  am_kz dzX3_dropLast <|
  am_kd (fun d => ak_aload_n d rfl rfl) <|
  am_kd (fun d => ak_getI (C := RX3) (T := TX3) (N := 3) rfl inX3w (by decide) rfl rfl rfl wd_150 d rfl) <|
  am_kd (fun d => ak_if_le d (by decide +kernel) rfl) <|
  am_kd (fun d => ak_aload_n d rfl rfl) <|
  am_kd (fun d => ak_dup d rfl) <|
  am_kd (fun d => ak_getI (C := RX3) (T := TX3) (N := 3) rfl inX3w (by decide) rfl rfl rfl wd_150 d rfl) <|
  am_kd (fun d => ak_iconst d (by decide +kernel) rfl) <|
  am_kd (fun d => ak_isub d rfl) <|
  am_kd (fun d => ak_putI (C := RX3) (T := TX3) (N := 3) rfl inX3w tyX3_ok nmX3 (by decide) rfl rfl rfl rfl (by decide +kernel) wd_150 d rfl) <|
  am_kd (fun d => ak_retV d) <| am_kdn
def TX3_dropLast : am_T := fun live as M R => match as with
  | [.ref r] => am_if (am_isO live 3 r) (R none (am_wIc (0 < M.1 r 2) M r 2 (M.1 r 2 - 1)))
  | _ => False
set_option maxRecDepth 100000 in
set_option maxHeartbeats 4000000 in
theorem metX3_dropLast : am_Met yX3_dropLast cX3_dropLast 1 none (0) (0) TX3_dropLast := by
  refine am_met (own := RX3) (by decide +kernel) rfl kX3_dropLast koX3_dropLast 60 (fun _ _ _ _ _ => none) (fun live as M Ret h => ?_) (fun _ _ _ _ _ _ _ _ hI => by cases hI)
  unfold TX3_dropLast at h
  split at h
  · next r =>
    refine ⟨Nat.le_of_ble_eq_true rfl, ?_⟩
    change am_wp _ _ _ _ [(0, Value.ref r)] _ _
    have hh := am_if_mp h
    clear h
    obtain ⟨h1, h⟩ := hh
    repeat' (first | (with_reducible exact h1) | apply And.intro | exact rfl | intro hx | (refine Exists.intro _ (And.intro rfl ?_)) | ((with_reducible change _ = true); simp only [h1, Bool.true_and]; rfl))
    all_goals try first | (with_reducible change am_tI _ _) | (change Ret _ _) | (change Ret _ _ _) | (change Exists _)
    all_goals try dsimp only at *
    all_goals try (with_reducible exact absurd ‹(1000 : Int64) = 0› am_z1000)
    · rw [am_wIc_f (by simp only [i_lt, i_le] at *; omega)] at h; exact h
    · rw [am_wIc_t (by simp only [i_lt, i_le] at *; omega)] at h; exact h
  · exact h.elim
set_option maxRecDepth 100000 in
theorem wd_850 : Cond.methodLink "LearnLoans$Rows" 26 Lib.Math.min.name ∈ am_ws := am_wt4 (List.mem_of_getElem? (i := 73) (by rfl)) (by decide +kernel)
set_option maxRecDepth 100000 in
theorem wd_851 : Cond.static Lib.Math.min.name ∈ am_ws := am_wt4 (List.mem_of_getElem? (i := 74) (by rfl)) (by decide +kernel)
set_option maxRecDepth 100000 in
theorem wd_852 : Cond.code Lib.Math.min.name Lib.Math.min.code 2 (some .int) ∈ am_ws := am_wt4 (List.mem_of_getElem? (i := 75) (by rfl)) (by decide +kernel)
set_option maxRecDepth 100000 in
theorem wd_853 : Cond.methodLink "LearnLoans$Rows" 32 arraycopyName ∈ am_ws := am_wt4 (List.mem_of_getElem? (i := 76) (by rfl)) (by decide +kernel)
set_option maxRecDepth 100000 in
theorem wd_501 : Cond.native arraycopyName ∈ am_ws := am_wt2 (List.mem_of_getElem? (i := 204) (by rfl)) (by decide +kernel)
set_option maxRecDepth 100000 in
theorem wd_500 : Cond.static arraycopyName ∈ am_ws := am_wt2 (List.mem_of_getElem? (i := 203) (by rfl)) (by decide +kernel)
set_option maxRecDepth 100000 in
theorem wd_69 : Cond.initialized "java/lang/System" ∈ am_ws := am_wt1 (List.mem_of_getElem? (i := 12) (by rfl)) (by decide +kernel)
def rwX3_takeOver : List dz_r := [(0, .aload_n 1, 1), (1, .getfield 9, 3), (4, .iconst 0, 1), (5, .aload_n 0, 1), (6, .getfield 9, 3), (9, .iconst 0, 1), (10, .aload_n 0, 1), (11, .getfield 9, 3), (14, .arraylength, 1), (15, .aload_n 1, 1), (16, .getfield 9, 3), (19, .arraylength, 1), (20, .invokestatic 26, 3), (23, .invokestatic 32, 3), (26, .aload_n 0, 1), (27, .aload_n 1, 1), (28, .getfield 19, 3), (31, .putfield 19, 3), (34, .return_, 1)]
theorem dzX3_takeOver : dz cX3_takeOver rwX3_takeOver := dz_all 0 (by decide +kernel)
def kX3_takeOver (live : am_E) (Ret : am_R) : am_code := [(0, am_aload 1 1), (1, am_getR live 3 0 4), (4, am_const (.int 0) 5), (5, am_aload 0 6), (6, am_getR live 3 0 9), (9, am_const (.int 0) 10), (10, am_aload 0 11), (11, am_getR live 3 0 14), (14, am_alen live 0 15), (15, am_aload 1 16), (16, am_getR live 3 0 19), (19, am_alen live 0 20), (20, am_math2 (fun x y => if y < x then y else x) 31 23), (23, am_copyI live 31 26), (26, am_aload 0 27), (27, am_aload 1 28), (28, am_getI live 3 2 31), (31, am_putI live 3 2 34), (34, am_retV Ret)]
theorem koX3_takeOver (live : am_E) (Ret : am_R) : ∀ q ∈ kX3_takeOver live Ret, am_ok RX3 cX3_takeOver 2 none 1 31 live Ret q.1 q.2 :=
  am_kz dzX3_takeOver <|
  am_kd (fun d => ak_aload_n d rfl rfl) <|
  am_kd (fun d => ak_getR (C := RX3) (T := TX3) (N := 3) rfl inX3w (by decide) rfl rfl rfl wd_147 d rfl) <|
  am_kd (fun d => ak_iconst d (by decide +kernel) rfl) <|
  am_kd (fun d => ak_aload_n d rfl rfl) <|
  am_kd (fun d => ak_getR (C := RX3) (T := TX3) (N := 3) rfl inX3w (by decide) rfl rfl rfl wd_147 d rfl) <|
  am_kd (fun d => ak_iconst d (by decide +kernel) rfl) <|
  am_kd (fun d => ak_aload_n d rfl rfl) <|
  am_kd (fun d => ak_getR (C := RX3) (T := TX3) (N := 3) rfl inX3w (by decide) rfl rfl rfl wd_147 d rfl) <|
  am_kd (fun d => ak_alen (t := 0) (fun _ => rfl) d rfl) <|
  am_kd (fun d => ak_aload_n d rfl rfl) <|
  am_kd (fun d => ak_getR (C := RX3) (T := TX3) (N := 3) rfl inX3w (by decide) rfl rfl rfl wd_147 d rfl) <|
  am_kd (fun d => ak_alen (t := 0) (fun _ => rfl) d rfl) <|
  am_kd (fun d => ak_imin (am_w4 wd_850 wd_851 wd_68 wd_852) (by decide) d rfl) <|
  am_kd (fun d => ak_copyI (am_w4 wd_853 wd_501 wd_500 wd_69) (by decide) d rfl) <|
  am_kd (fun d => ak_aload_n d rfl rfl) <|
  am_kd (fun d => ak_aload_n d rfl rfl) <|
  am_kd (fun d => ak_getI (C := RX3) (T := TX3) (N := 3) rfl inX3w (by decide) rfl rfl rfl wd_150 d rfl) <|
  am_kd (fun d => ak_putI (C := RX3) (T := TX3) (N := 3) rfl inX3w tyX3_ok nmX3 (by decide) rfl rfl rfl rfl (by decide +kernel) wd_150 d rfl) <|
  am_kd (fun d => ak_retV d) <| am_kdn
def TX3_takeOver : am_T := fun live as M R => match as with
  | [.ref r, .ref r2] => am_ex (live.2 r 0) (fun c => am_ex (live.2 r2 0) (fun c2 => am_if (am_rc live r c && am_rc live r2 c2 && Nat.beq (am_len c) (am_len c2)) (R none (am_wI (am_cI M c (va_cpy (M.1 c2) (M.1 c) 0 0 (am_len c))) r 2 (M.1 r2 2)))))
  | _ => False
set_option maxRecDepth 100000 in
set_option maxHeartbeats 4000000 in
theorem metX3_takeOver : am_Met yX3_takeOver cX3_takeOver 2 none (1) (31) TX3_takeOver := by
  refine am_met (own := RX3) (by decide +kernel) rfl kX3_takeOver koX3_takeOver 60 (fun _ _ _ _ _ => none) (fun live as M Ret h => ?_) (fun _ _ _ _ _ _ _ _ hI => by cases hI)
  unfold TX3_takeOver at h
  split at h
  · next r r2 =>
    refine ⟨Nat.le_of_ble_eq_true rfl, ?_⟩
    change am_wp _ _ _ _ [(0, Value.ref r), (1, Value.ref r2)] _ _
    have hh := am_qm h
    clear h
    obtain ⟨c, h2, h⟩ := hh
    have hh := am_qm h
    clear h
    obtain ⟨c2, h6, h⟩ := hh
    have hh := am_if_mp h
    clear h
    obtain ⟨hb, h⟩ := hh
    simp only [Bool.and_eq_true] at hb
    obtain ⟨⟨hb, hc⟩, he⟩ := hb
    have he := Nat.eq_of_beq_eq_true he
    obtain ⟨h1, h3, h4, h5⟩ := am_rc_spec hb
    obtain ⟨h7, h8, h9, h10⟩ := am_rc_spec hc
    have hne := am_OA h7 h3
    have hn : (Int32.ofNat (am_len c2)).toInt = (am_len c2 : Int) := i_nat (by omega)
    have hn2 : (Int32.ofNat (am_len c2)).toNatClampNeg = am_len c2 := by have := i_clamp (x := Int32.ofNat (am_len c2)) (by omega); omega
    repeat' (first | (with_reducible exact h1) | (with_reducible exact h2) | (with_reducible exact h3) | (with_reducible exact h6) | (with_reducible exact h7) | (with_reducible exact h8) | (refine Exists.intro _ (Exists.intro _ (And.intro h2 (And.intro h6 ?_)))) | (refine Exists.intro _ (And.intro h2 ?_)) | (refine Exists.intro _ (And.intro h6 ?_)) | apply And.intro | exact rfl | intro hx | (refine Exists.intro _ (And.intro rfl ?_)) | ((with_reducible change _ = true); simp only [h1, h2, h3, h6, h7, h8, Bool.true_and]; rfl))
    all_goals try first | (with_reducible change am_tI _ _) | (change Ret _ _) | (change Ret _ _ _) | (change Exists _)
    all_goals try dsimp only at *
    all_goals try (with_reducible exact absurd ‹(1000 : Int64) = 0› am_z1000)
    all_goals simp only [he, ite_self, hn, Int32.toInt_zero]
    · omega
    · omega
    · omega
    · omega
    · omega
    · simp only [he, hn2, am_cI_1, hne, if_false] at h ⊢
      exact h
  · exact h.elim
set_option maxRecDepth 100000 in
theorem wd_883 : Cond.constantLong "LearnLoans$Rows" 38 31 ∈ am_ws := am_wt4 (List.mem_of_getElem? (i := 106) (by rfl)) (by decide +kernel)
def rwX3_mixed : List dz_r := [(0, .aload_n 0, 1), (1, .getfield 19, 3), (4, .aload_n 0, 1), (5, .getfield 15, 3), (8, .imul, 1), (9, .aload_n 0, 1), (10, .getfield 9, 3), (13, .arraylength, 1), (14, .invokestatic 26, 3), (17, .istore_n 3, 1), (18, .iconst 0, 1), (19, .istore 4, 2), (21, .iload 4, 2), (23, .iload_n 3, 1), (24, .if_icmp .ge 24, 3), (27, .ldc2_w 38, 3), (30, .lload_n 1, 1), (31, .lmul, 1), (32, .aload_n 0, 1), (33, .getfield 9, 3), (36, .iload 4, 2), (38, .iaload, 1), (39, .i2l, 1), (40, .ladd, 1), (41, .lstore_n 1, 1), (42, .iinc 4 1, 3), (45, .goto (-24), 3), (48, .lload_n 1, 1), (49, .lreturn, 1)]
theorem dzX3_mixed : dz cX3_mixed rwX3_mixed := dz_all 0 (by decide +kernel)
def kX3_mixed (live : am_E) (Ret : am_R) : am_code := [(0, am_aload 0 1), (1, am_getI live 3 2 4), (4, am_aload 0 5), (5, am_getI live 3 1 8), (8, am_i2 (fun x y => x * y) 9), (9, am_aload 0 10), (10, am_getR live 3 0 13), (13, am_alen live 0 14), (14, am_math2 (fun x y => if y < x then y else x) 23 17), (17, am_istore 3 5 18), (18, am_const (.int 0) 19), (19, am_istore 4 5 21), (21, am_iload 4 23), (23, am_iload 3 24), (24, am_if2 (fun x y => y ≤ x) 48 27), (27, am_const (.long 31) 30), (30, am_lload 1 31), (31, am_l2 (fun x y => x * y) 32), (32, am_aload 0 33), (33, am_getR live 3 0 36), (36, am_iload 4 38), (38, am_ald live 0 39), (39, am_i2l 40), (40, am_l2 (fun x y => x + y) 41), (41, am_lstore 1 5 42), (42, am_iinc 4 5 1 45), (45, am_goto 21), (48, am_lload 1 49), (49, am_retL Ret)]
theorem koX3_mixed (live : am_E) (Ret : am_R) : ∀ q ∈ kX3_mixed live Ret, am_ok RX3 cX3_mixed 5 (some .long) 1 23 live Ret q.1 q.2 :=
  am_kz dzX3_mixed <|
  am_kd (fun d => ak_aload_n d rfl rfl) <|
  am_kd (fun d => ak_getI (C := RX3) (T := TX3) (N := 3) rfl inX3w (by decide) rfl rfl rfl wd_150 d rfl) <|
  am_kd (fun d => ak_aload_n d rfl rfl) <|
  am_kd (fun d => ak_getI (C := RX3) (T := TX3) (N := 3) rfl inX3w (by decide) rfl rfl rfl wd_148 d rfl) <|
  am_kd (fun d => ak_imul d rfl) <|
  am_kd (fun d => ak_aload_n d rfl rfl) <|
  am_kd (fun d => ak_getR (C := RX3) (T := TX3) (N := 3) rfl inX3w (by decide) rfl rfl rfl wd_147 d rfl) <|
  am_kd (fun d => ak_alen (t := 0) (fun _ => rfl) d rfl) <|
  am_kd (fun d => ak_imin (am_w4 wd_850 wd_851 wd_68 wd_852) (by decide) d rfl) <|
  am_kd (fun d => ak_istore_n d rfl rfl) <|
  am_kd (fun d => ak_iconst d (by decide +kernel) rfl) <|
  am_kd (fun d => ak_istore d rfl) <|
  am_kd (fun d => ak_iload d rfl) <|
  am_kd (fun d => ak_iload_n d rfl rfl) <|
  am_kd (fun d => ak_icmp_ge d (by decide +kernel) rfl) <|
  am_kd (fun d => ak_ldc2 wd_883 d rfl) <|
  am_kd (fun d => ak_lload_n d rfl rfl) <|
  am_kd (fun d => ak_lmul d rfl) <|
  am_kd (fun d => ak_aload_n d rfl rfl) <|
  am_kd (fun d => ak_getR (C := RX3) (T := TX3) (N := 3) rfl inX3w (by decide) rfl rfl rfl wd_147 d rfl) <|
  am_kd (fun d => ak_iload d rfl) <|
  am_kd (fun d => ak_iald (t := 0) (fun _ => rfl) rfl d rfl) <|
  am_kd (fun d => ak_i2l d rfl) <|
  am_kd (fun d => ak_ladd d rfl) <|
  am_kd (fun d => ak_lstore_n d rfl rfl) <|
  am_kd (fun d => ak_iinc d (by decide +kernel) rfl) <|
  am_kd (fun d => ak_goto d (by decide +kernel)) <|
  am_kd (fun d => ak_lload_n d rfl rfl) <|
  am_kd (fun d => ak_retL d) <| am_kdn
def TX3_mixed : am_T := fun live as M R => match as with
  | [.ref r, .long x] => am_ex (live.2 r 0) (fun c => am_if (am_rc live r c) (∀ y, R (some (.long y)) M))
  | _ => False
def JX3_mixed : am_E → List Value → am_M → am_R → am_inv := fun live as M0 _ pc => match as with
  | [.ref r, .long x] => (match live.2 r 0 with
    | some c => (match pc with
      | 21 => some ([0, 1, 3, 4], fun k L st M => ∃ (y : Int64) (e i : Int32), L = [(0, .ref r), (1, .long y), (3, .int e), (4, .int i)] ∧ st = [] ∧ k = ((am_len c + 1 - i.toInt).toNat, 0) ∧ 0 ≤ i.toInt ∧ e.toInt ≤ am_len c ∧ M = M0)
      | _ => none)
    | none => none)
  | _ => none
set_option maxRecDepth 100000 in
set_option maxHeartbeats 4000000 in
theorem metX3_mixed : am_Met yX3_mixed cX3_mixed 5 (some .long) (1) (23) TX3_mixed := by
  refine am_met (own := RX3) (by decide +kernel) rfl kX3_mixed koX3_mixed 60 JX3_mixed ?_ ?_
  · intro live as M Ret h
    unfold TX3_mixed at h
    split at h
    · next r x =>
      refine ⟨Nat.le_of_ble_eq_true rfl, ?_⟩
      change am_wp _ _ _ _ [(0, Value.ref r), (1, Value.long x)] _ _
      have hh := am_qm h
      clear h
      obtain ⟨c, h2, h⟩ := hh
      have hh := am_if_mp h
      clear h
      obtain ⟨hb, h⟩ := hh
      obtain ⟨h1, h3, h4, h5⟩ := am_rc_spec hb
      have hn : (Int32.ofNat (am_len c)).toInt = (am_len c : Int) := i_nat (by omega)
      have hJ : ∀ pc, JX3_mixed live [.ref r, .long x] M Ret pc = (match pc with
        | 21 => some ([0, 1, 3, 4], fun k L st M' => ∃ (y : Int64) (e i : Int32), L = [(0, .ref r), (1, .long y), (3, .int e), (4, .int i)] ∧ st = [] ∧ k = ((am_len c + 1 - i.toInt).toNat, 0) ∧ 0 ≤ i.toInt ∧ e.toInt ≤ am_len c ∧ M' = M)
        | _ => none) := fun pc => by unfold JX3_mixed; simp only [h2]
      rw [show JX3_mixed live [.ref r, .long x] M Ret = _ from funext hJ]
      repeat' (first | (with_reducible exact h1) | (with_reducible exact h2) | (with_reducible exact h3) | (refine Exists.intro _ (And.intro h2 ?_)) | apply And.intro | exact rfl | intro hx | (refine Exists.intro _ (And.intro rfl ?_)) | ((with_reducible change _ = true); simp only [h1, h2, h3, Bool.true_and]; rfl))
      all_goals try first | (with_reducible change am_tI _ _) | (change Ret _ _) | (change Ret _ _ _) | (change Exists _)
      all_goals try dsimp only at *
      all_goals try (with_reducible exact absurd ‹(1000 : Int64) = 0› am_z1000)
      refine ⟨_, _, _, _, rfl, rfl, rfl, by decide, ?_, rfl⟩
      split
      · omega
      · simp only [i_lt] at *; omega
    · exact h.elim
  · intro live as M0 Ret h k pc I hI L st M hi
    unfold TX3_mixed at h
    split at h
    · next r x =>
      have hh := am_qm h
      clear h
      obtain ⟨c, h2, h⟩ := hh
      have hh := am_if_mp h
      clear h
      obtain ⟨hb, h⟩ := hh
      obtain ⟨h1, h3, h4, h5⟩ := am_rc_spec hb
      have hJ : ∀ pc, JX3_mixed live [.ref r, .long x] M0 Ret pc = (match pc with
        | 21 => some ([0, 1, 3, 4], fun k L st M' => ∃ (y : Int64) (e i : Int32), L = [(0, .ref r), (1, .long y), (3, .int e), (4, .int i)] ∧ st = [] ∧ k = ((am_len c + 1 - i.toInt).toNat, 0) ∧ 0 ≤ i.toInt ∧ e.toInt ≤ am_len c ∧ M' = M0)
        | _ => none) := fun pc => by unfold JX3_mixed; simp only [h2]
      rw [show JX3_mixed live [.ref r, .long x] M0 Ret = _ from funext hJ] at hI ⊢
      change (match pc with | 21 => _ | _ => none) = _ at hI
      split at hI
      · cases hI
        obtain ⟨y, e, i, rfl, rfl, rfl, e1, e2, rfl⟩ := hi
        repeat' (first | (with_reducible exact h1) | (with_reducible exact h2) | (with_reducible exact h3) | (refine Exists.intro _ (And.intro h2 ?_)) | apply And.intro | exact rfl | intro hx | (refine Exists.intro _ (And.intro rfl ?_)) | ((with_reducible change _ = true); simp only [h1, h2, h3, Bool.true_and]; rfl))
        all_goals try first | (with_reducible change am_tI _ _) | (change Ret _ _) | (change Ret _ _ _) | (change Exists _)
        all_goals try dsimp only at *
        all_goals try (with_reducible exact absurd ‹(1000 : Int64) = 0› am_z1000)
        · exact h _
        · omega
        · simp only [i_lt, i_le] at *; omega
        · refine ⟨_, Or.inl ?_, _, _, i + 1, rfl, rfl, rfl, ?_, e2, rfl⟩
          all_goals simp only [i_lt, i_le] at *
          all_goals
            have hi := i_add (x := i) (y := 1) (by simp only [Int32.reduceToInt]; omega) (by simp only [Int32.reduceToInt]; omega)
            simp only [Int32.reduceToInt] at hi
            omega
      · cases hI
    · exact h.elim
end
-- part 13.house.lean.txt
section
/-! People and House: what is read; an act more -/
set_option maxRecDepth 100000 in
theorem wd_113 : Cond.fieldLink "LearnLoans$People" 21 "LearnLoans$People" "first" "[I" ∈ am_ws := am_wt1 (List.mem_of_getElem? (i := 56) (by rfl)) (by decide +kernel)
set_option maxRecDepth 100000 in
theorem wd_119 : Cond.fieldLink "LearnLoans$People" 30 "LearnLoans$People" "secondKnown" "[I" ∈ am_ws := am_wt1 (List.mem_of_getElem? (i := 62) (by rfl)) (by decide +kernel)
set_option maxRecDepth 100000 in
theorem wd_117 : Cond.fieldLink "LearnLoans$People" 27 "LearnLoans$People" "second" "[I" ∈ am_ws := am_wt1 (List.mem_of_getElem? (i := 60) (by rfl)) (by decide +kernel)
set_option maxRecDepth 100000 in
theorem wd_115 : Cond.fieldLink "LearnLoans$People" 24 "LearnLoans$People" "firstKnown" "[I" ∈ am_ws := am_wt1 (List.mem_of_getElem? (i := 58) (by rfl)) (by decide +kernel)
def rwX2_earned : List dz_r := [(0, .iload_n 1, 1), (1, .bipush 40, 2), (3, .imul, 1), (4, .iload_n 2, 1), (5, .iadd, 1), (6, .istore 4, 2), (8, .iload 4, 2), (10, .ifCond .lt 13, 3), (13, .iload 4, 2), (15, .aload_n 0, 1), (16, .getfield 21, 3), (19, .arraylength, 1), (20, .if_icmp .lt 5, 3), (23, .iconst (-1), 1), (24, .ireturn, 1), (25, .aload_n 0, 1), (26, .getfield 30, 3), (29, .iload 4, 2), (31, .iaload, 1), (32, .iconst (-1), 1), (33, .if_icmp .eq 22, 3), (36, .aload_n 0, 1), (37, .getfield 30, 3), (40, .iload 4, 2), (42, .iaload, 1), (43, .iload_n 3, 1), (44, .if_icmp .gt 11, 3), (47, .aload_n 0, 1), (48, .getfield 27, 3), (51, .iload 4, 2), (53, .iaload, 1), (54, .ireturn, 1), (55, .aload_n 0, 1), (56, .getfield 24, 3), (59, .iload 4, 2), (61, .iaload, 1), (62, .iconst (-1), 1), (63, .if_icmp .eq 24, 3), (66, .aload_n 0, 1), (67, .getfield 24, 3), (70, .iload 4, 2), (72, .iaload, 1), (73, .iload_n 3, 1), (74, .if_icmp .gt 13, 3), (77, .aload_n 0, 1), (78, .getfield 21, 3), (81, .iload 4, 2), (83, .iaload, 1), (84, .goto 4, 3), (87, .iconst (-1), 1), (88, .ireturn, 1)]
theorem dzX2_earned : dz cX2_earned rwX2_earned := dz_all 0 (by decide +kernel)
def kX2_earned (live : am_E) (Ret : am_R) : am_code := [(0, am_iload 1 1), (1, am_const (.int 40) 3), (3, am_i2 (fun x y => x * y) 4), (4, am_iload 2 5), (5, am_i2 (fun x y => x + y) 6), (6, am_istore 4 5 8), (8, am_iload 4 10), (10, am_if1 (fun x => x < 0) 23 13), (13, am_iload 4 15), (15, am_aload 0 16), (16, am_getR live 2 3 19), (19, am_alen live 0 20), (20, am_if2 (fun x y => x < y) 25 23), (23, am_const (.int (-1)) 24), (24, am_retI Ret), (25, am_aload 0 26), (26, am_getR live 2 6 29), (29, am_iload 4 31), (31, am_ald live 0 32), (32, am_const (.int (-1)) 33), (33, am_if2 (fun x y => x = y) 55 36), (36, am_aload 0 37), (37, am_getR live 2 6 40), (40, am_iload 4 42), (42, am_ald live 0 43), (43, am_iload 3 44), (44, am_if2 (fun x y => y < x) 55 47), (47, am_aload 0 48), (48, am_getR live 2 5 51), (51, am_iload 4 53), (53, am_ald live 0 54), (54, am_retI Ret), (55, am_aload 0 56), (56, am_getR live 2 4 59), (59, am_iload 4 61), (61, am_ald live 0 62), (62, am_const (.int (-1)) 63), (63, am_if2 (fun x y => x = y) 87 66), (66, am_aload 0 67), (67, am_getR live 2 4 70), (70, am_iload 4 72), (72, am_ald live 0 73), (73, am_iload 3 74), (74, am_if2 (fun x y => y < x) 87 77), (77, am_aload 0 78), (78, am_getR live 2 3 81), (81, am_iload 4 83), (83, am_ald live 0 84), (84, am_goto 88), (87, am_const (.int (-1)) 88), (88, am_retI Ret)]
theorem koX2_earned (live : am_E) (Ret : am_R) : ∀ q ∈ kX2_earned live Ret, am_ok RX2 cX2_earned 5 (some .int) 0 0 live Ret q.1 q.2 :=
  am_kz dzX2_earned <|
  am_kd (fun d => ak_iload_n d rfl rfl) <|
  am_kd (fun d => ak_bipush d (by decide +kernel) rfl) <|
  am_kd (fun d => ak_imul d rfl) <|
  am_kd (fun d => ak_iload_n d rfl rfl) <|
  am_kd (fun d => ak_iadd d rfl) <|
  am_kd (fun d => ak_istore d rfl) <|
  am_kd (fun d => ak_iload d rfl) <|
  am_kd (fun d => ak_if_lt d (by decide +kernel) rfl) <|
  am_kd (fun d => ak_iload d rfl) <|
  am_kd (fun d => ak_aload_n d rfl rfl) <|
  am_kd (fun d => ak_getR (C := RX2) (T := TX2) (N := 8) rfl inX2w (by decide) rfl rfl rfl wd_113 d rfl) <|
  am_kd (fun d => ak_alen (t := 0) (fun _ => rfl) d rfl) <|
  am_kd (fun d => ak_icmp_lt d (by decide +kernel) rfl) <|
  am_kd (fun d => ak_iconst d (by decide +kernel) rfl) <|
  am_kd (fun d => ak_retI d) <|
  am_kd (fun d => ak_aload_n d rfl rfl) <|
  am_kd (fun d => ak_getR (C := RX2) (T := TX2) (N := 8) rfl inX2w (by decide) rfl rfl rfl wd_119 d rfl) <|
  am_kd (fun d => ak_iload d rfl) <|
  am_kd (fun d => ak_iald (t := 0) (fun _ => rfl) rfl d rfl) <|
  am_kd (fun d => ak_iconst d (by decide +kernel) rfl) <|
  am_kd (fun d => ak_icmp_eq d (by decide +kernel) rfl) <|
  am_kd (fun d => ak_aload_n d rfl rfl) <|
  am_kd (fun d => ak_getR (C := RX2) (T := TX2) (N := 8) rfl inX2w (by decide) rfl rfl rfl wd_119 d rfl) <|
  am_kd (fun d => ak_iload d rfl) <|
  am_kd (fun d => ak_iald (t := 0) (fun _ => rfl) rfl d rfl) <|
  am_kd (fun d => ak_iload_n d rfl rfl) <|
  am_kd (fun d => ak_icmp_gt d (by decide +kernel) rfl) <|
  am_kd (fun d => ak_aload_n d rfl rfl) <|
  am_kd (fun d => ak_getR (C := RX2) (T := TX2) (N := 8) rfl inX2w (by decide) rfl rfl rfl wd_117 d rfl) <|
  am_kd (fun d => ak_iload d rfl) <|
  am_kd (fun d => ak_iald (t := 0) (fun _ => rfl) rfl d rfl) <|
  am_kd (fun d => ak_retI d) <|
  am_kd (fun d => ak_aload_n d rfl rfl) <|
  am_kd (fun d => ak_getR (C := RX2) (T := TX2) (N := 8) rfl inX2w (by decide) rfl rfl rfl wd_115 d rfl) <|
  am_kd (fun d => ak_iload d rfl) <|
  am_kd (fun d => ak_iald (t := 0) (fun _ => rfl) rfl d rfl) <|
  am_kd (fun d => ak_iconst d (by decide +kernel) rfl) <|
  am_kd (fun d => ak_icmp_eq d (by decide +kernel) rfl) <|
  am_kd (fun d => ak_aload_n d rfl rfl) <|
  am_kd (fun d => ak_getR (C := RX2) (T := TX2) (N := 8) rfl inX2w (by decide) rfl rfl rfl wd_115 d rfl) <|
  am_kd (fun d => ak_iload d rfl) <|
  am_kd (fun d => ak_iald (t := 0) (fun _ => rfl) rfl d rfl) <|
  am_kd (fun d => ak_iload_n d rfl rfl) <|
  am_kd (fun d => ak_icmp_gt d (by decide +kernel) rfl) <|
  am_kd (fun d => ak_aload_n d rfl rfl) <|
  am_kd (fun d => ak_getR (C := RX2) (T := TX2) (N := 8) rfl inX2w (by decide) rfl rfl rfl wd_113 d rfl) <|
  am_kd (fun d => ak_iload d rfl) <|
  am_kd (fun d => ak_iald (t := 0) (fun _ => rfl) rfl d rfl) <|
  am_kd (fun d => ak_goto d (by decide +kernel)) <|
  am_kd (fun d => ak_iconst d (by decide +kernel) rfl) <|
  am_kd (fun d => ak_retI d) <| am_kdn
def am_earn (M : am_M) (i k : Int32) : Int32 := if ¬ (0 ≤ i.toInt ∧ i.toInt < 480) then -1 else if M.1 28 i.toNatClampNeg ≠ -1 ∧ M.1 28 i.toNatClampNeg ≤ k then M.1 27 i.toNatClampNeg else if M.1 26 i.toNatClampNeg ≠ -1 ∧ M.1 26 i.toNatClampNeg ≤ k then M.1 25 i.toNatClampNeg else -1
theorem am_earn_no {M : am_M} {i k : Int32} (h : ¬ (0 ≤ i.toInt ∧ i.toInt < 480)) : am_earn M i k = -1 := if_pos h
theorem am_earn_2 {M : am_M} {i k : Int32} (h : 0 ≤ i.toInt ∧ i.toInt < 480) (h2 : ¬ M.1 28 i.toNatClampNeg = -1) (h3 : M.1 28 i.toNatClampNeg ≤ k) : am_earn M i k = M.1 27 i.toNatClampNeg := by
  unfold am_earn
  rw [if_neg (not_not_intro h), if_pos ⟨h2, h3⟩]
theorem am_earn_1 {M : am_M} {i k : Int32} (h : 0 ≤ i.toInt ∧ i.toInt < 480) (h2 : ¬ (M.1 28 i.toNatClampNeg ≠ -1 ∧ M.1 28 i.toNatClampNeg ≤ k)) : am_earn M i k = if M.1 26 i.toNatClampNeg ≠ -1 ∧ M.1 26 i.toNatClampNeg ≤ k then M.1 25 i.toNatClampNeg else -1 := by
  unfold am_earn
  rw [if_neg (not_not_intro h), if_neg h2]
def TX2_earned : am_T := fun live as M R => match as with
  | [.ref n, .int p, .int y, .int k] => am_mn live ∧ n = 21 ∧ R (some (.int (am_earn M (p * 40 + y) k))) M
  | _ => False
set_option maxRecDepth 100000 in
set_option maxHeartbeats 4000000 in
theorem metX2_earned : am_Met yX2_earned cX2_earned 5 (some .int) (0) (0) TX2_earned := by
  refine am_met (own := RX2) (by decide +kernel) rfl kX2_earned koX2_earned 200 (fun _ _ _ _ _ => none) (fun live as M Ret h => ?_) (fun _ _ _ _ _ _ _ _ hI => by cases hI)
  unfold TX2_earned at h
  split at h
  · next n p y k =>
    refine ⟨Nat.le_of_ble_eq_true rfl, ?_⟩
    change am_wp _ _ _ _ [(0, Value.ref n), (1, Value.int p), (2, Value.int y), (3, Value.int k)] _ _
    obtain ⟨⟨i1, i2, rfl⟩, rfl, h⟩ := h
    have hn : (Int32.ofNat (am_len 25)).toInt = 480 := by decide +kernel
    have l25 : am_len 25 = 480 := rfl
    have l26 : am_len 26 = 480 := rfl
    have l27 : am_len 27 = 480 := rfl
    have l28 : am_len 28 = 480 := rfl
    repeat' (first | apply And.intro | exact rfl | intro hx | (refine Exists.intro _ (And.intro rfl ?_)))
    all_goals try first | (with_reducible change am_tI _ _) | (change Ret _ _) | (change Ret _ _ _) | (change Exists _)
    all_goals try dsimp only at *
    all_goals try (with_reducible exact absurd ‹(1000 : Int64) = 0› am_z1000)
    all_goals generalize p * 40 + y = i at *
    all_goals simp only [i_lt, i_le, hn, l25, l26, l27, l28, Int32.toInt_zero] at *
    all_goals first | omega | grind [am_earn, i_le]
  · exact h.elim
set_option maxRecDepth 100000 in
theorem wd_108 : Cond.fieldLink "LearnLoans$People" 15 "LearnLoans$People" "died" "[I" ∈ am_ws := am_wt1 (List.mem_of_getElem? (i := 51) (by rfl)) (by decide +kernel)
def rwX2_isDead : List dz_r := [(0, .aload_n 0, 1), (1, .getfield 15, 3), (4, .iload_n 1, 1), (5, .iaload, 1), (6, .iconst (-1), 1), (7, .if_icmp .eq 17, 3), (10, .aload_n 0, 1), (11, .getfield 15, 3), (14, .iload_n 1, 1), (15, .iaload, 1), (16, .iload_n 2, 1), (17, .if_icmp .gt 7, 3), (20, .iconst 1, 1), (21, .goto 4, 3), (24, .iconst 0, 1), (25, .ireturn, 1)]
theorem dzX2_isDead : dz cX2_isDead rwX2_isDead := dz_all 0 (by decide +kernel)
def kX2_isDead (live : am_E) (Ret : am_R) : am_code := [(0, am_aload 0 1), (1, am_getR live 2 1 4), (4, am_iload 1 5), (5, am_ald live 0 6), (6, am_const (.int (-1)) 7), (7, am_if2 (fun x y => x = y) 24 10), (10, am_aload 0 11), (11, am_getR live 2 1 14), (14, am_iload 1 15), (15, am_ald live 0 16), (16, am_iload 2 17), (17, am_if2 (fun x y => y < x) 24 20), (20, am_const (.int 1) 21), (21, am_goto 25), (24, am_const (.int 0) 25), (25, am_retZ Ret)]
theorem koX2_isDead (live : am_E) (Ret : am_R) : ∀ q ∈ kX2_isDead live Ret, am_ok RX2 cX2_isDead 3 (some .boolean) 0 0 live Ret q.1 q.2 :=
  am_kz dzX2_isDead <|
  am_kd (fun d => ak_aload_n d rfl rfl) <|
  am_kd (fun d => ak_getR (C := RX2) (T := TX2) (N := 8) rfl inX2w (by decide) rfl rfl rfl wd_108 d rfl) <|
  am_kd (fun d => ak_iload_n d rfl rfl) <|
  am_kd (fun d => ak_iald (t := 0) (fun _ => rfl) rfl d rfl) <|
  am_kd (fun d => ak_iconst d (by decide +kernel) rfl) <|
  am_kd (fun d => ak_icmp_eq d (by decide +kernel) rfl) <|
  am_kd (fun d => ak_aload_n d rfl rfl) <|
  am_kd (fun d => ak_getR (C := RX2) (T := TX2) (N := 8) rfl inX2w (by decide) rfl rfl rfl wd_108 d rfl) <|
  am_kd (fun d => ak_iload_n d rfl rfl) <|
  am_kd (fun d => ak_iald (t := 0) (fun _ => rfl) rfl d rfl) <|
  am_kd (fun d => ak_iload_n d rfl rfl) <|
  am_kd (fun d => ak_icmp_gt d (by decide +kernel) rfl) <|
  am_kd (fun d => ak_iconst d (by decide +kernel) rfl) <|
  am_kd (fun d => ak_goto d (by decide +kernel)) <|
  am_kd (fun d => ak_iconst d (by decide +kernel) rfl) <|
  am_kd (fun d => ak_retZ d) <| am_kdn
def TX2_isDead : am_T := fun live as M R => match as with
  | [.ref n, .int p, .int y] => am_mn live ∧ n = 21 ∧ am_in p 12 ∧ R (some (.int (if M.1 23 p.toNatClampNeg ≠ -1 ∧ M.1 23 p.toNatClampNeg ≤ y then 1 else 0))) M
  | _ => False
set_option maxRecDepth 100000 in
set_option maxHeartbeats 4000000 in
theorem metX2_isDead : am_Met yX2_isDead cX2_isDead 3 (some .boolean) (0) (0) TX2_isDead := by
  refine am_met (own := RX2) (by decide +kernel) rfl kX2_isDead koX2_isDead 60 (fun _ _ _ _ _ => none) (fun live as M Ret h => ?_) (fun _ _ _ _ _ _ _ _ hI => by cases hI)
  unfold TX2_isDead at h
  split at h
  · next n p y =>
    refine ⟨Nat.le_of_ble_eq_true rfl, ?_⟩
    change am_wp _ _ _ _ [(0, Value.ref n), (1, Value.int p), (2, Value.int y)] _ _
    obtain ⟨⟨i1, i2, rfl⟩, rfl, hp, h⟩ := h
    have l23 : am_len 23 = 12 := rfl
    repeat' (first | apply And.intro | exact rfl | intro hx | (refine Exists.intro _ (And.intro rfl ?_)))
    all_goals try first | (with_reducible change am_tI _ _) | (change Ret _ _) | (change Ret _ _ _) | (change Exists _)
    all_goals try dsimp only at *
    all_goals try (with_reducible exact absurd ‹(1000 : Int64) = 0› am_z1000)
    all_goals first | (left; rfl) | (right; rfl) | (with_reducible exact hp.1) | (with_reducible exact hp.2) | grind | exact hp.1 | exact hp.2
  · exact h.elim
set_option maxRecDepth 100000 in
theorem wd_261 : Cond.fieldLink "LearnLoans$Letters" 7 "LearnLoans$Letters" "rate" "J" ∈ am_ws := am_wt1 (List.mem_of_getElem? (i := 204) (by rfl)) (by decide +kernel)
set_option maxRecDepth 100000 in
theorem wd_263 : Cond.fieldLink "LearnLoans$Letters" 13 "LearnLoans$Letters" "prices" "J" ∈ am_ws := am_wt1 (List.mem_of_getElem? (i := 206) (by rfl)) (by decide +kernel)
set_option maxRecDepth 100000 in
theorem wd_265 : Cond.fieldLink "LearnLoans$Letters" 16 "LearnLoans$Letters" "earned" "J" ∈ am_ws := am_wt1 (List.mem_of_getElem? (i := 208) (by rfl)) (by decide +kernel)
set_option maxRecDepth 100000 in
theorem wd_267 : Cond.fieldLink "LearnLoans$Letters" 19 "LearnLoans$Letters" "line" "J" ∈ am_ws := am_wt1 (List.mem_of_getElem? (i := 210) (by rfl)) (by decide +kernel)
set_option maxRecDepth 100000 in
theorem wd_269 : Cond.fieldLink "LearnLoans$Letters" 22 "LearnLoans$Letters" "years" "J" ∈ am_ws := am_wt1 (List.mem_of_getElem? (i := 212) (by rfl)) (by decide +kernel)
set_option maxRecDepth 100000 in
theorem wd_271 : Cond.fieldLink "LearnLoans$Letters" 25 "LearnLoans$Letters" "owed" "J" ∈ am_ws := am_wt1 (List.mem_of_getElem? (i := 214) (by rfl)) (by decide +kernel)
set_option maxRecDepth 100000 in
theorem wd_273 : Cond.fieldLink "LearnLoans$Letters" 28 "LearnLoans$Letters" "land" "J" ∈ am_ws := am_wt1 (List.mem_of_getElem? (i := 216) (by rfl)) (by decide +kernel)
theorem dX1_valueOf_0 : decode cX1_valueOf 0 = .ok (.iload_n 1, 1) := by decide +kernel
theorem dX1_valueOf_1 : decode cX1_valueOf 1 = .ok (.lookupswitch 89 #[(101, 69), (108, 74), (111, 84), (112, 64), (114, 59), (121, 79)], 59) := by decide +kernel
theorem dX1_valueOf_60 : decode cX1_valueOf 60 = .ok (.aload_n 0, 1) := by decide +kernel
theorem dX1_valueOf_61 : decode cX1_valueOf 61 = .ok (.getfield 7, 3) := by decide +kernel
theorem dX1_valueOf_64 : decode cX1_valueOf 64 = .ok (.lreturn, 1) := by decide +kernel
theorem dX1_valueOf_65 : decode cX1_valueOf 65 = .ok (.aload_n 0, 1) := by decide +kernel
theorem dX1_valueOf_66 : decode cX1_valueOf 66 = .ok (.getfield 13, 3) := by decide +kernel
theorem dX1_valueOf_69 : decode cX1_valueOf 69 = .ok (.lreturn, 1) := by decide +kernel
theorem dX1_valueOf_70 : decode cX1_valueOf 70 = .ok (.aload_n 0, 1) := by decide +kernel
theorem dX1_valueOf_71 : decode cX1_valueOf 71 = .ok (.getfield 16, 3) := by decide +kernel
theorem dX1_valueOf_74 : decode cX1_valueOf 74 = .ok (.lreturn, 1) := by decide +kernel
theorem dX1_valueOf_75 : decode cX1_valueOf 75 = .ok (.aload_n 0, 1) := by decide +kernel
theorem dX1_valueOf_76 : decode cX1_valueOf 76 = .ok (.getfield 19, 3) := by decide +kernel
theorem dX1_valueOf_79 : decode cX1_valueOf 79 = .ok (.lreturn, 1) := by decide +kernel
theorem dX1_valueOf_80 : decode cX1_valueOf 80 = .ok (.aload_n 0, 1) := by decide +kernel
theorem dX1_valueOf_81 : decode cX1_valueOf 81 = .ok (.getfield 22, 3) := by decide +kernel
theorem dX1_valueOf_84 : decode cX1_valueOf 84 = .ok (.lreturn, 1) := by decide +kernel
theorem dX1_valueOf_85 : decode cX1_valueOf 85 = .ok (.aload_n 0, 1) := by decide +kernel
theorem dX1_valueOf_86 : decode cX1_valueOf 86 = .ok (.getfield 25, 3) := by decide +kernel
theorem dX1_valueOf_89 : decode cX1_valueOf 89 = .ok (.lreturn, 1) := by decide +kernel
theorem dX1_valueOf_90 : decode cX1_valueOf 90 = .ok (.aload_n 0, 1) := by decide +kernel
theorem dX1_valueOf_91 : decode cX1_valueOf 91 = .ok (.getfield 28, 3) := by decide +kernel
theorem dX1_valueOf_94 : decode cX1_valueOf 94 = .ok (.lreturn, 1) := by decide +kernel
def kX1_valueOf (live : am_E) (Ret : am_R) : am_code := [(0, am_iload 1 1), (1, am_switch [(101, 70), (108, 75), (111, 85), (112, 65), (114, 60), (121, 80)] 90), (60, am_aload 0 61), (61, am_getJ live 1 0 64), (64, am_retL Ret), (65, am_aload 0 66), (66, am_getJ live 1 1 69), (69, am_retL Ret), (70, am_aload 0 71), (71, am_getJ live 1 2 74), (74, am_retL Ret), (75, am_aload 0 76), (76, am_getJ live 1 3 79), (79, am_retL Ret), (80, am_aload 0 81), (81, am_getJ live 1 4 84), (84, am_retL Ret), (85, am_aload 0 86), (86, am_getJ live 1 5 89), (89, am_retL Ret), (90, am_aload 0 91), (91, am_getJ live 1 6 94), (94, am_retL Ret)]
theorem koX1_valueOf (live : am_E) (Ret : am_R) : ∀ q ∈ kX1_valueOf live Ret, am_ok RX1 cX1_valueOf 2 (some .long) 0 0 live Ret q.1 q.2 :=
  am_kc (ak_iload_n dX1_valueOf_0 rfl rfl) <|
  am_kc (ak_lswitch dX1_valueOf_1 (by decide +kernel) (by decide +kernel) (by decide +kernel)) <|
  am_kc (ak_aload_n dX1_valueOf_60 rfl rfl) <|
  am_kc (ak_getJ (C := RX1) (T := TX1) (N := 7) rfl inX1w (by decide) rfl rfl rfl wd_261 dX1_valueOf_61 rfl) <|
  am_kc (ak_retL dX1_valueOf_64) <|
  am_kc (ak_aload_n dX1_valueOf_65 rfl rfl) <|
  am_kc (ak_getJ (C := RX1) (T := TX1) (N := 7) rfl inX1w (by decide) rfl rfl rfl wd_263 dX1_valueOf_66 rfl) <|
  am_kc (ak_retL dX1_valueOf_69) <|
  am_kc (ak_aload_n dX1_valueOf_70 rfl rfl) <|
  am_kc (ak_getJ (C := RX1) (T := TX1) (N := 7) rfl inX1w (by decide) rfl rfl rfl wd_265 dX1_valueOf_71 rfl) <|
  am_kc (ak_retL dX1_valueOf_74) <|
  am_kc (ak_aload_n dX1_valueOf_75 rfl rfl) <|
  am_kc (ak_getJ (C := RX1) (T := TX1) (N := 7) rfl inX1w (by decide) rfl rfl rfl wd_267 dX1_valueOf_76 rfl) <|
  am_kc (ak_retL dX1_valueOf_79) <|
  am_kc (ak_aload_n dX1_valueOf_80 rfl rfl) <|
  am_kc (ak_getJ (C := RX1) (T := TX1) (N := 7) rfl inX1w (by decide) rfl rfl rfl wd_269 dX1_valueOf_81 rfl) <|
  am_kc (ak_retL dX1_valueOf_84) <|
  am_kc (ak_aload_n dX1_valueOf_85 rfl rfl) <|
  am_kc (ak_getJ (C := RX1) (T := TX1) (N := 7) rfl inX1w (by decide) rfl rfl rfl wd_271 dX1_valueOf_86 rfl) <|
  am_kc (ak_retL dX1_valueOf_89) <|
  am_kc (ak_aload_n dX1_valueOf_90 rfl rfl) <|
  am_kc (ak_getJ (C := RX1) (T := TX1) (N := 7) rfl inX1w (by decide) rfl rfl rfl wd_273 dX1_valueOf_91 rfl) <|
  am_kc (ak_retL dX1_valueOf_94) <| am_kn
def am_letter (M : am_M) (s : Int32) : Int64 := if s = 114 then M.2 9 0 else if s = 112 then M.2 9 1 else if s = 101 then M.2 9 2 else if s = 108 then M.2 9 3 else if s = 121 then M.2 9 4 else if s = 111 then M.2 9 5 else M.2 9 6
def TX1_valueOf : am_T := fun live as M R => match as with
  | [.ref n, .int s] => am_mn live ∧ n = 9 ∧ R (some (.long (am_letter M s))) M
  | _ => False
set_option maxRecDepth 100000 in
set_option maxHeartbeats 4000000 in
theorem metX1_valueOf : am_Met yX1_valueOf cX1_valueOf 2 (some .long) (0) (0) TX1_valueOf := by
  refine am_met (own := RX1) (by decide +kernel) rfl kX1_valueOf koX1_valueOf 60 (fun _ _ _ _ _ => none) (fun live as M Ret h => ?_) (fun _ _ _ _ _ _ _ _ hI => by cases hI)
  unfold TX1_valueOf at h
  split at h
  · next n s =>
    refine ⟨Nat.le_of_ble_eq_true rfl, ?_⟩
    change am_wp _ _ _ _ [(0, Value.ref n), (1, Value.int s)] _ _
    obtain ⟨⟨i1, i2, rfl⟩, rfl, h⟩ := h
    repeat' (first | apply And.intro | exact rfl | intro hx | (refine Exists.intro _ (And.intro rfl ?_)))
    all_goals try first | (with_reducible change am_tI _ _) | (change Ret _ _) | (change Ret _ _ _) | (change Exists _)
    all_goals try dsimp only at *
    all_goals try (with_reducible exact absurd ‹(1000 : Int64) = 0› am_z1000)
    all_goals grind [am_letter]
  · exact h.elim
set_option maxRecDepth 100000 in
theorem wd_202 : Cond.fieldLink "LearnLoans$House" 30 "LearnLoans$House" "acts" "LLearnLoans$Rows;" ∈ am_ws := am_wt1 (List.mem_of_getElem? (i := 145) (by rfl)) (by decide +kernel)
theorem hy_X3_add : yX3_add.cls ≠ "java/lang/invoke/MethodHandle" ∧ yX3_add.cls ≠ "java/lang/invoke/VarHandle" ∧ (parseMethodDescriptor yX3_add.desc).map (fun d => d.parameters.length) = some 3 := ⟨by decide +kernel, by decide +kernel, by decide +kernel⟩
set_option maxRecDepth 100000 in
theorem wd_480 : Cond.methodLink "LearnLoans$House" 67 yX3_add ∈ am_ws := am_wt2 (List.mem_of_getElem? (i := 183) (by rfl)) (by decide +kernel)
set_option maxRecDepth 100000 in
theorem wd_481 : Cond.instanceMethod yX3_add ∈ am_ws := am_wt2 (List.mem_of_getElem? (i := 184) (by rfl)) (by decide +kernel)
set_option maxRecDepth 100000 in
theorem wd_482 : Cond.selects "LearnLoans$Rows" yX3_add yX3_add ∈ am_ws := am_wt2 (List.mem_of_getElem? (i := 185) (by rfl)) (by decide +kernel)
set_option maxRecDepth 100000 in
theorem wd_483 : Cond.code yX3_add cX3_add 4 (some .int) ∈ am_ws := am_wt2 (List.mem_of_getElem? (i := 186) (by rfl)) (by decide +kernel)
set_option maxRecDepth 100000 in
theorem wd_488 : Cond.methodLink "LearnLoans$House" 71 yX3_put ∈ am_ws := am_wt2 (List.mem_of_getElem? (i := 191) (by rfl)) (by decide +kernel)
def rwX0_addAct : List dz_r := [(0, .aload_n 0, 1), (1, .getfield 30, 3), (4, .iload_n 1, 1), (5, .iload_n 2, 1), (6, .iload_n 3, 1), (7, .invokevirtual 67, 3), (10, .istore 7, 2), (12, .aload_n 0, 1), (13, .getfield 30, 3), (16, .iload 7, 2), (18, .iconst 3, 1), (19, .iload 4, 2), (21, .invokevirtual 71, 3), (24, .aload_n 0, 1), (25, .getfield 30, 3), (28, .iload 7, 2), (30, .iconst 4, 1), (31, .iload 5, 2), (33, .invokevirtual 71, 3), (36, .aload_n 0, 1), (37, .getfield 30, 3), (40, .iload 7, 2), (42, .iconst 5, 1), (43, .iload 6, 2), (45, .invokevirtual 71, 3), (48, .iload 7, 2), (50, .ireturn, 1)]
theorem dzX0_addAct : dz cX0_addAct rwX0_addAct := dz_all 0 (by decide +kernel)
def kX0_addAct (live : am_E) (Ret : am_R) : am_code := [(0, am_aload 0 1), (1, am_getR live 0 3 4), (4, am_iload 1 5), (5, am_iload 2 6), (6, am_iload 3 7), (7, am_callV live 3 3 TX3_add 10), (10, am_istore 7 8 12), (12, am_aload 0 13), (13, am_getR live 0 3 16), (16, am_iload 7 18), (18, am_const (.int 3) 19), (19, am_iload 4 21), (21, am_callV live 3 3 TX3_put 24), (24, am_aload 0 25), (25, am_getR live 0 3 28), (28, am_iload 7 30), (30, am_const (.int 4) 31), (31, am_iload 5 33), (33, am_callV live 3 3 TX3_put 36), (36, am_aload 0 37), (37, am_getR live 0 3 40), (40, am_iload 7 42), (42, am_const (.int 5) 43), (43, am_iload 6 45), (45, am_callV live 3 3 TX3_put 48), (48, am_iload 7 50), (50, am_retI Ret)]
theorem koX0_addAct (live : am_E) (Ret : am_R) : ∀ q ∈ kX0_addAct live Ret, am_ok RX0 cX0_addAct 8 (some .int) 2 47 live Ret q.1 q.2 :=
  am_kz dzX0_addAct <|
  am_kd (fun d => ak_aload_n d rfl rfl) <|
  am_kd (fun d => ak_getR (C := RX0) (T := TX0) (N := 13) rfl inX0w (by decide) rfl rfl rfl wd_202 d rfl) <|
  am_kd (fun d => ak_iload_n d rfl rfl) <|
  am_kd (fun d => ak_iload_n d rfl rfl) <|
  am_kd (fun d => ak_iload_n d rfl rfl) <|
  am_kd (fun d => ak_callV (C := RX3) (F := TX3) (N := 3) metX3_add rfl ⟨rfl, hy_X3_add⟩ (am_w5 wd_480 wd_481 wd_482 wd_64 wd_483) (by decide) d rfl) <|
  am_kd (fun d => ak_istore d rfl) <|
  am_kd (fun d => ak_aload_n d rfl rfl) <|
  am_kd (fun d => ak_getR (C := RX0) (T := TX0) (N := 13) rfl inX0w (by decide) rfl rfl rfl wd_202 d rfl) <|
  am_kd (fun d => ak_iload d rfl) <|
  am_kd (fun d => ak_iconst d (by decide +kernel) rfl) <|
  am_kd (fun d => ak_iload d rfl) <|
  am_kd (fun d => ak_callV (C := RX3) (F := TX3) (N := 3) metX3_put rfl ⟨rfl, hy_X3_put⟩ (am_w5 wd_488 wd_485 wd_486 wd_64 wd_487) (by decide) d rfl) <|
  am_kd (fun d => ak_aload_n d rfl rfl) <|
  am_kd (fun d => ak_getR (C := RX0) (T := TX0) (N := 13) rfl inX0w (by decide) rfl rfl rfl wd_202 d rfl) <|
  am_kd (fun d => ak_iload d rfl) <|
  am_kd (fun d => ak_iconst d (by decide +kernel) rfl) <|
  am_kd (fun d => ak_iload d rfl) <|
  am_kd (fun d => ak_callV (C := RX3) (F := TX3) (N := 3) metX3_put rfl ⟨rfl, hy_X3_put⟩ (am_w5 wd_488 wd_485 wd_486 wd_64 wd_487) (by decide) d rfl) <|
  am_kd (fun d => ak_aload_n d rfl rfl) <|
  am_kd (fun d => ak_getR (C := RX0) (T := TX0) (N := 13) rfl inX0w (by decide) rfl rfl rfl wd_202 d rfl) <|
  am_kd (fun d => ak_iload d rfl) <|
  am_kd (fun d => ak_iconst d (by decide +kernel) rfl) <|
  am_kd (fun d => ak_iload d rfl) <|
  am_kd (fun d => ak_callV (C := RX3) (F := TX3) (N := 3) metX3_put rfl ⟨rfl, hy_X3_put⟩ (am_w5 wd_488 wd_485 wd_486 wd_64 wd_487) (by decide) d rfl) <|
  am_kd (fun d => ak_iload d rfl) <|
  am_kd (fun d => ak_retI d) <| am_kdn
def am_addAct (M : am_M) (p w v f b e : Int32) : am_M := am_rput (am_rput (am_rput (am_radd M 31 32 p w v) 31 32 (M.1 31 2) 3 f) 31 32 (M.1 31 2) 4 b) 31 32 (M.1 31 2) 5 e
def TX0_addAct : am_T := fun live as M R => match as with
  | [.ref n, .int p, .int w, .int v, .int f, .int b, .int e] => am_mn live ∧ n = 20 ∧ R (some (.int (M.1 31 2))) (am_addAct M p w v f b e)
  | _ => False
set_option maxRecDepth 100000 in
set_option maxHeartbeats 4000000 in
theorem metX0_addAct : am_Met yX0_addAct cX0_addAct 8 (some .int) (2) (47) TX0_addAct := by
  refine am_met (own := RX0) (by decide +kernel) rfl kX0_addAct koX0_addAct 120 (fun _ _ _ _ _ => none) (fun live as M Ret h => ?_) (fun _ _ _ _ _ _ _ _ hI => by cases hI)
  unfold TX0_addAct at h
  split at h
  · next n p w v f b e =>
    refine ⟨Nat.le_of_ble_eq_true rfl, ?_⟩
    change am_wp _ _ _ _ [(0, Value.ref n), (1, Value.int p), (2, Value.int w), (3, Value.int v), (4, Value.int f), (5, Value.int b), (6, Value.int e)] _ _
    obtain ⟨⟨i1, i2, rfl⟩, rfl, h⟩ := h
    have e1 : M.1 31 2 + 1 - 1 = M.1 31 2 := by rw [Int32.add_sub_cancel]
    repeat' (first | apply And.intro | exact rfl | intro hx | (refine Exists.intro _ (And.intro rfl ?_)))
    all_goals try first | (with_reducible change am_tI _ _) | (change Ret _ _) | (change Ret _ _ _) | (change Exists _)
    all_goals try dsimp only at *
    all_goals try (with_reducible exact absurd ‹(1000 : Int64) = 0› am_z1000)
    simp only [e1]
    exact h
  · exact h.elim
set_option maxRecDepth 100000 in
theorem wd_205 : Cond.fieldLink "LearnLoans$House" 34 "LearnLoans$House" "loans" "LLearnLoans$Rows;" ∈ am_ws := am_wt1 (List.mem_of_getElem? (i := 148) (by rfl)) (by decide +kernel)
theorem hy_X3_at : yX3_at.cls ≠ "java/lang/invoke/MethodHandle" ∧ yX3_at.cls ≠ "java/lang/invoke/VarHandle" ∧ (parseMethodDescriptor yX3_at.desc).map (fun d => d.parameters.length) = some 2 := ⟨by decide +kernel, by decide +kernel, by decide +kernel⟩
set_option maxRecDepth 100000 in
theorem wd_529 : Cond.methodLink "LearnLoans$House" 75 yX3_at ∈ am_ws := am_wt2 (List.mem_of_getElem? (i := 232) (by rfl)) (by decide +kernel)
set_option maxRecDepth 100000 in
theorem wd_503 : Cond.instanceMethod yX3_at ∈ am_ws := am_wt2 (List.mem_of_getElem? (i := 206) (by rfl)) (by decide +kernel)
set_option maxRecDepth 100000 in
theorem wd_504 : Cond.selects "LearnLoans$Rows" yX3_at yX3_at ∈ am_ws := am_wt2 (List.mem_of_getElem? (i := 207) (by rfl)) (by decide +kernel)
set_option maxRecDepth 100000 in
theorem wd_505 : Cond.code yX3_at cX3_at 4 (some .int) ∈ am_ws := am_wt2 (List.mem_of_getElem? (i := 208) (by rfl)) (by decide +kernel)
set_option maxRecDepth 100000 in
theorem wd_530 : Cond.constantLong "LearnLoans$House" 79 750 ∈ am_ws := am_wt2 (List.mem_of_getElem? (i := 233) (by rfl)) (by decide +kernel)
set_option maxRecDepth 100000 in
theorem wd_531 : Cond.constantLong "LearnLoans$House" 81 1000 ∈ am_ws := am_wt2 (List.mem_of_getElem? (i := 234) (by rfl)) (by decide +kernel)
set_option maxRecDepth 100000 in
theorem wd_532 : Cond.constantLong "LearnLoans$House" 83 500 ∈ am_ws := am_wt2 (List.mem_of_getElem? (i := 235) (by rfl)) (by decide +kernel)
def rwX0_givenBack : List dz_r := [(0, .aload_n 0, 1), (1, .getfield 34, 3), (4, .iload_n 1, 1), (5, .iconst 3, 1), (6, .invokevirtual 75, 3), (9, .i2l, 1), (10, .lstore_n 2, 1), (11, .aload_n 0, 1), (12, .getfield 34, 3), (15, .iload_n 1, 1), (16, .iconst 5, 1), (17, .invokevirtual 75, 3), (20, .aload_n 0, 1), (21, .getfield 34, 3), (24, .iload_n 1, 1), (25, .iconst 2, 1), (26, .invokevirtual 75, 3), (29, .isub, 1), (30, .istore 4, 2), (32, .iload 4, 2), (34, .ifCond .ne 13, 3), (37, .lload_n 2, 1), (38, .ldc2_w 79, 3), (41, .lmul, 1), (42, .ldc2_w 81, 3), (45, .ldiv, 1), (46, .lreturn, 1), (47, .iload 4, 2), (49, .iconst 1, 1), (50, .if_icmp .ne 15, 3), (53, .lload_n 2, 1), (54, .ldc2_w 83, 3), (57, .lmul, 1), (58, .ldc2_w 81, 3), (61, .ldiv, 1), (62, .goto 4, 3), (65, .lconst 0, 1), (66, .lreturn, 1)]
theorem dzX0_givenBack : dz cX0_givenBack rwX0_givenBack := dz_all 0 (by decide +kernel)
def kX0_givenBack (live : am_E) (Ret : am_R) : am_code := [(0, am_aload 0 1), (1, am_getR live 0 4 4), (4, am_iload 1 5), (5, am_const (.int 3) 6), (6, am_callV live 3 2 TX3_at 9), (9, am_i2l 10), (10, am_lstore 2 5 11), (11, am_aload 0 12), (12, am_getR live 0 4 15), (15, am_iload 1 16), (16, am_const (.int 5) 17), (17, am_callV live 3 2 TX3_at 20), (20, am_aload 0 21), (21, am_getR live 0 4 24), (24, am_iload 1 25), (25, am_const (.int 2) 26), (26, am_callV live 3 2 TX3_at 29), (29, am_i2 (fun x y => x - y) 30), (30, am_istore 4 5 32), (32, am_iload 4 34), (34, am_if1 (fun x => x = 0) 37 47), (37, am_lload 2 38), (38, am_const (.long 750) 41), (41, am_l2 (fun x y => x * y) 42), (42, am_const (.long 1000) 45), (45, am_l2z (fun x y => x / y) 46), (46, am_retL Ret), (47, am_iload 4 49), (49, am_const (.int 1) 50), (50, am_if2 (fun x y => x = y) 53 65), (53, am_lload 2 54), (54, am_const (.long 500) 57), (57, am_l2 (fun x y => x * y) 58), (58, am_const (.long 1000) 61), (61, am_l2z (fun x y => x / y) 62), (62, am_goto 66), (65, am_const (.long 0) 66), (66, am_retL Ret)]
theorem koX0_givenBack (live : am_E) (Ret : am_R) : ∀ q ∈ kX0_givenBack live Ret, am_ok RX0 cX0_givenBack 5 (some .long) 1 23 live Ret q.1 q.2 :=
  am_kz dzX0_givenBack <|
  am_kd (fun d => ak_aload_n d rfl rfl) <|
  am_kd (fun d => ak_getR (C := RX0) (T := TX0) (N := 13) rfl inX0w (by decide) rfl rfl rfl wd_205 d rfl) <|
  am_kd (fun d => ak_iload_n d rfl rfl) <|
  am_kd (fun d => ak_iconst d (by decide +kernel) rfl) <|
  am_kd (fun d => ak_callV (C := RX3) (F := TX3) (N := 3) metX3_at rfl ⟨rfl, hy_X3_at⟩ (am_w5 wd_529 wd_503 wd_504 wd_64 wd_505) (by decide) d rfl) <|
  am_kd (fun d => ak_i2l d rfl) <|
  am_kd (fun d => ak_lstore_n d rfl rfl) <|
  am_kd (fun d => ak_aload_n d rfl rfl) <|
  am_kd (fun d => ak_getR (C := RX0) (T := TX0) (N := 13) rfl inX0w (by decide) rfl rfl rfl wd_205 d rfl) <|
  am_kd (fun d => ak_iload_n d rfl rfl) <|
  am_kd (fun d => ak_iconst d (by decide +kernel) rfl) <|
  am_kd (fun d => ak_callV (C := RX3) (F := TX3) (N := 3) metX3_at rfl ⟨rfl, hy_X3_at⟩ (am_w5 wd_529 wd_503 wd_504 wd_64 wd_505) (by decide) d rfl) <|
  am_kd (fun d => ak_aload_n d rfl rfl) <|
  am_kd (fun d => ak_getR (C := RX0) (T := TX0) (N := 13) rfl inX0w (by decide) rfl rfl rfl wd_205 d rfl) <|
  am_kd (fun d => ak_iload_n d rfl rfl) <|
  am_kd (fun d => ak_iconst d (by decide +kernel) rfl) <|
  am_kd (fun d => ak_callV (C := RX3) (F := TX3) (N := 3) metX3_at rfl ⟨rfl, hy_X3_at⟩ (am_w5 wd_529 wd_503 wd_504 wd_64 wd_505) (by decide) d rfl) <|
  am_kd (fun d => ak_isub d rfl) <|
  am_kd (fun d => ak_istore d rfl) <|
  am_kd (fun d => ak_iload d rfl) <|
  am_kd (fun d => ak_if_ne d (by decide +kernel) rfl) <|
  am_kd (fun d => ak_lload_n d rfl rfl) <|
  am_kd (fun d => ak_ldc2 wd_530 d rfl) <|
  am_kd (fun d => ak_lmul d rfl) <|
  am_kd (fun d => ak_ldc2 wd_531 d rfl) <|
  am_kd (fun d => ak_ldiv d rfl) <|
  am_kd (fun d => ak_retL d) <|
  am_kd (fun d => ak_iload d rfl) <|
  am_kd (fun d => ak_iconst d (by decide +kernel) rfl) <|
  am_kd (fun d => ak_icmp_ne d (by decide +kernel) rfl) <|
  am_kd (fun d => ak_lload_n d rfl rfl) <|
  am_kd (fun d => ak_ldc2 wd_532 d rfl) <|
  am_kd (fun d => ak_lmul d rfl) <|
  am_kd (fun d => ak_ldc2 wd_531 d rfl) <|
  am_kd (fun d => ak_ldiv d rfl) <|
  am_kd (fun d => ak_goto d (by decide +kernel)) <|
  am_kd (fun d => ak_lconst d (by decide +kernel) rfl) <|
  am_kd (fun d => ak_retL d) <| am_kdn
def am_sumGiven (s d : Int32) : Int64 := if d = 0 then s.toInt64 * 750 / 1000 else if d = 1 then s.toInt64 * 500 / 1000 else 0
def am_loanAt (M : am_M) (l k : Int32) : Int32 := am_at (M.1 34) 240 (l * M.1 33 1 + k)
def TX0_givenBack : am_T := fun live as M R => match as with
  | [.ref n, .int l] => am_mn live ∧ n = 20 ∧ R (some (.long (am_sumGiven (am_loanAt M l 3) (am_loanAt M l 5 - am_loanAt M l 2)))) M
  | _ => False
set_option maxRecDepth 100000 in
set_option maxHeartbeats 4000000 in
theorem metX0_givenBack : am_Met yX0_givenBack cX0_givenBack 5 (some .long) (1) (23) TX0_givenBack := by
  refine am_met (own := RX0) (by decide +kernel) rfl kX0_givenBack koX0_givenBack 120 (fun _ _ _ _ _ => none) (fun live as M Ret h => ?_) (fun _ _ _ _ _ _ _ _ hI => by cases hI)
  unfold TX0_givenBack at h
  split at h
  · next n l =>
    refine ⟨Nat.le_of_ble_eq_true rfl, ?_⟩
    change am_wp _ _ _ _ [(0, Value.ref n), (1, Value.int l)] _ _
    obtain ⟨⟨i1, i2, rfl⟩, rfl, h⟩ := h
    have l34 : am_len 34 = 240 := rfl
    repeat' (first | apply And.intro | exact rfl | intro hx | (refine Exists.intro _ (And.intro rfl ?_)))
    all_goals try first | (with_reducible change am_tI _ _) | (change Ret _ _) | (change Ret _ _ _) | (change Exists _)
    all_goals try dsimp only at *
    all_goals try (with_reducible exact absurd ‹(1000 : Int64) = 0› am_z1000)
    all_goals
      simp only [am_sumGiven, am_loanAt, l34] at *
      simp_all
  · exact h.elim
set_option maxRecDepth 100000 in
theorem wd_216 : Cond.fieldLink "LearnLoans$House" 49 "LearnLoans$House" "promises" "LLearnLoans$Rows;" ∈ am_ws := am_wt1 (List.mem_of_getElem? (i := 159) (by rfl)) (by decide +kernel)
set_option maxRecDepth 100000 in
theorem wd_151 : Cond.fieldLink "LearnLoans$House" 85 "LearnLoans$Rows" "size" "I" ∈ am_ws := am_wt1 (List.mem_of_getElem? (i := 94) (by rfl)) (by decide +kernel)
def rwX0_promised : List dz_r := [(0, .lconst 0, 1), (1, .lstore_n 3, 1), (2, .iconst 0, 1), (3, .istore 5, 2), (5, .iload 5, 2), (7, .aload_n 0, 1), (8, .getfield 49, 3), (11, .getfield 85, 3), (14, .if_icmp .ge 51, 3), (17, .aload_n 0, 1), (18, .getfield 49, 3), (21, .iload 5, 2), (23, .iconst 0, 1), (24, .invokevirtual 75, 3), (27, .iload_n 1, 1), (28, .if_icmp .ne 31, 3), (31, .aload_n 0, 1), (32, .getfield 49, 3), (35, .iload 5, 2), (37, .iconst 1, 1), (38, .invokevirtual 75, 3), (41, .iload_n 2, 1), (42, .if_icmp .gt 17, 3), (45, .lload_n 3, 1), (46, .aload_n 0, 1), (47, .getfield 49, 3), (50, .iload 5, 2), (52, .iconst 2, 1), (53, .invokevirtual 75, 3), (56, .i2l, 1), (57, .ladd, 1), (58, .lstore_n 3, 1), (59, .iinc 5 1, 3), (62, .goto (-57), 3), (65, .lload_n 3, 1), (66, .lreturn, 1)]
theorem dzX0_promised : dz cX0_promised rwX0_promised := dz_all 0 (by decide +kernel)
def kX0_promised (live : am_E) (Ret : am_R) : am_code := [(0, am_const (.long 0) 1), (1, am_lstore 3 6 2), (2, am_const (.int 0) 3), (3, am_istore 5 6 5), (5, am_iload 5 7), (7, am_aload 0 8), (8, am_getR live 0 8 11), (11, am_getI live 3 2 14), (14, am_if2 (fun x y => y ≤ x) 65 17), (17, am_aload 0 18), (18, am_getR live 0 8 21), (21, am_iload 5 23), (23, am_const (.int 0) 24), (24, am_callV live 3 2 TX3_at 27), (27, am_iload 1 28), (28, am_if2 (fun x y => x = y) 31 59), (31, am_aload 0 32), (32, am_getR live 0 8 35), (35, am_iload 5 37), (37, am_const (.int 1) 38), (38, am_callV live 3 2 TX3_at 41), (41, am_iload 2 42), (42, am_if2 (fun x y => y < x) 59 45), (45, am_lload 3 46), (46, am_aload 0 47), (47, am_getR live 0 8 50), (50, am_iload 5 52), (52, am_const (.int 2) 53), (53, am_callV live 3 2 TX3_at 56), (56, am_i2l 57), (57, am_l2 (fun x y => x + y) 58), (58, am_lstore 3 6 59), (59, am_iinc 5 6 1 62), (62, am_goto 5), (65, am_lload 3 66), (66, am_retL Ret)]
theorem koX0_promised (live : am_E) (Ret : am_R) : ∀ q ∈ kX0_promised live Ret, am_ok RX0 cX0_promised 6 (some .long) 1 23 live Ret q.1 q.2 :=
  am_kz dzX0_promised <|
  am_kd (fun d => ak_lconst d (by decide +kernel) rfl) <|
  am_kd (fun d => ak_lstore_n d rfl rfl) <|
  am_kd (fun d => ak_iconst d (by decide +kernel) rfl) <|
  am_kd (fun d => ak_istore d rfl) <|
  am_kd (fun d => ak_iload d rfl) <|
  am_kd (fun d => ak_aload_n d rfl rfl) <|
  am_kd (fun d => ak_getR (C := RX0) (T := TX0) (N := 13) rfl inX0w (by decide) rfl rfl rfl wd_216 d rfl) <|
  am_kd (fun d => ak_getI (C := RX3) (T := TX3) (N := 3) rfl inX3w (by decide) rfl rfl rfl wd_151 d rfl) <|
  am_kd (fun d => ak_icmp_ge d (by decide +kernel) rfl) <|
  am_kd (fun d => ak_aload_n d rfl rfl) <|
  am_kd (fun d => ak_getR (C := RX0) (T := TX0) (N := 13) rfl inX0w (by decide) rfl rfl rfl wd_216 d rfl) <|
  am_kd (fun d => ak_iload d rfl) <|
  am_kd (fun d => ak_iconst d (by decide +kernel) rfl) <|
  am_kd (fun d => ak_callV (C := RX3) (F := TX3) (N := 3) metX3_at rfl ⟨rfl, hy_X3_at⟩ (am_w5 wd_529 wd_503 wd_504 wd_64 wd_505) (by decide) d rfl) <|
  am_kd (fun d => ak_iload_n d rfl rfl) <|
  am_kd (fun d => ak_icmp_ne d (by decide +kernel) rfl) <|
  am_kd (fun d => ak_aload_n d rfl rfl) <|
  am_kd (fun d => ak_getR (C := RX0) (T := TX0) (N := 13) rfl inX0w (by decide) rfl rfl rfl wd_216 d rfl) <|
  am_kd (fun d => ak_iload d rfl) <|
  am_kd (fun d => ak_iconst d (by decide +kernel) rfl) <|
  am_kd (fun d => ak_callV (C := RX3) (F := TX3) (N := 3) metX3_at rfl ⟨rfl, hy_X3_at⟩ (am_w5 wd_529 wd_503 wd_504 wd_64 wd_505) (by decide) d rfl) <|
  am_kd (fun d => ak_iload_n d rfl rfl) <|
  am_kd (fun d => ak_icmp_gt d (by decide +kernel) rfl) <|
  am_kd (fun d => ak_lload_n d rfl rfl) <|
  am_kd (fun d => ak_aload_n d rfl rfl) <|
  am_kd (fun d => ak_getR (C := RX0) (T := TX0) (N := 13) rfl inX0w (by decide) rfl rfl rfl wd_216 d rfl) <|
  am_kd (fun d => ak_iload d rfl) <|
  am_kd (fun d => ak_iconst d (by decide +kernel) rfl) <|
  am_kd (fun d => ak_callV (C := RX3) (F := TX3) (N := 3) metX3_at rfl ⟨rfl, hy_X3_at⟩ (am_w5 wd_529 wd_503 wd_504 wd_64 wd_505) (by decide) d rfl) <|
  am_kd (fun d => ak_i2l d rfl) <|
  am_kd (fun d => ak_ladd d rfl) <|
  am_kd (fun d => ak_lstore_n d rfl rfl) <|
  am_kd (fun d => ak_iinc d (by decide +kernel) rfl) <|
  am_kd (fun d => ak_goto d (by decide +kernel)) <|
  am_kd (fun d => ak_lload_n d rfl rfl) <|
  am_kd (fun d => ak_retL d) <| am_kdn
def TX0_promised : am_T := fun live as M R => match as with
  | [.ref n, .int b, .int y] => am_mn live ∧ n = 20 ∧ (M.1 54 2).toInt ≤ 100000 ∧ ∀ v, R (some (.long v)) M
  | _ => False
def JX0_promised : am_E → List Value → am_M → am_R → am_inv := fun live as M0 _ pc => match as with
  | [.ref n, .int b, .int y] => (match pc with
    | 5 => some ([0, 1, 2, 3, 5], fun k L st M => ∃ (v : Int64) (i : Int32), L = [(0, .ref n), (1, .int b), (2, .int y), (3, .long v), (5, .int i)] ∧ st = [] ∧ k = ((100001 - i.toInt).toNat, 0) ∧ 0 ≤ i.toInt ∧ M = M0)
    | _ => none)
  | _ => none
set_option maxRecDepth 100000 in
set_option maxHeartbeats 4000000 in
theorem metX0_promised : am_Met yX0_promised cX0_promised 6 (some .long) (1) (23) TX0_promised := by
  refine am_met (own := RX0) (by decide +kernel) rfl kX0_promised koX0_promised 60 JX0_promised ?_ ?_
  · intro live as M Ret h
    unfold TX0_promised at h
    split at h
    · next n b y =>
      refine ⟨Nat.le_of_ble_eq_true rfl, ?_⟩
      change am_wp _ _ _ _ [(0, Value.ref n), (1, Value.int b), (2, Value.int y)] _ _
      obtain ⟨⟨i1, i2, rfl⟩, rfl, hs, h⟩ := h
      repeat' (first | apply And.intro | exact rfl | intro hx | (refine Exists.intro _ (And.intro rfl ?_)))
      all_goals try first | (with_reducible change am_tI _ _) | (change Ret _ _) | (change Ret _ _ _) | (change Exists _)
      all_goals try dsimp only at *
      all_goals try (with_reducible exact absurd ‹(1000 : Int64) = 0› am_z1000)
      exact ⟨_, _, _, rfl, rfl, rfl, by decide, rfl⟩
    · exact h.elim
  · intro live as M0 Ret h k pc I hI L st M hi
    unfold TX0_promised at h
    split at h
    · next n b y =>
      obtain ⟨⟨i1, i2, rfl⟩, rfl, hs, h⟩ := h
      change (match pc with | 5 => _ | _ => none) = _ at hI
      split at hI
      · cases hI
        obtain ⟨v, i, rfl, rfl, rfl, e1, rfl⟩ := hi
        repeat' (first | apply And.intro | exact rfl | intro hx | (refine Exists.intro _ (And.intro rfl ?_)))
        all_goals try first | (with_reducible change am_tI _ _) | (change Ret _ _) | (change Ret _ _ _) | (change Exists _)
        all_goals try dsimp only at *
        all_goals try (with_reducible exact absurd ‹(1000 : Int64) = 0› am_z1000)
        all_goals try exact h _
        all_goals
          refine ⟨_, Or.inl ?_, _, i + 1, rfl, rfl, rfl, ?_, rfl⟩
          all_goals simp only [i_lt, i_le] at *
          all_goals
            have hi := i_add (x := i) (y := 1) (by simp only [Int32.reduceToInt]; omega) (by simp only [Int32.reduceToInt]; omega)
            simp only [Int32.reduceToInt] at hi
            omega
      · cases hI
    · exact h.elim
end
-- part 14.text.lean.txt
section
/-! Text: the small methods -/
def rwX5_isDigit : List dz_r := [(0, .iload_n 0, 1), (1, .bipush 48, 2), (3, .if_icmp .lt 13, 3), (6, .iload_n 0, 1), (7, .bipush 57, 2), (9, .if_icmp .gt 7, 3), (12, .iconst 1, 1), (13, .goto 4, 3), (16, .iconst 0, 1), (17, .ireturn, 1)]
theorem dzX5_isDigit : dz cX5_isDigit rwX5_isDigit := dz_all 0 (by decide +kernel)
def kX5_isDigit (live : am_E) (Ret : am_R) : am_code := [(0, am_iload 0 1), (1, am_const (.int 48) 3), (3, am_if2 (fun x y => x < y) 16 6), (6, am_iload 0 7), (7, am_const (.int 57) 9), (9, am_if2 (fun x y => y < x) 16 12), (12, am_const (.int 1) 13), (13, am_goto 17), (16, am_const (.int 0) 17), (17, am_retZ Ret)]
theorem koX5_isDigit (live : am_E) (Ret : am_R) : ∀ q ∈ kX5_isDigit live Ret, am_ok RX5 cX5_isDigit 1 (some .boolean) 0 0 live Ret q.1 q.2 :=
  am_kz dzX5_isDigit <|
  am_kd (fun d => ak_iload_n d rfl rfl) <|
  am_kd (fun d => ak_bipush d (by decide +kernel) rfl) <|
  am_kd (fun d => ak_icmp_lt d (by decide +kernel) rfl) <|
  am_kd (fun d => ak_iload_n d rfl rfl) <|
  am_kd (fun d => ak_bipush d (by decide +kernel) rfl) <|
  am_kd (fun d => ak_icmp_gt d (by decide +kernel) rfl) <|
  am_kd (fun d => ak_iconst d (by decide +kernel) rfl) <|
  am_kd (fun d => ak_goto d (by decide +kernel)) <|
  am_kd (fun d => ak_iconst d (by decide +kernel) rfl) <|
  am_kd (fun d => ak_retZ d) <| am_kdn
def TX5_isDigit : am_T := fun live as M R => match as with
  | [.int v] => R (some (.int (if 48 ≤ v ∧ v ≤ 57 then 1 else 0))) M
  | _ => False
set_option maxRecDepth 100000 in
set_option maxHeartbeats 4000000 in
theorem metX5_isDigit : am_Met yX5_isDigit cX5_isDigit 1 (some .boolean) (0) (0) TX5_isDigit := by
  refine am_met (own := RX5) (by decide +kernel) rfl kX5_isDigit koX5_isDigit 60 (fun _ _ _ _ _ => none) (fun live as M Ret h => ?_) (fun _ _ _ _ _ _ _ _ hI => by cases hI)
  unfold TX5_isDigit at h
  split at h
  · next v =>
    refine ⟨Nat.le_of_ble_eq_true rfl, ?_⟩
    change am_wp _ _ _ _ [(0, Value.int v)] _ _
    repeat' (first | apply And.intro | exact rfl | intro hx | (refine Exists.intro _ (And.intro rfl ?_)))
    all_goals try first | (with_reducible change am_tI _ _) | (change Ret _ _) | (change Ret _ _ _) | (change Exists _)
    all_goals try dsimp only at *
    all_goals try (with_reducible exact absurd ‹(1000 : Int64) = 0› am_z1000)
    all_goals first | (left; rfl) | (right; rfl) | grind
  · exact h.elim
theorem dX5_levelOf_0 : decode cX5_levelOf 0 = .ok (.iload_n 0, 1) := by decide +kernel
theorem dX5_levelOf_1 : decode cX5_levelOf 1 = .ok (.lookupswitch 93 #[(38, 85), (42, 91), (43, 89), (45, 89), (47, 91), (60, 87), (61, 87), (62, 87), (124, 83)], 83) := by decide +kernel
theorem dX5_levelOf_84 : decode cX5_levelOf 84 = .ok (.iconst 0, 1) := by decide +kernel
theorem dX5_levelOf_85 : decode cX5_levelOf 85 = .ok (.ireturn, 1) := by decide +kernel
theorem dX5_levelOf_86 : decode cX5_levelOf 86 = .ok (.iconst 1, 1) := by decide +kernel
theorem dX5_levelOf_87 : decode cX5_levelOf 87 = .ok (.ireturn, 1) := by decide +kernel
theorem dX5_levelOf_88 : decode cX5_levelOf 88 = .ok (.iconst 2, 1) := by decide +kernel
theorem dX5_levelOf_89 : decode cX5_levelOf 89 = .ok (.ireturn, 1) := by decide +kernel
theorem dX5_levelOf_90 : decode cX5_levelOf 90 = .ok (.iconst 3, 1) := by decide +kernel
theorem dX5_levelOf_91 : decode cX5_levelOf 91 = .ok (.ireturn, 1) := by decide +kernel
theorem dX5_levelOf_92 : decode cX5_levelOf 92 = .ok (.iconst 4, 1) := by decide +kernel
theorem dX5_levelOf_93 : decode cX5_levelOf 93 = .ok (.ireturn, 1) := by decide +kernel
theorem dX5_levelOf_94 : decode cX5_levelOf 94 = .ok (.iconst 5, 1) := by decide +kernel
theorem dX5_levelOf_95 : decode cX5_levelOf 95 = .ok (.ireturn, 1) := by decide +kernel
def kX5_levelOf (live : am_E) (Ret : am_R) : am_code := [(0, am_iload 0 1), (1, am_switch [(38, 86), (42, 92), (43, 90), (45, 90), (47, 92), (60, 88), (61, 88), (62, 88), (124, 84)] 94), (84, am_const (.int 0) 85), (85, am_retI Ret), (86, am_const (.int 1) 87), (87, am_retI Ret), (88, am_const (.int 2) 89), (89, am_retI Ret), (90, am_const (.int 3) 91), (91, am_retI Ret), (92, am_const (.int 4) 93), (93, am_retI Ret), (94, am_const (.int 5) 95), (95, am_retI Ret)]
theorem koX5_levelOf (live : am_E) (Ret : am_R) : ∀ q ∈ kX5_levelOf live Ret, am_ok RX5 cX5_levelOf 1 (some .int) 0 0 live Ret q.1 q.2 :=
  am_kc (ak_iload_n dX5_levelOf_0 rfl rfl) <|
  am_kc (ak_lswitch dX5_levelOf_1 (by decide +kernel) (by decide +kernel) (by decide +kernel)) <|
  am_kc (ak_iconst dX5_levelOf_84 (by decide +kernel) rfl) <|
  am_kc (ak_retI dX5_levelOf_85) <|
  am_kc (ak_iconst dX5_levelOf_86 (by decide +kernel) rfl) <|
  am_kc (ak_retI dX5_levelOf_87) <|
  am_kc (ak_iconst dX5_levelOf_88 (by decide +kernel) rfl) <|
  am_kc (ak_retI dX5_levelOf_89) <|
  am_kc (ak_iconst dX5_levelOf_90 (by decide +kernel) rfl) <|
  am_kc (ak_retI dX5_levelOf_91) <|
  am_kc (ak_iconst dX5_levelOf_92 (by decide +kernel) rfl) <|
  am_kc (ak_retI dX5_levelOf_93) <|
  am_kc (ak_iconst dX5_levelOf_94 (by decide +kernel) rfl) <|
  am_kc (ak_retI dX5_levelOf_95) <| am_kn
def am_level (s : Int32) : Int32 := if s = 124 then 0 else if s = 38 then 1 else if s = 60 ∨ s = 61 ∨ s = 62 then 2 else if s = 43 ∨ s = 45 then 3 else if s = 42 ∨ s = 47 then 4 else 5
def TX5_levelOf : am_T := fun live as M R => match as with
  | [.int s] => R (some (.int (am_level s))) M
  | _ => False
set_option maxRecDepth 100000 in
set_option maxHeartbeats 4000000 in
theorem metX5_levelOf : am_Met yX5_levelOf cX5_levelOf 1 (some .int) (0) (0) TX5_levelOf := by
  refine am_met (own := RX5) (by decide +kernel) rfl kX5_levelOf koX5_levelOf 60 (fun _ _ _ _ _ => none) (fun live as M Ret h => ?_) (fun _ _ _ _ _ _ _ _ hI => by cases hI)
  unfold TX5_levelOf at h
  split at h
  · next s =>
    refine ⟨Nat.le_of_ble_eq_true rfl, ?_⟩
    change am_wp _ _ _ _ [(0, Value.int s)] _ _
    repeat' (first | apply And.intro | exact rfl | intro hx | (refine Exists.intro _ (And.intro rfl ?_)))
    all_goals try first | (with_reducible change am_tI _ _) | (change Ret _ _) | (change Ret _ _ _) | (change Exists _)
    all_goals try dsimp only at *
    all_goals try (with_reducible exact absurd ‹(1000 : Int64) = 0› am_z1000)
    all_goals grind [am_level]
  · exact h.elim
theorem dX5_operands_0 : decode cX5_operands 0 = .ok (.iload_n 0, 1) := by decide +kernel
theorem dX5_operands_1 : decode cX5_operands 1 = .ok (.lookupswitch 97 #[(33, 93), (63, 95), (97, 91), (101, 91), (108, 91), (111, 91), (112, 91), (114, 91), (121, 91), (126, 93)], 91) := by decide +kernel
theorem dX5_operands_92 : decode cX5_operands 92 = .ok (.iconst 0, 1) := by decide +kernel
theorem dX5_operands_93 : decode cX5_operands 93 = .ok (.ireturn, 1) := by decide +kernel
theorem dX5_operands_94 : decode cX5_operands 94 = .ok (.iconst 1, 1) := by decide +kernel
theorem dX5_operands_95 : decode cX5_operands 95 = .ok (.ireturn, 1) := by decide +kernel
theorem dX5_operands_96 : decode cX5_operands 96 = .ok (.iconst 3, 1) := by decide +kernel
theorem dX5_operands_97 : decode cX5_operands 97 = .ok (.ireturn, 1) := by decide +kernel
theorem dX5_operands_98 : decode cX5_operands 98 = .ok (.iconst 2, 1) := by decide +kernel
theorem dX5_operands_99 : decode cX5_operands 99 = .ok (.ireturn, 1) := by decide +kernel
def kX5_operands (live : am_E) (Ret : am_R) : am_code := [(0, am_iload 0 1), (1, am_switch [(33, 94), (63, 96), (97, 92), (101, 92), (108, 92), (111, 92), (112, 92), (114, 92), (121, 92), (126, 94)] 98), (92, am_const (.int 0) 93), (93, am_retI Ret), (94, am_const (.int 1) 95), (95, am_retI Ret), (96, am_const (.int 3) 97), (97, am_retI Ret), (98, am_const (.int 2) 99), (99, am_retI Ret)]
theorem koX5_operands (live : am_E) (Ret : am_R) : ∀ q ∈ kX5_operands live Ret, am_ok RX5 cX5_operands 1 (some .int) 0 0 live Ret q.1 q.2 :=
  am_kc (ak_iload_n dX5_operands_0 rfl rfl) <|
  am_kc (ak_lswitch dX5_operands_1 (by decide +kernel) (by decide +kernel) (by decide +kernel)) <|
  am_kc (ak_iconst dX5_operands_92 (by decide +kernel) rfl) <|
  am_kc (ak_retI dX5_operands_93) <|
  am_kc (ak_iconst dX5_operands_94 (by decide +kernel) rfl) <|
  am_kc (ak_retI dX5_operands_95) <|
  am_kc (ak_iconst dX5_operands_96 (by decide +kernel) rfl) <|
  am_kc (ak_retI dX5_operands_97) <|
  am_kc (ak_iconst dX5_operands_98 (by decide +kernel) rfl) <|
  am_kc (ak_retI dX5_operands_99) <| am_kn
def am_ops (s : Int32) : Int32 := if s = 114 ∨ s = 112 ∨ s = 101 ∨ s = 108 ∨ s = 121 ∨ s = 111 ∨ s = 97 then 0 else if s = 33 ∨ s = 126 then 1 else if s = 63 then 3 else 2
def TX5_operands : am_T := fun live as M R => match as with
  | [.int s] => R (some (.int (am_ops s))) M
  | _ => False
set_option maxRecDepth 100000 in
set_option maxHeartbeats 4000000 in
theorem metX5_operands : am_Met yX5_operands cX5_operands 1 (some .int) (0) (0) TX5_operands := by
  refine am_met (own := RX5) (by decide +kernel) rfl kX5_operands koX5_operands 60 (fun _ _ _ _ _ => none) (fun live as M Ret h => ?_) (fun _ _ _ _ _ _ _ _ hI => by cases hI)
  unfold TX5_operands at h
  split at h
  · next s =>
    refine ⟨Nat.le_of_ble_eq_true rfl, ?_⟩
    change am_wp _ _ _ _ [(0, Value.int s)] _ _
    repeat' (first | apply And.intro | exact rfl | intro hx | (refine Exists.intro _ (And.intro rfl ?_)))
    all_goals try first | (with_reducible change am_tI _ _) | (change Ret _ _) | (change Ret _ _ _) | (change Exists _)
    all_goals try dsimp only at *
    all_goals try (with_reducible exact absurd ‹(1000 : Int64) = 0› am_z1000)
    all_goals grind [am_ops]
  · exact h.elim
theorem dX5_joined_0 : decode cX5_joined 0 = .ok (.iload_n 0, 1) := by decide +kernel
theorem dX5_joined_1 : decode cX5_joined 1 = .ok (.lookupswitch 159 #[(38, 93), (42, 155), (43, 147), (45, 151), (60, 111), (61, 135), (62, 123), (124, 75)], 75) := by decide +kernel
theorem dX5_joined_76 : decode cX5_joined 76 = .ok (.lload_n 1, 1) := by decide +kernel
theorem dX5_joined_77 : decode cX5_joined 77 = .ok (.lconst 0, 1) := by decide +kernel
theorem dX5_joined_78 : decode cX5_joined 78 = .ok (.lcmp, 1) := by decide +kernel
theorem dX5_joined_79 : decode cX5_joined 79 = .ok (.ifCond .ne 9, 3) := by decide +kernel
theorem dX5_joined_82 : decode cX5_joined 82 = .ok (.lload_n 3, 1) := by decide +kernel
theorem dX5_joined_83 : decode cX5_joined 83 = .ok (.lconst 0, 1) := by decide +kernel
theorem dX5_joined_84 : decode cX5_joined 84 = .ok (.lcmp, 1) := by decide +kernel
theorem dX5_joined_85 : decode cX5_joined 85 = .ok (.ifCond .eq 7, 3) := by decide +kernel
theorem dX5_joined_88 : decode cX5_joined 88 = .ok (.lconst 1, 1) := by decide +kernel
theorem dX5_joined_89 : decode cX5_joined 89 = .ok (.goto 4, 3) := by decide +kernel
theorem dX5_joined_92 : decode cX5_joined 92 = .ok (.lconst 0, 1) := by decide +kernel
theorem dX5_joined_93 : decode cX5_joined 93 = .ok (.lreturn, 1) := by decide +kernel
theorem dX5_joined_94 : decode cX5_joined 94 = .ok (.lload_n 1, 1) := by decide +kernel
theorem dX5_joined_95 : decode cX5_joined 95 = .ok (.lconst 0, 1) := by decide +kernel
theorem dX5_joined_96 : decode cX5_joined 96 = .ok (.lcmp, 1) := by decide +kernel
theorem dX5_joined_97 : decode cX5_joined 97 = .ok (.ifCond .eq 13, 3) := by decide +kernel
theorem dX5_joined_100 : decode cX5_joined 100 = .ok (.lload_n 3, 1) := by decide +kernel
theorem dX5_joined_101 : decode cX5_joined 101 = .ok (.lconst 0, 1) := by decide +kernel
theorem dX5_joined_102 : decode cX5_joined 102 = .ok (.lcmp, 1) := by decide +kernel
theorem dX5_joined_103 : decode cX5_joined 103 = .ok (.ifCond .eq 7, 3) := by decide +kernel
theorem dX5_joined_106 : decode cX5_joined 106 = .ok (.lconst 1, 1) := by decide +kernel
theorem dX5_joined_107 : decode cX5_joined 107 = .ok (.goto 4, 3) := by decide +kernel
theorem dX5_joined_110 : decode cX5_joined 110 = .ok (.lconst 0, 1) := by decide +kernel
theorem dX5_joined_111 : decode cX5_joined 111 = .ok (.lreturn, 1) := by decide +kernel
theorem dX5_joined_112 : decode cX5_joined 112 = .ok (.lload_n 1, 1) := by decide +kernel
theorem dX5_joined_113 : decode cX5_joined 113 = .ok (.lload_n 3, 1) := by decide +kernel
theorem dX5_joined_114 : decode cX5_joined 114 = .ok (.lcmp, 1) := by decide +kernel
theorem dX5_joined_115 : decode cX5_joined 115 = .ok (.ifCond .ge 7, 3) := by decide +kernel
theorem dX5_joined_118 : decode cX5_joined 118 = .ok (.lconst 1, 1) := by decide +kernel
theorem dX5_joined_119 : decode cX5_joined 119 = .ok (.goto 4, 3) := by decide +kernel
theorem dX5_joined_122 : decode cX5_joined 122 = .ok (.lconst 0, 1) := by decide +kernel
theorem dX5_joined_123 : decode cX5_joined 123 = .ok (.lreturn, 1) := by decide +kernel
theorem dX5_joined_124 : decode cX5_joined 124 = .ok (.lload_n 1, 1) := by decide +kernel
theorem dX5_joined_125 : decode cX5_joined 125 = .ok (.lload_n 3, 1) := by decide +kernel
theorem dX5_joined_126 : decode cX5_joined 126 = .ok (.lcmp, 1) := by decide +kernel
theorem dX5_joined_127 : decode cX5_joined 127 = .ok (.ifCond .le 7, 3) := by decide +kernel
theorem dX5_joined_130 : decode cX5_joined 130 = .ok (.lconst 1, 1) := by decide +kernel
theorem dX5_joined_131 : decode cX5_joined 131 = .ok (.goto 4, 3) := by decide +kernel
theorem dX5_joined_134 : decode cX5_joined 134 = .ok (.lconst 0, 1) := by decide +kernel
theorem dX5_joined_135 : decode cX5_joined 135 = .ok (.lreturn, 1) := by decide +kernel
theorem dX5_joined_136 : decode cX5_joined 136 = .ok (.lload_n 1, 1) := by decide +kernel
theorem dX5_joined_137 : decode cX5_joined 137 = .ok (.lload_n 3, 1) := by decide +kernel
theorem dX5_joined_138 : decode cX5_joined 138 = .ok (.lcmp, 1) := by decide +kernel
theorem dX5_joined_139 : decode cX5_joined 139 = .ok (.ifCond .ne 7, 3) := by decide +kernel
theorem dX5_joined_142 : decode cX5_joined 142 = .ok (.lconst 1, 1) := by decide +kernel
theorem dX5_joined_143 : decode cX5_joined 143 = .ok (.goto 4, 3) := by decide +kernel
theorem dX5_joined_146 : decode cX5_joined 146 = .ok (.lconst 0, 1) := by decide +kernel
theorem dX5_joined_147 : decode cX5_joined 147 = .ok (.lreturn, 1) := by decide +kernel
theorem dX5_joined_148 : decode cX5_joined 148 = .ok (.lload_n 1, 1) := by decide +kernel
theorem dX5_joined_149 : decode cX5_joined 149 = .ok (.lload_n 3, 1) := by decide +kernel
theorem dX5_joined_150 : decode cX5_joined 150 = .ok (.ladd, 1) := by decide +kernel
theorem dX5_joined_151 : decode cX5_joined 151 = .ok (.lreturn, 1) := by decide +kernel
theorem dX5_joined_152 : decode cX5_joined 152 = .ok (.lload_n 1, 1) := by decide +kernel
theorem dX5_joined_153 : decode cX5_joined 153 = .ok (.lload_n 3, 1) := by decide +kernel
theorem dX5_joined_154 : decode cX5_joined 154 = .ok (.lsub, 1) := by decide +kernel
theorem dX5_joined_155 : decode cX5_joined 155 = .ok (.lreturn, 1) := by decide +kernel
theorem dX5_joined_156 : decode cX5_joined 156 = .ok (.lload_n 1, 1) := by decide +kernel
theorem dX5_joined_157 : decode cX5_joined 157 = .ok (.lload_n 3, 1) := by decide +kernel
theorem dX5_joined_158 : decode cX5_joined 158 = .ok (.lmul, 1) := by decide +kernel
theorem dX5_joined_159 : decode cX5_joined 159 = .ok (.lreturn, 1) := by decide +kernel
theorem dX5_joined_160 : decode cX5_joined 160 = .ok (.lload_n 3, 1) := by decide +kernel
theorem dX5_joined_161 : decode cX5_joined 161 = .ok (.lconst 0, 1) := by decide +kernel
theorem dX5_joined_162 : decode cX5_joined 162 = .ok (.lcmp, 1) := by decide +kernel
theorem dX5_joined_163 : decode cX5_joined 163 = .ok (.ifCond .ne 7, 3) := by decide +kernel
theorem dX5_joined_166 : decode cX5_joined 166 = .ok (.lconst 0, 1) := by decide +kernel
theorem dX5_joined_167 : decode cX5_joined 167 = .ok (.goto 6, 3) := by decide +kernel
theorem dX5_joined_170 : decode cX5_joined 170 = .ok (.lload_n 1, 1) := by decide +kernel
theorem dX5_joined_171 : decode cX5_joined 171 = .ok (.lload_n 3, 1) := by decide +kernel
theorem dX5_joined_172 : decode cX5_joined 172 = .ok (.ldiv, 1) := by decide +kernel
theorem dX5_joined_173 : decode cX5_joined 173 = .ok (.lreturn, 1) := by decide +kernel
def kX5_joined (live : am_E) (Ret : am_R) : am_code := [(0, am_iload 0 1), (1, am_switch [(38, 94), (42, 156), (43, 148), (45, 152), (60, 112), (61, 136), (62, 124), (124, 76)] 160), (76, am_lload 1 77), (77, am_const (.long 0) 78), (78, am_lcmp 79), (79, am_if1 (fun x => x = 0) 82 88), (82, am_lload 3 83), (83, am_const (.long 0) 84), (84, am_lcmp 85), (85, am_if1 (fun x => x = 0) 92 88), (88, am_const (.long 1) 89), (89, am_goto 93), (92, am_const (.long 0) 93), (93, am_retL Ret), (94, am_lload 1 95), (95, am_const (.long 0) 96), (96, am_lcmp 97), (97, am_if1 (fun x => x = 0) 110 100), (100, am_lload 3 101), (101, am_const (.long 0) 102), (102, am_lcmp 103), (103, am_if1 (fun x => x = 0) 110 106), (106, am_const (.long 1) 107), (107, am_goto 111), (110, am_const (.long 0) 111), (111, am_retL Ret), (112, am_lload 1 113), (113, am_lload 3 114), (114, am_lcmp 115), (115, am_if1 (fun x => 0 ≤ x) 122 118), (118, am_const (.long 1) 119), (119, am_goto 123), (122, am_const (.long 0) 123), (123, am_retL Ret), (124, am_lload 1 125), (125, am_lload 3 126), (126, am_lcmp 127), (127, am_if1 (fun x => x ≤ 0) 134 130), (130, am_const (.long 1) 131), (131, am_goto 135), (134, am_const (.long 0) 135), (135, am_retL Ret), (136, am_lload 1 137), (137, am_lload 3 138), (138, am_lcmp 139), (139, am_if1 (fun x => x = 0) 142 146), (142, am_const (.long 1) 143), (143, am_goto 147), (146, am_const (.long 0) 147), (147, am_retL Ret), (148, am_lload 1 149), (149, am_lload 3 150), (150, am_l2 (fun x y => x + y) 151), (151, am_retL Ret), (152, am_lload 1 153), (153, am_lload 3 154), (154, am_l2 (fun x y => x - y) 155), (155, am_retL Ret), (156, am_lload 1 157), (157, am_lload 3 158), (158, am_l2 (fun x y => x * y) 159), (159, am_retL Ret), (160, am_lload 3 161), (161, am_const (.long 0) 162), (162, am_lcmp 163), (163, am_if1 (fun x => x = 0) 166 170), (166, am_const (.long 0) 167), (167, am_goto 173), (170, am_lload 1 171), (171, am_lload 3 172), (172, am_l2z (fun x y => x / y) 173), (173, am_retL Ret)]
theorem koX5_joined (live : am_E) (Ret : am_R) : ∀ q ∈ kX5_joined live Ret, am_ok RX5 cX5_joined 5 (some .long) 0 0 live Ret q.1 q.2 :=
  am_kc (ak_iload_n dX5_joined_0 rfl rfl) <|
  am_kc (ak_lswitch dX5_joined_1 (by decide +kernel) (by decide +kernel) (by decide +kernel)) <|
  am_kc (ak_lload_n dX5_joined_76 rfl rfl) <|
  am_kc (ak_lconst dX5_joined_77 (by decide +kernel) rfl) <|
  am_kc (ak_lcmp dX5_joined_78 rfl) <|
  am_kc (ak_if_ne dX5_joined_79 (by decide +kernel) rfl) <|
  am_kc (ak_lload_n dX5_joined_82 rfl rfl) <|
  am_kc (ak_lconst dX5_joined_83 (by decide +kernel) rfl) <|
  am_kc (ak_lcmp dX5_joined_84 rfl) <|
  am_kc (ak_if_eq dX5_joined_85 (by decide +kernel) rfl) <|
  am_kc (ak_lconst dX5_joined_88 (by decide +kernel) rfl) <|
  am_kc (ak_goto dX5_joined_89 (by decide +kernel)) <|
  am_kc (ak_lconst dX5_joined_92 (by decide +kernel) rfl) <|
  am_kc (ak_retL dX5_joined_93) <|
  am_kc (ak_lload_n dX5_joined_94 rfl rfl) <|
  am_kc (ak_lconst dX5_joined_95 (by decide +kernel) rfl) <|
  am_kc (ak_lcmp dX5_joined_96 rfl) <|
  am_kc (ak_if_eq dX5_joined_97 (by decide +kernel) rfl) <|
  am_kc (ak_lload_n dX5_joined_100 rfl rfl) <|
  am_kc (ak_lconst dX5_joined_101 (by decide +kernel) rfl) <|
  am_kc (ak_lcmp dX5_joined_102 rfl) <|
  am_kc (ak_if_eq dX5_joined_103 (by decide +kernel) rfl) <|
  am_kc (ak_lconst dX5_joined_106 (by decide +kernel) rfl) <|
  am_kc (ak_goto dX5_joined_107 (by decide +kernel)) <|
  am_kc (ak_lconst dX5_joined_110 (by decide +kernel) rfl) <|
  am_kc (ak_retL dX5_joined_111) <|
  am_kc (ak_lload_n dX5_joined_112 rfl rfl) <|
  am_kc (ak_lload_n dX5_joined_113 rfl rfl) <|
  am_kc (ak_lcmp dX5_joined_114 rfl) <|
  am_kc (ak_if_ge dX5_joined_115 (by decide +kernel) rfl) <|
  am_kc (ak_lconst dX5_joined_118 (by decide +kernel) rfl) <|
  am_kc (ak_goto dX5_joined_119 (by decide +kernel)) <|
  am_kc (ak_lconst dX5_joined_122 (by decide +kernel) rfl) <|
  am_kc (ak_retL dX5_joined_123) <|
  am_kc (ak_lload_n dX5_joined_124 rfl rfl) <|
  am_kc (ak_lload_n dX5_joined_125 rfl rfl) <|
  am_kc (ak_lcmp dX5_joined_126 rfl) <|
  am_kc (ak_if_le dX5_joined_127 (by decide +kernel) rfl) <|
  am_kc (ak_lconst dX5_joined_130 (by decide +kernel) rfl) <|
  am_kc (ak_goto dX5_joined_131 (by decide +kernel)) <|
  am_kc (ak_lconst dX5_joined_134 (by decide +kernel) rfl) <|
  am_kc (ak_retL dX5_joined_135) <|
  am_kc (ak_lload_n dX5_joined_136 rfl rfl) <|
  am_kc (ak_lload_n dX5_joined_137 rfl rfl) <|
  am_kc (ak_lcmp dX5_joined_138 rfl) <|
  am_kc (ak_if_ne dX5_joined_139 (by decide +kernel) rfl) <|
  am_kc (ak_lconst dX5_joined_142 (by decide +kernel) rfl) <|
  am_kc (ak_goto dX5_joined_143 (by decide +kernel)) <|
  am_kc (ak_lconst dX5_joined_146 (by decide +kernel) rfl) <|
  am_kc (ak_retL dX5_joined_147) <|
  am_kc (ak_lload_n dX5_joined_148 rfl rfl) <|
  am_kc (ak_lload_n dX5_joined_149 rfl rfl) <|
  am_kc (ak_ladd dX5_joined_150 rfl) <|
  am_kc (ak_retL dX5_joined_151) <|
  am_kc (ak_lload_n dX5_joined_152 rfl rfl) <|
  am_kc (ak_lload_n dX5_joined_153 rfl rfl) <|
  am_kc (ak_lsub dX5_joined_154 rfl) <|
  am_kc (ak_retL dX5_joined_155) <|
  am_kc (ak_lload_n dX5_joined_156 rfl rfl) <|
  am_kc (ak_lload_n dX5_joined_157 rfl rfl) <|
  am_kc (ak_lmul dX5_joined_158 rfl) <|
  am_kc (ak_retL dX5_joined_159) <|
  am_kc (ak_lload_n dX5_joined_160 rfl rfl) <|
  am_kc (ak_lconst dX5_joined_161 (by decide +kernel) rfl) <|
  am_kc (ak_lcmp dX5_joined_162 rfl) <|
  am_kc (ak_if_ne dX5_joined_163 (by decide +kernel) rfl) <|
  am_kc (ak_lconst dX5_joined_166 (by decide +kernel) rfl) <|
  am_kc (ak_goto dX5_joined_167 (by decide +kernel)) <|
  am_kc (ak_lload_n dX5_joined_170 rfl rfl) <|
  am_kc (ak_lload_n dX5_joined_171 rfl rfl) <|
  am_kc (ak_ldiv dX5_joined_172 rfl) <|
  am_kc (ak_retL dX5_joined_173) <| am_kn
def am_join (s : Int32) (a b : Int64) : Int64 := if s = 124 then (if a ≠ 0 ∨ b ≠ 0 then 1 else 0) else if s = 38 then (if a ≠ 0 ∧ b ≠ 0 then 1 else 0) else if s = 60 then (if a < b then 1 else 0) else if s = 62 then (if b < a then 1 else 0) else if s = 61 then (if a = b then 1 else 0) else if s = 43 then a + b else if s = 45 then a - b else if s = 42 then a * b else if b = 0 then 0 else a / b
theorem lc_eq (x y : Int64) : lg_cmp x y = 0 ↔ x = y := by unfold lg_cmp; split <;> (try split) <;> grind
theorem lc_lt (x y : Int64) : lg_cmp x y < 0 ↔ x < y := by unfold lg_cmp; split <;> (try split) <;> grind
theorem lc_ge (x y : Int64) : 0 ≤ lg_cmp x y ↔ y ≤ x := by unfold lg_cmp; split <;> (try split) <;> grind
theorem lc_gt (x y : Int64) : 0 < lg_cmp x y ↔ y < x := by unfold lg_cmp; split <;> (try split) <;> grind
theorem lc_le (x y : Int64) : lg_cmp x y ≤ 0 ↔ x ≤ y := by unfold lg_cmp; split <;> (try split) <;> grind
def TX5_joined : am_T := fun live as M R => match as with
  | [.int s, .long a, .long b] => R (some (.long (am_join s a b))) M
  | _ => False
set_option maxRecDepth 100000 in
set_option maxHeartbeats 4000000 in
theorem metX5_joined : am_Met yX5_joined cX5_joined 5 (some .long) (0) (0) TX5_joined := by
  refine am_met (own := RX5) (by decide +kernel) rfl kX5_joined koX5_joined 120 (fun _ _ _ _ _ => none) (fun live as M Ret h => ?_) (fun _ _ _ _ _ _ _ _ hI => by cases hI)
  unfold TX5_joined at h
  split at h
  · next s a b =>
    refine ⟨Nat.le_of_ble_eq_true rfl, ?_⟩
    change am_wp _ _ _ _ [(0, Value.int s), (1, Value.long a), (3, Value.long b)] _ _
    repeat' (first | apply And.intro | exact rfl | intro hx | (refine Exists.intro _ (And.intro rfl ?_)))
    all_goals try first | (with_reducible change am_tI _ _) | (change Ret _ _) | (change Ret _ _ _) | (change Exists _)
    all_goals try dsimp only at *
    all_goals try (with_reducible exact absurd ‹(1000 : Int64) = 0› am_z1000)
    all_goals try simp only [lc_eq, lc_lt, lc_ge, lc_gt, lc_le] at *
    all_goals first | assumption | grind [am_join]
  · exact h.elim
set_option maxRecDepth 100000 in
theorem wd_175 : Cond.fieldLink "LearnLoans$Text" 18 "LearnLoans$Text" "wrong" "I" ∈ am_ws := am_wt1 (List.mem_of_getElem? (i := 118) (by rfl)) (by decide +kernel)
def rwX5_blame : List dz_r := [(0, .aload_n 0, 1), (1, .getfield 18, 3), (4, .iconst (-1), 1), (5, .if_icmp .ne 13, 3), (8, .aload_n 0, 1), (9, .bipush 10, 2), (11, .iload_n 1, 1), (12, .imul, 1), (13, .iload_n 2, 1), (14, .iadd, 1), (15, .putfield 18, 3), (18, .return_, 1)]
theorem dzX5_blame : dz cX5_blame rwX5_blame := dz_all 0 (by decide +kernel)
def kX5_blame (live : am_E) (Ret : am_R) : am_code := [(0, am_aload 0 1), (1, am_getI live 5 6 4), (4, am_const (.int (-1)) 5), (5, am_if2 (fun x y => x = y) 8 18), (8, am_aload 0 9), (9, am_const (.int 10) 11), (11, am_iload 1 12), (12, am_i2 (fun x y => x * y) 13), (13, am_iload 2 14), (14, am_i2 (fun x y => x + y) 15), (15, am_putI live 5 6 18), (18, am_retV Ret)]
theorem koX5_blame (live : am_E) (Ret : am_R) : ∀ q ∈ kX5_blame live Ret, am_ok RX5 cX5_blame 3 none 0 0 live Ret q.1 q.2 :=
  am_kz dzX5_blame <|
  am_kd (fun d => ak_aload_n d rfl rfl) <|
  am_kd (fun d => ak_getI (C := RX5) (T := TX5) (N := 7) rfl inX5w (by decide) rfl rfl rfl wd_175 d rfl) <|
  am_kd (fun d => ak_iconst d (by decide +kernel) rfl) <|
  am_kd (fun d => ak_icmp_ne d (by decide +kernel) rfl) <|
  am_kd (fun d => ak_aload_n d rfl rfl) <|
  am_kd (fun d => ak_bipush d (by decide +kernel) rfl) <|
  am_kd (fun d => ak_iload_n d rfl rfl) <|
  am_kd (fun d => ak_imul d rfl) <|
  am_kd (fun d => ak_iload_n d rfl rfl) <|
  am_kd (fun d => ak_iadd d rfl) <|
  am_kd (fun d => ak_putI (C := RX5) (T := TX5) (N := 7) rfl inX5w tyX5_ok nmX5 (by decide) rfl rfl rfl rfl (by decide +kernel) wd_175 d rfl) <|
  am_kd (fun d => ak_retV d) <| am_kdn
def am_blame (M : am_M) (t : Nat) (a k : Int32) : am_M := am_wIc (M.1 t 6 = -1) M t 6 (10 * a + k)
def TX5_blame : am_T := fun live as M R => match as with
  | [.ref t, .int a, .int k] => am_if (am_isO live 5 t) (R none (am_blame M t a k))
  | _ => False
set_option maxRecDepth 100000 in
set_option maxHeartbeats 4000000 in
theorem metX5_blame : am_Met yX5_blame cX5_blame 3 none (0) (0) TX5_blame := by
  refine am_met (own := RX5) (by decide +kernel) rfl kX5_blame koX5_blame 60 (fun _ _ _ _ _ => none) (fun live as M Ret h => ?_) (fun _ _ _ _ _ _ _ _ hI => by cases hI)
  unfold TX5_blame at h
  split at h
  · next t a k =>
    refine ⟨Nat.le_of_ble_eq_true rfl, ?_⟩
    change am_wp _ _ _ _ [(0, Value.ref t), (1, Value.int a), (2, Value.int k)] _ _
    have hh := am_if_mp h
    clear h
    obtain ⟨h1, h⟩ := hh
    repeat' (first | (with_reducible exact h1) | apply And.intro | exact rfl | intro hx | (refine Exists.intro _ (And.intro rfl ?_)) | ((with_reducible change _ = true); simp only [h1, Bool.true_and]; rfl))
    all_goals try first | (with_reducible change am_tI _ _) | (change Ret _ _) | (change Ret _ _ _) | (change Exists _)
    all_goals try dsimp only at *
    all_goals try (with_reducible exact absurd ‹(1000 : Int64) = 0› am_z1000)
    · unfold am_blame at h; rw [am_wIc_t ‹_›] at h; exact h
    · unfold am_blame at h; rw [am_wIc_f ‹_›] at h; exact h
  · exact h.elim
set_option maxRecDepth 100000 in
theorem wd_170 : Cond.fieldLink "LearnLoans$Text" 25 "LearnLoans$Text" "codes" "I" ∈ am_ws := am_wt1 (List.mem_of_getElem? (i := 113) (by rfl)) (by decide +kernel)
set_option maxRecDepth 100000 in
theorem wd_169 : Cond.fieldLink "LearnLoans$Text" 15 "LearnLoans$Text" "code" "[I" ∈ am_ws := am_wt1 (List.mem_of_getElem? (i := 112) (by rfl)) (by decide +kernel)
def rwX5_emit : List dz_r := [(0, .aload_n 0, 1), (1, .getfield 25, 3), (4, .bipush 50, 2), (6, .if_icmp .ge 23, 3), (9, .aload_n 0, 1), (10, .getfield 15, 3), (13, .aload_n 0, 1), (14, .getfield 25, 3), (17, .iload_n 1, 1), (18, .iastore, 1), (19, .aload_n 0, 1), (20, .dup, 1), (21, .getfield 25, 3), (24, .iconst 1, 1), (25, .iadd, 1), (26, .putfield 25, 3), (29, .return_, 1)]
theorem dzX5_emit : dz cX5_emit rwX5_emit := dz_all 0 (by decide +kernel)
def kX5_emit (live : am_E) (Ret : am_R) : am_code := [(0, am_aload 0 1), (1, am_getI live 5 2 4), (4, am_const (.int 50) 6), (6, am_if2 (fun x y => y ≤ x) 29 9), (9, am_aload 0 10), (10, am_getR live 5 1 13), (13, am_aload 0 14), (14, am_getI live 5 2 17), (17, am_iload 1 18), (18, am_ast live 0 19), (19, am_aload 0 20), (20, am_dup 21), (21, am_getI live 5 2 24), (24, am_const (.int 1) 25), (25, am_i2 (fun x y => x + y) 26), (26, am_putI live 5 2 29), (29, am_retV Ret)]
theorem koX5_emit (live : am_E) (Ret : am_R) : ∀ q ∈ kX5_emit live Ret, am_ok RX5 cX5_emit 2 none 0 0 live Ret q.1 q.2 :=
  am_kz dzX5_emit <|
  am_kd (fun d => ak_aload_n d rfl rfl) <|
  am_kd (fun d => ak_getI (C := RX5) (T := TX5) (N := 7) rfl inX5w (by decide) rfl rfl rfl wd_170 d rfl) <|
  am_kd (fun d => ak_bipush d (by decide +kernel) rfl) <|
  am_kd (fun d => ak_icmp_ge d (by decide +kernel) rfl) <|
  am_kd (fun d => ak_aload_n d rfl rfl) <|
  am_kd (fun d => ak_getR (C := RX5) (T := TX5) (N := 7) rfl inX5w (by decide) rfl rfl rfl wd_169 d rfl) <|
  am_kd (fun d => ak_aload_n d rfl rfl) <|
  am_kd (fun d => ak_getI (C := RX5) (T := TX5) (N := 7) rfl inX5w (by decide) rfl rfl rfl wd_170 d rfl) <|
  am_kd (fun d => ak_iload_n d rfl rfl) <|
  am_kd (fun d => ak_iast (t := 0) (fun _ => rfl) rfl d rfl) <|
  am_kd (fun d => ak_aload_n d rfl rfl) <|
  am_kd (fun d => ak_dup d rfl) <|
  am_kd (fun d => ak_getI (C := RX5) (T := TX5) (N := 7) rfl inX5w (by decide) rfl rfl rfl wd_170 d rfl) <|
  am_kd (fun d => ak_iconst d (by decide +kernel) rfl) <|
  am_kd (fun d => ak_iadd d rfl) <|
  am_kd (fun d => ak_putI (C := RX5) (T := TX5) (N := 7) rfl inX5w tyX5_ok nmX5 (by decide) rfl rfl rfl rfl (by decide +kernel) wd_170 d rfl) <|
  am_kd (fun d => ak_retV d) <| am_kdn
def am_emit (M : am_M) (t c : Nat) (v : Int32) : am_M := if (M.1 t 2).toInt < 50 then am_wI (am_wI M c (M.1 t 2).toNatClampNeg v) t 2 (M.1 t 2 + 1) else M
def TX5_emit : am_T := fun live as M R => match as with
  | [.ref t, .int v] => am_tP live t (fun s c => 0 ≤ (M.1 t 2).toInt ∧ R none (am_emit M t c v))
  | _ => False
set_option maxRecDepth 100000 in
set_option maxHeartbeats 4000000 in
theorem metX5_emit : am_Met yX5_emit cX5_emit 2 none (0) (0) TX5_emit := by
  refine am_met (own := RX5) (by decide +kernel) rfl kX5_emit koX5_emit 60 (fun _ _ _ _ _ => none) (fun live as M Ret h => ?_) (fun _ _ _ _ _ _ _ _ hI => by cases hI)
  unfold TX5_emit at h
  split at h
  · next t v =>
    refine ⟨Nat.le_of_ble_eq_true rfl, ?_⟩
    change am_wp _ _ _ _ [(0, Value.ref t), (1, Value.int v)] _ _
    have hh := am_tP_mp h
    clear h
    obtain ⟨s, c, g1, h2, g3, h1, g4, h3, g5, h4, g6, g7, h5, h0, h⟩ := hh
    repeat' (first | (with_reducible exact h1) | (with_reducible exact h2) | (with_reducible exact h3) | (refine Exists.intro _ (And.intro h2 ?_)) | apply And.intro | exact rfl | intro hx | (refine Exists.intro _ (And.intro rfl ?_)) | ((with_reducible change _ = true); simp only [h1, h2, h3, Bool.true_and]; rfl))
    all_goals try first | (with_reducible change am_tI _ _) | (change Ret _ _) | (change Ret _ _ _) | (change Exists _)
    all_goals try dsimp only at *
    all_goals try (with_reducible exact absurd ‹(1000 : Int64) = 0› am_z1000)
    all_goals simp only [i_le, Int32.reduceToInt, h4, am_emit] at *
    · rw [if_neg (by omega)] at h; exact h
    · omega
    · omega
    · rw [if_pos (by omega)] at h
      simp only [am_wI_1, h5, false_and, if_false]
      exact h
  · exact h.elim
set_option maxRecDepth 100000 in
theorem wd_171 : Cond.fieldLink "LearnLoans$Text" 28 "LearnLoans$Text" "place" "I" ∈ am_ws := am_wt1 (List.mem_of_getElem? (i := 114) (by rfl)) (by decide +kernel)
set_option maxRecDepth 100000 in
theorem wd_173 : Cond.fieldLink "LearnLoans$Text" 22 "LearnLoans$Text" "size" "I" ∈ am_ws := am_wt1 (List.mem_of_getElem? (i := 116) (by rfl)) (by decide +kernel)
set_option maxRecDepth 100000 in
theorem wd_168 : Cond.fieldLink "LearnLoans$Text" 9 "LearnLoans$Text" "signs" "[I" ∈ am_ws := am_wt1 (List.mem_of_getElem? (i := 111) (by rfl)) (by decide +kernel)
def rwX5_next : List dz_r := [(0, .aload_n 0, 1), (1, .getfield 28, 3), (4, .aload_n 0, 1), (5, .getfield 22, 3), (8, .if_icmp .ge 30, 3), (11, .aload_n 0, 1), (12, .getfield 9, 3), (15, .aload_n 0, 1), (16, .getfield 28, 3), (19, .iaload, 1), (20, .bipush 32, 2), (22, .if_icmp .ne 16, 3), (25, .aload_n 0, 1), (26, .dup, 1), (27, .getfield 28, 3), (30, .iconst 1, 1), (31, .iadd, 1), (32, .putfield 28, 3), (35, .goto (-35), 3), (38, .aload_n 0, 1), (39, .getfield 28, 3), (42, .aload_n 0, 1), (43, .getfield 22, 3), (46, .if_icmp .ge 15, 3), (49, .aload_n 0, 1), (50, .getfield 9, 3), (53, .aload_n 0, 1), (54, .getfield 28, 3), (57, .iaload, 1), (58, .goto 4, 3), (61, .iconst (-1), 1), (62, .ireturn, 1)]
theorem dzX5_next : dz cX5_next rwX5_next := dz_all 0 (by decide +kernel)
def kX5_next (live : am_E) (Ret : am_R) : am_code := [(0, am_aload 0 1), (1, am_getI live 5 3 4), (4, am_aload 0 5), (5, am_getI live 5 5 8), (8, am_if2 (fun x y => y ≤ x) 38 11), (11, am_aload 0 12), (12, am_getR live 5 0 15), (15, am_aload 0 16), (16, am_getI live 5 3 19), (19, am_ald live 0 20), (20, am_const (.int 32) 22), (22, am_if2 (fun x y => x = y) 25 38), (25, am_aload 0 26), (26, am_dup 27), (27, am_getI live 5 3 30), (30, am_const (.int 1) 31), (31, am_i2 (fun x y => x + y) 32), (32, am_putI live 5 3 35), (35, am_goto 0), (38, am_aload 0 39), (39, am_getI live 5 3 42), (42, am_aload 0 43), (43, am_getI live 5 5 46), (46, am_if2 (fun x y => y ≤ x) 61 49), (49, am_aload 0 50), (50, am_getR live 5 0 53), (53, am_aload 0 54), (54, am_getI live 5 3 57), (57, am_ald live 0 58), (58, am_goto 62), (61, am_const (.int (-1)) 62), (62, am_retI Ret)]
theorem koX5_next (live : am_E) (Ret : am_R) : ∀ q ∈ kX5_next live Ret, am_ok RX5 cX5_next 1 (some .int) 0 0 live Ret q.1 q.2 :=
  am_kz dzX5_next <|
  am_kd (fun d => ak_aload_n d rfl rfl) <|
  am_kd (fun d => ak_getI (C := RX5) (T := TX5) (N := 7) rfl inX5w (by decide) rfl rfl rfl wd_171 d rfl) <|
  am_kd (fun d => ak_aload_n d rfl rfl) <|
  am_kd (fun d => ak_getI (C := RX5) (T := TX5) (N := 7) rfl inX5w (by decide) rfl rfl rfl wd_173 d rfl) <|
  am_kd (fun d => ak_icmp_ge d (by decide +kernel) rfl) <|
  am_kd (fun d => ak_aload_n d rfl rfl) <|
  am_kd (fun d => ak_getR (C := RX5) (T := TX5) (N := 7) rfl inX5w (by decide) rfl rfl rfl wd_168 d rfl) <|
  am_kd (fun d => ak_aload_n d rfl rfl) <|
  am_kd (fun d => ak_getI (C := RX5) (T := TX5) (N := 7) rfl inX5w (by decide) rfl rfl rfl wd_171 d rfl) <|
  am_kd (fun d => ak_iald (t := 0) (fun _ => rfl) rfl d rfl) <|
  am_kd (fun d => ak_bipush d (by decide +kernel) rfl) <|
  am_kd (fun d => ak_icmp_ne d (by decide +kernel) rfl) <|
  am_kd (fun d => ak_aload_n d rfl rfl) <|
  am_kd (fun d => ak_dup d rfl) <|
  am_kd (fun d => ak_getI (C := RX5) (T := TX5) (N := 7) rfl inX5w (by decide) rfl rfl rfl wd_171 d rfl) <|
  am_kd (fun d => ak_iconst d (by decide +kernel) rfl) <|
  am_kd (fun d => ak_iadd d rfl) <|
  am_kd (fun d => ak_putI (C := RX5) (T := TX5) (N := 7) rfl inX5w tyX5_ok nmX5 (by decide) rfl rfl rfl rfl (by decide +kernel) wd_171 d rfl) <|
  am_kd (fun d => ak_goto d (by decide +kernel)) <|
  am_kd (fun d => ak_aload_n d rfl rfl) <|
  am_kd (fun d => ak_getI (C := RX5) (T := TX5) (N := 7) rfl inX5w (by decide) rfl rfl rfl wd_171 d rfl) <|
  am_kd (fun d => ak_aload_n d rfl rfl) <|
  am_kd (fun d => ak_getI (C := RX5) (T := TX5) (N := 7) rfl inX5w (by decide) rfl rfl rfl wd_173 d rfl) <|
  am_kd (fun d => ak_icmp_ge d (by decide +kernel) rfl) <|
  am_kd (fun d => ak_aload_n d rfl rfl) <|
  am_kd (fun d => ak_getR (C := RX5) (T := TX5) (N := 7) rfl inX5w (by decide) rfl rfl rfl wd_168 d rfl) <|
  am_kd (fun d => ak_aload_n d rfl rfl) <|
  am_kd (fun d => ak_getI (C := RX5) (T := TX5) (N := 7) rfl inX5w (by decide) rfl rfl rfl wd_171 d rfl) <|
  am_kd (fun d => ak_iald (t := 0) (fun _ => rfl) rfl d rfl) <|
  am_kd (fun d => ak_goto d (by decide +kernel)) <|
  am_kd (fun d => ak_iconst d (by decide +kernel) rfl) <|
  am_kd (fun d => ak_retI d) <| am_kdn
/-- blanks are passed: the place is p from now on -/
def am_skip (M : am_M) (t s : Nat) (p : Int32) : Prop := (M.1 t 3).toInt ≤ p.toInt ∧ p.toInt ≤ (M.1 t 5).toInt ∧ (∀ j : Nat, (M.1 t 3).toInt ≤ (j : Int) → (j : Int) < p.toInt → M.1 s j = 32) ∧ (p.toInt < (M.1 t 5).toInt → ¬ M.1 s p.toNatClampNeg = 32)
def am_sign (M : am_M) (t s : Nat) (p : Int32) : Int32 := if p.toInt < (M.1 t 5).toInt then M.1 s p.toNatClampNeg else -1
def TX5_next : am_T := fun live as M R => match as with
  | [.ref t] => am_tP live t (fun s c => am_tI M t ∧ ∀ p, am_skip M t s p → R (some (.int (am_sign M t s p))) (am_wI M t 3 p))
  | _ => False
def JX5_next : am_E → List Value → am_M → am_R → am_inv := fun live as M0 _ pc => match as with
  | [.ref t] => (match pc with
    | 0 => some ([0], fun k L st M => ∃ p : Int32, L = [(0, .ref t)] ∧ st = [] ∧ k = ((51 - p.toInt).toNat, 0) ∧ M = am_wI M0 t 3 p ∧ (M0.1 t 3).toInt ≤ p.toInt ∧ p.toInt ≤ (M0.1 t 5).toInt ∧ (∀ j : Nat, (M0.1 t 3).toInt ≤ (j : Int) → (j : Int) < p.toInt → M0.1 ((live.2 t 0).getD 0) j = 32))
    | _ => none)
  | _ => none
theorem am_wI_id {M : am_M} {n k : Nat} : am_wI M n k (M.1 n k) = M := by
  refine am_Mext (fun a b => ?_) rfl
  rw [am_wI_1]
  split
  · next h => rw [h.1, h.2]
  · rfl
theorem am_wI_wI {M : am_M} {n k : Nat} {v w : Int32} : am_wI (am_wI M n k v) n k w = am_wI M n k w := by
  refine am_Mext (fun a b => ?_) rfl
  rw [am_wI_1, am_wI_1, am_wI_1]
  split <;> rfl
set_option maxRecDepth 100000 in
set_option maxHeartbeats 4000000 in
theorem metX5_next : am_Met yX5_next cX5_next 1 (some .int) (0) (0) TX5_next := by
  refine am_met0 (own := RX5) (by decide +kernel) rfl kX5_next koX5_next 60 JX5_next ?_ ?_
  · intro live as M Ret h
    unfold TX5_next at h
    split at h
    · next t =>
      refine ⟨Nat.le_of_ble_eq_true rfl, ?_⟩
      have hh := am_tP_mp h
      clear h
      obtain ⟨s, c, h2, g2, g3, h1, h3, g4, h4, g5, g6, h5, g7, hI, h⟩ := hh
      obtain ⟨-, q1, q2, q3⟩ := hI
      exact ⟨_, _, rfl, M.1 t 3, rfl, rfl, rfl, am_wI_id.symm, Int.le_refl _, q2.2, fun j z1 z2 => absurd z1 (by omega)⟩
    · exact h.elim
  · intro live as M0 Ret h k pc I hI L st M hi
    unfold TX5_next at h
    split at h
    · next t =>
      have hh := am_tP_mp h
      clear h
      obtain ⟨s, c, h2, g2, g3, h1, h3, g4, h4, g5, g6, h5, g7, hT, h⟩ := hh
      change (match pc with | 0 => _ | _ => none) = _ at hI
      split at hI
      · cases hI
        obtain ⟨p, rfl, rfl, rfl, rfl, e1, e2, e3⟩ := hi
        obtain ⟨-, q1, q2, q3⟩ := hT
        rw [h2] at e3
        have f1 : (am_wI M0 t 3 p).1 t 3 = p := by rw [am_wI_1, if_pos ⟨rfl, rfl⟩]
        have f2 : (am_wI M0 t 3 p).1 t 5 = M0.1 t 5 := by rw [am_wI_1, if_neg (fun z => absurd z.2 (by decide))]
        have f3 : ∀ j, (am_wI M0 t 3 p).1 s j = M0.1 s j := fun j => by rw [am_wI_1, if_neg (fun z => h5 z.1.symm)]
        repeat' (first | (with_reducible exact h1) | (with_reducible exact h2) | (with_reducible exact h3) | (refine Exists.intro _ (And.intro h2 ?_)) | apply And.intro | exact rfl | intro hx | (refine Exists.intro _ (And.intro rfl ?_)) | ((with_reducible change _ = true); simp only [h1, h2, h3, Bool.true_and]; rfl))
        all_goals try first | (with_reducible change am_tI _ _) | (change Ret _ _) | (change Ret _ _ _) | (change Exists _)
        all_goals try dsimp only at *
        all_goals try (with_reducible exact absurd ‹(1000 : Int64) = 0› am_z1000)
        all_goals try (refine ⟨_, Or.inl ?_, p + 1, rfl, rfl, rfl, ?_, ?_, ?_, ?_⟩)
        all_goals simp only [f1, f2, f3, h4, i_le] at *
        all_goals have hi := i_add (x := p) (y := 1) (by simp only [Int32.reduceToInt]; omega) (by simp only [Int32.reduceToInt]; omega)
        all_goals simp only [Int32.reduceToInt] at hi
        all_goals first
          | omega
          | (have z := h p ⟨e1, e2, e3, fun z => absurd z (by omega)⟩; rw [am_sign, if_neg (by omega)] at z; exact z)
          | (have z := h p ⟨e1, e2, e3, fun _ => by assumption⟩; rw [am_sign, if_pos (by omega)] at z; exact z)
          | (with_reducible exact am_wI_wI)
          | exact am_wI_wI
          | skip
        · intro j j1 j2
          rw [h2] at *
          by_cases hj : (j : Int) < p.toInt
          · exact e3 j j1 hj
          · have : j = p.toNatClampNeg := by have := i_clamp (x := p) (by omega); omega
            rw [this]
            assumption
      · cases hI
    · exact h.elim
end
-- part 15.read.lean.txt
section
/-! Text: reading, what is safe of it -/
theorem hy_X5_next : yX5_next.cls ≠ "java/lang/invoke/MethodHandle" ∧ yX5_next.cls ≠ "java/lang/invoke/VarHandle" ∧ (parseMethodDescriptor yX5_next.desc).map (fun d => d.parameters.length) = some 0 := ⟨by decide +kernel, by decide +kernel, by decide +kernel⟩
set_option maxRecDepth 100000 in
theorem wd_688 : Cond.methodLink "LearnLoans$Text" 38 yX5_next ∈ am_ws := am_wt3 (List.mem_of_getElem? (i := 151) (by rfl)) (by decide +kernel)
set_option maxRecDepth 100000 in
theorem wd_690 : Cond.instanceMethod yX5_next ∈ am_ws := am_wt3 (List.mem_of_getElem? (i := 153) (by rfl)) (by decide +kernel)
set_option maxRecDepth 100000 in
theorem wd_17 : Cond.selects "LearnLoans$Text" yX5_next yX5_next ∈ am_ws := am_wsi (List.mem_of_getElem? (i := 17) (by rfl)) (by decide +kernel)
set_option maxRecDepth 100000 in
theorem wd_65 : Cond.initialized "LearnLoans$Text" ∈ am_ws := am_wt1 (List.mem_of_getElem? (i := 8) (by rfl)) (by decide +kernel)
set_option maxRecDepth 100000 in
theorem wd_691 : Cond.code yX5_next cX5_next 1 (some .int) ∈ am_ws := am_wt3 (List.mem_of_getElem? (i := 154) (by rfl)) (by decide +kernel)
theorem hy_X5_blame : yX5_blame.cls ≠ "java/lang/invoke/MethodHandle" ∧ yX5_blame.cls ≠ "java/lang/invoke/VarHandle" ∧ (parseMethodDescriptor yX5_blame.desc).map (fun d => d.parameters.length) = some 2 := ⟨by decide +kernel, by decide +kernel, by decide +kernel⟩
set_option maxRecDepth 100000 in
theorem wd_676 : Cond.methodLink "LearnLoans$Text" 42 yX5_blame ∈ am_ws := am_wt3 (List.mem_of_getElem? (i := 139) (by rfl)) (by decide +kernel)
set_option maxRecDepth 100000 in
theorem wd_678 : Cond.instanceMethod yX5_blame ∈ am_ws := am_wt3 (List.mem_of_getElem? (i := 141) (by rfl)) (by decide +kernel)
set_option maxRecDepth 100000 in
theorem wd_14 : Cond.selects "LearnLoans$Text" yX5_blame yX5_blame ∈ am_ws := am_wsi (List.mem_of_getElem? (i := 14) (by rfl)) (by decide +kernel)
set_option maxRecDepth 100000 in
theorem wd_679 : Cond.code yX5_blame cX5_blame 3 none ∈ am_ws := am_wt3 (List.mem_of_getElem? (i := 142) (by rfl)) (by decide +kernel)
def rwX5_pass : List dz_r := [(0, .aload_n 0, 1), (1, .getfield 18, 3), (4, .iconst (-1), 1), (5, .if_icmp .ne 24, 3), (8, .aload_n 0, 1), (9, .invokevirtual 38, 3), (12, .iload_n 1, 1), (13, .if_icmp .ne 16, 3), (16, .aload_n 0, 1), (17, .dup, 1), (18, .getfield 28, 3), (21, .iconst 1, 1), (22, .iadd, 1), (23, .putfield 28, 3), (26, .goto 12, 3), (29, .aload_n 0, 1), (30, .aload_n 0, 1), (31, .getfield 28, 3), (34, .iconst 1, 1), (35, .invokevirtual 42, 3), (38, .return_, 1)]
theorem dzX5_pass : dz cX5_pass rwX5_pass := dz_all 0 (by decide +kernel)
def kX5_pass (live : am_E) (Ret : am_R) : am_code := [(0, am_aload 0 1), (1, am_getI live 5 6 4), (4, am_const (.int (-1)) 5), (5, am_if2 (fun x y => x = y) 8 29), (8, am_aload 0 9), (9, am_callV live 5 0 TX5_next 12), (12, am_iload 1 13), (13, am_if2 (fun x y => x = y) 16 29), (16, am_aload 0 17), (17, am_dup 18), (18, am_getI live 5 3 21), (21, am_const (.int 1) 22), (22, am_i2 (fun x y => x + y) 23), (23, am_putI live 5 3 26), (26, am_goto 38), (29, am_aload 0 30), (30, am_aload 0 31), (31, am_getI live 5 3 34), (34, am_const (.int 1) 35), (35, am_callV live 5 2 TX5_blame 38), (38, am_retV Ret)]
theorem koX5_pass (live : am_E) (Ret : am_R) : ∀ q ∈ kX5_pass live Ret, am_ok RX5 cX5_pass 2 none 1 22 live Ret q.1 q.2 :=
  am_kz dzX5_pass <|
  am_kd (fun d => ak_aload_n d rfl rfl) <|
  am_kd (fun d => ak_getI (C := RX5) (T := TX5) (N := 7) rfl inX5w (by decide) rfl rfl rfl wd_175 d rfl) <|
  am_kd (fun d => ak_iconst d (by decide +kernel) rfl) <|
  am_kd (fun d => ak_icmp_ne d (by decide +kernel) rfl) <|
  am_kd (fun d => ak_aload_n d rfl rfl) <|
  am_kd (fun d => ak_callV (C := RX5) (F := TX5) (N := 7) metX5_next rfl ⟨rfl, hy_X5_next⟩ (am_w5 wd_688 wd_690 wd_17 wd_65 wd_691) (by decide) d rfl) <|
  am_kd (fun d => ak_iload_n d rfl rfl) <|
  am_kd (fun d => ak_icmp_ne d (by decide +kernel) rfl) <|
  am_kd (fun d => ak_aload_n d rfl rfl) <|
  am_kd (fun d => ak_dup d rfl) <|
  am_kd (fun d => ak_getI (C := RX5) (T := TX5) (N := 7) rfl inX5w (by decide) rfl rfl rfl wd_171 d rfl) <|
  am_kd (fun d => ak_iconst d (by decide +kernel) rfl) <|
  am_kd (fun d => ak_iadd d rfl) <|
  am_kd (fun d => ak_putI (C := RX5) (T := TX5) (N := 7) rfl inX5w tyX5_ok nmX5 (by decide) rfl rfl rfl rfl (by decide +kernel) wd_171 d rfl) <|
  am_kd (fun d => ak_goto d (by decide +kernel)) <|
  am_kd (fun d => ak_aload_n d rfl rfl) <|
  am_kd (fun d => ak_aload_n d rfl rfl) <|
  am_kd (fun d => ak_getI (C := RX5) (T := TX5) (N := 7) rfl inX5w (by decide) rfl rfl rfl wd_171 d rfl) <|
  am_kd (fun d => ak_iconst d (by decide +kernel) rfl) <|
  am_kd (fun d => ak_callV (C := RX5) (F := TX5) (N := 7) metX5_blame rfl ⟨rfl, hy_X5_blame⟩ (am_w5 wd_676 wd_678 wd_14 wd_65 wd_679) (by decide) d rfl) <|
  am_kd (fun d => ak_retV d) <| am_kdn
def TX5_pass : am_T := fun live as M R => match as with
  | [.ref t, .int g] => am_tP live t (fun s c => am_tI M t ∧ ¬ g = -1 ∧ ∀ M', am_ch (am_tS t c) M M' → am_tI M' t → R none M')
  | _ => False
set_option maxRecDepth 100000 in
set_option maxHeartbeats 4000000 in
theorem metX5_pass : am_Met yX5_pass cX5_pass 2 none (1) (22) TX5_pass := by
  refine am_met (own := RX5) (by decide +kernel) rfl kX5_pass koX5_pass 60 (fun _ _ _ _ _ => none) (fun live as M Ret h => ?_) (fun _ _ _ _ _ _ _ _ hI => by cases hI)
  unfold TX5_pass at h
  split at h
  · next t g =>
    refine ⟨Nat.le_of_ble_eq_true rfl, ?_⟩
    change am_wp _ _ _ _ [(0, Value.ref t), (1, Value.int g)] _ _
    have hh := am_tP_mp h
    clear h
    obtain ⟨s, c, h2, h6, hb, h1, h3, h7, h4, h8, h9, h5, h10, hT, hg, h⟩ := hh
    repeat' (first | (with_reducible exact hT) | (with_reducible exact hg) | (with_reducible exact h1) | (with_reducible exact h2) | (with_reducible exact h3) | (with_reducible exact hb) | (with_reducible exact h6) | (with_reducible exact h7) | (refine Exists.intro _ (Exists.intro _ (And.intro h2 (And.intro h6 ?_)))) | (refine Exists.intro _ (And.intro h2 ?_)) | (refine Exists.intro _ (And.intro h6 ?_)) | apply And.intro | exact rfl | intro hx | (refine Exists.intro _ (And.intro rfl ?_)) | ((with_reducible change _ = true); simp only [h1, h2, h3, hb, h6, h7, Bool.true_and]; rfl))
    all_goals try first | (with_reducible change am_tI _ _) | (change Ret _ _) | (change Ret _ _ _) | (change Exists _)
    all_goals try dsimp only at *
    all_goals try (with_reducible exact absurd ‹(1000 : Int64) = 0› am_z1000)
    all_goals obtain ⟨-, q1, q2, q3⟩ := hT
    · rename_i w p hp
      obtain ⟨p1, p2, p3, p4⟩ := hp
      have hlt : p.toInt < (M.1 t 5).toInt := by
        rcases Int.lt_or_le p.toInt (M.1 t 5).toInt with z | z
        · exact z
        · rw [am_sign, if_neg (by omega)] at hx
          exact absurd hx.symm hg
      have hi := i_add (x := p) (y := 1) (by simp only [Int32.reduceToInt]; omega) (by simp only [Int32.reduceToInt]; omega)
      simp only [Int32.reduceToInt] at hi
      simp only [am_wI_1, and_self, if_true, am_wI_wI]
      refine h _ (am_ch.rf.wI am_tS_3) (am_tI_of ?_ ?_ ?_ ?_ ?_)
      all_goals simp [am_wI_1, -Int32.toInt_add]
      all_goals omega
    · rename_i w p hp
      obtain ⟨p1, p2, p3, p4⟩ := hp
      refine h _ ((am_ch.rf.wI am_tS_3).wIc am_tS_6) (am_tI_of ?_ ?_ ?_ ?_ ?_)
      all_goals simp [am_blame, am_wIc_1, am_wI_1]
      all_goals omega
    · refine h _ (am_ch.rf.wIc am_tS_6) (am_tI_of ?_ ?_ ?_ ?_ ?_)
      all_goals simp [am_blame, am_wIc_1, am_wI_1]
      all_goals omega
  · exact h.elim
def rwX5_passSigns : List dz_r := [(0, .aload_n 0, 1), (1, .invokevirtual 38, 3), (4, .istore_n 1, 1), (5, .aload_n 0, 1), (6, .getfield 28, 3), (9, .aload_n 0, 1), (10, .getfield 22, 3), (13, .if_icmp .ge 33, 3), (16, .iload_n 1, 1), (17, .bipush 33, 2), (19, .if_icmp .eq 9, 3), (22, .iload_n 1, 1), (23, .bipush 45, 2), (25, .if_icmp .ne 21, 3), (28, .aload_n 0, 1), (29, .dup, 1), (30, .getfield 28, 3), (33, .iconst 1, 1), (34, .iadd, 1), (35, .putfield 28, 3), (38, .aload_n 0, 1), (39, .invokevirtual 38, 3), (42, .istore_n 1, 1), (43, .goto (-38), 3), (46, .aload_n 0, 1), (47, .getfield 28, 3), (50, .ireturn, 1)]
theorem dzX5_passSigns : dz cX5_passSigns rwX5_passSigns := dz_all 0 (by decide +kernel)
def kX5_passSigns (live : am_E) (Ret : am_R) : am_code := [(0, am_aload 0 1), (1, am_callV live 5 0 TX5_next 4), (4, am_istore 1 2 5), (5, am_aload 0 6), (6, am_getI live 5 3 9), (9, am_aload 0 10), (10, am_getI live 5 5 13), (13, am_if2 (fun x y => y ≤ x) 46 16), (16, am_iload 1 17), (17, am_const (.int 33) 19), (19, am_if2 (fun x y => x = y) 28 22), (22, am_iload 1 23), (23, am_const (.int 45) 25), (25, am_if2 (fun x y => x = y) 28 46), (28, am_aload 0 29), (29, am_dup 30), (30, am_getI live 5 3 33), (33, am_const (.int 1) 34), (34, am_i2 (fun x y => x + y) 35), (35, am_putI live 5 3 38), (38, am_aload 0 39), (39, am_callV live 5 0 TX5_next 42), (42, am_istore 1 2 43), (43, am_goto 5), (46, am_aload 0 47), (47, am_getI live 5 3 50), (50, am_retI Ret)]
theorem koX5_passSigns (live : am_E) (Ret : am_R) : ∀ q ∈ kX5_passSigns live Ret, am_ok RX5 cX5_passSigns 2 (some .int) 1 20 live Ret q.1 q.2 :=
  am_kz dzX5_passSigns <|
  am_kd (fun d => ak_aload_n d rfl rfl) <|
  am_kd (fun d => ak_callV (C := RX5) (F := TX5) (N := 7) metX5_next rfl ⟨rfl, hy_X5_next⟩ (am_w5 wd_688 wd_690 wd_17 wd_65 wd_691) (by decide) d rfl) <|
  am_kd (fun d => ak_istore_n d rfl rfl) <|
  am_kd (fun d => ak_aload_n d rfl rfl) <|
  am_kd (fun d => ak_getI (C := RX5) (T := TX5) (N := 7) rfl inX5w (by decide) rfl rfl rfl wd_171 d rfl) <|
  am_kd (fun d => ak_aload_n d rfl rfl) <|
  am_kd (fun d => ak_getI (C := RX5) (T := TX5) (N := 7) rfl inX5w (by decide) rfl rfl rfl wd_173 d rfl) <|
  am_kd (fun d => ak_icmp_ge d (by decide +kernel) rfl) <|
  am_kd (fun d => ak_iload_n d rfl rfl) <|
  am_kd (fun d => ak_bipush d (by decide +kernel) rfl) <|
  am_kd (fun d => ak_icmp_eq d (by decide +kernel) rfl) <|
  am_kd (fun d => ak_iload_n d rfl rfl) <|
  am_kd (fun d => ak_bipush d (by decide +kernel) rfl) <|
  am_kd (fun d => ak_icmp_ne d (by decide +kernel) rfl) <|
  am_kd (fun d => ak_aload_n d rfl rfl) <|
  am_kd (fun d => ak_dup d rfl) <|
  am_kd (fun d => ak_getI (C := RX5) (T := TX5) (N := 7) rfl inX5w (by decide) rfl rfl rfl wd_171 d rfl) <|
  am_kd (fun d => ak_iconst d (by decide +kernel) rfl) <|
  am_kd (fun d => ak_iadd d rfl) <|
  am_kd (fun d => ak_putI (C := RX5) (T := TX5) (N := 7) rfl inX5w tyX5_ok nmX5 (by decide) rfl rfl rfl rfl (by decide +kernel) wd_171 d rfl) <|
  am_kd (fun d => ak_aload_n d rfl rfl) <|
  am_kd (fun d => ak_callV (C := RX5) (F := TX5) (N := 7) metX5_next rfl ⟨rfl, hy_X5_next⟩ (am_w5 wd_688 wd_690 wd_17 wd_65 wd_691) (by decide) d rfl) <|
  am_kd (fun d => ak_istore_n d rfl rfl) <|
  am_kd (fun d => ak_goto d (by decide +kernel)) <|
  am_kd (fun d => ak_aload_n d rfl rfl) <|
  am_kd (fun d => ak_getI (C := RX5) (T := TX5) (N := 7) rfl inX5w (by decide) rfl rfl rfl wd_171 d rfl) <|
  am_kd (fun d => ak_retI d) <| am_kdn
def TX5_passSigns : am_T := fun live as M R => match as with
  | [.ref t] => am_tP live t (fun s c => am_tI M t ∧ ∀ M', am_ch (am_tS t c) M M' → am_tI M' t → R (some (.int (M'.1 t 3))) M')
  | _ => False
def JX5_passSigns : am_E → List Value → am_M → am_R → am_inv := fun live as M0 _ pc => match as with
  | [.ref t] => (match pc with
    | 5 => some ([0, 1], fun k L st M => ∃ x : Int32, L = [(0, .ref t), (1, .int x)] ∧ st = [] ∧ k = ((51 - (M.1 t 3).toInt).toNat, 0) ∧ am_ch (am_tS t ((live.2 t 1).getD 0)) M0 M ∧ am_tI M t)
    | _ => none)
  | _ => none
theorem am_tI_w3 {M : am_M} {t s : Nat} {p : Int32} (h : am_tI M t) (hp : am_skip M t s p) : am_tI (am_wI M t 3 p) t := by
  obtain ⟨-, q1, q2, q3⟩ := h
  obtain ⟨p1, p2, -, -⟩ := hp
  refine am_tI_of ?_ ?_ ?_ ?_ ?_
  all_goals simp [am_wI_1]
  all_goals omega
theorem am_tI_inc {M : am_M} {t : Nat} (h : am_tI M t) (hp : (M.1 t 3).toInt < (M.1 t 5).toInt) : am_tI (am_wI M t 3 (M.1 t 3 + 1)) t ∧ (M.1 t 3 + 1).toInt = (M.1 t 3).toInt + 1 := by
  obtain ⟨-, q1, q2, q3⟩ := h
  have hi := i_add (x := M.1 t 3) (y := 1) (by simp only [Int32.reduceToInt]; omega) (by simp only [Int32.reduceToInt]; omega)
  simp only [Int32.reduceToInt] at hi
  refine ⟨am_tI_of ?_ ?_ ?_ ?_ ?_, hi⟩
  all_goals simp [am_wI_1, -Int32.toInt_add]
  all_goals omega
theorem am_tI_blame {M : am_M} {t : Nat} {a k : Int32} (h : am_tI M t) : am_tI (am_blame M t a k) t := by
  obtain ⟨-, q1, q2, q3⟩ := h
  refine am_tI_of ?_ ?_ ?_ ?_ ?_
  all_goals simp [am_blame, am_wIc_1]
  all_goals omega
theorem am_ch_blame {M M' : am_M} {t c : Nat} {a k : Int32} (h : am_ch (am_tS t c) M M') : am_ch (am_tS t c) M (am_blame M' t a k) := h.wIc am_tS_6
theorem am_tI_emit {M : am_M} {t c : Nat} {v : Int32} (h : am_tI M t) (hn : t ≠ c) : am_tI (am_emit M t c v) t := by
  obtain ⟨-, q1, q2, q3⟩ := h
  unfold am_emit
  split
  · have hi := i_add (x := M.1 t 2) (y := 1) (by simp only [Int32.reduceToInt]; omega) (by simp only [Int32.reduceToInt]; omega)
    simp only [Int32.reduceToInt] at hi
    refine am_tI_of ?_ ?_ ?_ ?_ ?_
    all_goals simp [am_wI_1, hn, -Int32.toInt_add]
    all_goals omega
  · exact ⟨(), q1, q2, q3⟩
theorem am_ch_emit {M M' : am_M} {t c : Nat} {v : Int32} (h : am_ch (am_tS t c) M M') : am_ch (am_tS t c) M (am_emit M' t c v) := by
  unfold am_emit
  split
  · exact (h.wI am_tS_c).wI am_tS_2
  · exact h
set_option maxRecDepth 100000 in
set_option maxHeartbeats 4000000 in
theorem metX5_passSigns : am_Met yX5_passSigns cX5_passSigns 2 (some .int) (1) (20) TX5_passSigns := by
  refine am_met (own := RX5) (by decide +kernel) rfl kX5_passSigns koX5_passSigns 60 JX5_passSigns ?_ ?_
  · intro live as M Ret h
    unfold TX5_passSigns at h
    split at h
    · next t =>
      refine ⟨Nat.le_of_ble_eq_true rfl, ?_⟩
      change am_wp _ _ _ _ [(0, Value.ref t)] _ _
      have hh := am_tP_mp h
      clear h
      obtain ⟨s, c, h2, h6, hb, h1, h3, h7, h4, h8, h9, h5, h10, hT, h⟩ := hh
      repeat' (first | (with_reducible exact hT) | (with_reducible exact h1) | (with_reducible exact h2) | (with_reducible exact h3) | (with_reducible exact hb) | (with_reducible exact h6) | (with_reducible exact h7) | (refine Exists.intro _ (Exists.intro _ (And.intro h2 (And.intro h6 ?_)))) | (refine Exists.intro _ (And.intro h2 ?_)) | (refine Exists.intro _ (And.intro h6 ?_)) | apply And.intro | exact rfl | intro hx | (refine Exists.intro _ (And.intro rfl ?_)) | ((with_reducible change _ = true); simp only [h1, h2, h3, hb, h6, h7, Bool.true_and]; rfl))
      all_goals try first | (with_reducible change am_tI _ _) | (change Ret _ _) | (change Ret _ _ _) | (change Exists _)
      all_goals try dsimp only at *
      all_goals try (with_reducible exact absurd ‹(1000 : Int64) = 0› am_z1000)
      rename_i p hp
      exact ⟨_, _, rfl, rfl, rfl, am_ch.rf.wI am_tS_3, am_tI_w3 hT hx⟩
    · exact h.elim
  · intro live as M0 Ret h k pc I hI L st M hi
    unfold TX5_passSigns at h
    split at h
    · next t =>
      have hh := am_tP_mp h
      clear h
      obtain ⟨s, c, h2, h6, hb, h1, h3, h7, h4, h8, h9, h5, h10, hT, h⟩ := hh
      change (match pc with | 5 => _ | _ => none) = _ at hI
      split at hI
      · cases hI
        obtain ⟨x, rfl, rfl, rfl, e1, e2⟩ := hi
        have f1 := e1
        rw [h6] at f1
        repeat' (first | (with_reducible exact e2) | (with_reducible exact h1) | (with_reducible exact h2) | (with_reducible exact h3) | (with_reducible exact hb) | (with_reducible exact h6) | (with_reducible exact h7) | (refine Exists.intro _ (Exists.intro _ (And.intro h2 (And.intro h6 ?_)))) | (refine Exists.intro _ (And.intro h2 ?_)) | (refine Exists.intro _ (And.intro h6 ?_)) | apply And.intro | exact rfl | intro hx | (refine Exists.intro _ (And.intro rfl ?_)) | ((with_reducible change _ = true); simp only [h1, h2, h3, hb, h6, h7, Bool.true_and]; rfl))
        all_goals try first | (with_reducible change am_tI _ _) | (change Ret _ _) | (change Ret _ _ _) | (change Exists _)
        all_goals try dsimp only at *
        all_goals try (with_reducible exact absurd ‹(1000 : Int64) = 0› am_z1000)
        all_goals first
          | (with_reducible exact h _ f1 e2)
          | exact (am_tI_inc e2 (by simp only [i_le] at *; omega)).1
          | exact h _ f1 e2
          | skip
        all_goals
          have hlt : (M.1 t 3).toInt < (M.1 t 5).toInt := by simp only [i_le] at *; omega
          have hi := am_tI_inc e2 hlt
          have hs := hx.1
          have hs2 := hx.2.1
          have q3 : (M.1 t 5).toInt ≤ 50 := by obtain ⟨-, q1, q2, q3⟩ := e2; exact q3
          refine ⟨_, Or.inl ?_, _, rfl, rfl, rfl, (e1.wI am_tS_3).wI am_tS_3, am_tI_w3 hi.1 hx⟩
          simp [am_wI_1, -Int32.toInt_add] at hs hs2 ⊢
          omega
      · cases hI
    · exact h.elim
theorem hy_X5_emit : yX5_emit.cls ≠ "java/lang/invoke/MethodHandle" ∧ yX5_emit.cls ≠ "java/lang/invoke/VarHandle" ∧ (parseMethodDescriptor yX5_emit.desc).map (fun d => d.parameters.length) = some 1 := ⟨by decide +kernel, by decide +kernel, by decide +kernel⟩
set_option maxRecDepth 100000 in
theorem wd_703 : Cond.methodLink "LearnLoans$Text" 60 yX5_emit ∈ am_ws := am_wt3 (List.mem_of_getElem? (i := 166) (by rfl)) (by decide +kernel)
set_option maxRecDepth 100000 in
theorem wd_705 : Cond.instanceMethod yX5_emit ∈ am_ws := am_wt3 (List.mem_of_getElem? (i := 168) (by rfl)) (by decide +kernel)
set_option maxRecDepth 100000 in
theorem wd_20 : Cond.selects "LearnLoans$Text" yX5_emit yX5_emit ∈ am_ws := am_wsi (List.mem_of_getElem? (i := 20) (by rfl)) (by decide +kernel)
set_option maxRecDepth 100000 in
theorem wd_706 : Cond.code yX5_emit cX5_emit 2 none ∈ am_ws := am_wt3 (List.mem_of_getElem? (i := 169) (by rfl)) (by decide +kernel)
def rwX5_emitSigns : List dz_r := [(0, .iload_n 2, 1), (1, .iconst 1, 1), (2, .isub, 1), (3, .istore_n 3, 1), (4, .iload_n 3, 1), (5, .iload_n 1, 1), (6, .if_icmp .lt 52, 3), (9, .iload_n 3, 1), (10, .bipush 50, 2), (12, .if_icmp .ge 46, 3), (15, .aload_n 0, 1), (16, .getfield 9, 3), (19, .iload_n 3, 1), (20, .iaload, 1), (21, .bipush 33, 2), (23, .if_icmp .ne 12, 3), (26, .aload_n 0, 1), (27, .bipush (-33), 2), (29, .invokevirtual 60, 3), (32, .goto 20, 3), (35, .aload_n 0, 1), (36, .getfield 9, 3), (39, .iload_n 3, 1), (40, .iaload, 1), (41, .bipush 45, 2), (43, .if_icmp .ne 9, 3), (46, .aload_n 0, 1), (47, .bipush (-126), 2), (49, .invokevirtual 60, 3), (52, .iinc 3 (-1), 3), (55, .goto (-51), 3), (58, .return_, 1)]
theorem dzX5_emitSigns : dz cX5_emitSigns rwX5_emitSigns := dz_all 0 (by decide +kernel)
def kX5_emitSigns (live : am_E) (Ret : am_R) : am_code := [(0, am_iload 2 1), (1, am_const (.int 1) 2), (2, am_i2 (fun x y => x - y) 3), (3, am_istore 3 4 4), (4, am_iload 3 5), (5, am_iload 1 6), (6, am_if2 (fun x y => x < y) 58 9), (9, am_iload 3 10), (10, am_const (.int 50) 12), (12, am_if2 (fun x y => y ≤ x) 58 15), (15, am_aload 0 16), (16, am_getR live 5 0 19), (19, am_iload 3 20), (20, am_ald live 0 21), (21, am_const (.int 33) 23), (23, am_if2 (fun x y => x = y) 26 35), (26, am_aload 0 27), (27, am_const (.int (-33)) 29), (29, am_callV live 5 1 TX5_emit 32), (32, am_goto 52), (35, am_aload 0 36), (36, am_getR live 5 0 39), (39, am_iload 3 40), (40, am_ald live 0 41), (41, am_const (.int 45) 43), (43, am_if2 (fun x y => x = y) 46 52), (46, am_aload 0 47), (47, am_const (.int (-126)) 49), (49, am_callV live 5 1 TX5_emit 52), (52, am_iinc 3 4 (-1) 55), (55, am_goto 4), (58, am_retV Ret)]
theorem koX5_emitSigns (live : am_E) (Ret : am_R) : ∀ q ∈ kX5_emitSigns live Ret, am_ok RX5 cX5_emitSigns 4 none 1 21 live Ret q.1 q.2 :=
  am_kz dzX5_emitSigns <|
  am_kd (fun d => ak_iload_n d rfl rfl) <|
  am_kd (fun d => ak_iconst d (by decide +kernel) rfl) <|
  am_kd (fun d => ak_isub d rfl) <|
  am_kd (fun d => ak_istore_n d rfl rfl) <|
  am_kd (fun d => ak_iload_n d rfl rfl) <|
  am_kd (fun d => ak_iload_n d rfl rfl) <|
  am_kd (fun d => ak_icmp_lt d (by decide +kernel) rfl) <|
  am_kd (fun d => ak_iload_n d rfl rfl) <|
  am_kd (fun d => ak_bipush d (by decide +kernel) rfl) <|
  am_kd (fun d => ak_icmp_ge d (by decide +kernel) rfl) <|
  am_kd (fun d => ak_aload_n d rfl rfl) <|
  am_kd (fun d => ak_getR (C := RX5) (T := TX5) (N := 7) rfl inX5w (by decide) rfl rfl rfl wd_168 d rfl) <|
  am_kd (fun d => ak_iload_n d rfl rfl) <|
  am_kd (fun d => ak_iald (t := 0) (fun _ => rfl) rfl d rfl) <|
  am_kd (fun d => ak_bipush d (by decide +kernel) rfl) <|
  am_kd (fun d => ak_icmp_ne d (by decide +kernel) rfl) <|
  am_kd (fun d => ak_aload_n d rfl rfl) <|
  am_kd (fun d => ak_bipush d (by decide +kernel) rfl) <|
  am_kd (fun d => ak_callV (C := RX5) (F := TX5) (N := 7) metX5_emit rfl ⟨rfl, hy_X5_emit⟩ (am_w5 wd_703 wd_705 wd_20 wd_65 wd_706) (by decide) d rfl) <|
  am_kd (fun d => ak_goto d (by decide +kernel)) <|
  am_kd (fun d => ak_aload_n d rfl rfl) <|
  am_kd (fun d => ak_getR (C := RX5) (T := TX5) (N := 7) rfl inX5w (by decide) rfl rfl rfl wd_168 d rfl) <|
  am_kd (fun d => ak_iload_n d rfl rfl) <|
  am_kd (fun d => ak_iald (t := 0) (fun _ => rfl) rfl d rfl) <|
  am_kd (fun d => ak_bipush d (by decide +kernel) rfl) <|
  am_kd (fun d => ak_icmp_ne d (by decide +kernel) rfl) <|
  am_kd (fun d => ak_aload_n d rfl rfl) <|
  am_kd (fun d => ak_bipush d (by decide +kernel) rfl) <|
  am_kd (fun d => ak_callV (C := RX5) (F := TX5) (N := 7) metX5_emit rfl ⟨rfl, hy_X5_emit⟩ (am_w5 wd_703 wd_705 wd_20 wd_65 wd_706) (by decide) d rfl) <|
  am_kd (fun d => ak_iinc d (by decide +kernel) rfl) <|
  am_kd (fun d => ak_goto d (by decide +kernel)) <|
  am_kd (fun d => ak_retV d) <| am_kdn
def TX5_emitSigns : am_T := fun live as M R => match as with
  | [.ref t, .int a, .int b] => am_tP live t (fun s c => am_tI M t ∧ 0 ≤ a.toInt ∧ 0 ≤ b.toInt ∧ ∀ M', am_ch (am_tS t c) M M' → am_tI M' t → M'.1 t 3 = M.1 t 3 → R none M')
  | _ => False
def JX5_emitSigns : am_E → List Value → am_M → am_R → am_inv := fun live as M0 _ pc => match as with
  | [.ref t, .int a, .int b] => (match pc with
    | 4 => some ([0, 1, 3], fun k L st M => ∃ i : Int32, L = [(0, .ref t), (1, .int a), (3, .int i)] ∧ st = [] ∧ k = ((i.toInt + 1).toNat, 0) ∧ -1 ≤ i.toInt ∧ am_ch (am_tS t ((live.2 t 1).getD 0)) M0 M ∧ am_tI M t ∧ M.1 t 3 = M0.1 t 3)
    | _ => none)
  | _ => none
theorem am_emit_3 {M : am_M} {t c : Nat} {v : Int32} (hn : t ≠ c) : (am_emit M t c v).1 t 3 = M.1 t 3 := by
  unfold am_emit
  split
  · simp [am_wI_1, hn]
  · rfl
set_option maxRecDepth 100000 in
set_option maxHeartbeats 4000000 in
theorem metX5_emitSigns : am_Met yX5_emitSigns cX5_emitSigns 4 none (1) (21) TX5_emitSigns := by
  refine am_met (own := RX5) (by decide +kernel) rfl kX5_emitSigns koX5_emitSigns 60 JX5_emitSigns ?_ ?_
  · intro live as M Ret h
    unfold TX5_emitSigns at h
    split at h
    · next t a b =>
      refine ⟨Nat.le_of_ble_eq_true rfl, ?_⟩
      change am_wp _ _ _ _ [(0, Value.ref t), (1, Value.int a), (2, Value.int b)] _ _
      have hh := am_tP_mp h
      clear h
      obtain ⟨s, c, h2, h6, hb, h1, h3, h7, h4, h8, h9, h5, h10, hT, ha, hbb, h⟩ := hh
      repeat' (first | (with_reducible exact hT) | (with_reducible exact h1) | (with_reducible exact h2) | (with_reducible exact h3) | (with_reducible exact hb) | (with_reducible exact h6) | (with_reducible exact h7) | (refine Exists.intro _ (Exists.intro _ (And.intro h2 (And.intro h6 ?_)))) | (refine Exists.intro _ (And.intro h2 ?_)) | (refine Exists.intro _ (And.intro h6 ?_)) | apply And.intro | exact rfl | intro hx | (refine Exists.intro _ (And.intro rfl ?_)) | ((with_reducible change _ = true); simp only [h1, h2, h3, hb, h6, h7, Bool.true_and]; rfl))
      all_goals try first | (with_reducible change am_tI _ _) | (change Ret _ _) | (change Ret _ _ _) | (change Exists _)
      all_goals try dsimp only at *
      all_goals try (with_reducible exact absurd ‹(1000 : Int64) = 0› am_z1000)
      have hi := i_sub (x := b) (y := 1) (by simp only [Int32.reduceToInt]; have := i_hi b; omega) (by simp only [Int32.reduceToInt]; have := i_hi b; omega)
      simp only [Int32.reduceToInt] at hi
      exact ⟨_, _, rfl, rfl, rfl, by omega, am_ch.rf, hT, rfl⟩
    · exact h.elim
  · intro live as M0 Ret h k pc I hI L st M hi
    unfold TX5_emitSigns at h
    split at h
    · next t a b =>
      have hh := am_tP_mp h
      clear h
      obtain ⟨s, c, h2, h6, hb, h1, h3, h7, h4, h8, h9, h5, h10, hT, ha, hbb, h⟩ := hh
      change (match pc with | 4 => _ | _ => none) = _ at hI
      split at hI
      · cases hI
        obtain ⟨i, rfl, rfl, rfl, e0, e1, e2, e3⟩ := hi
        have f1 := e1
        rw [h6] at f1
        have hcd : 0 ≤ (M.1 t 2).toInt := by obtain ⟨-, q1, q2, q3⟩ := e2; exact q1.1
        repeat' (first | (with_reducible exact e2) | (with_reducible exact hcd) | (with_reducible exact h1) | (with_reducible exact h2) | (with_reducible exact h3) | (with_reducible exact hb) | (with_reducible exact h6) | (with_reducible exact h7) | (refine Exists.intro _ (Exists.intro _ (And.intro h2 (And.intro h6 ?_)))) | (refine Exists.intro _ (And.intro h2 ?_)) | (refine Exists.intro _ (And.intro h6 ?_)) | apply And.intro | exact rfl | intro hx | (refine Exists.intro _ (And.intro rfl ?_)) | ((with_reducible change _ = true); simp only [h1, h2, h3, hb, h6, h7, Bool.true_and]; rfl))
        all_goals try first | (with_reducible change am_tI _ _) | (change Ret _ _) | (change Ret _ _ _) | (change Exists _)
        all_goals try dsimp only at *
        all_goals try (with_reducible exact absurd ‹(1000 : Int64) = 0› am_z1000)
        all_goals first
          | (with_reducible exact h _ f1 e2 e3)
          | (simp only [i_lt, i_le, h4, Int32.reduceToInt] at *; omega)
          | exact h _ f1 e2 e3
          | (rw [h6]; refine ⟨_, Or.inl ?_, i + -1, rfl, rfl, rfl, ?_, am_ch_emit f1, am_tI_emit e2 h10, (am_emit_3 h10).trans e3⟩)
          | (refine ⟨_, Or.inl ?_, i + -1, rfl, rfl, rfl, ?_, e1, e2, e3⟩)
        all_goals
          simp only [i_lt, i_le, h4, Int32.reduceToInt] at *
          have hi := i_add (x := i) (y := -1) (by simp only [Int32.reduceToInt]; omega) (by simp only [Int32.reduceToInt]; omega)
          simp only [Int32.reduceToInt] at hi
          omega
      · cases hI
    · exact h.elim
theorem hy_X5_isDigit : yX5_isDigit.cls ≠ "java/lang/invoke/MethodHandle" ∧ yX5_isDigit.cls ≠ "java/lang/invoke/VarHandle" ∧ (parseMethodDescriptor yX5_isDigit.desc).map (fun d => d.parameters.length) = some 1 := ⟨by decide +kernel, by decide +kernel, by decide +kernel⟩
set_option maxRecDepth 100000 in
theorem wd_696 : Cond.methodLink "LearnLoans$Text" 76 yX5_isDigit ∈ am_ws := am_wt3 (List.mem_of_getElem? (i := 159) (by rfl)) (by decide +kernel)
set_option maxRecDepth 100000 in
theorem wd_697 : Cond.static yX5_isDigit ∈ am_ws := am_wt3 (List.mem_of_getElem? (i := 160) (by rfl)) (by decide +kernel)
set_option maxRecDepth 100000 in
theorem wd_698 : Cond.code yX5_isDigit cX5_isDigit 1 (some .boolean) ∈ am_ws := am_wt3 (List.mem_of_getElem? (i := 161) (by rfl)) (by decide +kernel)
def rwX5_readDigits : List dz_r := [(0, .aload_n 0, 1), (1, .getfield 28, 3), (4, .istore_n 1, 1), (5, .iconst 0, 1), (6, .istore_n 2, 1), (7, .aload_n 0, 1), (8, .getfield 28, 3), (11, .aload_n 0, 1), (12, .getfield 22, 3), (15, .if_icmp .ge 67, 3), (18, .aload_n 0, 1), (19, .getfield 9, 3), (22, .aload_n 0, 1), (23, .getfield 28, 3), (26, .iaload, 1), (27, .invokestatic 76, 3), (30, .ifCond .eq 52, 3), (33, .aload_n 0, 1), (34, .getfield 28, 3), (37, .iload_n 1, 1), (38, .isub, 1), (39, .bipush 6, 2), (41, .if_icmp .lt 10, 3), (44, .aload_n 0, 1), (45, .iload_n 1, 1), (46, .iconst 2, 1), (47, .invokevirtual 42, 3), (50, .return_, 1), (51, .bipush 10, 2), (53, .iload_n 2, 1), (54, .imul, 1), (55, .aload_n 0, 1), (56, .getfield 9, 3), (59, .aload_n 0, 1), (60, .getfield 28, 3), (63, .iaload, 1), (64, .iadd, 1), (65, .bipush 48, 2), (67, .isub, 1), (68, .istore_n 2, 1), (69, .aload_n 0, 1), (70, .dup, 1), (71, .getfield 28, 3), (74, .iconst 1, 1), (75, .iadd, 1), (76, .putfield 28, 3), (79, .goto (-72), 3), (82, .aload_n 0, 1), (83, .iload_n 2, 1), (84, .invokevirtual 60, 3), (87, .return_, 1)]
theorem dzX5_readDigits : dz cX5_readDigits rwX5_readDigits := dz_all 0 (by decide +kernel)
def kX5_readDigits (live : am_E) (Ret : am_R) : am_code := [(0, am_aload 0 1), (1, am_getI live 5 3 4), (4, am_istore 1 3 5), (5, am_const (.int 0) 6), (6, am_istore 2 3 7), (7, am_aload 0 8), (8, am_getI live 5 3 11), (11, am_aload 0 12), (12, am_getI live 5 5 15), (15, am_if2 (fun x y => y ≤ x) 82 18), (18, am_aload 0 19), (19, am_getR live 5 0 22), (22, am_aload 0 23), (23, am_getI live 5 3 26), (26, am_ald live 0 27), (27, am_callS live 1 TX5_isDigit 30), (30, am_if1 (fun x => x = 0) 82 33), (33, am_aload 0 34), (34, am_getI live 5 3 37), (37, am_iload 1 38), (38, am_i2 (fun x y => x - y) 39), (39, am_const (.int 6) 41), (41, am_if2 (fun x y => x < y) 51 44), (44, am_aload 0 45), (45, am_iload 1 46), (46, am_const (.int 2) 47), (47, am_callV live 5 2 TX5_blame 50), (50, am_retV Ret), (51, am_const (.int 10) 53), (53, am_iload 2 54), (54, am_i2 (fun x y => x * y) 55), (55, am_aload 0 56), (56, am_getR live 5 0 59), (59, am_aload 0 60), (60, am_getI live 5 3 63), (63, am_ald live 0 64), (64, am_i2 (fun x y => x + y) 65), (65, am_const (.int 48) 67), (67, am_i2 (fun x y => x - y) 68), (68, am_istore 2 3 69), (69, am_aload 0 70), (70, am_dup 71), (71, am_getI live 5 3 74), (74, am_const (.int 1) 75), (75, am_i2 (fun x y => x + y) 76), (76, am_putI live 5 3 79), (79, am_goto 7), (82, am_aload 0 83), (83, am_iload 2 84), (84, am_callV live 5 1 TX5_emit 87), (87, am_retV Ret)]
theorem koX5_readDigits (live : am_E) (Ret : am_R) : ∀ q ∈ kX5_readDigits live Ret, am_ok RX5 cX5_readDigits 3 none 1 22 live Ret q.1 q.2 :=
  am_kz dzX5_readDigits <|
  am_kd (fun d => ak_aload_n d rfl rfl) <|
  am_kd (fun d => ak_getI (C := RX5) (T := TX5) (N := 7) rfl inX5w (by decide) rfl rfl rfl wd_171 d rfl) <|
  am_kd (fun d => ak_istore_n d rfl rfl) <|
  am_kd (fun d => ak_iconst d (by decide +kernel) rfl) <|
  am_kd (fun d => ak_istore_n d rfl rfl) <|
  am_kd (fun d => ak_aload_n d rfl rfl) <|
  am_kd (fun d => ak_getI (C := RX5) (T := TX5) (N := 7) rfl inX5w (by decide) rfl rfl rfl wd_171 d rfl) <|
  am_kd (fun d => ak_aload_n d rfl rfl) <|
  am_kd (fun d => ak_getI (C := RX5) (T := TX5) (N := 7) rfl inX5w (by decide) rfl rfl rfl wd_173 d rfl) <|
  am_kd (fun d => ak_icmp_ge d (by decide +kernel) rfl) <|
  am_kd (fun d => ak_aload_n d rfl rfl) <|
  am_kd (fun d => ak_getR (C := RX5) (T := TX5) (N := 7) rfl inX5w (by decide) rfl rfl rfl wd_168 d rfl) <|
  am_kd (fun d => ak_aload_n d rfl rfl) <|
  am_kd (fun d => ak_getI (C := RX5) (T := TX5) (N := 7) rfl inX5w (by decide) rfl rfl rfl wd_171 d rfl) <|
  am_kd (fun d => ak_iald (t := 0) (fun _ => rfl) rfl d rfl) <|
  am_kd (fun d => ak_callS metX5_isDigit ⟨rfl, hy_X5_isDigit⟩ (am_w4 wd_696 wd_697 wd_65 wd_698) (by decide) d rfl) <|
  am_kd (fun d => ak_if_eq d (by decide +kernel) rfl) <|
  am_kd (fun d => ak_aload_n d rfl rfl) <|
  am_kd (fun d => ak_getI (C := RX5) (T := TX5) (N := 7) rfl inX5w (by decide) rfl rfl rfl wd_171 d rfl) <|
  am_kd (fun d => ak_iload_n d rfl rfl) <|
  am_kd (fun d => ak_isub d rfl) <|
  am_kd (fun d => ak_bipush d (by decide +kernel) rfl) <|
  am_kd (fun d => ak_icmp_lt d (by decide +kernel) rfl) <|
  am_kd (fun d => ak_aload_n d rfl rfl) <|
  am_kd (fun d => ak_iload_n d rfl rfl) <|
  am_kd (fun d => ak_iconst d (by decide +kernel) rfl) <|
  am_kd (fun d => ak_callV (C := RX5) (F := TX5) (N := 7) metX5_blame rfl ⟨rfl, hy_X5_blame⟩ (am_w5 wd_676 wd_678 wd_14 wd_65 wd_679) (by decide) d rfl) <|
  am_kd (fun d => ak_retV d) <|
  am_kd (fun d => ak_bipush d (by decide +kernel) rfl) <|
  am_kd (fun d => ak_iload_n d rfl rfl) <|
  am_kd (fun d => ak_imul d rfl) <|
  am_kd (fun d => ak_aload_n d rfl rfl) <|
  am_kd (fun d => ak_getR (C := RX5) (T := TX5) (N := 7) rfl inX5w (by decide) rfl rfl rfl wd_168 d rfl) <|
  am_kd (fun d => ak_aload_n d rfl rfl) <|
  am_kd (fun d => ak_getI (C := RX5) (T := TX5) (N := 7) rfl inX5w (by decide) rfl rfl rfl wd_171 d rfl) <|
  am_kd (fun d => ak_iald (t := 0) (fun _ => rfl) rfl d rfl) <|
  am_kd (fun d => ak_iadd d rfl) <|
  am_kd (fun d => ak_bipush d (by decide +kernel) rfl) <|
  am_kd (fun d => ak_isub d rfl) <|
  am_kd (fun d => ak_istore_n d rfl rfl) <|
  am_kd (fun d => ak_aload_n d rfl rfl) <|
  am_kd (fun d => ak_dup d rfl) <|
  am_kd (fun d => ak_getI (C := RX5) (T := TX5) (N := 7) rfl inX5w (by decide) rfl rfl rfl wd_171 d rfl) <|
  am_kd (fun d => ak_iconst d (by decide +kernel) rfl) <|
  am_kd (fun d => ak_iadd d rfl) <|
  am_kd (fun d => ak_putI (C := RX5) (T := TX5) (N := 7) rfl inX5w tyX5_ok nmX5 (by decide) rfl rfl rfl rfl (by decide +kernel) wd_171 d rfl) <|
  am_kd (fun d => ak_goto d (by decide +kernel)) <|
  am_kd (fun d => ak_aload_n d rfl rfl) <|
  am_kd (fun d => ak_iload_n d rfl rfl) <|
  am_kd (fun d => ak_callV (C := RX5) (F := TX5) (N := 7) metX5_emit rfl ⟨rfl, hy_X5_emit⟩ (am_w5 wd_703 wd_705 wd_20 wd_65 wd_706) (by decide) d rfl) <|
  am_kd (fun d => ak_retV d) <| am_kdn
def TX5_readDigits : am_T := fun live as M R => match as with
  | [.ref t] => am_tP live t (fun s c => am_tI M t ∧ ∀ M', am_ch (am_tS t c) M M' → am_tI M' t → R none M')
  | _ => False
def JX5_readDigits : am_E → List Value → am_M → am_R → am_inv := fun live as M0 _ pc => match as with
  | [.ref t] => (match pc with
    | 7 => some ([0, 1, 2], fun k L st M => ∃ b v : Int32, L = [(0, .ref t), (1, .int b), (2, .int v)] ∧ st = [] ∧ k = ((51 - (M.1 t 3).toInt).toNat, 0) ∧ am_ch (am_tS t ((live.2 t 1).getD 0)) M0 M ∧ am_tI M t)
    | _ => none)
  | _ => none
set_option maxRecDepth 100000 in
set_option maxHeartbeats 4000000 in
theorem metX5_readDigits : am_Met yX5_readDigits cX5_readDigits 3 none (1) (22) TX5_readDigits := by
  refine am_met (own := RX5) (by decide +kernel) rfl kX5_readDigits koX5_readDigits 60 JX5_readDigits ?_ ?_
  · intro live as M Ret h
    unfold TX5_readDigits at h
    split at h
    · next t =>
      refine ⟨Nat.le_of_ble_eq_true rfl, ?_⟩
      change am_wp _ _ _ _ [(0, Value.ref t)] _ _
      have hh := am_tP_mp h
      clear h
      obtain ⟨s, c, h2, h6, hb, h1, h3, h7, h4, h8, h9, h5, h10, hT, h⟩ := hh
      repeat' (first | (with_reducible exact hT) | (with_reducible exact h1) | (with_reducible exact h2) | (with_reducible exact h3) | (with_reducible exact hb) | (with_reducible exact h6) | (with_reducible exact h7) | (refine Exists.intro _ (Exists.intro _ (And.intro h2 (And.intro h6 ?_)))) | (refine Exists.intro _ (And.intro h2 ?_)) | (refine Exists.intro _ (And.intro h6 ?_)) | apply And.intro | exact rfl | intro hx | (refine Exists.intro _ (And.intro rfl ?_)) | ((with_reducible change _ = true); simp only [h1, h2, h3, hb, h6, h7, Bool.true_and]; rfl))
      all_goals try first | (with_reducible change am_tI _ _) | (change Ret _ _) | (change Ret _ _ _) | (change Exists _)
      all_goals try dsimp only at *
      all_goals try (with_reducible exact absurd ‹(1000 : Int64) = 0› am_z1000)
      exact ⟨_, _, _, rfl, rfl, rfl, am_ch.rf, hT⟩
    · exact h.elim
  · intro live as M0 Ret h k pc I hI L st M hi
    unfold TX5_readDigits at h
    split at h
    · next t =>
      have hh := am_tP_mp h
      clear h
      obtain ⟨s, c, h2, h6, hb, h1, h3, h7, h4, h8, h9, h5, h10, hT, h⟩ := hh
      change (match pc with | 7 => _ | _ => none) = _ at hI
      split at hI
      · cases hI
        obtain ⟨b, v, rfl, rfl, rfl, e1, e2⟩ := hi
        have f1 := e1
        rw [h6] at f1
        have hcd : 0 ≤ (M.1 t 2).toInt := by obtain ⟨-, q1, q2, q3⟩ := e2; exact q1.1
        repeat' (first | (with_reducible exact e2) | (with_reducible exact hcd) | (with_reducible exact h1) | (with_reducible exact h2) | (with_reducible exact h3) | (with_reducible exact hb) | (with_reducible exact h6) | (with_reducible exact h7) | (refine Exists.intro _ (Exists.intro _ (And.intro h2 (And.intro h6 ?_)))) | (refine Exists.intro _ (And.intro h2 ?_)) | (refine Exists.intro _ (And.intro h6 ?_)) | apply And.intro | exact rfl | intro hx | (refine Exists.intro _ (And.intro rfl ?_)) | ((with_reducible change _ = true); simp only [h1, h2, h3, hb, h6, h7, Bool.true_and]; rfl))
        all_goals try first | (with_reducible change am_tI _ _) | (change Ret _ _) | (change Ret _ _ _) | (change Exists _)
        all_goals try dsimp only at *
        all_goals try (with_reducible exact absurd ‹(1000 : Int64) = 0› am_z1000)
        all_goals have hz : (M.1 t 3).toInt ≤ (M.1 t 5).toInt ∧ 0 ≤ (M.1 t 3).toInt ∧ (M.1 t 5).toInt ≤ 50 := by obtain ⟨-, q1, q2, q3⟩ := e2; exact ⟨q2.2, q2.1, q3⟩
        all_goals first
          | exact h _ (am_ch_emit f1) (am_tI_emit e2 h10)
          | exact h _ (am_ch_blame f1) (am_tI_blame e2)
          | (simp only [i_lt, i_le, h4, Int32.reduceToInt] at *; omega)
          | skip
        all_goals
          have hlt : (M.1 t 3).toInt < (M.1 t 5).toInt := by simp only [i_le] at *; omega
          have hi := am_tI_inc e2 hlt
          refine ⟨_, Or.inl ?_, _, _, rfl, rfl, rfl, e1.wI am_tS_3, hi.1⟩
          simp [am_wI_1, -Int32.toInt_add]
          omega
      · cases hI
    · exact h.elim
end
-- part 16.rec.lean.txt
section
/-! Text: reading by recursion: what is safe of it -/
def TX5_readValue (d : Nat) : am_T := fun live as M R => match as with
  | [.ref t, .int e] => am_tP live t (fun s c => am_tI M t ∧ 0 ≤ e.toInt ∧ e.toInt ≤ 41 ∧ 41 ≤ e.toInt + (d : Int) ∧ ∀ M', am_ch (am_tS t c) M M' → am_tI M' t → R none M')
  | _ => False
def TX5_readPlain (d : Nat) : am_T := fun live as M R => match as with
  | [.ref t, .int e] => am_tP live t (fun s c => am_tI M t ∧ 0 ≤ e.toInt ∧ e.toInt ≤ 40 ∧ 40 ≤ e.toInt + (d : Int) ∧ ∀ M', am_ch (am_tS t c) M M' → am_tI M' t → R none M')
  | _ => False
def TX5_readChain (d n : Nat) : am_T := fun live as M R => match as with
  | [.ref t, .int l, .int e] => am_tP live t (fun s c => am_tI M t ∧ (0 ≤ l.toInt ∧ l.toInt ≤ 5 ∧ 5 ≤ l.toInt + (n : Int)) ∧ 0 ≤ e.toInt ∧ e.toInt ≤ 40 ∧ 40 ≤ e.toInt + (d : Int) ∧ ∀ M', am_ch (am_tS t c) M M' → am_tI M' t → R none M')
  | _ => False
theorem am_tI_4 {M : am_M} {t : Nat} {v : Int32} (h : am_tI M t) : am_tI (am_wI M t 4 v) t := by
  obtain ⟨-, q1, q2, q3⟩ := h
  refine am_tI_of ?_ ?_ ?_ ?_ ?_
  all_goals simp [am_wI_1]
  all_goals omega
theorem am_sign_lt {M : am_M} {t s : Nat} {p : Int32} (h : ¬ am_sign M t s p = -1) : p.toInt < (M.1 t 5).toInt := by
  rcases Int.lt_or_le p.toInt (M.1 t 5).toInt with z | z
  · exact z
  · exact absurd (by rw [am_sign, if_neg (by omega)]) h
theorem am_tI_3p {M : am_M} {t s : Nat} {p : Int32} (h : am_tI M t) (hp : am_skip M t s p) (hl : p.toInt < (M.1 t 5).toInt) : am_tI (am_wI (am_wI M t 3 p) t 3 (p + 1)) t := by
  have h1 := am_tI_w3 h hp
  have h2 := am_tI_inc h1 (by simp [am_wI_1]; exact hl)
  simp [am_wI_1] at h2
  exact h2.1
theorem am_wI_self {M : am_M} {n k : Nat} {v : Int32} : (am_wI M n k v).1 n k = v := by simp [am_wI_1]
theorem am_ne1 {x : Int32} (h : am_ops x = 0) : ¬ x = -1 := fun e => by rw [e] at h; exact absurd h (by decide)
theorem am_ne2 {x : Int32} (h : x = 40) : ¬ x = -1 := fun e => by rw [h] at e; exact absurd e (by decide)
theorem am_tI_cd {M : am_M} {t : Nat} (h : am_tI M t) : 0 ≤ (M.1 t 2).toInt := by obtain ⟨-, q1, q2, q3⟩ := h; exact q1.1
theorem am_tI_pl {M : am_M} {t : Nat} (h : am_tI M t) : 0 ≤ (M.1 t 3).toInt ∧ (M.1 t 3).toInt ≤ (M.1 t 5).toInt ∧ (M.1 t 5).toInt ≤ 50 := by obtain ⟨-, q1, q2, q3⟩ := h; exact ⟨q2.1, q2.2, q3⟩
theorem hy_X5_readDigits : yX5_readDigits.cls ≠ "java/lang/invoke/MethodHandle" ∧ yX5_readDigits.cls ≠ "java/lang/invoke/VarHandle" ∧ (parseMethodDescriptor yX5_readDigits.desc).map (fun d => d.parameters.length) = some 0 := ⟨by decide +kernel, by decide +kernel, by decide +kernel⟩
set_option maxRecDepth 100000 in
theorem wd_699 : Cond.methodLink "LearnLoans$Text" 80 yX5_readDigits ∈ am_ws := am_wt3 (List.mem_of_getElem? (i := 162) (by rfl)) (by decide +kernel)
set_option maxRecDepth 100000 in
theorem wd_701 : Cond.instanceMethod yX5_readDigits ∈ am_ws := am_wt3 (List.mem_of_getElem? (i := 164) (by rfl)) (by decide +kernel)
set_option maxRecDepth 100000 in
theorem wd_19 : Cond.selects "LearnLoans$Text" yX5_readDigits yX5_readDigits ∈ am_ws := am_wsi (List.mem_of_getElem? (i := 19) (by rfl)) (by decide +kernel)
set_option maxRecDepth 100000 in
theorem wd_702 : Cond.code yX5_readDigits cX5_readDigits 3 none ∈ am_ws := am_wt3 (List.mem_of_getElem? (i := 165) (by rfl)) (by decide +kernel)
theorem hy_X5_operands : yX5_operands.cls ≠ "java/lang/invoke/MethodHandle" ∧ yX5_operands.cls ≠ "java/lang/invoke/VarHandle" ∧ (parseMethodDescriptor yX5_operands.desc).map (fun d => d.parameters.length) = some 1 := ⟨by decide +kernel, by decide +kernel, by decide +kernel⟩
set_option maxRecDepth 100000 in
theorem wd_596 : Cond.methodLink "LearnLoans$Text" 83 yX5_operands ∈ am_ws := am_wt3 (List.mem_of_getElem? (i := 59) (by rfl)) (by decide +kernel)
set_option maxRecDepth 100000 in
theorem wd_597 : Cond.static yX5_operands ∈ am_ws := am_wt3 (List.mem_of_getElem? (i := 60) (by rfl)) (by decide +kernel)
set_option maxRecDepth 100000 in
theorem wd_598 : Cond.code yX5_operands cX5_operands 1 (some .int) ∈ am_ws := am_wt3 (List.mem_of_getElem? (i := 61) (by rfl)) (by decide +kernel)
set_option maxRecDepth 100000 in
theorem wd_172 : Cond.fieldLink "LearnLoans$Text" 31 "LearnLoans$Text" "open" "I" ∈ am_ws := am_wt1 (List.mem_of_getElem? (i := 115) (by rfl)) (by decide +kernel)
theorem hy_X5_readValue : yX5_readValue.cls ≠ "java/lang/invoke/MethodHandle" ∧ yX5_readValue.cls ≠ "java/lang/invoke/VarHandle" ∧ (parseMethodDescriptor yX5_readValue.desc).map (fun d => d.parameters.length) = some 1 := ⟨by decide +kernel, by decide +kernel, by decide +kernel⟩
set_option maxRecDepth 100000 in
theorem wd_672 : Cond.methodLink "LearnLoans$Text" 34 yX5_readValue ∈ am_ws := am_wt3 (List.mem_of_getElem? (i := 135) (by rfl)) (by decide +kernel)
set_option maxRecDepth 100000 in
theorem wd_674 : Cond.instanceMethod yX5_readValue ∈ am_ws := am_wt3 (List.mem_of_getElem? (i := 137) (by rfl)) (by decide +kernel)
set_option maxRecDepth 100000 in
theorem wd_13 : Cond.selects "LearnLoans$Text" yX5_readValue yX5_readValue ∈ am_ws := am_wsi (List.mem_of_getElem? (i := 13) (by rfl)) (by decide +kernel)
set_option maxRecDepth 100000 in
theorem wd_675 : Cond.code yX5_readValue cX5_readValue 2 none ∈ am_ws := am_wt3 (List.mem_of_getElem? (i := 138) (by rfl)) (by decide +kernel)
theorem hy_X5_pass : yX5_pass.cls ≠ "java/lang/invoke/MethodHandle" ∧ yX5_pass.cls ≠ "java/lang/invoke/VarHandle" ∧ (parseMethodDescriptor yX5_pass.desc).map (fun d => d.parameters.length) = some 1 := ⟨by decide +kernel, by decide +kernel, by decide +kernel⟩
set_option maxRecDepth 100000 in
theorem wd_707 : Cond.methodLink "LearnLoans$Text" 57 yX5_pass ∈ am_ws := am_wt3 (List.mem_of_getElem? (i := 170) (by rfl)) (by decide +kernel)
set_option maxRecDepth 100000 in
theorem wd_709 : Cond.instanceMethod yX5_pass ∈ am_ws := am_wt3 (List.mem_of_getElem? (i := 172) (by rfl)) (by decide +kernel)
set_option maxRecDepth 100000 in
theorem wd_21 : Cond.selects "LearnLoans$Text" yX5_pass yX5_pass ∈ am_ws := am_wsi (List.mem_of_getElem? (i := 21) (by rfl)) (by decide +kernel)
set_option maxRecDepth 100000 in
theorem wd_710 : Cond.code yX5_pass cX5_pass 2 none ∈ am_ws := am_wt3 (List.mem_of_getElem? (i := 173) (by rfl)) (by decide +kernel)
def rwX5_readPlain : List dz_r := [(0, .aload_n 0, 1), (1, .invokevirtual 38, 3), (4, .istore_n 2, 1), (5, .aload_n 0, 1), (6, .getfield 18, 3), (9, .iconst (-1), 1), (10, .if_icmp .eq 4, 3), (13, .return_, 1), (14, .iload_n 2, 1), (15, .invokestatic 76, 3), (18, .ifCond .eq 10, 3), (21, .aload_n 0, 1), (22, .invokevirtual 80, 3), (25, .goto 111, 3), (28, .iload_n 2, 1), (29, .invokestatic 83, 3), (32, .ifCond .ne 22, 3), (35, .aload_n 0, 1), (36, .dup, 1), (37, .getfield 28, 3), (40, .iconst 1, 1), (41, .iadd, 1), (42, .putfield 28, 3), (45, .aload_n 0, 1), (46, .iload_n 2, 1), (47, .ineg, 1), (48, .invokevirtual 60, 3), (51, .goto 85, 3), (54, .iload_n 2, 1), (55, .bipush 40, 2), (57, .if_icmp .eq 15, 3), (60, .aload_n 0, 1), (61, .aload_n 0, 1), (62, .getfield 28, 3), (65, .iconst 1, 1), (66, .invokevirtual 42, 3), (69, .goto 67, 3), (72, .aload_n 0, 1), (73, .getfield 31, 3), (76, .bipush 8, 2), (78, .if_icmp .lt 15, 3), (81, .aload_n 0, 1), (82, .aload_n 0, 1), (83, .getfield 28, 3), (86, .iconst 3, 1), (87, .invokevirtual 42, 3), (90, .goto 46, 3), (93, .aload_n 0, 1), (94, .dup, 1), (95, .getfield 28, 3), (98, .iconst 1, 1), (99, .iadd, 1), (100, .putfield 28, 3), (103, .aload_n 0, 1), (104, .dup, 1), (105, .getfield 31, 3), (108, .iconst 1, 1), (109, .iadd, 1), (110, .putfield 31, 3), (113, .aload_n 0, 1), (114, .iload_n 1, 1), (115, .iconst 1, 1), (116, .iadd, 1), (117, .invokevirtual 34, 3), (120, .aload_n 0, 1), (121, .bipush 41, 2), (123, .invokevirtual 57, 3), (126, .aload_n 0, 1), (127, .dup, 1), (128, .getfield 31, 3), (131, .iconst 1, 1), (132, .isub, 1), (133, .putfield 31, 3), (136, .return_, 1)]
theorem dzX5_readPlain : dz cX5_readPlain rwX5_readPlain := dz_all 0 (by decide +kernel)
def kX5_readPlain (d : Nat) (live : am_E) (Ret : am_R) : am_code := [(0, am_aload 0 1), (1, am_callV live 5 0 TX5_next 4), (4, am_istore 2 3 5), (5, am_aload 0 6), (6, am_getI live 5 6 9), (9, am_const (.int (-1)) 10), (10, am_if2 (fun x y => x = y) 14 13), (13, am_retV Ret), (14, am_iload 2 15), (15, am_callS live 1 TX5_isDigit 18), (18, am_if1 (fun x => x = 0) 28 21), (21, am_aload 0 22), (22, am_callV live 5 0 TX5_readDigits 25), (25, am_goto 136), (28, am_iload 2 29), (29, am_callS live 1 TX5_operands 32), (32, am_if1 (fun x => x = 0) 35 54), (35, am_aload 0 36), (36, am_dup 37), (37, am_getI live 5 3 40), (40, am_const (.int 1) 41), (41, am_i2 (fun x y => x + y) 42), (42, am_putI live 5 3 45), (45, am_aload 0 46), (46, am_iload 2 47), (47, am_i1 (fun x => -x) 48), (48, am_callV live 5 1 TX5_emit 51), (51, am_goto 136), (54, am_iload 2 55), (55, am_const (.int 40) 57), (57, am_if2 (fun x y => x = y) 72 60), (60, am_aload 0 61), (61, am_aload 0 62), (62, am_getI live 5 3 65), (65, am_const (.int 1) 66), (66, am_callV live 5 2 TX5_blame 69), (69, am_goto 136), (72, am_aload 0 73), (73, am_getI live 5 4 76), (76, am_const (.int 8) 78), (78, am_if2 (fun x y => x < y) 93 81), (81, am_aload 0 82), (82, am_aload 0 83), (83, am_getI live 5 3 86), (86, am_const (.int 3) 87), (87, am_callV live 5 2 TX5_blame 90), (90, am_goto 136), (93, am_aload 0 94), (94, am_dup 95), (95, am_getI live 5 3 98), (98, am_const (.int 1) 99), (99, am_i2 (fun x y => x + y) 100), (100, am_putI live 5 3 103), (103, am_aload 0 104), (104, am_dup 105), (105, am_getI live 5 4 108), (108, am_const (.int 1) 109), (109, am_i2 (fun x y => x + y) 110), (110, am_putI live 5 4 113), (113, am_aload 0 114), (114, am_iload 1 115), (115, am_const (.int 1) 116), (116, am_i2 (fun x y => x + y) 117), (117, am_callV live 5 1 (TX5_readValue d) 120), (120, am_aload 0 121), (121, am_const (.int 41) 123), (123, am_callV live 5 1 TX5_pass 126), (126, am_aload 0 127), (127, am_dup 128), (128, am_getI live 5 4 131), (131, am_const (.int 1) 132), (132, am_i2 (fun x y => x - y) 133), (133, am_putI live 5 4 136), (136, am_retV Ret)]
theorem koX5_readPlain (d : Nat) (hV : am_Met yX5_readValue cX5_readValue 2 none (4 + 8 * d) (200 + 200 * d) (TX5_readValue d)) (live : am_E) (Ret : am_R) : ∀ q ∈ kX5_readPlain d live Ret, am_ok RX5 cX5_readPlain 3 none (4 + 8 * d + 1) (200 + 200 * d + 25) live Ret q.1 q.2 :=
  am_kz dzX5_readPlain <|
  am_kd (fun d => ak_aload_n d rfl rfl) <|
  am_kd (fun d => ak_callV (C := RX5) (F := TX5) (N := 7) metX5_next rfl ⟨rfl, hy_X5_next⟩ (am_w5 wd_688 wd_690 wd_17 wd_65 wd_691) (by omega) d rfl) <|
  am_kd (fun d => ak_istore_n d rfl rfl) <|
  am_kd (fun d => ak_aload_n d rfl rfl) <|
  am_kd (fun d => ak_getI (C := RX5) (T := TX5) (N := 7) rfl inX5w (by decide) rfl rfl rfl wd_175 d rfl) <|
  am_kd (fun d => ak_iconst d (by decide +kernel) rfl) <|
  am_kd (fun d => ak_icmp_eq d (by decide +kernel) rfl) <|
  am_kd (fun d => ak_retV d) <|
  am_kd (fun d => ak_iload_n d rfl rfl) <|
  am_kd (fun d => ak_callS metX5_isDigit ⟨rfl, hy_X5_isDigit⟩ (am_w4 wd_696 wd_697 wd_65 wd_698) (by omega) d rfl) <|
  am_kd (fun d => ak_if_eq d (by decide +kernel) rfl) <|
  am_kd (fun d => ak_aload_n d rfl rfl) <|
  am_kd (fun d => ak_callV (C := RX5) (F := TX5) (N := 7) metX5_readDigits rfl ⟨rfl, hy_X5_readDigits⟩ (am_w5 wd_699 wd_701 wd_19 wd_65 wd_702) (by omega) d rfl) <|
  am_kd (fun d => ak_goto d (by decide +kernel)) <|
  am_kd (fun d => ak_iload_n d rfl rfl) <|
  am_kd (fun d => ak_callS metX5_operands ⟨rfl, hy_X5_operands⟩ (am_w4 wd_596 wd_597 wd_65 wd_598) (by omega) d rfl) <|
  am_kd (fun d => ak_if_ne d (by decide +kernel) rfl) <|
  am_kd (fun d => ak_aload_n d rfl rfl) <|
  am_kd (fun d => ak_dup d rfl) <|
  am_kd (fun d => ak_getI (C := RX5) (T := TX5) (N := 7) rfl inX5w (by decide) rfl rfl rfl wd_171 d rfl) <|
  am_kd (fun d => ak_iconst d (by decide +kernel) rfl) <|
  am_kd (fun d => ak_iadd d rfl) <|
  am_kd (fun d => ak_putI (C := RX5) (T := TX5) (N := 7) rfl inX5w tyX5_ok nmX5 (by decide) rfl rfl rfl rfl (by decide +kernel) wd_171 d rfl) <|
  am_kd (fun d => ak_aload_n d rfl rfl) <|
  am_kd (fun d => ak_iload_n d rfl rfl) <|
  am_kd (fun d => ak_ineg d rfl) <|
  am_kd (fun d => ak_callV (C := RX5) (F := TX5) (N := 7) metX5_emit rfl ⟨rfl, hy_X5_emit⟩ (am_w5 wd_703 wd_705 wd_20 wd_65 wd_706) (by omega) d rfl) <|
  am_kd (fun d => ak_goto d (by decide +kernel)) <|
  am_kd (fun d => ak_iload_n d rfl rfl) <|
  am_kd (fun d => ak_bipush d (by decide +kernel) rfl) <|
  am_kd (fun d => ak_icmp_eq d (by decide +kernel) rfl) <|
  am_kd (fun d => ak_aload_n d rfl rfl) <|
  am_kd (fun d => ak_aload_n d rfl rfl) <|
  am_kd (fun d => ak_getI (C := RX5) (T := TX5) (N := 7) rfl inX5w (by decide) rfl rfl rfl wd_171 d rfl) <|
  am_kd (fun d => ak_iconst d (by decide +kernel) rfl) <|
  am_kd (fun d => ak_callV (C := RX5) (F := TX5) (N := 7) metX5_blame rfl ⟨rfl, hy_X5_blame⟩ (am_w5 wd_676 wd_678 wd_14 wd_65 wd_679) (by omega) d rfl) <|
  am_kd (fun d => ak_goto d (by decide +kernel)) <|
  am_kd (fun d => ak_aload_n d rfl rfl) <|
  am_kd (fun d => ak_getI (C := RX5) (T := TX5) (N := 7) rfl inX5w (by decide) rfl rfl rfl wd_172 d rfl) <|
  am_kd (fun d => ak_bipush d (by decide +kernel) rfl) <|
  am_kd (fun d => ak_icmp_lt d (by decide +kernel) rfl) <|
  am_kd (fun d => ak_aload_n d rfl rfl) <|
  am_kd (fun d => ak_aload_n d rfl rfl) <|
  am_kd (fun d => ak_getI (C := RX5) (T := TX5) (N := 7) rfl inX5w (by decide) rfl rfl rfl wd_171 d rfl) <|
  am_kd (fun d => ak_iconst d (by decide +kernel) rfl) <|
  am_kd (fun d => ak_callV (C := RX5) (F := TX5) (N := 7) metX5_blame rfl ⟨rfl, hy_X5_blame⟩ (am_w5 wd_676 wd_678 wd_14 wd_65 wd_679) (by omega) d rfl) <|
  am_kd (fun d => ak_goto d (by decide +kernel)) <|
  am_kd (fun d => ak_aload_n d rfl rfl) <|
  am_kd (fun d => ak_dup d rfl) <|
  am_kd (fun d => ak_getI (C := RX5) (T := TX5) (N := 7) rfl inX5w (by decide) rfl rfl rfl wd_171 d rfl) <|
  am_kd (fun d => ak_iconst d (by decide +kernel) rfl) <|
  am_kd (fun d => ak_iadd d rfl) <|
  am_kd (fun d => ak_putI (C := RX5) (T := TX5) (N := 7) rfl inX5w tyX5_ok nmX5 (by decide) rfl rfl rfl rfl (by decide +kernel) wd_171 d rfl) <|
  am_kd (fun d => ak_aload_n d rfl rfl) <|
  am_kd (fun d => ak_dup d rfl) <|
  am_kd (fun d => ak_getI (C := RX5) (T := TX5) (N := 7) rfl inX5w (by decide) rfl rfl rfl wd_172 d rfl) <|
  am_kd (fun d => ak_iconst d (by decide +kernel) rfl) <|
  am_kd (fun d => ak_iadd d rfl) <|
  am_kd (fun d => ak_putI (C := RX5) (T := TX5) (N := 7) rfl inX5w tyX5_ok nmX5 (by decide) rfl rfl rfl rfl (by decide +kernel) wd_172 d rfl) <|
  am_kd (fun d => ak_aload_n d rfl rfl) <|
  am_kd (fun d => ak_iload_n d rfl rfl) <|
  am_kd (fun d => ak_iconst d (by decide +kernel) rfl) <|
  am_kd (fun d => ak_iadd d rfl) <|
  am_kd (fun d => ak_callV (C := RX5) (F := TX5) (N := 7) hV rfl ⟨rfl, hy_X5_readValue⟩ (am_w5 wd_672 wd_674 wd_13 wd_65 wd_675) (by omega) d rfl) <|
  am_kd (fun d => ak_aload_n d rfl rfl) <|
  am_kd (fun d => ak_bipush d (by decide +kernel) rfl) <|
  am_kd (fun d => ak_callV (C := RX5) (F := TX5) (N := 7) metX5_pass rfl ⟨rfl, hy_X5_pass⟩ (am_w5 wd_707 wd_709 wd_21 wd_65 wd_710) (by omega) d rfl) <|
  am_kd (fun d => ak_aload_n d rfl rfl) <|
  am_kd (fun d => ak_dup d rfl) <|
  am_kd (fun d => ak_getI (C := RX5) (T := TX5) (N := 7) rfl inX5w (by decide) rfl rfl rfl wd_172 d rfl) <|
  am_kd (fun d => ak_iconst d (by decide +kernel) rfl) <|
  am_kd (fun d => ak_isub d rfl) <|
  am_kd (fun d => ak_putI (C := RX5) (T := TX5) (N := 7) rfl inX5w tyX5_ok nmX5 (by decide) rfl rfl rfl rfl (by decide +kernel) wd_172 d rfl) <|
  am_kd (fun d => ak_retV d) <| am_kdn
set_option maxRecDepth 100000 in
set_option maxHeartbeats 4000000 in
theorem metX5_readPlain (d : Nat) (hV : am_Met yX5_readValue cX5_readValue 2 none (4 + 8 * d) (200 + 200 * d) (TX5_readValue d)) : am_Met yX5_readPlain cX5_readPlain 3 none ((4 + 8 * d + 1)) ((200 + 200 * d + 25)) (TX5_readPlain d) := by
  refine am_met (own := RX5) (by decide +kernel) rfl (kX5_readPlain d ) (koX5_readPlain d  hV ) 120 (fun _ _ _ _ _ => none) (fun live as M Ret h => ?_) (fun _ _ _ _ _ _ _ _ hI => by cases hI)
  unfold TX5_readPlain at h
  split at h
  · next t e =>
    refine ⟨Nat.le_of_ble_eq_true rfl, ?_⟩
    change am_wp _ _ _ _ [(0, Value.ref t), (1, Value.int e)] _ _
    have hh := am_tP_mp h
    clear h
    obtain ⟨s, c, h2, h6, hb, h1, h3, h7, h4, h8, h9, h5, h10, hT, he1, he2, he3, h⟩ := hh
    repeat' (first | (with_reducible exact hT) | (with_reducible exact h1) | (with_reducible exact h2) | (with_reducible exact h3) | (with_reducible exact hb) | (with_reducible exact h6) | (with_reducible exact h7) | (refine Exists.intro _ (Exists.intro _ (And.intro h2 (And.intro h6 ?_)))) | (refine Exists.intro _ (And.intro h2 ?_)) | (refine Exists.intro _ (And.intro h6 ?_)) | apply And.intro | exact rfl | intro hx | (refine Exists.intro _ (And.intro rfl ?_)) | ((with_reducible change _ = true); simp only [h1, h2, h3, hb, h6, h7, Bool.true_and]; rfl))
    all_goals try first | (with_reducible change am_tI _ _) | (change Ret _ _) | (change Ret _ _ _) | (change Exists _)
    all_goals try dsimp only at *
    all_goals try (with_reducible exact absurd ‹(1000 : Int64) = 0› am_z1000)
    all_goals try simp only [am_wI_self]
    · simp [am_wI_1]; exact am_tI_cd hT
    · exact h _ (am_ch_emit ((am_ch.rf.wI am_tS_3).wI am_tS_3)) (am_tI_emit (am_tI_3p hT ‹am_skip M t s _› (am_sign_lt (am_ne1 hx))) h10)
    · exact am_tI_4 (am_tI_3p hT ‹am_skip M t s _› (am_sign_lt (am_ne2 ‹am_sign M t s _ = 40›)))
    · rw [i_add] <;> simp only [Int32.reduceToInt] <;> omega
    · rw [i_add] <;> simp only [Int32.reduceToInt] <;> omega
    · rw [i_add] <;> simp only [Int32.reduceToInt] <;> omega
    · exact hx
    · exact absurd hx (by decide)
    · rename_i M1 c1 i1 M2 c2
      exact h _ ((((((am_ch.rf.wI am_tS_3).wI am_tS_3).wI am_tS_4).tr c1).tr c2).wI am_tS_4) (am_tI_4 hx)
    · exact h _ (am_ch_blame (am_ch.rf.wI am_tS_3)) (am_tI_blame (am_tI_w3 hT ‹am_skip M t s _›))
    · exact h _ (am_ch_blame (am_ch.rf.wI am_tS_3)) (am_tI_blame (am_tI_w3 hT ‹am_skip M t s _›))
    · exact am_tI_w3 hT ‹am_skip M t s _›
    · rename_i M1 c1
      exact h _ ((am_ch.rf.wI am_tS_3).tr c1) hx
    · exact h _ (am_ch.rf.wI am_tS_3) (am_tI_w3 hT ‹am_skip M t s _›)
  · exact h.elim
theorem hy_X5_passSigns : yX5_passSigns.cls ≠ "java/lang/invoke/MethodHandle" ∧ yX5_passSigns.cls ≠ "java/lang/invoke/VarHandle" ∧ (parseMethodDescriptor yX5_passSigns.desc).map (fun d => d.parameters.length) = some 0 := ⟨by decide +kernel, by decide +kernel, by decide +kernel⟩
set_option maxRecDepth 100000 in
theorem wd_684 : Cond.methodLink "LearnLoans$Text" 63 yX5_passSigns ∈ am_ws := am_wt3 (List.mem_of_getElem? (i := 147) (by rfl)) (by decide +kernel)
set_option maxRecDepth 100000 in
theorem wd_686 : Cond.instanceMethod yX5_passSigns ∈ am_ws := am_wt3 (List.mem_of_getElem? (i := 149) (by rfl)) (by decide +kernel)
set_option maxRecDepth 100000 in
theorem wd_16 : Cond.selects "LearnLoans$Text" yX5_passSigns yX5_passSigns ∈ am_ws := am_wsi (List.mem_of_getElem? (i := 16) (by rfl)) (by decide +kernel)
set_option maxRecDepth 100000 in
theorem wd_687 : Cond.code yX5_passSigns cX5_passSigns 2 (some .int) ∈ am_ws := am_wt3 (List.mem_of_getElem? (i := 150) (by rfl)) (by decide +kernel)
theorem hy_X5_readPlain : yX5_readPlain.cls ≠ "java/lang/invoke/MethodHandle" ∧ yX5_readPlain.cls ≠ "java/lang/invoke/VarHandle" ∧ (parseMethodDescriptor yX5_readPlain.desc).map (fun d => d.parameters.length) = some 1 := ⟨by decide +kernel, by decide +kernel, by decide +kernel⟩
set_option maxRecDepth 100000 in
theorem wd_692 : Cond.methodLink "LearnLoans$Text" 66 yX5_readPlain ∈ am_ws := am_wt3 (List.mem_of_getElem? (i := 155) (by rfl)) (by decide +kernel)
set_option maxRecDepth 100000 in
theorem wd_694 : Cond.instanceMethod yX5_readPlain ∈ am_ws := am_wt3 (List.mem_of_getElem? (i := 157) (by rfl)) (by decide +kernel)
set_option maxRecDepth 100000 in
theorem wd_18 : Cond.selects "LearnLoans$Text" yX5_readPlain yX5_readPlain ∈ am_ws := am_wsi (List.mem_of_getElem? (i := 18) (by rfl)) (by decide +kernel)
set_option maxRecDepth 100000 in
theorem wd_695 : Cond.code yX5_readPlain cX5_readPlain 3 none ∈ am_ws := am_wt3 (List.mem_of_getElem? (i := 158) (by rfl)) (by decide +kernel)
theorem hy_X5_emitSigns : yX5_emitSigns.cls ≠ "java/lang/invoke/MethodHandle" ∧ yX5_emitSigns.cls ≠ "java/lang/invoke/VarHandle" ∧ (parseMethodDescriptor yX5_emitSigns.desc).map (fun d => d.parameters.length) = some 2 := ⟨by decide +kernel, by decide +kernel, by decide +kernel⟩
set_option maxRecDepth 100000 in
theorem wd_711 : Cond.methodLink "LearnLoans$Text" 69 yX5_emitSigns ∈ am_ws := am_wt3 (List.mem_of_getElem? (i := 174) (by rfl)) (by decide +kernel)
set_option maxRecDepth 100000 in
theorem wd_713 : Cond.instanceMethod yX5_emitSigns ∈ am_ws := am_wt3 (List.mem_of_getElem? (i := 176) (by rfl)) (by decide +kernel)
set_option maxRecDepth 100000 in
theorem wd_22 : Cond.selects "LearnLoans$Text" yX5_emitSigns yX5_emitSigns ∈ am_ws := am_wsi (List.mem_of_getElem? (i := 22) (by rfl)) (by decide +kernel)
set_option maxRecDepth 100000 in
theorem wd_714 : Cond.code yX5_emitSigns cX5_emitSigns 4 none ∈ am_ws := am_wt3 (List.mem_of_getElem? (i := 177) (by rfl)) (by decide +kernel)
theorem hy_X5_readChain : yX5_readChain.cls ≠ "java/lang/invoke/MethodHandle" ∧ yX5_readChain.cls ≠ "java/lang/invoke/VarHandle" ∧ (parseMethodDescriptor yX5_readChain.desc).map (fun d => d.parameters.length) = some 2 := ⟨by decide +kernel, by decide +kernel, by decide +kernel⟩
set_option maxRecDepth 100000 in
theorem wd_680 : Cond.methodLink "LearnLoans$Text" 54 yX5_readChain ∈ am_ws := am_wt3 (List.mem_of_getElem? (i := 143) (by rfl)) (by decide +kernel)
set_option maxRecDepth 100000 in
theorem wd_682 : Cond.instanceMethod yX5_readChain ∈ am_ws := am_wt3 (List.mem_of_getElem? (i := 145) (by rfl)) (by decide +kernel)
set_option maxRecDepth 100000 in
theorem wd_15 : Cond.selects "LearnLoans$Text" yX5_readChain yX5_readChain ∈ am_ws := am_wsi (List.mem_of_getElem? (i := 15) (by rfl)) (by decide +kernel)
set_option maxRecDepth 100000 in
theorem wd_683 : Cond.code yX5_readChain cX5_readChain 6 none ∈ am_ws := am_wt3 (List.mem_of_getElem? (i := 146) (by rfl)) (by decide +kernel)
theorem hy_X5_levelOf : yX5_levelOf.cls ≠ "java/lang/invoke/MethodHandle" ∧ yX5_levelOf.cls ≠ "java/lang/invoke/VarHandle" ∧ (parseMethodDescriptor yX5_levelOf.desc).map (fun d => d.parameters.length) = some 1 := ⟨by decide +kernel, by decide +kernel, by decide +kernel⟩
set_option maxRecDepth 100000 in
theorem wd_715 : Cond.methodLink "LearnLoans$Text" 72 yX5_levelOf ∈ am_ws := am_wt3 (List.mem_of_getElem? (i := 178) (by rfl)) (by decide +kernel)
set_option maxRecDepth 100000 in
theorem wd_716 : Cond.static yX5_levelOf ∈ am_ws := am_wt3 (List.mem_of_getElem? (i := 179) (by rfl)) (by decide +kernel)
set_option maxRecDepth 100000 in
theorem wd_717 : Cond.code yX5_levelOf cX5_levelOf 1 (some .int) ∈ am_ws := am_wt3 (List.mem_of_getElem? (i := 180) (by rfl)) (by decide +kernel)
def rwX5_readChain : List dz_r := [(0, .iload_n 1, 1), (1, .iconst 5, 1), (2, .if_icmp .lt 27, 3), (5, .aload_n 0, 1), (6, .getfield 28, 3), (9, .istore_n 3, 1), (10, .aload_n 0, 1), (11, .invokevirtual 63, 3), (14, .istore 4, 2), (16, .aload_n 0, 1), (17, .iload_n 2, 1), (18, .invokevirtual 66, 3), (21, .aload_n 0, 1), (22, .iload_n 3, 1), (23, .iload 4, 2), (25, .invokevirtual 69, 3), (28, .return_, 1), (29, .aload_n 0, 1), (30, .iload_n 1, 1), (31, .iconst 1, 1), (32, .iadd, 1), (33, .iload_n 2, 1), (34, .invokevirtual 54, 3), (37, .iload_n 1, 1), (38, .iconst 2, 1), (39, .if_icmp .ne 7, 3), (42, .iconst 1, 1), (43, .goto 5, 3), (46, .bipush 50, 2), (48, .istore_n 3, 1), (49, .iconst 0, 1), (50, .istore 4, 2), (52, .iload 4, 2), (54, .iload_n 3, 1), (55, .if_icmp .ge 64, 3), (58, .aload_n 0, 1), (59, .getfield 18, 3), (62, .iconst (-1), 1), (63, .if_icmp .ne 56, 3), (66, .aload_n 0, 1), (67, .invokevirtual 38, 3), (70, .invokestatic 72, 3), (73, .iload_n 1, 1), (74, .if_icmp .ne 45, 3), (77, .aload_n 0, 1), (78, .getfield 9, 3), (81, .aload_n 0, 1), (82, .getfield 28, 3), (85, .iaload, 1), (86, .istore 5, 2), (88, .aload_n 0, 1), (89, .dup, 1), (90, .getfield 28, 3), (93, .iconst 1, 1), (94, .iadd, 1), (95, .putfield 28, 3), (98, .aload_n 0, 1), (99, .iload_n 1, 1), (100, .iconst 1, 1), (101, .iadd, 1), (102, .iload_n 2, 1), (103, .invokevirtual 54, 3), (106, .aload_n 0, 1), (107, .iload 5, 2), (109, .ineg, 1), (110, .invokevirtual 60, 3), (113, .iinc 4 1, 3), (116, .goto (-64), 3), (119, .return_, 1)]
theorem dzX5_readChain : dz cX5_readChain rwX5_readChain := dz_all 0 (by decide +kernel)
def kX5_readChain (d n rc lc : Nat) (Tc : am_T) (live : am_E) (Ret : am_R) : am_code := [(0, am_iload 1 1), (1, am_const (.int 5) 2), (2, am_if2 (fun x y => x < y) 29 5), (5, am_aload 0 6), (6, am_getI live 5 3 9), (9, am_istore 3 6 10), (10, am_aload 0 11), (11, am_callV live 5 0 TX5_passSigns 14), (14, am_istore 4 6 16), (16, am_aload 0 17), (17, am_iload 2 18), (18, am_callV live 5 1 (TX5_readPlain d) 21), (21, am_aload 0 22), (22, am_iload 3 23), (23, am_iload 4 25), (25, am_callV live 5 2 TX5_emitSigns 28), (28, am_retV Ret), (29, am_aload 0 30), (30, am_iload 1 31), (31, am_const (.int 1) 32), (32, am_i2 (fun x y => x + y) 33), (33, am_iload 2 34), (34, am_callV live 5 2 Tc 37), (37, am_iload 1 38), (38, am_const (.int 2) 39), (39, am_if2 (fun x y => x = y) 42 46), (42, am_const (.int 1) 43), (43, am_goto 48), (46, am_const (.int 50) 48), (48, am_istore 3 6 49), (49, am_const (.int 0) 50), (50, am_istore 4 6 52), (52, am_iload 4 54), (54, am_iload 3 55), (55, am_if2 (fun x y => y ≤ x) 119 58), (58, am_aload 0 59), (59, am_getI live 5 6 62), (62, am_const (.int (-1)) 63), (63, am_if2 (fun x y => x = y) 66 119), (66, am_aload 0 67), (67, am_callV live 5 0 TX5_next 70), (70, am_callS live 1 TX5_levelOf 73), (73, am_iload 1 74), (74, am_if2 (fun x y => x = y) 77 119), (77, am_aload 0 78), (78, am_getR live 5 0 81), (81, am_aload 0 82), (82, am_getI live 5 3 85), (85, am_ald live 0 86), (86, am_istore 5 6 88), (88, am_aload 0 89), (89, am_dup 90), (90, am_getI live 5 3 93), (93, am_const (.int 1) 94), (94, am_i2 (fun x y => x + y) 95), (95, am_putI live 5 3 98), (98, am_aload 0 99), (99, am_iload 1 100), (100, am_const (.int 1) 101), (101, am_i2 (fun x y => x + y) 102), (102, am_iload 2 103), (103, am_callV live 5 2 Tc 106), (106, am_aload 0 107), (107, am_iload 5 109), (109, am_i1 (fun x => -x) 110), (110, am_callV live 5 1 TX5_emit 113), (113, am_iinc 4 6 1 116), (116, am_goto 52), (119, am_retV Ret)]
theorem koX5_readChain (d n rc lc : Nat) (Tc : am_T) (hP : am_Met yX5_readPlain cX5_readPlain 3 none (4 + 8 * d + 1) (200 + 200 * d + 25) (TX5_readPlain d)) (hC : am_Met yX5_readChain cX5_readChain 6 none rc lc Tc) (hrc : rc + 1 ≤ 4 + 8 * d + 2 + n ∧ lc + 25 ≤ 200 + 200 * d + 50 + 25 * n) (live : am_E) (Ret : am_R) : ∀ q ∈ kX5_readChain d n rc lc Tc live Ret, am_ok RX5 cX5_readChain 6 none (4 + 8 * d + 2 + n) (200 + 200 * d + 50 + 25 * n) live Ret q.1 q.2 :=
  am_kz dzX5_readChain <|
  am_kd (fun d => ak_iload_n d rfl rfl) <|
  am_kd (fun d => ak_iconst d (by decide +kernel) rfl) <|
  am_kd (fun d => ak_icmp_lt d (by decide +kernel) rfl) <|
  am_kd (fun d => ak_aload_n d rfl rfl) <|
  am_kd (fun d => ak_getI (C := RX5) (T := TX5) (N := 7) rfl inX5w (by decide) rfl rfl rfl wd_171 d rfl) <|
  am_kd (fun d => ak_istore_n d rfl rfl) <|
  am_kd (fun d => ak_aload_n d rfl rfl) <|
  am_kd (fun d => ak_callV (C := RX5) (F := TX5) (N := 7) metX5_passSigns rfl ⟨rfl, hy_X5_passSigns⟩ (am_w5 wd_684 wd_686 wd_16 wd_65 wd_687) (by omega) d rfl) <|
  am_kd (fun d => ak_istore d rfl) <|
  am_kd (fun d => ak_aload_n d rfl rfl) <|
  am_kd (fun d => ak_iload_n d rfl rfl) <|
  am_kd (fun d => ak_callV (C := RX5) (F := TX5) (N := 7) hP rfl ⟨rfl, hy_X5_readPlain⟩ (am_w5 wd_692 wd_694 wd_18 wd_65 wd_695) (by omega) d rfl) <|
  am_kd (fun d => ak_aload_n d rfl rfl) <|
  am_kd (fun d => ak_iload_n d rfl rfl) <|
  am_kd (fun d => ak_iload d rfl) <|
  am_kd (fun d => ak_callV (C := RX5) (F := TX5) (N := 7) metX5_emitSigns rfl ⟨rfl, hy_X5_emitSigns⟩ (am_w5 wd_711 wd_713 wd_22 wd_65 wd_714) (by omega) d rfl) <|
  am_kd (fun d => ak_retV d) <|
  am_kd (fun d => ak_aload_n d rfl rfl) <|
  am_kd (fun d => ak_iload_n d rfl rfl) <|
  am_kd (fun d => ak_iconst d (by decide +kernel) rfl) <|
  am_kd (fun d => ak_iadd d rfl) <|
  am_kd (fun d => ak_iload_n d rfl rfl) <|
  am_kd (fun d => ak_callV (C := RX5) (F := TX5) (N := 7) hC rfl ⟨rfl, hy_X5_readChain⟩ (am_w5 wd_680 wd_682 wd_15 wd_65 wd_683) (by omega) d rfl) <|
  am_kd (fun d => ak_iload_n d rfl rfl) <|
  am_kd (fun d => ak_iconst d (by decide +kernel) rfl) <|
  am_kd (fun d => ak_icmp_ne d (by decide +kernel) rfl) <|
  am_kd (fun d => ak_iconst d (by decide +kernel) rfl) <|
  am_kd (fun d => ak_goto d (by decide +kernel)) <|
  am_kd (fun d => ak_bipush d (by decide +kernel) rfl) <|
  am_kd (fun d => ak_istore_n d rfl rfl) <|
  am_kd (fun d => ak_iconst d (by decide +kernel) rfl) <|
  am_kd (fun d => ak_istore d rfl) <|
  am_kd (fun d => ak_iload d rfl) <|
  am_kd (fun d => ak_iload_n d rfl rfl) <|
  am_kd (fun d => ak_icmp_ge d (by decide +kernel) rfl) <|
  am_kd (fun d => ak_aload_n d rfl rfl) <|
  am_kd (fun d => ak_getI (C := RX5) (T := TX5) (N := 7) rfl inX5w (by decide) rfl rfl rfl wd_175 d rfl) <|
  am_kd (fun d => ak_iconst d (by decide +kernel) rfl) <|
  am_kd (fun d => ak_icmp_ne d (by decide +kernel) rfl) <|
  am_kd (fun d => ak_aload_n d rfl rfl) <|
  am_kd (fun d => ak_callV (C := RX5) (F := TX5) (N := 7) metX5_next rfl ⟨rfl, hy_X5_next⟩ (am_w5 wd_688 wd_690 wd_17 wd_65 wd_691) (by omega) d rfl) <|
  am_kd (fun d => ak_callS metX5_levelOf ⟨rfl, hy_X5_levelOf⟩ (am_w4 wd_715 wd_716 wd_65 wd_717) (by omega) d rfl) <|
  am_kd (fun d => ak_iload_n d rfl rfl) <|
  am_kd (fun d => ak_icmp_ne d (by decide +kernel) rfl) <|
  am_kd (fun d => ak_aload_n d rfl rfl) <|
  am_kd (fun d => ak_getR (C := RX5) (T := TX5) (N := 7) rfl inX5w (by decide) rfl rfl rfl wd_168 d rfl) <|
  am_kd (fun d => ak_aload_n d rfl rfl) <|
  am_kd (fun d => ak_getI (C := RX5) (T := TX5) (N := 7) rfl inX5w (by decide) rfl rfl rfl wd_171 d rfl) <|
  am_kd (fun d => ak_iald (t := 0) (fun _ => rfl) rfl d rfl) <|
  am_kd (fun d => ak_istore d rfl) <|
  am_kd (fun d => ak_aload_n d rfl rfl) <|
  am_kd (fun d => ak_dup d rfl) <|
  am_kd (fun d => ak_getI (C := RX5) (T := TX5) (N := 7) rfl inX5w (by decide) rfl rfl rfl wd_171 d rfl) <|
  am_kd (fun d => ak_iconst d (by decide +kernel) rfl) <|
  am_kd (fun d => ak_iadd d rfl) <|
  am_kd (fun d => ak_putI (C := RX5) (T := TX5) (N := 7) rfl inX5w tyX5_ok nmX5 (by decide) rfl rfl rfl rfl (by decide +kernel) wd_171 d rfl) <|
  am_kd (fun d => ak_aload_n d rfl rfl) <|
  am_kd (fun d => ak_iload_n d rfl rfl) <|
  am_kd (fun d => ak_iconst d (by decide +kernel) rfl) <|
  am_kd (fun d => ak_iadd d rfl) <|
  am_kd (fun d => ak_iload_n d rfl rfl) <|
  am_kd (fun d => ak_callV (C := RX5) (F := TX5) (N := 7) hC rfl ⟨rfl, hy_X5_readChain⟩ (am_w5 wd_680 wd_682 wd_15 wd_65 wd_683) (by omega) d rfl) <|
  am_kd (fun d => ak_aload_n d rfl rfl) <|
  am_kd (fun d => ak_iload d rfl) <|
  am_kd (fun d => ak_ineg d rfl) <|
  am_kd (fun d => ak_callV (C := RX5) (F := TX5) (N := 7) metX5_emit rfl ⟨rfl, hy_X5_emit⟩ (am_w5 wd_703 wd_705 wd_20 wd_65 wd_706) (by omega) d rfl) <|
  am_kd (fun d => ak_iinc d (by decide +kernel) rfl) <|
  am_kd (fun d => ak_goto d (by decide +kernel)) <|
  am_kd (fun d => ak_retV d) <| am_kdn
def JX5_readChain : am_E → List Value → am_M → am_R → am_inv := fun live as M0 _ pc => match as with
  | [.ref t, .int l, .int e] => (match pc with
    | 52 => some ([0, 1, 2, 3, 4], fun k L st M => ∃ x i : Int32, L = [(0, .ref t), (1, .int l), (2, .int e), (3, .int x), (4, .int i)] ∧ st = [] ∧ k = ((51 - i.toInt).toNat, 0) ∧ x.toInt ≤ 50 ∧ 0 ≤ i.toInt ∧ l.toInt < 5 ∧ am_ch (am_tS t ((live.2 t 1).getD 0)) M0 M ∧ am_tI M t)
    | _ => none)
  | _ => none
theorem am_level_lt {x l : Int32} (h : am_level x = l) (hl : l.toInt < 5) : ¬ x = -1 := fun e => by
  rw [e] at h
  rw [← h] at hl
  exact absurd hl (by decide)
set_option maxRecDepth 100000 in
set_option maxHeartbeats 4000000 in
theorem metX5_readChainG (d n rc lc : Nat) (Tc : am_T) (hP : am_Met yX5_readPlain cX5_readPlain 3 none (4 + 8 * d + 1) (200 + 200 * d + 25) (TX5_readPlain d)) (hC : am_Met yX5_readChain cX5_readChain 6 none rc lc Tc) (hrc : rc + 1 ≤ 4 + 8 * d + 2 + n ∧ lc + 25 ≤ 200 + 200 * d + 50 + 25 * n)
    (hT0 : ∀ (live : am_E) (t s c : Nat) (l e : Int32) (M : am_M) (R : am_R), live.2 t 0 = some s → live.2 t 1 = some c → am_tc live t s c = true → am_tI M t → 0 ≤ l.toInt → l.toInt < 5 → 5 ≤ l.toInt + (n : Int) → 0 ≤ e.toInt → e.toInt ≤ 40 → 40 ≤ e.toInt + (d : Int) → (∀ M', am_ch (am_tS t c) M M' → am_tI M' t → R none M') → Tc live [.ref t, .int (l + 1), .int e] M R) :
    am_Met yX5_readChain cX5_readChain 6 none (4 + 8 * d + 2 + n) (200 + 200 * d + 50 + 25 * n) (TX5_readChain d n) := by
  refine am_met (own := RX5) (by decide +kernel) rfl (kX5_readChain d n rc lc Tc) (koX5_readChain d n rc lc Tc hP hC hrc) 120 JX5_readChain ?_ ?_
  · intro live as M Ret h
    unfold TX5_readChain at h
    split at h
    · next t l e =>
      refine ⟨Nat.le_of_ble_eq_true rfl, ?_⟩
      change am_wp _ _ _ _ [(0, Value.ref t), (1, Value.int l), (2, Value.int e)] _ _
      have hh := am_tP_mp h
      clear h
      obtain ⟨s, c, h2, h6, hb, h1, h3, h7, h4, h8, h9, h5, h10, hT, hl, he1, he2, he3, h⟩ := hh
      repeat' (first | (with_reducible exact hT) | (with_reducible exact h1) | (with_reducible exact h2) | (with_reducible exact h3) | (with_reducible exact hb) | (with_reducible exact h6) | (with_reducible exact h7) | (refine Exists.intro _ (Exists.intro _ (And.intro h2 (And.intro h6 ?_)))) | (refine Exists.intro _ (And.intro h2 ?_)) | (refine Exists.intro _ (And.intro h6 ?_)) | apply And.intro | exact rfl | intro hx | (refine Exists.intro _ (And.intro rfl ?_)) | (refine hT0 _ _ s c _ _ _ _ h2 h6 hb ?_ ?_ ?_ ?_ ?_ ?_ ?_ (fun M' c' i' => ?_)) | ((with_reducible change _ = true); simp only [h1, h2, h3, hb, h6, h7, Bool.true_and]; rfl))
      all_goals try first | (with_reducible change am_tI _ _) | (change Ret _ _) | (change Ret _ _ _) | (change Exists _)
      all_goals try dsimp only at *
      all_goals try (with_reducible exact absurd ‹(1000 : Int64) = 0› am_z1000)
      all_goals obtain ⟨hl1, hl2, hl3⟩ := hl
      all_goals first
        | (simp only [i_le, i_lt, Int32.reduceToInt] at *; omega)
        | assumption
        | exact (am_tI_pl (by assumption)).1
        | skip
      · rename_i hq
        rw [h6]
        exact ⟨_, _, _, rfl, rfl, rfl, by decide, by decide, by simp only [i_le, i_lt, Int32.reduceToInt] at *; omega, c', i'⟩
      · rename_i hq
        rw [h6]
        exact ⟨_, _, _, rfl, rfl, rfl, by decide, by decide, by simp only [i_le, i_lt, Int32.reduceToInt] at *; omega, c', i'⟩
      · rename_i M1 c1 i1 M2 c2 i2 M3 c3 i3
        exact h _ ((c1.tr c2).tr c3) i3
    · exact h.elim
  · intro live as M0 Ret h k pc I hI L st M hi
    unfold TX5_readChain at h
    split at h
    · next t l e =>
      have hh := am_tP_mp h
      clear h
      obtain ⟨s, c, h2, h6, hb, h1, h3, h7, h4, h8, h9, h5, h10, hT, hl, he1, he2, he3, h⟩ := hh
      obtain ⟨hl1, hl2, hl3⟩ := hl
      change (match pc with | 52 => _ | _ => none) = _ at hI
      split at hI
      · cases hI
        obtain ⟨x, i, rfl, rfl, rfl, e0, e3, e4, e1, e2⟩ := hi
        have f1 := e1
        rw [h6] at f1
        repeat' (first | (with_reducible exact e2) | (with_reducible exact h1) | (with_reducible exact h2) | (with_reducible exact h3) | (with_reducible exact hb) | (with_reducible exact h6) | (with_reducible exact h7) | (refine Exists.intro _ (Exists.intro _ (And.intro h2 (And.intro h6 ?_)))) | (refine Exists.intro _ (And.intro h2 ?_)) | (refine Exists.intro _ (And.intro h6 ?_)) | apply And.intro | exact rfl | intro hx | (refine Exists.intro _ (And.intro rfl ?_)) | (refine hT0 _ _ s c _ _ _ _ h2 h6 hb ?_ ?_ ?_ ?_ ?_ ?_ ?_ (fun M' c' i' => ?_)) | ((with_reducible change _ = true); simp only [h1, h2, h3, hb, h6, h7, Bool.true_and]; rfl))
        all_goals try first | (with_reducible change am_tI _ _) | (change Ret _ _) | (change Ret _ _ _) | (change Exists _)
        all_goals try dsimp only at *
        all_goals try (with_reducible exact absurd ‹(1000 : Int64) = 0› am_z1000)
        all_goals try simp only [am_wI_self]
        · exact h _ f1 e2
        · have q1 := (am_tI_pl e2).1
          have q2 := (‹am_skip M t s _›).1
          omega
        · have q1 := am_sign_lt (am_level_lt ‹am_level (am_sign M t s _) = l› e4)
          have q2 := (am_tI_pl e2).2.2
          rw [h4]
          omega
        · exact am_tI_3p e2 ‹am_skip M t s _› (am_sign_lt (am_level_lt ‹am_level (am_sign M t s _) = l› e4))
        · omega
        · omega
        · omega
        · omega
        · omega
        · omega
        · exact am_tI_cd i'
        · rw [h6]
          refine ⟨_, Or.inl ?_, x, i + 1, rfl, rfl, rfl, e0, ?_, e4, am_ch_emit (((f1.wI am_tS_3).wI am_tS_3).tr c'), am_tI_emit i' h10⟩
          all_goals simp only [i_le, i_lt] at *
          all_goals
            have hi := i_add (x := i) (y := 1) (by simp only [Int32.reduceToInt]; omega) (by simp only [Int32.reduceToInt]; omega)
            simp only [Int32.reduceToInt] at hi
            omega
        · exact h _ (f1.wI am_tS_3) (am_tI_w3 e2 ‹am_skip M t s _›)
        · exact h _ f1 e2
      · cases hI
    · exact h.elim
theorem am_tP_in {live : am_E} {t s c : Nat} {P : Nat → Nat → Prop} (h1 : live.2 t 0 = some s) (h2 : live.2 t 1 = some c) (h3 : am_tc live t s c = true) (h : P s c) : am_tP live t P := by
  exact ⟨s, c, h1, h2, h3, h⟩
theorem am_MetF (y : MethodName) (cc : ByteArray) (nL : Nat) (rt : Option FieldType) (rf rl : Nat) : am_Met y cc nL rt rf rl (fun _ _ _ _ => False) := fun _ _ _ _ _ _ _ _ _ h => h.elim
theorem metX5_readChain (d : Nat) (hP : am_Met yX5_readPlain cX5_readPlain 3 none (4 + 8 * d + 1) (200 + 200 * d + 25) (TX5_readPlain d)) : ∀ n : Nat, am_Met yX5_readChain cX5_readChain 6 none (4 + 8 * d + 2 + n) (200 + 200 * d + 50 + 25 * n) (TX5_readChain d n)
  | 0 => metX5_readChainG d 0 0 0 _ hP (am_MetF _ _ _ _ _ _) (by omega) (fun live t s c l e M R _ _ _ _ _ h1 h2 _ _ _ _ => by exfalso; omega)
  | n + 1 => metX5_readChainG d (n + 1) (4 + 8 * d + 2 + n) (200 + 200 * d + 50 + 25 * n) _ hP (metX5_readChain d hP n) (by omega) (fun live t s c l e M R a1 a2 a3 a4 a5 a6 a7 a8 a9 a10 hh => by
      have hi := i_add (x := l) (y := 1) (by simp only [Int32.reduceToInt]; omega) (by simp only [Int32.reduceToInt]; omega)
      simp only [Int32.reduceToInt] at hi
      exact am_tP_in a1 a2 a3 ⟨a4, ⟨by omega, by omega, by omega⟩, a8, a9, a10, hh⟩)
end
-- part 17.rec2.lean.txt
section
/-! Text: the recursion closed -/
def rwX5_readValue : List dz_r := [(0, .iload_n 1, 1), (1, .bipush 40, 2), (3, .if_icmp .le 13, 3), (6, .aload_n 0, 1), (7, .aload_n 0, 1), (8, .getfield 28, 3), (11, .iconst 1, 1), (12, .invokevirtual 42, 3), (15, .return_, 1), (16, .aload_n 0, 1), (17, .iconst 0, 1), (18, .iload_n 1, 1), (19, .invokevirtual 54, 3), (22, .aload_n 0, 1), (23, .getfield 18, 3), (26, .iconst (-1), 1), (27, .if_icmp .ne 48, 3), (30, .aload_n 0, 1), (31, .invokevirtual 38, 3), (34, .bipush 63, 2), (36, .if_icmp .ne 39, 3), (39, .aload_n 0, 1), (40, .dup, 1), (41, .getfield 28, 3), (44, .iconst 1, 1), (45, .iadd, 1), (46, .putfield 28, 3), (49, .aload_n 0, 1), (50, .iload_n 1, 1), (51, .iconst 1, 1), (52, .iadd, 1), (53, .invokevirtual 34, 3), (56, .aload_n 0, 1), (57, .bipush 58, 2), (59, .invokevirtual 57, 3), (62, .aload_n 0, 1), (63, .iload_n 1, 1), (64, .iconst 1, 1), (65, .iadd, 1), (66, .invokevirtual 34, 3), (69, .aload_n 0, 1), (70, .bipush (-63), 2), (72, .invokevirtual 60, 3), (75, .return_, 1)]
theorem dzX5_readValue : dz cX5_readValue rwX5_readValue := dz_all 0 (by decide +kernel)
def kX5_readValue (n rc lc rv lv : Nat) (Tc Tv : am_T) (live : am_E) (Ret : am_R) : am_code := [(0, am_iload 1 1), (1, am_const (.int 40) 3), (3, am_if2 (fun x y => x ≤ y) 16 6), (6, am_aload 0 7), (7, am_aload 0 8), (8, am_getI live 5 3 11), (11, am_const (.int 1) 12), (12, am_callV live 5 2 TX5_blame 15), (15, am_retV Ret), (16, am_aload 0 17), (17, am_const (.int 0) 18), (18, am_iload 1 19), (19, am_callV live 5 2 Tc 22), (22, am_aload 0 23), (23, am_getI live 5 6 26), (26, am_const (.int (-1)) 27), (27, am_if2 (fun x y => x = y) 30 75), (30, am_aload 0 31), (31, am_callV live 5 0 TX5_next 34), (34, am_const (.int 63) 36), (36, am_if2 (fun x y => x = y) 39 75), (39, am_aload 0 40), (40, am_dup 41), (41, am_getI live 5 3 44), (44, am_const (.int 1) 45), (45, am_i2 (fun x y => x + y) 46), (46, am_putI live 5 3 49), (49, am_aload 0 50), (50, am_iload 1 51), (51, am_const (.int 1) 52), (52, am_i2 (fun x y => x + y) 53), (53, am_callV live 5 1 Tv 56), (56, am_aload 0 57), (57, am_const (.int 58) 59), (59, am_callV live 5 1 TX5_pass 62), (62, am_aload 0 63), (63, am_iload 1 64), (64, am_const (.int 1) 65), (65, am_i2 (fun x y => x + y) 66), (66, am_callV live 5 1 Tv 69), (69, am_aload 0 70), (70, am_const (.int (-63)) 72), (72, am_callV live 5 1 TX5_emit 75), (75, am_retV Ret)]
theorem koX5_readValue (n rc lc rv lv : Nat) (Tc Tv : am_T) (hC : am_Met yX5_readChain cX5_readChain 6 none rc lc Tc) (hV : am_Met yX5_readValue cX5_readValue 2 none rv lv Tv) (hrc : rc + 1 ≤ 4 + 8 * n ∧ lc + 25 ≤ 200 + 200 * n ∧ rv + 1 ≤ 4 + 8 * n ∧ lv + 25 ≤ 200 + 200 * n) (live : am_E) (Ret : am_R) : ∀ q ∈ kX5_readValue n rc lc rv lv Tc Tv live Ret, am_ok RX5 cX5_readValue 2 none (4 + 8 * n) (200 + 200 * n) live Ret q.1 q.2 :=
  am_kz dzX5_readValue <|
  am_kd (fun d => ak_iload_n d rfl rfl) <|
  am_kd (fun d => ak_bipush d (by decide +kernel) rfl) <|
  am_kd (fun d => ak_icmp_le d (by decide +kernel) rfl) <|
  am_kd (fun d => ak_aload_n d rfl rfl) <|
  am_kd (fun d => ak_aload_n d rfl rfl) <|
  am_kd (fun d => ak_getI (C := RX5) (T := TX5) (N := 7) rfl inX5w (by decide) rfl rfl rfl wd_171 d rfl) <|
  am_kd (fun d => ak_iconst d (by decide +kernel) rfl) <|
  am_kd (fun d => ak_callV (C := RX5) (F := TX5) (N := 7) metX5_blame rfl ⟨rfl, hy_X5_blame⟩ (am_w5 wd_676 wd_678 wd_14 wd_65 wd_679) (by omega) d rfl) <|
  am_kd (fun d => ak_retV d) <|
  am_kd (fun d => ak_aload_n d rfl rfl) <|
  am_kd (fun d => ak_iconst d (by decide +kernel) rfl) <|
  am_kd (fun d => ak_iload_n d rfl rfl) <|
  am_kd (fun d => ak_callV (C := RX5) (F := TX5) (N := 7) hC rfl ⟨rfl, hy_X5_readChain⟩ (am_w5 wd_680 wd_682 wd_15 wd_65 wd_683) (by omega) d rfl) <|
  am_kd (fun d => ak_aload_n d rfl rfl) <|
  am_kd (fun d => ak_getI (C := RX5) (T := TX5) (N := 7) rfl inX5w (by decide) rfl rfl rfl wd_175 d rfl) <|
  am_kd (fun d => ak_iconst d (by decide +kernel) rfl) <|
  am_kd (fun d => ak_icmp_ne d (by decide +kernel) rfl) <|
  am_kd (fun d => ak_aload_n d rfl rfl) <|
  am_kd (fun d => ak_callV (C := RX5) (F := TX5) (N := 7) metX5_next rfl ⟨rfl, hy_X5_next⟩ (am_w5 wd_688 wd_690 wd_17 wd_65 wd_691) (by omega) d rfl) <|
  am_kd (fun d => ak_bipush d (by decide +kernel) rfl) <|
  am_kd (fun d => ak_icmp_ne d (by decide +kernel) rfl) <|
  am_kd (fun d => ak_aload_n d rfl rfl) <|
  am_kd (fun d => ak_dup d rfl) <|
  am_kd (fun d => ak_getI (C := RX5) (T := TX5) (N := 7) rfl inX5w (by decide) rfl rfl rfl wd_171 d rfl) <|
  am_kd (fun d => ak_iconst d (by decide +kernel) rfl) <|
  am_kd (fun d => ak_iadd d rfl) <|
  am_kd (fun d => ak_putI (C := RX5) (T := TX5) (N := 7) rfl inX5w tyX5_ok nmX5 (by decide) rfl rfl rfl rfl (by decide +kernel) wd_171 d rfl) <|
  am_kd (fun d => ak_aload_n d rfl rfl) <|
  am_kd (fun d => ak_iload_n d rfl rfl) <|
  am_kd (fun d => ak_iconst d (by decide +kernel) rfl) <|
  am_kd (fun d => ak_iadd d rfl) <|
  am_kd (fun d => ak_callV (C := RX5) (F := TX5) (N := 7) hV rfl ⟨rfl, hy_X5_readValue⟩ (am_w5 wd_672 wd_674 wd_13 wd_65 wd_675) (by omega) d rfl) <|
  am_kd (fun d => ak_aload_n d rfl rfl) <|
  am_kd (fun d => ak_bipush d (by decide +kernel) rfl) <|
  am_kd (fun d => ak_callV (C := RX5) (F := TX5) (N := 7) metX5_pass rfl ⟨rfl, hy_X5_pass⟩ (am_w5 wd_707 wd_709 wd_21 wd_65 wd_710) (by omega) d rfl) <|
  am_kd (fun d => ak_aload_n d rfl rfl) <|
  am_kd (fun d => ak_iload_n d rfl rfl) <|
  am_kd (fun d => ak_iconst d (by decide +kernel) rfl) <|
  am_kd (fun d => ak_iadd d rfl) <|
  am_kd (fun d => ak_callV (C := RX5) (F := TX5) (N := 7) hV rfl ⟨rfl, hy_X5_readValue⟩ (am_w5 wd_672 wd_674 wd_13 wd_65 wd_675) (by omega) d rfl) <|
  am_kd (fun d => ak_aload_n d rfl rfl) <|
  am_kd (fun d => ak_bipush d (by decide +kernel) rfl) <|
  am_kd (fun d => ak_callV (C := RX5) (F := TX5) (N := 7) metX5_emit rfl ⟨rfl, hy_X5_emit⟩ (am_w5 wd_703 wd_705 wd_20 wd_65 wd_706) (by omega) d rfl) <|
  am_kd (fun d => ak_retV d) <| am_kdn
theorem am_ne63 {x : Int32} (h : x = 63) : ¬ x = -1 := fun e => by rw [h] at e; exact absurd e (by decide)
set_option maxRecDepth 100000 in
set_option maxHeartbeats 4000000 in
theorem metX5_readValueG (n rc lc rv lv : Nat) (Tc Tv : am_T) (hC : am_Met yX5_readChain cX5_readChain 6 none rc lc Tc) (hV : am_Met yX5_readValue cX5_readValue 2 none rv lv Tv) (hrc : rc + 1 ≤ 4 + 8 * n ∧ lc + 25 ≤ 200 + 200 * n ∧ rv + 1 ≤ 4 + 8 * n ∧ lv + 25 ≤ 200 + 200 * n)
    (hT1 : ∀ (live : am_E) (t s c : Nat) (e : Int32) (M : am_M) (R : am_R), live.2 t 0 = some s → live.2 t 1 = some c → am_tc live t s c = true → am_tI M t → 0 ≤ e.toInt → e.toInt ≤ 40 → 41 ≤ e.toInt + (n : Int) → (∀ M', am_ch (am_tS t c) M M' → am_tI M' t → R none M') → Tc live [.ref t, .int 0, .int e] M R)
    (hT2 : ∀ (live : am_E) (t s c : Nat) (e : Int32) (M : am_M) (R : am_R), live.2 t 0 = some s → live.2 t 1 = some c → am_tc live t s c = true → am_tI M t → 0 ≤ e.toInt → e.toInt ≤ 40 → 41 ≤ e.toInt + (n : Int) → (∀ M', am_ch (am_tS t c) M M' → am_tI M' t → R none M') → Tv live [.ref t, .int (e + 1)] M R) :
    am_Met yX5_readValue cX5_readValue 2 none (4 + 8 * n) (200 + 200 * n) (TX5_readValue n) := by
  refine am_met (own := RX5) (by decide +kernel) rfl (kX5_readValue n rc lc rv lv Tc Tv) (koX5_readValue n rc lc rv lv Tc Tv hC hV hrc) 120 (fun _ _ _ _ _ => none) ?_ (fun _ _ _ _ _ _ _ _ hI => by cases hI)
  intro live as M Ret h
  unfold TX5_readValue at h
  split at h
  · next t e =>
    refine ⟨Nat.le_of_ble_eq_true rfl, ?_⟩
    change am_wp _ _ _ _ [(0, Value.ref t), (1, Value.int e)] _ _
    have hh := am_tP_mp h
    clear h
    obtain ⟨s, c, h2, h6, hb, h1, h3, h7, h4, h8, h9, h5, h10, hT, he1, he2, he3, h⟩ := hh
    repeat' (first | (with_reducible exact hT) | (with_reducible exact h1) | (with_reducible exact h2) | (with_reducible exact h3) | (with_reducible exact hb) | (with_reducible exact h6) | (with_reducible exact h7) | (refine Exists.intro _ (Exists.intro _ (And.intro h2 (And.intro h6 ?_)))) | (refine Exists.intro _ (And.intro h2 ?_)) | (refine Exists.intro _ (And.intro h6 ?_)) | apply And.intro | exact rfl | intro hx | (refine Exists.intro _ (And.intro rfl ?_)) | (refine hT1 _ _ s c _ _ _ h2 h6 hb ?_ ?_ ?_ ?_ (fun M1 c1 i1 => ?_)) | (refine hT2 _ _ s c _ _ _ h2 h6 hb ?_ ?_ ?_ ?_ (fun M2 c2 i2 => ?_)) | ((with_reducible change _ = true); simp only [h1, h2, h3, hb, h6, h7, Bool.true_and]; rfl))
    all_goals try first | (with_reducible change am_tI _ _) | (change Ret _ _) | (change Ret _ _ _) | (change Exists _)
    all_goals try dsimp only at *
    all_goals try (with_reducible exact absurd ‹(1000 : Int64) = 0› am_z1000)
    all_goals try simp only [am_wI_self]
    all_goals first
      | (with_reducible assumption)
      | omega
      | (have q := hx; simp only [i_le, Int32.reduceToInt] at q; omega)
      | (have q : e ≤ 40 := (by with_reducible assumption); simp only [i_le, Int32.reduceToInt] at q; omega)
      | (with_reducible exact am_tI_cd (by with_reducible assumption))
      | (with_reducible exact am_tI_3p i1 (by with_reducible assumption) (am_sign_lt (am_ne63 (by with_reducible assumption))))
      | exact absurd (show (58 : Int32) = -1 by with_reducible assumption) (by decide)
      | skip
    · rename_i w p hp sg M2a c2a i2a M3 c3
      exact h _ (am_ch_emit (((((c1.wI am_tS_3).wI am_tS_3).tr c2a).tr c3).tr c2)) (am_tI_emit i2 h10)
    · exact h _ (c1.wI am_tS_3) (am_tI_w3 i1 ‹am_skip M1 t s _›)
    · exact h _ c1 i1
    · exact h _ (am_ch_blame am_ch.rf) (am_tI_blame hT)
  · exact h.elim
theorem metX5_readValue (n : Nat) : am_Met yX5_readValue cX5_readValue 2 none (4 + 8 * n) (200 + 200 * n) (TX5_readValue n) := by
  induction n with
  | zero =>
    refine metX5_readValueG 0 0 0 0 0 (fun _ _ _ _ => False) (fun _ _ _ _ => False) (am_MetF _ _ _ _ _ _) (am_MetF _ _ _ _ _ _) (by omega) ?_ ?_
    · intro live t s c e M R a1 a2 a3 a4 a5 a6 a7 hh
      omega
    · intro live t s c e M R a1 a2 a3 a4 a5 a6 a7 hh
      omega
  | succ n ih =>
    have hP := metX5_readPlain n ih
    have hC := metX5_readChain n hP 5
    refine metX5_readValueG (n + 1) (4 + 8 * n + 2 + 5) (200 + 200 * n + 50 + 25 * 5) (4 + 8 * n) (200 + 200 * n) (TX5_readChain n 5) (TX5_readValue n) hC ih (by omega) ?_ ?_
    · intro live t s c e M R a1 a2 a3 a4 a5 a6 a7 hh
      exact am_tP_in a1 a2 a3 ⟨a4, ⟨by decide, by decide, by decide⟩, a5, a6, by omega, hh⟩
    · intro live t s c e M R a1 a2 a3 a4 a5 a6 a7 hh
      have hi := i_add (x := e) (y := 1) (by simp only [Int32.reduceToInt]; omega) (by simp only [Int32.reduceToInt]; omega)
      simp only [Int32.reduceToInt] at hi
      exact am_tP_in a1 a2 a3 ⟨a4, by omega, by omega, by omega, hh⟩
end
-- part 18.text3.lean.txt
section
/-! Text: a character behind, all gone, what it tells -/
/-- a text's lasting numbers -/
def am_t0 (M : am_M) (t : Nat) : Prop := ∃ _ : Unit, (0 ≤ (M.1 t 2).toInt ∧ (M.1 t 2).toInt ≤ 50) ∧ (0 ≤ (M.1 t 5).toInt ∧ (M.1 t 5).toInt ≤ 50)
theorem am_t0_I {M : am_M} {t : Nat} (h : am_tI M t) : am_t0 M t := by
  obtain ⟨-, q1, q2, q3⟩ := h
  exact ⟨(), q1, by omega, q3⟩
def rwX5_add : List dz_r := [(0, .aload_n 0, 1), (1, .getfield 22, 3), (4, .bipush 50, 2), (6, .if_icmp .lt 4, 3), (9, .return_, 1), (10, .aload_n 0, 1), (11, .getfield 9, 3), (14, .aload_n 0, 1), (15, .getfield 22, 3), (18, .iload_n 1, 1), (19, .iastore, 1), (20, .aload_n 0, 1), (21, .dup, 1), (22, .getfield 22, 3), (25, .iconst 1, 1), (26, .iadd, 1), (27, .putfield 22, 3), (30, .aload_n 0, 1), (31, .iconst 0, 1), (32, .putfield 25, 3), (35, .aload_n 0, 1), (36, .iconst 0, 1), (37, .putfield 28, 3), (40, .aload_n 0, 1), (41, .iconst 0, 1), (42, .putfield 31, 3), (45, .aload_n 0, 1), (46, .iconst (-1), 1), (47, .putfield 18, 3), (50, .aload_n 0, 1), (51, .iconst 0, 1), (52, .invokevirtual 34, 3), (55, .aload_n 0, 1), (56, .invokevirtual 38, 3), (59, .iconst (-1), 1), (60, .if_icmp .eq 12, 3), (63, .aload_n 0, 1), (64, .aload_n 0, 1), (65, .getfield 28, 3), (68, .iconst 1, 1), (69, .invokevirtual 42, 3), (72, .return_, 1)]
theorem dzX5_add : dz cX5_add rwX5_add := dz_all 0 (by decide +kernel)
def kX5_add (live : am_E) (Ret : am_R) : am_code := [(0, am_aload 0 1), (1, am_getI live 5 5 4), (4, am_const (.int 50) 6), (6, am_if2 (fun x y => x < y) 10 9), (9, am_retV Ret), (10, am_aload 0 11), (11, am_getR live 5 0 14), (14, am_aload 0 15), (15, am_getI live 5 5 18), (18, am_iload 1 19), (19, am_ast live 0 20), (20, am_aload 0 21), (21, am_dup 22), (22, am_getI live 5 5 25), (25, am_const (.int 1) 26), (26, am_i2 (fun x y => x + y) 27), (27, am_putI live 5 5 30), (30, am_aload 0 31), (31, am_const (.int 0) 32), (32, am_putI live 5 2 35), (35, am_aload 0 36), (36, am_const (.int 0) 37), (37, am_putI live 5 3 40), (40, am_aload 0 41), (41, am_const (.int 0) 42), (42, am_putI live 5 4 45), (45, am_aload 0 46), (46, am_const (.int (-1)) 47), (47, am_putI live 5 6 50), (50, am_aload 0 51), (51, am_const (.int 0) 52), (52, am_callV live 5 1 (TX5_readValue 41) 55), (55, am_aload 0 56), (56, am_callV live 5 0 TX5_next 59), (59, am_const (.int (-1)) 60), (60, am_if2 (fun x y => x = y) 72 63), (63, am_aload 0 64), (64, am_aload 0 65), (65, am_getI live 5 3 68), (68, am_const (.int 1) 69), (69, am_callV live 5 2 TX5_blame 72), (72, am_retV Ret)]
theorem koX5_add (live : am_E) (Ret : am_R) : ∀ q ∈ kX5_add live Ret, am_ok RX5 cX5_add 2 none 333 8421 live Ret q.1 q.2 :=
  am_kz dzX5_add <|
  am_kd (fun d => ak_aload_n d rfl rfl) <|
  am_kd (fun d => ak_getI (C := RX5) (T := TX5) (N := 7) rfl inX5w (by decide) rfl rfl rfl wd_173 d rfl) <|
  am_kd (fun d => ak_bipush d (by decide +kernel) rfl) <|
  am_kd (fun d => ak_icmp_lt d (by decide +kernel) rfl) <|
  am_kd (fun d => ak_retV d) <|
  am_kd (fun d => ak_aload_n d rfl rfl) <|
  am_kd (fun d => ak_getR (C := RX5) (T := TX5) (N := 7) rfl inX5w (by decide) rfl rfl rfl wd_168 d rfl) <|
  am_kd (fun d => ak_aload_n d rfl rfl) <|
  am_kd (fun d => ak_getI (C := RX5) (T := TX5) (N := 7) rfl inX5w (by decide) rfl rfl rfl wd_173 d rfl) <|
  am_kd (fun d => ak_iload_n d rfl rfl) <|
  am_kd (fun d => ak_iast (t := 0) (fun _ => rfl) rfl d rfl) <|
  am_kd (fun d => ak_aload_n d rfl rfl) <|
  am_kd (fun d => ak_dup d rfl) <|
  am_kd (fun d => ak_getI (C := RX5) (T := TX5) (N := 7) rfl inX5w (by decide) rfl rfl rfl wd_173 d rfl) <|
  am_kd (fun d => ak_iconst d (by decide +kernel) rfl) <|
  am_kd (fun d => ak_iadd d rfl) <|
  am_kd (fun d => ak_putI (C := RX5) (T := TX5) (N := 7) rfl inX5w tyX5_ok nmX5 (by decide) rfl rfl rfl rfl (by decide +kernel) wd_173 d rfl) <|
  am_kd (fun d => ak_aload_n d rfl rfl) <|
  am_kd (fun d => ak_iconst d (by decide +kernel) rfl) <|
  am_kd (fun d => ak_putI (C := RX5) (T := TX5) (N := 7) rfl inX5w tyX5_ok nmX5 (by decide) rfl rfl rfl rfl (by decide +kernel) wd_170 d rfl) <|
  am_kd (fun d => ak_aload_n d rfl rfl) <|
  am_kd (fun d => ak_iconst d (by decide +kernel) rfl) <|
  am_kd (fun d => ak_putI (C := RX5) (T := TX5) (N := 7) rfl inX5w tyX5_ok nmX5 (by decide) rfl rfl rfl rfl (by decide +kernel) wd_171 d rfl) <|
  am_kd (fun d => ak_aload_n d rfl rfl) <|
  am_kd (fun d => ak_iconst d (by decide +kernel) rfl) <|
  am_kd (fun d => ak_putI (C := RX5) (T := TX5) (N := 7) rfl inX5w tyX5_ok nmX5 (by decide) rfl rfl rfl rfl (by decide +kernel) wd_172 d rfl) <|
  am_kd (fun d => ak_aload_n d rfl rfl) <|
  am_kd (fun d => ak_iconst d (by decide +kernel) rfl) <|
  am_kd (fun d => ak_putI (C := RX5) (T := TX5) (N := 7) rfl inX5w tyX5_ok nmX5 (by decide) rfl rfl rfl rfl (by decide +kernel) wd_175 d rfl) <|
  am_kd (fun d => ak_aload_n d rfl rfl) <|
  am_kd (fun d => ak_iconst d (by decide +kernel) rfl) <|
  am_kd (fun d => ak_callV (C := RX5) (F := TX5) (N := 7) (metX5_readValue 41) rfl ⟨rfl, hy_X5_readValue⟩ (am_w5 wd_672 wd_674 wd_13 wd_65 wd_675) (by omega) d rfl) <|
  am_kd (fun d => ak_aload_n d rfl rfl) <|
  am_kd (fun d => ak_callV (C := RX5) (F := TX5) (N := 7) metX5_next rfl ⟨rfl, hy_X5_next⟩ (am_w5 wd_688 wd_690 wd_17 wd_65 wd_691) (by decide) d rfl) <|
  am_kd (fun d => ak_iconst d (by decide +kernel) rfl) <|
  am_kd (fun d => ak_icmp_eq d (by decide +kernel) rfl) <|
  am_kd (fun d => ak_aload_n d rfl rfl) <|
  am_kd (fun d => ak_aload_n d rfl rfl) <|
  am_kd (fun d => ak_getI (C := RX5) (T := TX5) (N := 7) rfl inX5w (by decide) rfl rfl rfl wd_171 d rfl) <|
  am_kd (fun d => ak_iconst d (by decide +kernel) rfl) <|
  am_kd (fun d => ak_callV (C := RX5) (F := TX5) (N := 7) metX5_blame rfl ⟨rfl, hy_X5_blame⟩ (am_w5 wd_676 wd_678 wd_14 wd_65 wd_679) (by decide) d rfl) <|
  am_kd (fun d => ak_retV d) <| am_kdn
def TX5_add : am_T := fun live as M R => match as with
  | [.ref t, .int g] => am_tP live t (fun s c => am_t0 M t ∧ ((M.1 t 5).toInt < 50 → ∀ M', am_ch (am_tS t c) (am_wI (am_wI M s (M.1 t 5).toNatClampNeg g) t 5 (M.1 t 5 + 1)) M' → am_t0 M' t → R none M') ∧ (50 ≤ (M.1 t 5).toInt → R none M))
  | _ => False
set_option maxRecDepth 100000 in
set_option maxHeartbeats 4000000 in
theorem metX5_add : am_Met yX5_add cX5_add 2 none (333) (8421) TX5_add := by
  refine am_met (own := RX5) (by decide +kernel) rfl kX5_add koX5_add 120 (fun _ _ _ _ _ => none) (fun live as M Ret h => ?_) (fun _ _ _ _ _ _ _ _ hI => by cases hI)
  unfold TX5_add at h
  split at h
  · next t g =>
    refine ⟨Nat.le_of_ble_eq_true rfl, ?_⟩
    change am_wp _ _ _ _ [(0, Value.ref t), (1, Value.int g)] _ _
    have hh := am_tP_mp h
    clear h
    obtain ⟨s, c, h2, h6, hb, h1, h3, h7, h4, h8, h9, h5, h10, hT, h, hn⟩ := hh
    repeat' (first | (with_reducible exact h1) | (with_reducible exact h2) | (with_reducible exact h3) | (with_reducible exact hb) | (with_reducible exact h6) | (with_reducible exact h7) | (refine Exists.intro _ (Exists.intro _ (And.intro h2 (And.intro h6 ?_)))) | (refine Exists.intro _ (And.intro h2 ?_)) | (refine Exists.intro _ (And.intro h6 ?_)) | apply And.intro | exact rfl | intro hx | (refine Exists.intro _ (And.intro rfl ?_)) | ((with_reducible change _ = true); simp only [h1, h2, h3, hb, h6, h7, Bool.true_and]; rfl))
    all_goals try first | (with_reducible change am_tI _ _) | (change Ret _ _) | (change Ret _ _ _) | (change Exists _)
    all_goals try dsimp only at *
    all_goals try (with_reducible exact absurd ‹(1000 : Int64) = 0› am_z1000)
    all_goals obtain ⟨-, q1, q2⟩ := hT
    all_goals have e5 : ∀ k, (am_wI M s k g).1 t 5 = M.1 t 5 := fun k => by rw [am_wI_1, if_neg (fun z => h5 z.1)]
    · omega
    · rw [h4]; simp only [i_lt, Int32.reduceToInt] at hx; omega
    · simp only [i_lt, Int32.reduceToInt] at hx
      have hi := i_add (x := M.1 t 5) (y := 1) (by simp only [Int32.reduceToInt]; omega) (by simp only [Int32.reduceToInt]; omega)
      simp only [Int32.reduceToInt] at hi
      refine am_tI_of ?_ ?_ ?_ ?_ ?_
      all_goals simp [am_wI_1, h5, -Int32.toInt_add]
      all_goals omega
    · decide
    · decide
    · decide
    · with_reducible assumption
    · rename_i hlt M1 c1 i1 p hp
      simp only [i_lt, Int32.reduceToInt] at hlt
      rw [e5] at c1
      exact h (by omega) _ ((((((am_ch.rf.wI am_tS_2).wI am_tS_3).wI am_tS_4).wI am_tS_6).tr c1).wI am_tS_3) (am_t0_I (am_tI_w3 i1 hp))
    · rename_i hlt M1 c1 i1 p hp
      simp only [i_lt, Int32.reduceToInt] at hlt
      rw [e5] at c1
      exact h (by omega) _ (am_ch_blame ((((((am_ch.rf.wI am_tS_2).wI am_tS_3).wI am_tS_4).wI am_tS_6).tr c1).wI am_tS_3)) (am_t0_I (am_tI_blame (am_tI_w3 i1 hp)))
    · simp only [i_lt, Int32.reduceToInt] at hx
      exact hn (by omega)
  · exact h.elim
def rwX5_clear : List dz_r := [(0, .aload_n 0, 1), (1, .iconst 0, 1), (2, .putfield 22, 3), (5, .aload_n 0, 1), (6, .iconst 0, 1), (7, .putfield 25, 3), (10, .aload_n 0, 1), (11, .iconst 1, 1), (12, .putfield 18, 3), (15, .return_, 1)]
theorem dzX5_clear : dz cX5_clear rwX5_clear := dz_all 0 (by decide +kernel)
def kX5_clear (live : am_E) (Ret : am_R) : am_code := [(0, am_aload 0 1), (1, am_const (.int 0) 2), (2, am_putI live 5 5 5), (5, am_aload 0 6), (6, am_const (.int 0) 7), (7, am_putI live 5 2 10), (10, am_aload 0 11), (11, am_const (.int 1) 12), (12, am_putI live 5 6 15), (15, am_retV Ret)]
theorem koX5_clear (live : am_E) (Ret : am_R) : ∀ q ∈ kX5_clear live Ret, am_ok RX5 cX5_clear 1 none 0 0 live Ret q.1 q.2 :=
  am_kz dzX5_clear <|
  am_kd (fun d => ak_aload_n d rfl rfl) <|
  am_kd (fun d => ak_iconst d (by decide +kernel) rfl) <|
  am_kd (fun d => ak_putI (C := RX5) (T := TX5) (N := 7) rfl inX5w tyX5_ok nmX5 (by decide) rfl rfl rfl rfl (by decide +kernel) wd_173 d rfl) <|
  am_kd (fun d => ak_aload_n d rfl rfl) <|
  am_kd (fun d => ak_iconst d (by decide +kernel) rfl) <|
  am_kd (fun d => ak_putI (C := RX5) (T := TX5) (N := 7) rfl inX5w tyX5_ok nmX5 (by decide) rfl rfl rfl rfl (by decide +kernel) wd_170 d rfl) <|
  am_kd (fun d => ak_aload_n d rfl rfl) <|
  am_kd (fun d => ak_iconst d (by decide +kernel) rfl) <|
  am_kd (fun d => ak_putI (C := RX5) (T := TX5) (N := 7) rfl inX5w tyX5_ok nmX5 (by decide) rfl rfl rfl rfl (by decide +kernel) wd_175 d rfl) <|
  am_kd (fun d => ak_retV d) <| am_kdn
def TX5_clear : am_T := fun live as M R => match as with
  | [.ref t] => am_if (am_isO live 5 t) (R none (am_wI (am_wI (am_wI M t 5 0) t 2 0) t 6 1))
  | _ => False
set_option maxRecDepth 100000 in
set_option maxHeartbeats 4000000 in
theorem metX5_clear : am_Met yX5_clear cX5_clear 1 none (0) (0) TX5_clear := by
  refine am_met (own := RX5) (by decide +kernel) rfl kX5_clear koX5_clear 60 (fun _ _ _ _ _ => none) (fun live as M Ret h => ?_) (fun _ _ _ _ _ _ _ _ hI => by cases hI)
  unfold TX5_clear at h
  split at h
  · next t =>
    refine ⟨Nat.le_of_ble_eq_true rfl, ?_⟩
    change am_wp _ _ _ _ [(0, Value.ref t)] _ _
    have hh := am_if_mp h
    clear h
    obtain ⟨h1, h⟩ := hh
    repeat' (first | (with_reducible exact h1) | apply And.intro | exact rfl | intro hx | (refine Exists.intro _ (And.intro rfl ?_)) | ((with_reducible change _ = true); simp only [h1, Bool.true_and]; rfl))
    all_goals try first | (with_reducible change am_tI _ _) | (change Ret _ _) | (change Ret _ _ _) | (change Exists _)
    all_goals try dsimp only at *
    all_goals try (with_reducible exact absurd ‹(1000 : Int64) = 0› am_z1000)
    exact h
  · exact h.elim
set_option maxRecDepth 100000 in
theorem wd_888 : Cond.constantLong "LearnLoans$Text" 52 31 ∈ am_ws := am_wt4 (List.mem_of_getElem? (i := 111) (by rfl)) (by decide +kernel)
def rwX5_mixed : List dz_r := [(0, .ldc2_w 52, 3), (3, .lload_n 1, 1), (4, .lmul, 1), (5, .aload_n 0, 1), (6, .getfield 22, 3), (9, .i2l, 1), (10, .ladd, 1), (11, .lstore_n 1, 1), (12, .iconst 0, 1), (13, .istore_n 3, 1), (14, .iload_n 3, 1), (15, .aload_n 0, 1), (16, .getfield 22, 3), (19, .if_icmp .ge 29, 3), (22, .iload_n 3, 1), (23, .bipush 50, 2), (25, .if_icmp .ge 23, 3), (28, .ldc2_w 52, 3), (31, .lload_n 1, 1), (32, .lmul, 1), (33, .aload_n 0, 1), (34, .getfield 9, 3), (37, .iload_n 3, 1), (38, .iaload, 1), (39, .i2l, 1), (40, .ladd, 1), (41, .lstore_n 1, 1), (42, .iinc 3 1, 3), (45, .goto (-31), 3), (48, .lload_n 1, 1), (49, .lreturn, 1)]
theorem dzX5_mixed : dz cX5_mixed rwX5_mixed := dz_all 0 (by decide +kernel)
def kX5_mixed (live : am_E) (Ret : am_R) : am_code := [(0, am_const (.long 31) 3), (3, am_lload 1 4), (4, am_l2 (fun x y => x * y) 5), (5, am_aload 0 6), (6, am_getI live 5 5 9), (9, am_i2l 10), (10, am_l2 (fun x y => x + y) 11), (11, am_lstore 1 4 12), (12, am_const (.int 0) 13), (13, am_istore 3 4 14), (14, am_iload 3 15), (15, am_aload 0 16), (16, am_getI live 5 5 19), (19, am_if2 (fun x y => y ≤ x) 48 22), (22, am_iload 3 23), (23, am_const (.int 50) 25), (25, am_if2 (fun x y => y ≤ x) 48 28), (28, am_const (.long 31) 31), (31, am_lload 1 32), (32, am_l2 (fun x y => x * y) 33), (33, am_aload 0 34), (34, am_getR live 5 0 37), (37, am_iload 3 38), (38, am_ald live 0 39), (39, am_i2l 40), (40, am_l2 (fun x y => x + y) 41), (41, am_lstore 1 4 42), (42, am_iinc 3 4 1 45), (45, am_goto 14), (48, am_lload 1 49), (49, am_retL Ret)]
theorem koX5_mixed (live : am_E) (Ret : am_R) : ∀ q ∈ kX5_mixed live Ret, am_ok RX5 cX5_mixed 4 (some .long) 0 0 live Ret q.1 q.2 :=
  am_kz dzX5_mixed <|
  am_kd (fun d => ak_ldc2 wd_888 d rfl) <|
  am_kd (fun d => ak_lload_n d rfl rfl) <|
  am_kd (fun d => ak_lmul d rfl) <|
  am_kd (fun d => ak_aload_n d rfl rfl) <|
  am_kd (fun d => ak_getI (C := RX5) (T := TX5) (N := 7) rfl inX5w (by decide) rfl rfl rfl wd_173 d rfl) <|
  am_kd (fun d => ak_i2l d rfl) <|
  am_kd (fun d => ak_ladd d rfl) <|
  am_kd (fun d => ak_lstore_n d rfl rfl) <|
  am_kd (fun d => ak_iconst d (by decide +kernel) rfl) <|
  am_kd (fun d => ak_istore_n d rfl rfl) <|
  am_kd (fun d => ak_iload_n d rfl rfl) <|
  am_kd (fun d => ak_aload_n d rfl rfl) <|
  am_kd (fun d => ak_getI (C := RX5) (T := TX5) (N := 7) rfl inX5w (by decide) rfl rfl rfl wd_173 d rfl) <|
  am_kd (fun d => ak_icmp_ge d (by decide +kernel) rfl) <|
  am_kd (fun d => ak_iload_n d rfl rfl) <|
  am_kd (fun d => ak_bipush d (by decide +kernel) rfl) <|
  am_kd (fun d => ak_icmp_ge d (by decide +kernel) rfl) <|
  am_kd (fun d => ak_ldc2 wd_888 d rfl) <|
  am_kd (fun d => ak_lload_n d rfl rfl) <|
  am_kd (fun d => ak_lmul d rfl) <|
  am_kd (fun d => ak_aload_n d rfl rfl) <|
  am_kd (fun d => ak_getR (C := RX5) (T := TX5) (N := 7) rfl inX5w (by decide) rfl rfl rfl wd_168 d rfl) <|
  am_kd (fun d => ak_iload_n d rfl rfl) <|
  am_kd (fun d => ak_iald (t := 0) (fun _ => rfl) rfl d rfl) <|
  am_kd (fun d => ak_i2l d rfl) <|
  am_kd (fun d => ak_ladd d rfl) <|
  am_kd (fun d => ak_lstore_n d rfl rfl) <|
  am_kd (fun d => ak_iinc d (by decide +kernel) rfl) <|
  am_kd (fun d => ak_goto d (by decide +kernel)) <|
  am_kd (fun d => ak_lload_n d rfl rfl) <|
  am_kd (fun d => ak_retL d) <| am_kdn
def TX5_mixed : am_T := fun live as M R => match as with
  | [.ref t, .long x] => am_tP live t (fun s c => ∀ y, R (some (.long y)) M)
  | _ => False
def JX5_mixed : am_E → List Value → am_M → am_R → am_inv := fun live as M0 _ pc => match as with
  | [.ref t, .long x] => (match pc with
    | 14 => some ([0, 1, 3], fun k L st M => ∃ (y : Int64) (i : Int32), L = [(0, .ref t), (1, .long y), (3, .int i)] ∧ st = [] ∧ k = ((51 - i.toInt).toNat, 0) ∧ 0 ≤ i.toInt ∧ M = M0)
    | _ => none)
  | _ => none
set_option maxRecDepth 100000 in
set_option maxHeartbeats 4000000 in
theorem metX5_mixed : am_Met yX5_mixed cX5_mixed 4 (some .long) (0) (0) TX5_mixed := by
  refine am_met (own := RX5) (by decide +kernel) rfl kX5_mixed koX5_mixed 60 JX5_mixed ?_ ?_
  · intro live as M Ret h
    unfold TX5_mixed at h
    split at h
    · next t x =>
      refine ⟨Nat.le_of_ble_eq_true rfl, ?_⟩
      change am_wp _ _ _ _ [(0, Value.ref t), (1, Value.long x)] _ _
      have hh := am_tP_mp h
      clear h
      obtain ⟨s, c, h2, h6, hb, h1, h3, h7, h4, h8, h9, h5, h10, h⟩ := hh
      repeat' (first | (with_reducible exact h1) | (with_reducible exact h2) | (with_reducible exact h3) | (with_reducible exact hb) | (with_reducible exact h6) | (with_reducible exact h7) | (refine Exists.intro _ (Exists.intro _ (And.intro h2 (And.intro h6 ?_)))) | (refine Exists.intro _ (And.intro h2 ?_)) | (refine Exists.intro _ (And.intro h6 ?_)) | apply And.intro | exact rfl | intro hx | (refine Exists.intro _ (And.intro rfl ?_)) | ((with_reducible change _ = true); simp only [h1, h2, h3, hb, h6, h7, Bool.true_and]; rfl))
      all_goals try first | (with_reducible change am_tI _ _) | (change Ret _ _) | (change Ret _ _ _) | (change Exists _)
      all_goals try dsimp only at *
      all_goals try (with_reducible exact absurd ‹(1000 : Int64) = 0› am_z1000)
      exact ⟨_, _, _, rfl, rfl, rfl, by decide, rfl⟩
    · exact h.elim
  · intro live as M0 Ret h k pc I hI L st M hi
    unfold TX5_mixed at h
    split at h
    · next t x =>
      have hh := am_tP_mp h
      clear h
      obtain ⟨s, c, h2, h6, hb, h1, h3, h7, h4, h8, h9, h5, h10, h⟩ := hh
      change (match pc with | 14 => _ | _ => none) = _ at hI
      split at hI
      · cases hI
        obtain ⟨y, i, rfl, rfl, rfl, e1, rfl⟩ := hi
        repeat' (first | (with_reducible exact h1) | (with_reducible exact h2) | (with_reducible exact h3) | (with_reducible exact hb) | (with_reducible exact h6) | (with_reducible exact h7) | (refine Exists.intro _ (Exists.intro _ (And.intro h2 (And.intro h6 ?_)))) | (refine Exists.intro _ (And.intro h2 ?_)) | (refine Exists.intro _ (And.intro h6 ?_)) | apply And.intro | exact rfl | intro hx | (refine Exists.intro _ (And.intro rfl ?_)) | ((with_reducible change _ = true); simp only [h1, h2, h3, hb, h6, h7, Bool.true_and]; rfl))
        all_goals try first | (with_reducible change am_tI _ _) | (change Ret _ _) | (change Ret _ _ _) | (change Exists _)
        all_goals try dsimp only at *
        all_goals try (with_reducible exact absurd ‹(1000 : Int64) = 0› am_z1000)
        all_goals try exact h _
        · omega
        · simp only [i_le, Int32.reduceToInt] at hx; rw [h4]; omega
        · refine ⟨_, Or.inl ?_, _, i + 1, rfl, rfl, rfl, ?_, rfl⟩
          all_goals simp only [i_le, Int32.reduceToInt] at hx
          all_goals
            have hi := i_add (x := i) (y := 1) (by simp only [Int32.reduceToInt]; omega) (by simp only [Int32.reduceToInt]; omega)
            simp only [Int32.reduceToInt] at hi
            omega
      · cases hI
    · exact h.elim
end
