/-! small methods of the class -/
theorem dX7_within_0 : decode cX7_within 0 = .ok (.iload_n 0, 1) := by decide +kernel
theorem dX7_within_1 : decode cX7_within 1 = .ok (.iload_n 1, 1) := by decide +kernel
theorem dX7_within_2 : decode cX7_within 2 = .ok (.if_icmp .lt 12, 3) := by decide +kernel
theorem dX7_within_5 : decode cX7_within 5 = .ok (.iload_n 0, 1) := by decide +kernel
theorem dX7_within_6 : decode cX7_within 6 = .ok (.iload_n 2, 1) := by decide +kernel
theorem dX7_within_7 : decode cX7_within 7 = .ok (.if_icmp .gt 7, 3) := by decide +kernel
theorem dX7_within_10 : decode cX7_within 10 = .ok (.iconst 1, 1) := by decide +kernel
theorem dX7_within_11 : decode cX7_within 11 = .ok (.goto 4, 3) := by decide +kernel
theorem dX7_within_14 : decode cX7_within 14 = .ok (.iconst 0, 1) := by decide +kernel
theorem dX7_within_15 : decode cX7_within 15 = .ok (.ireturn, 1) := by decide +kernel
def kX7_within (live : am_E) (Ret : am_R) : am_code := [(0, am_iload 0 1), (1, am_iload 1 2), (2, am_if2 (fun x y => x < y) 14 5), (5, am_iload 0 6), (6, am_iload 2 7), (7, am_if2 (fun x y => y < x) 14 10), (10, am_const (.int 1) 11), (11, am_goto 15), (14, am_const (.int 0) 15), (15, am_retZ Ret)]
theorem koX7_within (live : am_E) (Ret : am_R) : ∀ q ∈ kX7_within live Ret, am_ok RX7 cX7_within 3 (some .boolean) 0 0 live Ret q.1 q.2 :=
  am_kc (ak_iload_n dX7_within_0 rfl rfl) <|
  am_kc (ak_iload_n dX7_within_1 rfl rfl) <|
  am_kc (ak_icmp_lt dX7_within_2 (by decide +kernel) rfl) <|
  am_kc (ak_iload_n dX7_within_5 rfl rfl) <|
  am_kc (ak_iload_n dX7_within_6 rfl rfl) <|
  am_kc (ak_icmp_gt dX7_within_7 (by decide +kernel) rfl) <|
  am_kc (ak_iconst dX7_within_10 (by decide +kernel) rfl) <|
  am_kc (ak_goto dX7_within_11 (by decide +kernel)) <|
  am_kc (ak_iconst dX7_within_14 (by decide +kernel) rfl) <|
  am_kc (ak_retZ dX7_within_15) <| am_kn
def TX7_within : am_T := fun _ as M R => match as with
  | [.int v, .int a, .int b] => R (some (.int (if a ≤ v ∧ v ≤ b then 1 else 0))) M
  | _ => False
set_option maxRecDepth 100000 in
set_option maxHeartbeats 4000000 in
theorem metX7_within : am_Met yX7_within cX7_within 3 (some .boolean) (0) (0) TX7_within := by
  refine am_met (own := RX7) (by decide +kernel) rfl kX7_within koX7_within 60 (fun _ _ _ _ _ => none) (fun live as M Ret h => ?_) (fun _ _ _ _ _ _ _ _ hI => by cases hI)
  unfold TX7_within at h
  split at h
  · next v a b =>
    refine ⟨Nat.le_of_ble_eq_true rfl, ?_⟩
    change am_wp _ _ _ _ [(0, Value.int v), (1, Value.int a), (2, Value.int b)] _ _
    repeat' (first | apply And.intro | exact rfl | intro hx | (refine Exists.intro _ (And.intro rfl ?_)))
    all_goals try first | (with_reducible change am_tI _ _) | (change Ret _ _) | (change Ret _ _ _) | (change Exists _)
    all_goals try dsimp only at *
    all_goals try exact absurd ‹(1000 : Int64) = 0› (by decide)
    all_goals first | (left; rfl) | (right; rfl) | grind
  · exact h.elim
theorem dX7_isYear_0 : decode cX7_isYear 0 = .ok (.iload_n 0, 1) := by decide +kernel
theorem dX7_isYear_1 : decode cX7_isYear 1 = .ok (.ifCond .lt 13, 3) := by decide +kernel
theorem dX7_isYear_4 : decode cX7_isYear 4 = .ok (.iload_n 0, 1) := by decide +kernel
theorem dX7_isYear_5 : decode cX7_isYear 5 = .ok (.bipush 40, 2) := by decide +kernel
theorem dX7_isYear_7 : decode cX7_isYear 7 = .ok (.if_icmp .ge 7, 3) := by decide +kernel
theorem dX7_isYear_10 : decode cX7_isYear 10 = .ok (.iconst 1, 1) := by decide +kernel
theorem dX7_isYear_11 : decode cX7_isYear 11 = .ok (.goto 4, 3) := by decide +kernel
theorem dX7_isYear_14 : decode cX7_isYear 14 = .ok (.iconst 0, 1) := by decide +kernel
theorem dX7_isYear_15 : decode cX7_isYear 15 = .ok (.ireturn, 1) := by decide +kernel
def kX7_isYear (live : am_E) (Ret : am_R) : am_code := [(0, am_iload 0 1), (1, am_if1 (fun x => x < 0) 14 4), (4, am_iload 0 5), (5, am_const (.int 40) 7), (7, am_if2 (fun x y => y ≤ x) 14 10), (10, am_const (.int 1) 11), (11, am_goto 15), (14, am_const (.int 0) 15), (15, am_retZ Ret)]
theorem koX7_isYear (live : am_E) (Ret : am_R) : ∀ q ∈ kX7_isYear live Ret, am_ok RX7 cX7_isYear 1 (some .boolean) 0 0 live Ret q.1 q.2 :=
  am_kc (ak_iload_n dX7_isYear_0 rfl rfl) <|
  am_kc (ak_if_lt dX7_isYear_1 (by decide +kernel) rfl) <|
  am_kc (ak_iload_n dX7_isYear_4 rfl rfl) <|
  am_kc (ak_bipush dX7_isYear_5 (by decide +kernel) rfl) <|
  am_kc (ak_icmp_ge dX7_isYear_7 (by decide +kernel) rfl) <|
  am_kc (ak_iconst dX7_isYear_10 (by decide +kernel) rfl) <|
  am_kc (ak_goto dX7_isYear_11 (by decide +kernel)) <|
  am_kc (ak_iconst dX7_isYear_14 (by decide +kernel) rfl) <|
  am_kc (ak_retZ dX7_isYear_15) <| am_kn
def TX7_isYear : am_T := fun _ as M R => match as with
  | [.int v] => R (some (.int (if 0 ≤ v ∧ v < 40 then 1 else 0))) M
  | _ => False
set_option maxRecDepth 100000 in
set_option maxHeartbeats 4000000 in
theorem metX7_isYear : am_Met yX7_isYear cX7_isYear 1 (some .boolean) (0) (0) TX7_isYear := by
  refine am_met (own := RX7) (by decide +kernel) rfl kX7_isYear koX7_isYear 60 (fun _ _ _ _ _ => none) (fun live as M Ret h => ?_) (fun _ _ _ _ _ _ _ _ hI => by cases hI)
  unfold TX7_isYear at h
  split at h
  · next v =>
    refine ⟨Nat.le_of_ble_eq_true rfl, ?_⟩
    change am_wp _ _ _ _ [(0, Value.int v)] _ _
    repeat' (first | apply And.intro | exact rfl | intro hx | (refine Exists.intro _ (And.intro rfl ?_)))
    all_goals try first | (with_reducible change am_tI _ _) | (change Ret _ _) | (change Ret _ _ _) | (change Exists _)
    all_goals try dsimp only at *
    all_goals try exact absurd ‹(1000 : Int64) = 0› (by decide)
    all_goals first | (left; rfl) | (right; rfl) | grind
  · exact h.elim
theorem dX7_isSpan_0 : decode cX7_isSpan 0 = .ok (.iload_n 0, 1) := by decide +kernel
theorem dX7_isSpan_1 : decode cX7_isSpan 1 = .ok (.ifCond .lt 18, 3) := by decide +kernel
theorem dX7_isSpan_4 : decode cX7_isSpan 4 = .ok (.iload_n 0, 1) := by decide +kernel
theorem dX7_isSpan_5 : decode cX7_isSpan 5 = .ok (.iload_n 1, 1) := by decide +kernel
theorem dX7_isSpan_6 : decode cX7_isSpan 6 = .ok (.if_icmp .gt 13, 3) := by decide +kernel
theorem dX7_isSpan_9 : decode cX7_isSpan 9 = .ok (.iload_n 1, 1) := by decide +kernel
theorem dX7_isSpan_10 : decode cX7_isSpan 10 = .ok (.bipush 40, 2) := by decide +kernel
theorem dX7_isSpan_12 : decode cX7_isSpan 12 = .ok (.if_icmp .ge 7, 3) := by decide +kernel
theorem dX7_isSpan_15 : decode cX7_isSpan 15 = .ok (.iconst 1, 1) := by decide +kernel
theorem dX7_isSpan_16 : decode cX7_isSpan 16 = .ok (.goto 4, 3) := by decide +kernel
theorem dX7_isSpan_19 : decode cX7_isSpan 19 = .ok (.iconst 0, 1) := by decide +kernel
theorem dX7_isSpan_20 : decode cX7_isSpan 20 = .ok (.ireturn, 1) := by decide +kernel
def kX7_isSpan (live : am_E) (Ret : am_R) : am_code := [(0, am_iload 0 1), (1, am_if1 (fun x => x < 0) 19 4), (4, am_iload 0 5), (5, am_iload 1 6), (6, am_if2 (fun x y => y < x) 19 9), (9, am_iload 1 10), (10, am_const (.int 40) 12), (12, am_if2 (fun x y => y ≤ x) 19 15), (15, am_const (.int 1) 16), (16, am_goto 20), (19, am_const (.int 0) 20), (20, am_retZ Ret)]
theorem koX7_isSpan (live : am_E) (Ret : am_R) : ∀ q ∈ kX7_isSpan live Ret, am_ok RX7 cX7_isSpan 2 (some .boolean) 0 0 live Ret q.1 q.2 :=
  am_kc (ak_iload_n dX7_isSpan_0 rfl rfl) <|
  am_kc (ak_if_lt dX7_isSpan_1 (by decide +kernel) rfl) <|
  am_kc (ak_iload_n dX7_isSpan_4 rfl rfl) <|
  am_kc (ak_iload_n dX7_isSpan_5 rfl rfl) <|
  am_kc (ak_icmp_gt dX7_isSpan_6 (by decide +kernel) rfl) <|
  am_kc (ak_iload_n dX7_isSpan_9 rfl rfl) <|
  am_kc (ak_bipush dX7_isSpan_10 (by decide +kernel) rfl) <|
  am_kc (ak_icmp_ge dX7_isSpan_12 (by decide +kernel) rfl) <|
  am_kc (ak_iconst dX7_isSpan_15 (by decide +kernel) rfl) <|
  am_kc (ak_goto dX7_isSpan_16 (by decide +kernel)) <|
  am_kc (ak_iconst dX7_isSpan_19 (by decide +kernel) rfl) <|
  am_kc (ak_retZ dX7_isSpan_20) <| am_kn
def TX7_isSpan : am_T := fun _ as M R => match as with
  | [.int a, .int b] => R (some (.int (if 0 ≤ a ∧ a ≤ b ∧ b < 40 then 1 else 0))) M
  | _ => False
set_option maxRecDepth 100000 in
set_option maxHeartbeats 4000000 in
theorem metX7_isSpan : am_Met yX7_isSpan cX7_isSpan 2 (some .boolean) (0) (0) TX7_isSpan := by
  refine am_met (own := RX7) (by decide +kernel) rfl kX7_isSpan koX7_isSpan 60 (fun _ _ _ _ _ => none) (fun live as M Ret h => ?_) (fun _ _ _ _ _ _ _ _ hI => by cases hI)
  unfold TX7_isSpan at h
  split at h
  · next a b =>
    refine ⟨Nat.le_of_ble_eq_true rfl, ?_⟩
    change am_wp _ _ _ _ [(0, Value.int a), (1, Value.int b)] _ _
    repeat' (first | apply And.intro | exact rfl | intro hx | (refine Exists.intro _ (And.intro rfl ?_)))
    all_goals try first | (with_reducible change am_tI _ _) | (change Ret _ _) | (change Ret _ _ _) | (change Exists _)
    all_goals try dsimp only at *
    all_goals try exact absurd ‹(1000 : Int64) = 0› (by decide)
    all_goals first | (left; rfl) | (right; rfl) | grind
  · exact h.elim
set_option maxRecDepth 100000 in
theorem wd_449 : Cond.constant "LearnLoans" 275 10000000 ∈ am_ws := am_wsi (List.mem_of_getElem? (i := 449) (by rfl)) (by decide +kernel)
theorem dX7_isPence_0 : decode cX7_isPence 0 = .ok (.iload_n 0, 1) := by decide +kernel
theorem dX7_isPence_1 : decode cX7_isPence 1 = .ok (.ifCond .lt 14, 3) := by decide +kernel
theorem dX7_isPence_4 : decode cX7_isPence 4 = .ok (.iload_n 0, 1) := by decide +kernel
theorem dX7_isPence_5 : decode cX7_isPence 5 = .ok (.ldc_w 275, 3) := by decide +kernel
theorem dX7_isPence_8 : decode cX7_isPence 8 = .ok (.if_icmp .gt 7, 3) := by decide +kernel
theorem dX7_isPence_11 : decode cX7_isPence 11 = .ok (.iconst 1, 1) := by decide +kernel
theorem dX7_isPence_12 : decode cX7_isPence 12 = .ok (.goto 4, 3) := by decide +kernel
theorem dX7_isPence_15 : decode cX7_isPence 15 = .ok (.iconst 0, 1) := by decide +kernel
theorem dX7_isPence_16 : decode cX7_isPence 16 = .ok (.ireturn, 1) := by decide +kernel
def kX7_isPence (live : am_E) (Ret : am_R) : am_code := [(0, am_iload 0 1), (1, am_if1 (fun x => x < 0) 15 4), (4, am_iload 0 5), (5, am_const (.int 10000000) 8), (8, am_if2 (fun x y => y < x) 15 11), (11, am_const (.int 1) 12), (12, am_goto 16), (15, am_const (.int 0) 16), (16, am_retZ Ret)]
theorem koX7_isPence (live : am_E) (Ret : am_R) : ∀ q ∈ kX7_isPence live Ret, am_ok RX7 cX7_isPence 1 (some .boolean) 0 0 live Ret q.1 q.2 :=
  am_kc (ak_iload_n dX7_isPence_0 rfl rfl) <|
  am_kc (ak_if_lt dX7_isPence_1 (by decide +kernel) rfl) <|
  am_kc (ak_iload_n dX7_isPence_4 rfl rfl) <|
  am_kc (ak_ldcw wd_449 dX7_isPence_5 rfl) <|
  am_kc (ak_icmp_gt dX7_isPence_8 (by decide +kernel) rfl) <|
  am_kc (ak_iconst dX7_isPence_11 (by decide +kernel) rfl) <|
  am_kc (ak_goto dX7_isPence_12 (by decide +kernel)) <|
  am_kc (ak_iconst dX7_isPence_15 (by decide +kernel) rfl) <|
  am_kc (ak_retZ dX7_isPence_16) <| am_kn
def TX7_isPence : am_T := fun _ as M R => match as with
  | [.int v] => R (some (.int (if 0 ≤ v ∧ v ≤ 10000000 then 1 else 0))) M
  | _ => False
set_option maxRecDepth 100000 in
set_option maxHeartbeats 4000000 in
theorem metX7_isPence : am_Met yX7_isPence cX7_isPence 1 (some .boolean) (0) (0) TX7_isPence := by
  refine am_met (own := RX7) (by decide +kernel) rfl kX7_isPence koX7_isPence 60 (fun _ _ _ _ _ => none) (fun live as M Ret h => ?_) (fun _ _ _ _ _ _ _ _ hI => by cases hI)
  unfold TX7_isPence at h
  split at h
  · next v =>
    refine ⟨Nat.le_of_ble_eq_true rfl, ?_⟩
    change am_wp _ _ _ _ [(0, Value.int v)] _ _
    repeat' (first | apply And.intro | exact rfl | intro hx | (refine Exists.intro _ (And.intro rfl ?_)))
    all_goals try first | (with_reducible change am_tI _ _) | (change Ret _ _) | (change Ret _ _ _) | (change Exists _)
    all_goals try dsimp only at *
    all_goals try exact absurd ‹(1000 : Int64) = 0› (by decide)
    all_goals first | (left; rfl) | (right; rfl) | grind
  · exact h.elim
theorem dX7_isPlan_0 : decode cX7_isPlan 0 = .ok (.iload_n 0, 1) := by decide +kernel
theorem dX7_isPlan_1 : decode cX7_isPlan 1 = .ok (.ifCond .lt 12, 3) := by decide +kernel
theorem dX7_isPlan_4 : decode cX7_isPlan 4 = .ok (.iload_n 0, 1) := by decide +kernel
theorem dX7_isPlan_5 : decode cX7_isPlan 5 = .ok (.iconst 5, 1) := by decide +kernel
theorem dX7_isPlan_6 : decode cX7_isPlan 6 = .ok (.if_icmp .ge 7, 3) := by decide +kernel
theorem dX7_isPlan_9 : decode cX7_isPlan 9 = .ok (.iconst 1, 1) := by decide +kernel
theorem dX7_isPlan_10 : decode cX7_isPlan 10 = .ok (.goto 4, 3) := by decide +kernel
theorem dX7_isPlan_13 : decode cX7_isPlan 13 = .ok (.iconst 0, 1) := by decide +kernel
theorem dX7_isPlan_14 : decode cX7_isPlan 14 = .ok (.ireturn, 1) := by decide +kernel
def kX7_isPlan (live : am_E) (Ret : am_R) : am_code := [(0, am_iload 0 1), (1, am_if1 (fun x => x < 0) 13 4), (4, am_iload 0 5), (5, am_const (.int 5) 6), (6, am_if2 (fun x y => y ≤ x) 13 9), (9, am_const (.int 1) 10), (10, am_goto 14), (13, am_const (.int 0) 14), (14, am_retZ Ret)]
theorem koX7_isPlan (live : am_E) (Ret : am_R) : ∀ q ∈ kX7_isPlan live Ret, am_ok RX7 cX7_isPlan 1 (some .boolean) 0 0 live Ret q.1 q.2 :=
  am_kc (ak_iload_n dX7_isPlan_0 rfl rfl) <|
  am_kc (ak_if_lt dX7_isPlan_1 (by decide +kernel) rfl) <|
  am_kc (ak_iload_n dX7_isPlan_4 rfl rfl) <|
  am_kc (ak_iconst dX7_isPlan_5 (by decide +kernel) rfl) <|
  am_kc (ak_icmp_ge dX7_isPlan_6 (by decide +kernel) rfl) <|
  am_kc (ak_iconst dX7_isPlan_9 (by decide +kernel) rfl) <|
  am_kc (ak_goto dX7_isPlan_10 (by decide +kernel)) <|
  am_kc (ak_iconst dX7_isPlan_13 (by decide +kernel) rfl) <|
  am_kc (ak_retZ dX7_isPlan_14) <| am_kn
def TX7_isPlan : am_T := fun _ as M R => match as with
  | [.int v] => R (some (.int (if 0 ≤ v ∧ v < 5 then 1 else 0))) M
  | _ => False
set_option maxRecDepth 100000 in
set_option maxHeartbeats 4000000 in
theorem metX7_isPlan : am_Met yX7_isPlan cX7_isPlan 1 (some .boolean) (0) (0) TX7_isPlan := by
  refine am_met (own := RX7) (by decide +kernel) rfl kX7_isPlan koX7_isPlan 60 (fun _ _ _ _ _ => none) (fun live as M Ret h => ?_) (fun _ _ _ _ _ _ _ _ hI => by cases hI)
  unfold TX7_isPlan at h
  split at h
  · next v =>
    refine ⟨Nat.le_of_ble_eq_true rfl, ?_⟩
    change am_wp _ _ _ _ [(0, Value.int v)] _ _
    repeat' (first | apply And.intro | exact rfl | intro hx | (refine Exists.intro _ (And.intro rfl ?_)))
    all_goals try first | (with_reducible change am_tI _ _) | (change Ret _ _) | (change Ret _ _ _) | (change Exists _)
    all_goals try dsimp only at *
    all_goals try exact absurd ‹(1000 : Int64) = 0› (by decide)
    all_goals first | (left; rfl) | (right; rfl) | grind
  · exact h.elim
theorem dX7_isChance_0 : decode cX7_isChance 0 = .ok (.iload_n 0, 1) := by decide +kernel
theorem dX7_isChance_1 : decode cX7_isChance 1 = .ok (.ifCond .lt 13, 3) := by decide +kernel
theorem dX7_isChance_4 : decode cX7_isChance 4 = .ok (.iload_n 0, 1) := by decide +kernel
theorem dX7_isChance_5 : decode cX7_isChance 5 = .ok (.bipush 10, 2) := by decide +kernel
theorem dX7_isChance_7 : decode cX7_isChance 7 = .ok (.if_icmp .gt 7, 3) := by decide +kernel
theorem dX7_isChance_10 : decode cX7_isChance 10 = .ok (.iconst 1, 1) := by decide +kernel
theorem dX7_isChance_11 : decode cX7_isChance 11 = .ok (.goto 4, 3) := by decide +kernel
theorem dX7_isChance_14 : decode cX7_isChance 14 = .ok (.iconst 0, 1) := by decide +kernel
theorem dX7_isChance_15 : decode cX7_isChance 15 = .ok (.ireturn, 1) := by decide +kernel
def kX7_isChance (live : am_E) (Ret : am_R) : am_code := [(0, am_iload 0 1), (1, am_if1 (fun x => x < 0) 14 4), (4, am_iload 0 5), (5, am_const (.int 10) 7), (7, am_if2 (fun x y => y < x) 14 10), (10, am_const (.int 1) 11), (11, am_goto 15), (14, am_const (.int 0) 15), (15, am_retZ Ret)]
theorem koX7_isChance (live : am_E) (Ret : am_R) : ∀ q ∈ kX7_isChance live Ret, am_ok RX7 cX7_isChance 1 (some .boolean) 0 0 live Ret q.1 q.2 :=
  am_kc (ak_iload_n dX7_isChance_0 rfl rfl) <|
  am_kc (ak_if_lt dX7_isChance_1 (by decide +kernel) rfl) <|
  am_kc (ak_iload_n dX7_isChance_4 rfl rfl) <|
  am_kc (ak_bipush dX7_isChance_5 (by decide +kernel) rfl) <|
  am_kc (ak_icmp_gt dX7_isChance_7 (by decide +kernel) rfl) <|
  am_kc (ak_iconst dX7_isChance_10 (by decide +kernel) rfl) <|
  am_kc (ak_goto dX7_isChance_11 (by decide +kernel)) <|
  am_kc (ak_iconst dX7_isChance_14 (by decide +kernel) rfl) <|
  am_kc (ak_retZ dX7_isChance_15) <| am_kn
def TX7_isChance : am_T := fun _ as M R => match as with
  | [.int v] => R (some (.int (if 0 ≤ v ∧ v ≤ 10 then 1 else 0))) M
  | _ => False
set_option maxRecDepth 100000 in
set_option maxHeartbeats 4000000 in
theorem metX7_isChance : am_Met yX7_isChance cX7_isChance 1 (some .boolean) (0) (0) TX7_isChance := by
  refine am_met (own := RX7) (by decide +kernel) rfl kX7_isChance koX7_isChance 60 (fun _ _ _ _ _ => none) (fun live as M Ret h => ?_) (fun _ _ _ _ _ _ _ _ hI => by cases hI)
  unfold TX7_isChance at h
  split at h
  · next v =>
    refine ⟨Nat.le_of_ble_eq_true rfl, ?_⟩
    change am_wp _ _ _ _ [(0, Value.int v)] _ _
    repeat' (first | apply And.intro | exact rfl | intro hx | (refine Exists.intro _ (And.intro rfl ?_)))
    all_goals try first | (with_reducible change am_tI _ _) | (change Ret _ _) | (change Ret _ _ _) | (change Exists _)
    all_goals try dsimp only at *
    all_goals try exact absurd ‹(1000 : Int64) = 0› (by decide)
    all_goals first | (left; rfl) | (right; rfl) | grind
  · exact h.elim
set_option maxRecDepth 100000 in
theorem wd_148 : Cond.fieldLink "LearnLoans$Rows" 15 "LearnLoans$Rows" "wide" "I" ∈ am_ws := am_wsi (List.mem_of_getElem? (i := 148) (by rfl)) (by decide +kernel)
set_option maxRecDepth 100000 in
theorem wd_147 : Cond.fieldLink "LearnLoans$Rows" 9 "LearnLoans$Rows" "cells" "[I" ∈ am_ws := am_wsi (List.mem_of_getElem? (i := 147) (by rfl)) (by decide +kernel)
theorem dX3_at_0 : decode cX3_at 0 = .ok (.iload_n 1, 1) := by decide +kernel
theorem dX3_at_1 : decode cX3_at 1 = .ok (.aload_n 0, 1) := by decide +kernel
theorem dX3_at_2 : decode cX3_at 2 = .ok (.getfield 15, 3) := by decide +kernel
theorem dX3_at_5 : decode cX3_at 5 = .ok (.imul, 1) := by decide +kernel
theorem dX3_at_6 : decode cX3_at 6 = .ok (.iload_n 2, 1) := by decide +kernel
theorem dX3_at_7 : decode cX3_at 7 = .ok (.iadd, 1) := by decide +kernel
theorem dX3_at_8 : decode cX3_at 8 = .ok (.istore_n 3, 1) := by decide +kernel
theorem dX3_at_9 : decode cX3_at 9 = .ok (.iload_n 3, 1) := by decide +kernel
theorem dX3_at_10 : decode cX3_at 10 = .ok (.ifCond .lt 21, 3) := by decide +kernel
theorem dX3_at_13 : decode cX3_at 13 = .ok (.iload_n 3, 1) := by decide +kernel
theorem dX3_at_14 : decode cX3_at 14 = .ok (.aload_n 0, 1) := by decide +kernel
theorem dX3_at_15 : decode cX3_at 15 = .ok (.getfield 9, 3) := by decide +kernel
theorem dX3_at_18 : decode cX3_at 18 = .ok (.arraylength, 1) := by decide +kernel
theorem dX3_at_19 : decode cX3_at 19 = .ok (.if_icmp .ge 12, 3) := by decide +kernel
theorem dX3_at_22 : decode cX3_at 22 = .ok (.aload_n 0, 1) := by decide +kernel
theorem dX3_at_23 : decode cX3_at 23 = .ok (.getfield 9, 3) := by decide +kernel
theorem dX3_at_26 : decode cX3_at 26 = .ok (.iload_n 3, 1) := by decide +kernel
theorem dX3_at_27 : decode cX3_at 27 = .ok (.iaload, 1) := by decide +kernel
theorem dX3_at_28 : decode cX3_at 28 = .ok (.goto 4, 3) := by decide +kernel
theorem dX3_at_31 : decode cX3_at 31 = .ok (.iconst (-1), 1) := by decide +kernel
theorem dX3_at_32 : decode cX3_at 32 = .ok (.ireturn, 1) := by decide +kernel
def kX3_at (live : am_E) (Ret : am_R) : am_code := [(0, am_iload 1 1), (1, am_aload 0 2), (2, am_getI live 3 1 5), (5, am_i2 (fun x y => x * y) 6), (6, am_iload 2 7), (7, am_i2 (fun x y => x + y) 8), (8, am_istore 3 4 9), (9, am_iload 3 10), (10, am_if1 (fun x => x < 0) 31 13), (13, am_iload 3 14), (14, am_aload 0 15), (15, am_getR live 3 0 18), (18, am_alen live 0 19), (19, am_if2 (fun x y => y ≤ x) 31 22), (22, am_aload 0 23), (23, am_getR live 3 0 26), (26, am_iload 3 27), (27, am_ald live 0 28), (28, am_goto 32), (31, am_const (.int (-1)) 32), (32, am_retI Ret)]
theorem koX3_at (live : am_E) (Ret : am_R) : ∀ q ∈ kX3_at live Ret, am_ok RX3 cX3_at 4 (some .int) 0 0 live Ret q.1 q.2 :=
  am_kc (ak_iload_n dX3_at_0 rfl rfl) <|
  am_kc (ak_aload_n dX3_at_1 rfl rfl) <|
  am_kc (ak_getI (C := RX3) (T := TX3) (N := 3) rfl inX3w (by decide) rfl rfl rfl wd_148 dX3_at_2 rfl) <|
  am_kc (ak_imul dX3_at_5 rfl) <|
  am_kc (ak_iload_n dX3_at_6 rfl rfl) <|
  am_kc (ak_iadd dX3_at_7 rfl) <|
  am_kc (ak_istore_n dX3_at_8 rfl rfl) <|
  am_kc (ak_iload_n dX3_at_9 rfl rfl) <|
  am_kc (ak_if_lt dX3_at_10 (by decide +kernel) rfl) <|
  am_kc (ak_iload_n dX3_at_13 rfl rfl) <|
  am_kc (ak_aload_n dX3_at_14 rfl rfl) <|
  am_kc (ak_getR (C := RX3) (T := TX3) (N := 3) rfl inX3w (by decide) rfl rfl rfl wd_147 dX3_at_15 rfl) <|
  am_kc (ak_alen (t := 0) (fun _ => rfl) dX3_at_18 rfl) <|
  am_kc (ak_icmp_ge dX3_at_19 (by decide +kernel) rfl) <|
  am_kc (ak_aload_n dX3_at_22 rfl rfl) <|
  am_kc (ak_getR (C := RX3) (T := TX3) (N := 3) rfl inX3w (by decide) rfl rfl rfl wd_147 dX3_at_23 rfl) <|
  am_kc (ak_iload_n dX3_at_26 rfl rfl) <|
  am_kc (ak_iald (t := 0) (fun _ => rfl) rfl dX3_at_27 rfl) <|
  am_kc (ak_goto dX3_at_28 (by decide +kernel)) <|
  am_kc (ak_iconst dX3_at_31 (by decide +kernel) rfl) <|
  am_kc (ak_retI dX3_at_32) <| am_kn
/-- Rows.at: this at the name r, its numbers at c -/
def TX3_at : am_T := fun live as M R => match as with
  | [.ref r, .int a, .int b] => am_ex (live.2 r 0) (fun c => am_if (am_isO live 3 r && am_isA live 0 c && Nat.blt (am_len c) 100000) (R (some (.int (am_at (M.1 c) (am_len c) (a * M.1 r 1 + b)))) M))
  | _ => False
set_option maxRecDepth 100000 in
set_option maxHeartbeats 4000000 in
theorem metX3_at : am_Met yX3_at cX3_at 4 (some .int) (0) (0) TX3_at := by
  refine am_met (own := RX3) (by decide +kernel) rfl kX3_at koX3_at 60 (fun _ _ _ _ _ => none) (fun live as M Ret h => ?_) (fun _ _ _ _ _ _ _ _ hI => by cases hI)
  unfold TX3_at at h
  split at h
  · next r a b =>
    refine ⟨Nat.le_of_ble_eq_true rfl, ?_⟩
    change am_wp _ _ _ _ [(0, Value.ref r), (1, Value.int a), (2, Value.int b)] _ _
    have hh := am_qm h
    clear h
    obtain ⟨c, h2, h⟩ := hh
    have hh := am_if_mp h
    clear h
    obtain ⟨hb, h⟩ := hh
    rw [Bool.and_eq_true, Bool.and_eq_true] at hb
    obtain ⟨⟨h1, h3⟩, h4⟩ := hb
    have h4 : am_len c < 100000 := Nat.le_of_ble_eq_true h4
    repeat' (first | (with_reducible exact h1) | (with_reducible exact h2) | (with_reducible exact h3) | (refine Exists.intro _ (And.intro h2 ?_)) | apply And.intro | exact rfl | intro hx | (refine Exists.intro _ (And.intro rfl ?_)) | ((with_reducible change _ = true); simp only [h1, h2, h3, Bool.true_and]; rfl))
    all_goals try first | (with_reducible change am_tI _ _) | (change Ret _ _) | (change Ret _ _ _) | (change Exists _)
    all_goals try dsimp only at *
    all_goals try exact absurd ‹(1000 : Int64) = 0› (by decide)
    · rw [am_at_no (am_in_no1 ‹_›)] at h; exact h
    · rw [am_at_no (am_in_no2 h4 ‹_›)] at h; exact h
    · exact (am_in_of h4 ‹_› ‹_›).1
    · exact (am_in_of h4 ‹_› ‹_›).2
    · rw [am_at_in (am_in_of h4 ‹_› ‹_›)] at h; exact h
  · exact h.elim
