/-! the class: whether a person, a loan; a stretch laid; which is nearer -/
set_option maxRecDepth 100000 in
theorem wd_390 : Cond.fieldLink "LearnLoans" 27 "LearnLoans" "house" "LLearnLoans$House;" ∈ am_ws := am_wt2 (List.mem_of_getElem? (i := 93) (by rfl)) (by decide +kernel)
set_option maxRecDepth 100000 in
theorem wd_194 : Cond.fieldLink "LearnLoans" 38 "LearnLoans$House" "people" "LLearnLoans$People;" ∈ am_ws := am_wt1 (List.mem_of_getElem? (i := 137) (by rfl)) (by decide +kernel)
set_option maxRecDepth 100000 in
theorem wd_121 : Cond.fieldLink "LearnLoans" 42 "LearnLoans$People" "size" "I" ∈ am_ws := am_wt1 (List.mem_of_getElem? (i := 64) (by rfl)) (by decide +kernel)
def rwX7_isPerson : List dz_r := [(0, .iload_n 1, 1), (1, .ifCond .lt 21, 3), (4, .iload_n 1, 1), (5, .aload_n 0, 1), (6, .getfield 27, 3), (9, .getfield 38, 3), (12, .getfield 42, 3), (15, .if_icmp .ge 7, 3), (18, .iconst 1, 1), (19, .goto 4, 3), (22, .iconst 0, 1), (23, .ireturn, 1)]
theorem dzX7_isPerson : dz cX7_isPerson rwX7_isPerson := dz_all 0 (by decide +kernel)
def kX7_isPerson (live : am_E) (Ret : am_R) : am_code := [(0, am_iload 1 1), (1, am_if1 (fun x => x < 0) 22 4), (4, am_iload 1 5), (5, am_aload 0 6), (6, am_getR live 7 0 9), (9, am_getR live 0 0 12), (12, am_getI live 2 7 15), (15, am_if2 (fun x y => y ≤ x) 22 18), (18, am_const (.int 1) 19), (19, am_goto 23), (22, am_const (.int 0) 23), (23, am_retZ Ret)]
theorem koX7_isPerson (live : am_E) (Ret : am_R) : ∀ q ∈ kX7_isPerson live Ret, am_ok RX7 cX7_isPerson 2 (some .boolean) 0 0 live Ret q.1 q.2 :=
  am_kz dzX7_isPerson <|
  am_kd (fun d => ak_iload_n d rfl rfl) <|
  am_kd (fun d => ak_if_lt d (by decide +kernel) rfl) <|
  am_kd (fun d => ak_iload_n d rfl rfl) <|
  am_kd (fun d => ak_aload_n d rfl rfl) <|
  am_kd (fun d => ak_getR (C := RX7) (T := TX7) (N := 4) rfl inX7w (by decide) rfl rfl rfl wd_390 d rfl) <|
  am_kd (fun d => ak_getR (C := RX0) (T := TX0) (N := 13) rfl inX0w (by decide) rfl rfl rfl wd_194 d rfl) <|
  am_kd (fun d => ak_getI (C := RX2) (T := TX2) (N := 8) rfl inX2w (by decide) rfl rfl rfl wd_121 d rfl) <|
  am_kd (fun d => ak_icmp_ge d (by decide +kernel) rfl) <|
  am_kd (fun d => ak_iconst d (by decide +kernel) rfl) <|
  am_kd (fun d => ak_goto d (by decide +kernel)) <|
  am_kd (fun d => ak_iconst d (by decide +kernel) rfl) <|
  am_kd (fun d => ak_retZ d) <| am_kdn
def TX7_isPerson : am_T := fun live as M R => match as with
  | [.ref n, .int v] => am_mn live ∧ n = 0 ∧ R (some (.int (if 0 ≤ v ∧ v < M.1 21 7 then 1 else 0))) M
  | _ => False
set_option maxRecDepth 100000 in
set_option maxHeartbeats 4000000 in
theorem metX7_isPerson : am_Met yX7_isPerson cX7_isPerson 2 (some .boolean) (0) (0) TX7_isPerson := by
  refine am_met (own := RX7) (by decide +kernel) rfl kX7_isPerson koX7_isPerson 60 (fun _ _ _ _ _ => none) (fun live as M Ret h => ?_) (fun _ _ _ _ _ _ _ _ hI => by cases hI)
  unfold TX7_isPerson at h
  split at h
  · next n v =>
    refine ⟨Nat.le_of_ble_eq_true rfl, ?_⟩
    change am_wp _ _ _ _ [(0, Value.ref n), (1, Value.int v)] _ _
    obtain ⟨⟨i1, i2, rfl⟩, rfl, h⟩ := h
    repeat' (first | apply And.intro | exact rfl | intro hx | (refine Exists.intro _ (And.intro rfl ?_)))
    all_goals try first | (with_reducible change am_tI _ _) | (change Ret _ _) | (change Ret _ _ _) | (change Exists _)
    all_goals try dsimp only at *
    all_goals try (with_reducible exact absurd ‹(1000 : Int64) = 0› am_z1000)
    all_goals first | (left; rfl) | (right; rfl) | grind
  · exact h.elim
set_option maxRecDepth 100000 in
theorem wd_207 : Cond.fieldLink "LearnLoans" 122 "LearnLoans$House" "loans" "LLearnLoans$Rows;" ∈ am_ws := am_wt1 (List.mem_of_getElem? (i := 150) (by rfl)) (by decide +kernel)
set_option maxRecDepth 100000 in
theorem wd_152 : Cond.fieldLink "LearnLoans" 108 "LearnLoans$Rows" "size" "I" ∈ am_ws := am_wt1 (List.mem_of_getElem? (i := 95) (by rfl)) (by decide +kernel)
def rwX7_isLoan : List dz_r := [(0, .iload_n 1, 1), (1, .ifCond .lt 21, 3), (4, .iload_n 1, 1), (5, .aload_n 0, 1), (6, .getfield 27, 3), (9, .getfield 122, 3), (12, .getfield 108, 3), (15, .if_icmp .ge 7, 3), (18, .iconst 1, 1), (19, .goto 4, 3), (22, .iconst 0, 1), (23, .ireturn, 1)]
theorem dzX7_isLoan : dz cX7_isLoan rwX7_isLoan := dz_all 0 (by decide +kernel)
def kX7_isLoan (live : am_E) (Ret : am_R) : am_code := [(0, am_iload 1 1), (1, am_if1 (fun x => x < 0) 22 4), (4, am_iload 1 5), (5, am_aload 0 6), (6, am_getR live 7 0 9), (9, am_getR live 0 4 12), (12, am_getI live 3 2 15), (15, am_if2 (fun x y => y ≤ x) 22 18), (18, am_const (.int 1) 19), (19, am_goto 23), (22, am_const (.int 0) 23), (23, am_retZ Ret)]
theorem koX7_isLoan (live : am_E) (Ret : am_R) : ∀ q ∈ kX7_isLoan live Ret, am_ok RX7 cX7_isLoan 2 (some .boolean) 0 0 live Ret q.1 q.2 :=
  am_kz dzX7_isLoan <|
  am_kd (fun d => ak_iload_n d rfl rfl) <|
  am_kd (fun d => ak_if_lt d (by decide +kernel) rfl) <|
  am_kd (fun d => ak_iload_n d rfl rfl) <|
  am_kd (fun d => ak_aload_n d rfl rfl) <|
  am_kd (fun d => ak_getR (C := RX7) (T := TX7) (N := 4) rfl inX7w (by decide) rfl rfl rfl wd_390 d rfl) <|
  am_kd (fun d => ak_getR (C := RX0) (T := TX0) (N := 13) rfl inX0w (by decide) rfl rfl rfl wd_207 d rfl) <|
  am_kd (fun d => ak_getI (C := RX3) (T := TX3) (N := 3) rfl inX3w (by decide) rfl rfl rfl wd_152 d rfl) <|
  am_kd (fun d => ak_icmp_ge d (by decide +kernel) rfl) <|
  am_kd (fun d => ak_iconst d (by decide +kernel) rfl) <|
  am_kd (fun d => ak_goto d (by decide +kernel)) <|
  am_kd (fun d => ak_iconst d (by decide +kernel) rfl) <|
  am_kd (fun d => ak_retZ d) <| am_kdn
def TX7_isLoan : am_T := fun live as M R => match as with
  | [.ref n, .int v] => am_mn live ∧ n = 0 ∧ R (some (.int (if 0 ≤ v ∧ v < M.1 33 2 then 1 else 0))) M
  | _ => False
set_option maxRecDepth 100000 in
set_option maxHeartbeats 4000000 in
theorem metX7_isLoan : am_Met yX7_isLoan cX7_isLoan 2 (some .boolean) (0) (0) TX7_isLoan := by
  refine am_met (own := RX7) (by decide +kernel) rfl kX7_isLoan koX7_isLoan 60 (fun _ _ _ _ _ => none) (fun live as M Ret h => ?_) (fun _ _ _ _ _ _ _ _ hI => by cases hI)
  unfold TX7_isLoan at h
  split at h
  · next n v =>
    refine ⟨Nat.le_of_ble_eq_true rfl, ?_⟩
    change am_wp _ _ _ _ [(0, Value.ref n), (1, Value.int v)] _ _
    obtain ⟨⟨i1, i2, rfl⟩, rfl, h⟩ := h
    repeat' (first | apply And.intro | exact rfl | intro hx | (refine Exists.intro _ (And.intro rfl ?_)))
    all_goals try first | (with_reducible change am_tI _ _) | (change Ret _ _) | (change Ret _ _ _) | (change Exists _)
    all_goals try dsimp only at *
    all_goals try (with_reducible exact absurd ‹(1000 : Int64) = 0› am_z1000)
    all_goals first | (left; rfl) | (right; rfl) | grind
  · exact h.elim
set_option maxRecDepth 100000 in
theorem wd_472 : Cond.fieldLink "LearnLoans" 276 "LearnLoans" "LEAST" "[I" ∈ am_ws := am_wt2 (List.mem_of_getElem? (i := 175) (by rfl)) (by decide +kernel)
set_option maxRecDepth 100000 in
theorem wd_474 : Cond.fieldLink "LearnLoans" 279 "LearnLoans" "MOST" "[I" ∈ am_ws := am_wt2 (List.mem_of_getElem? (i := 177) (by rfl)) (by decide +kernel)
def rwX7_isNumber : List dz_r := [(0, .iload_n 0, 1), (1, .ifCond .lt 31, 3), (4, .iload_n 0, 1), (5, .bipush 6, 2), (7, .if_icmp .ge 25, 3), (10, .iload_n 1, 1), (11, .getstatic 276, 3), (14, .iload_n 0, 1), (15, .iaload, 1), (16, .if_icmp .lt 16, 3), (19, .iload_n 1, 1), (20, .getstatic 279, 3), (23, .iload_n 0, 1), (24, .iaload, 1), (25, .if_icmp .gt 7, 3), (28, .iconst 1, 1), (29, .goto 4, 3), (32, .iconst 0, 1), (33, .ireturn, 1)]
theorem dzX7_isNumber : dz cX7_isNumber rwX7_isNumber := dz_all 0 (by decide +kernel)
def kX7_isNumber (live : am_E) (Ret : am_R) : am_code := [(0, am_iload 0 1), (1, am_if1 (fun x => x < 0) 32 4), (4, am_iload 0 5), (5, am_const (.int 6) 7), (7, am_if2 (fun x y => y ≤ x) 32 10), (10, am_iload 1 11), (11, am_const (.ref 1001) 14), (14, am_iload 0 15), (15, am_sld 1 16), (16, am_if2 (fun x y => x < y) 32 19), (19, am_iload 1 20), (20, am_const (.ref 1002) 23), (23, am_iload 0 24), (24, am_sld 2 25), (25, am_if2 (fun x y => y < x) 32 28), (28, am_const (.int 1) 29), (29, am_goto 33), (32, am_const (.int 0) 33), (33, am_retZ Ret)]
theorem koX7_isNumber (live : am_E) (Ret : am_R) : ∀ q ∈ kX7_isNumber live Ret, am_ok RX7 cX7_isNumber 2 (some .boolean) 0 0 live Ret q.1 q.2 :=
  am_kz dzX7_isNumber <|
  am_kd (fun d => ak_iload_n d rfl rfl) <|
  am_kd (fun d => ak_if_lt d (by decide +kernel) rfl) <|
  am_kd (fun d => ak_iload_n d rfl rfl) <|
  am_kd (fun d => ak_bipush d (by decide +kernel) rfl) <|
  am_kd (fun d => ak_icmp_ge d (by decide +kernel) rfl) <|
  am_kd (fun d => ak_iload_n d rfl rfl) <|
  am_kd (fun d => ak_gets (k := 1) (by decide) rfl wd_472 d rfl) <|
  am_kd (fun d => ak_iload_n d rfl rfl) <|
  am_kd (fun d => ak_sld (by decide) d rfl) <|
  am_kd (fun d => ak_icmp_lt d (by decide +kernel) rfl) <|
  am_kd (fun d => ak_iload_n d rfl rfl) <|
  am_kd (fun d => ak_gets (k := 2) (by decide) rfl wd_474 d rfl) <|
  am_kd (fun d => ak_iload_n d rfl rfl) <|
  am_kd (fun d => ak_sld (by decide) d rfl) <|
  am_kd (fun d => ak_icmp_gt d (by decide +kernel) rfl) <|
  am_kd (fun d => ak_iconst d (by decide +kernel) rfl) <|
  am_kd (fun d => ak_goto d (by decide +kernel)) <|
  am_kd (fun d => ak_iconst d (by decide +kernel) rfl) <|
  am_kd (fun d => ak_retZ d) <| am_kdn
def am_isNum (w v : Int32) : Prop := (0 ≤ w ∧ w < 6) ∧ am_sf 1 w.toNatClampNeg ≤ v ∧ v ≤ am_sf 2 w.toNatClampNeg
def TX7_isNumber : am_T := fun live as M R => match as with
  | [.int w, .int v] => (am_isNum w v → R (some (.int 1)) M) ∧ (¬ am_isNum w v → R (some (.int 0)) M)
  | _ => False
set_option maxRecDepth 100000 in
set_option maxHeartbeats 4000000 in
theorem metX7_isNumber : am_Met yX7_isNumber cX7_isNumber 2 (some .boolean) (0) (0) TX7_isNumber := by
  refine am_met (own := RX7) (by decide +kernel) rfl kX7_isNumber koX7_isNumber 60 (fun _ _ _ _ _ => none) (fun live as M Ret h => ?_) (fun _ _ _ _ _ _ _ _ hI => by cases hI)
  unfold TX7_isNumber at h
  split at h
  · next w v =>
    refine ⟨Nat.le_of_ble_eq_true rfl, ?_⟩
    change am_wp _ _ _ _ [(0, Value.int w), (1, Value.int v)] _ _
    repeat' (first | apply And.intro | exact rfl | intro hx | (refine Exists.intro _ (And.intro rfl ?_)))
    all_goals try first | (with_reducible change am_tI _ _) | (change Ret _ _) | (change Ret _ _ _) | (change Exists _)
    all_goals try dsimp only at *
    all_goals try (with_reducible exact absurd ‹(1000 : Int64) = 0› am_z1000)
    all_goals first | (left; rfl) | (right; rfl) | skip
    all_goals first | grind [am_isNum] | (simp only [i_lt, i_le, am_sN, Int32.reduceToInt] at *; omega)
  · exact h.elim
set_option maxRecDepth 100000 in
theorem wd_427 : Cond.methodLink "LearnLoans" 282 Lib.Math.max.name ∈ am_ws := am_wt2 (List.mem_of_getElem? (i := 130) (by rfl)) (by decide +kernel)
set_option maxRecDepth 100000 in
theorem wd_428 : Cond.static Lib.Math.max.name ∈ am_ws := am_wt2 (List.mem_of_getElem? (i := 131) (by rfl)) (by decide +kernel)
set_option maxRecDepth 100000 in
theorem wd_68 : Cond.initialized "java/lang/Math" ∈ am_ws := am_wt1 (List.mem_of_getElem? (i := 11) (by rfl)) (by decide +kernel)
set_option maxRecDepth 100000 in
theorem wd_429 : Cond.code Lib.Math.max.name Lib.Math.max.code 2 (some .int) ∈ am_ws := am_wt2 (List.mem_of_getElem? (i := 132) (by rfl)) (by decide +kernel)
def rwX7_lay : List dz_r := [(0, .iload_n 1, 1), (1, .iconst 0, 1), (2, .invokestatic 282, 3), (5, .istore 4, 2), (7, .iload 4, 2), (9, .iload_n 2, 1), (10, .if_icmp .gt 21, 3), (13, .iload 4, 2), (15, .aload_n 0, 1), (16, .arraylength, 1), (17, .if_icmp .ge 14, 3), (20, .aload_n 0, 1), (21, .iload 4, 2), (23, .iload_n 3, 1), (24, .iastore, 1), (25, .iinc 4 1, 3), (28, .goto (-21), 3), (31, .return_, 1)]
theorem dzX7_lay : dz cX7_lay rwX7_lay := dz_all 0 (by decide +kernel)
def kX7_lay (live : am_E) (Ret : am_R) : am_code := [(0, am_iload 1 1), (1, am_const (.int 0) 2), (2, am_math2 (fun x y => if x < y then y else x) 23 5), (5, am_istore 4 5 7), (7, am_iload 4 9), (9, am_iload 2 10), (10, am_if2 (fun x y => y < x) 31 13), (13, am_iload 4 15), (15, am_aload 0 16), (16, am_alen live 0 17), (17, am_if2 (fun x y => y ≤ x) 31 20), (20, am_aload 0 21), (21, am_iload 4 23), (23, am_iload 3 24), (24, am_ast live 0 25), (25, am_iinc 4 5 1 28), (28, am_goto 7), (31, am_retV Ret)]
theorem koX7_lay (live : am_E) (Ret : am_R) : ∀ q ∈ kX7_lay live Ret, am_ok RX7 cX7_lay 5 none 1 23 live Ret q.1 q.2 :=
  am_kz dzX7_lay <|
  am_kd (fun d => ak_iload_n d rfl rfl) <|
  am_kd (fun d => ak_iconst d (by decide +kernel) rfl) <|
  am_kd (fun d => ak_imax (am_w4 wd_427 wd_428 wd_68 wd_429) (by decide) d rfl) <|
  am_kd (fun d => ak_istore d rfl) <|
  am_kd (fun d => ak_iload d rfl) <|
  am_kd (fun d => ak_iload_n d rfl rfl) <|
  am_kd (fun d => ak_icmp_gt d (by decide +kernel) rfl) <|
  am_kd (fun d => ak_iload d rfl) <|
  am_kd (fun d => ak_aload_n d rfl rfl) <|
  am_kd (fun d => ak_alen (t := 0) (fun _ => rfl) d rfl) <|
  am_kd (fun d => ak_icmp_ge d (by decide +kernel) rfl) <|
  am_kd (fun d => ak_aload_n d rfl rfl) <|
  am_kd (fun d => ak_iload d rfl) <|
  am_kd (fun d => ak_iload_n d rfl rfl) <|
  am_kd (fun d => ak_iast (t := 0) (fun _ => rfl) rfl d rfl) <|
  am_kd (fun d => ak_iinc d (by decide +kernel) rfl) <|
  am_kd (fun d => ak_goto d (by decide +kernel)) <|
  am_kd (fun d => ak_retV d) <| am_kdn
def TX7_lay : am_T := fun live as M R => match as with
  | [.ref c, .int a, .int b, .int v] => am_if (am_isA live 0 c && Nat.blt (am_len c) 100000) (R none (am_lay M c (max a.toInt 0) (min b.toInt ((am_len c : Int) - 1)) v))
  | _ => False
def JX7_lay : am_E → List Value → am_M → am_R → am_inv := fun live as M0 _ pc => match as with
  | [.ref c, .int a, .int b, .int v] => (match pc with
    | 7 => some ([0, 2, 3, 4], fun k L st M => ∃ i : Int32, L = [(0, .ref c), (2, .int b), (3, .int v), (4, .int i)] ∧ st = [] ∧ k = ((am_len c + 1 - i.toInt).toNat, 0) ∧ max a.toInt 0 ≤ i.toInt ∧ (i.toInt = max a.toInt 0 ∨ i.toInt ≤ min b.toInt ((am_len c : Int) - 1) + 1) ∧ M = am_lay M0 c (max a.toInt 0) (i.toInt - 1) v)
    | _ => none)
  | _ => none
set_option maxRecDepth 100000 in
set_option maxHeartbeats 4000000 in
theorem metX7_lay : am_Met yX7_lay cX7_lay 5 none (1) (23) TX7_lay := by
  refine am_met (own := RX7) (by decide +kernel) rfl kX7_lay koX7_lay 60 JX7_lay ?_ ?_
  · intro live as M Ret h
    unfold TX7_lay at h
    split at h
    · next c a b v =>
      refine ⟨Nat.le_of_ble_eq_true rfl, ?_⟩
      change am_wp _ _ _ _ [(0, Value.ref c), (1, Value.int a), (2, Value.int b), (3, Value.int v)] _ _
      have hh := am_if_mp h
      clear h
      obtain ⟨hb, h⟩ := hh
      rw [Bool.and_eq_true] at hb
      obtain ⟨h1, h4⟩ := hb
      have h4 : am_len c < 100000 := Nat.le_of_ble_eq_true h4
      repeat' (first | (with_reducible exact h1) | apply And.intro | exact rfl | intro hx | (refine Exists.intro _ (And.intro rfl ?_)) | ((with_reducible change _ = true); simp only [h1, Bool.true_and]; rfl))
      all_goals try first | (with_reducible change am_tI _ _) | (change Ret _ _) | (change Ret _ _ _) | (change Exists _)
      all_goals try dsimp only at *
      all_goals try (with_reducible exact absurd ‹(1000 : Int64) = 0› am_z1000)
      have hlo := i_lo a
      refine ⟨_, _, rfl, rfl, rfl, ?_, Or.inl ?_, (am_lay_nil ?_).symm⟩
      all_goals
        split
        all_goals
          simp only [i_lt, Int32.reduceToInt] at *
          omega
    · exact h.elim
  · intro live as M0 Ret h k pc I hI L st M hi
    unfold TX7_lay at h
    split at h
    · next c a b v =>
      have hh := am_if_mp h
      clear h
      obtain ⟨hb, h⟩ := hh
      rw [Bool.and_eq_true] at hb
      obtain ⟨h1, h4⟩ := hb
      have h4 : am_len c < 100000 := Nat.le_of_ble_eq_true h4
      change (match pc with | 7 => _ | _ => none) = _ at hI
      split at hI
      · cases hI
        obtain ⟨i, rfl, rfl, rfl, e1, e2, rfl⟩ := hi
        have hn : (Int32.ofNat (am_len c)).toInt = (am_len c : Int) := i_nat (by omega)
        repeat' (first | (with_reducible exact h1) | apply And.intro | exact rfl | intro hx | (refine Exists.intro _ (And.intro rfl ?_)) | ((with_reducible change _ = true); simp only [h1, Bool.true_and]; rfl))
        all_goals try first | (with_reducible change am_tI _ _) | (change Ret _ _) | (change Ret _ _ _) | (change Exists _)
        all_goals try dsimp only at *
        all_goals try (with_reducible exact absurd ‹(1000 : Int64) = 0› am_z1000)
        rotate_right
        · refine ⟨_, Or.inl ?_, i + 1, rfl, rfl, rfl, ?_, Or.inr ?_, ?_⟩
          all_goals simp only [i_lt, i_le, hn] at *
          all_goals
            have hi := i_add (x := i) (y := 1) (by simp only [Int32.reduceToInt]; omega) (by simp only [Int32.reduceToInt]; omega)
            simp only [Int32.reduceToInt] at hi
          · simp only [hi]; omega
          · omega
          · omega
          · rw [am_lay_put (by omega) (i_clamp (by omega))]
            exact am_lay_eq (fun q => by omega)
        all_goals simp only [i_lt, i_le, hn] at *
        · rw [am_lay_eq (lo' := max a.toInt 0) (hi' := min b.toInt ((am_len c : Int) - 1)) (fun q => by omega)]; exact h
        · rw [am_lay_eq (lo' := max a.toInt 0) (hi' := min b.toInt ((am_len c : Int) - 1)) (fun q => by omega)]; exact h
        · omega
        · omega
      · cases hI
    · exact h.elim
