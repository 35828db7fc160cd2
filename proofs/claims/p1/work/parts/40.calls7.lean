/-! p1: the class's calls on a new object -/
theorem am_b0 {P : Prop} [Decidable P] : ((if P then (1 : Int32) else 0) = 0) ↔ ¬ P := by
  by_cases h : P
  · rw [if_pos h]; exact ⟨fun q => absurd q (by decide), fun q => absurd h q⟩
  · rw [if_neg h]; exact ⟨fun _ => h, fun _ => rfl⟩
theorem am_rI {R : am_R} {a b : Int32} {M : am_M} (h : R (some (.int a)) M) (e : a = b) : R (some (.int b)) M := e ▸ h
theorem am_rJ {R : am_R} {a b : Int64} {M : am_M} (h : R (some (.long a)) M) (e : a = b) : R (some (.long b)) M := e ▸ h
/-- a contract that is never used -/
def am_TF : am_T := fun _ _ _ _ => False
theorem am_metF (y : MethodName) (cc : ByteArray) (nL : Nat) (rt : Option FieldType) : am_Met y cc nL rt 0 0 am_TF := fun _ _ _ _ _ _ _ _ _ h => h.elim
def am_lo : Nat → Nat → Prop := fun a _ => a < 200
theorem am_ch.rput {S : Nat → Nat → Prop} {M M' : am_M} {r c : Nat} {a b v : Int32} (h : am_ch S M M') (hs : ∀ k, S c k) : am_ch S M (am_rput M' r c a b v) := h.wIc (hs _)
theorem am_ch.radd {S : Nat → Nat → Prop} {M M' : am_M} {r c : Nat} {x y z : Int32} (h : am_ch S M M') (hs : ∀ k, S c k) (hr : S r 2) : am_ch S M (am_radd M' r c x y z) := (((h.rput hs).rput hs).rput hs).wI hr
theorem am_ch.lay {S : Nat → Nat → Prop} {M M' : am_M} {n : Nat} {lo hi : Int} {v : Int32} (h : am_ch S M M') (hs : ∀ k, S n k) : am_ch S M (am_lay M' n lo hi v) := by
  refine ⟨fun a b q => ?_, h.2⟩
  rw [am_lay_1, if_neg (fun z => q (by rw [z.1]; exact hs b))]
  exact h.1 a b q
/-- what a new object's numbers are -/
def am_F7 (M : am_M) : Prop := M.1 21 7 = 0 ∧ M.1 33 2 = 0 ∧ M.1 31 2 = 0 ∧ M.1 35 2 = 0 ∧ M.1 54 2 = 0 ∧ M.1 20 12 = 0 ∧ (∀ l, l < 4 → M.1 29 l = 1000) ∧ (∀ y, y < 40 → M.1 30 y = 0) ∧ (∀ k, k < 5 → M.1 (39 + 3 * k) 5 = 0 ∧ M.1 (39 + 3 * k) 6 = 1 ∧ M.1 (39 + 3 * k) 2 = 0) ∧ M.1 31 1 = 6 ∧ M.1 33 1 = 8 ∧ M.1 35 1 = 3 ∧ M.1 54 1 = 3
abbrev am_isN (w v : Int32) : Prop := (0 ≤ w ∧ w < 6) ∧ am_sf 1 w.toNatClampNeg ≤ v ∧ v ≤ am_sf 2 w.toNatClampNeg
def a_person (b : Int32) : Int32 := if (0 ≤ b ∧ b < 40) then 0 else -2
def a_scale (l v : Int32) : Int32 := if (0 ≤ l ∧ l ≤ 3) ∧ (1 ≤ v ∧ v ≤ 5000) then 1000 else -2
def a_prices (y v : Int32) : Int32 := if (0 ≤ y ∧ y < 40) ∧ ((-100) ≤ v ∧ v ≤ 500) then 0 else -1000
def a_act (p w v f b e : Int32) : Int32 := if (0 ≤ p ∧ p < 5) ∧ am_isN w v ∧ (0 ≤ f ∧ f < 40) ∧ (0 ≤ b ∧ b ≤ e ∧ e < 40) then 0 else -2
def a_write (p c : Int32) : Int32 := if (0 ≤ p ∧ p < 5) ∧ (0 ≤ c ∧ c ≤ 127) then 1 else -2
def a_erase (p : Int32) : Int32 := if (0 ≤ p ∧ p < 5) then 0 else -2
def a_fault (p : Int32) : Int32 := if (0 ≤ p ∧ p < 5) then 1 else -2
def a_promise (b y p : Int32) : Int32 := if (0 ≤ b ∧ b ≤ 3) ∧ (0 ≤ y ∧ y < 40) ∧ (1 ≤ p ∧ p ≤ 1000000000) then 1 else -2
def a_book (b y k w : Int32) : Int64 := if (0 ≤ b ∧ b ≤ 3) ∧ (0 ≤ y ∧ y < 40) ∧ (0 ≤ k ∧ k < 40) ∧ (0 ≤ w ∧ w ≤ 1) then 0 else -2
def a_live (l f t p : Int32) : Int32 := if (0 ≤ l ∧ l ≤ 3) ∧ (0 ≤ f ∧ f ≤ t ∧ t < 40) ∧ (0 ≤ p ∧ p ≤ 10000000) then 1 else -2
def a_chances (s w g a d : Int32) : Int32 := if (0 ≤ s ∧ s ≤ 2) ∧ (0 ≤ w ∧ w ≤ 10) ∧ (0 ≤ g ∧ g ≤ 10) ∧ (0 ≤ a ∧ a ≤ 10) ∧ (0 ≤ d ∧ d ≤ 10) ∧ w + g + a + d = 10 then 1 else -2
def a_tried (p w v f y : Int32) : Int64 := if (0 ≤ p ∧ p < 5) ∧ am_isN w v ∧ (0 ≤ f ∧ f < 40) ∧ (0 ≤ y ∧ y < 40) then 0 else -2
def a_tell (v : Int32) : Int32 := if (0 ≤ v ∧ v ≤ 10000000) then 1 else -2
def a_untell : Int32 := 0
def a_image (i : Int32) : Int32 := if (0 ≤ i ∧ i ≤ 1) then 1 else -2
def a_from (i : Int32) : Int32 := if (0 ≤ i ∧ i ≤ 1) then -3 else -2
def a_count (w : Int32) : Int32 := if (0 ≤ w ∧ w ≤ 5) then 0 else -2
def a_digest : Int64 := 8816741483052476357
theorem wd_414 : Cond.methodLink "LearnLoans" 52 yX7_isPerson ∈ am_ws := am_wsi (List.mem_of_getElem? (i := 414) (by decide +kernel)) (by decide +kernel)
theorem wd_416 : Cond.instanceMethod yX7_isPerson ∈ am_ws := am_wsi (List.mem_of_getElem? (i := 416) (by decide +kernel)) (by decide +kernel)
theorem wd_0 : Cond.selects "LearnLoans" yX7_isPerson yX7_isPerson ∈ am_ws := am_wsi (List.mem_of_getElem? (i := 0) (by decide +kernel)) (by decide +kernel)
theorem wd_58 : Cond.initialized "LearnLoans" ∈ am_ws := am_wsi (List.mem_of_getElem? (i := 58) (by decide +kernel)) (by decide +kernel)
theorem wd_417 : Cond.code yX7_isPerson cX7_isPerson 2 (some .boolean) ∈ am_ws := am_wsi (List.mem_of_getElem? (i := 417) (by decide +kernel)) (by decide +kernel)
theorem wd_418 : Cond.methodLink "LearnLoans" 55 yX7_within ∈ am_ws := am_wsi (List.mem_of_getElem? (i := 418) (by decide +kernel)) (by decide +kernel)
theorem wd_419 : Cond.static yX7_within ∈ am_ws := am_wsi (List.mem_of_getElem? (i := 419) (by decide +kernel)) (by decide +kernel)
theorem wd_420 : Cond.code yX7_within cX7_within 3 (some .boolean) ∈ am_ws := am_wsi (List.mem_of_getElem? (i := 420) (by decide +kernel)) (by decide +kernel)
theorem wd_421 : Cond.methodLink "LearnLoans" 59 yX7_isSpan ∈ am_ws := am_wsi (List.mem_of_getElem? (i := 421) (by decide +kernel)) (by decide +kernel)
theorem wd_422 : Cond.static yX7_isSpan ∈ am_ws := am_wsi (List.mem_of_getElem? (i := 422) (by decide +kernel)) (by decide +kernel)
theorem wd_423 : Cond.code yX7_isSpan cX7_isSpan 2 (some .boolean) ∈ am_ws := am_wsi (List.mem_of_getElem? (i := 423) (by decide +kernel)) (by decide +kernel)
theorem wd_111 : Cond.fieldLink "LearnLoans" 63 "LearnLoans$People" "lands" "[I" ∈ am_ws := am_wsi (List.mem_of_getElem? (i := 111) (by decide +kernel)) (by decide +kernel)
theorem wd_424 : Cond.methodLink "LearnLoans" 66 yX7_lay ∈ am_ws := am_wsi (List.mem_of_getElem? (i := 424) (by decide +kernel)) (by decide +kernel)
theorem wd_425 : Cond.static yX7_lay ∈ am_ws := am_wsi (List.mem_of_getElem? (i := 425) (by decide +kernel)) (by decide +kernel)
theorem wd_426 : Cond.code yX7_lay cX7_lay 5 none ∈ am_ws := am_wsi (List.mem_of_getElem? (i := 426) (by decide +kernel)) (by decide +kernel)
theorem dX7_land_0 : decode cX7_land 0 = .ok (.aload_n 0, 1) := by decide +kernel
theorem dX7_land_1 : decode cX7_land 1 = .ok (.iload_n 1, 1) := by decide +kernel
theorem dX7_land_2 : decode cX7_land 2 = .ok (.invokevirtual 52, 3) := by decide +kernel
theorem dX7_land_5 : decode cX7_land 5 = .ok (.ifCond .eq 21, 3) := by decide +kernel
theorem dX7_land_8 : decode cX7_land 8 = .ok (.iload_n 2, 1) := by decide +kernel
theorem dX7_land_9 : decode cX7_land 9 = .ok (.iconst 0, 1) := by decide +kernel
theorem dX7_land_10 : decode cX7_land 10 = .ok (.iconst 3, 1) := by decide +kernel
theorem dX7_land_11 : decode cX7_land 11 = .ok (.invokestatic 55, 3) := by decide +kernel
theorem dX7_land_14 : decode cX7_land 14 = .ok (.ifCond .eq 12, 3) := by decide +kernel
theorem dX7_land_17 : decode cX7_land 17 = .ok (.iload_n 3, 1) := by decide +kernel
theorem dX7_land_18 : decode cX7_land 18 = .ok (.iload 4, 2) := by decide +kernel
theorem dX7_land_20 : decode cX7_land 20 = .ok (.invokestatic 59, 3) := by decide +kernel
theorem dX7_land_23 : decode cX7_land 23 = .ok (.ifCond .ne 6, 3) := by decide +kernel
theorem dX7_land_26 : decode cX7_land 26 = .ok (.bipush (-2), 2) := by decide +kernel
theorem dX7_land_28 : decode cX7_land 28 = .ok (.ireturn, 1) := by decide +kernel
theorem dX7_land_29 : decode cX7_land 29 = .ok (.aload_n 0, 1) := by decide +kernel
theorem dX7_land_30 : decode cX7_land 30 = .ok (.getfield 27, 3) := by decide +kernel
theorem dX7_land_33 : decode cX7_land 33 = .ok (.getfield 38, 3) := by decide +kernel
theorem dX7_land_36 : decode cX7_land 36 = .ok (.getfield 63, 3) := by decide +kernel
theorem dX7_land_39 : decode cX7_land 39 = .ok (.iload_n 1, 1) := by decide +kernel
theorem dX7_land_40 : decode cX7_land 40 = .ok (.bipush 40, 2) := by decide +kernel
theorem dX7_land_42 : decode cX7_land 42 = .ok (.imul, 1) := by decide +kernel
theorem dX7_land_43 : decode cX7_land 43 = .ok (.iload_n 3, 1) := by decide +kernel
theorem dX7_land_44 : decode cX7_land 44 = .ok (.iadd, 1) := by decide +kernel
theorem dX7_land_45 : decode cX7_land 45 = .ok (.iload_n 1, 1) := by decide +kernel
theorem dX7_land_46 : decode cX7_land 46 = .ok (.bipush 40, 2) := by decide +kernel
theorem dX7_land_48 : decode cX7_land 48 = .ok (.imul, 1) := by decide +kernel
theorem dX7_land_49 : decode cX7_land 49 = .ok (.iload 4, 2) := by decide +kernel
theorem dX7_land_51 : decode cX7_land 51 = .ok (.iadd, 1) := by decide +kernel
theorem dX7_land_52 : decode cX7_land 52 = .ok (.iload_n 2, 1) := by decide +kernel
theorem dX7_land_53 : decode cX7_land 53 = .ok (.invokestatic 66, 3) := by decide +kernel
theorem dX7_land_56 : decode cX7_land 56 = .ok (.iconst 1, 1) := by decide +kernel
theorem dX7_land_57 : decode cX7_land 57 = .ok (.ireturn, 1) := by decide +kernel
def kX7_land (live : am_E) (Ret : am_R) : am_code := [(0, am_aload 0 1), (1, am_iload 1 2), (2, am_callV live 7 1 TX7_isPerson 5), (5, am_if1 (fun x => x = 0) 26 8), (8, am_iload 2 9), (9, am_const (.int 0) 10), (10, am_const (.int 3) 11), (11, am_callS live 3 TX7_within 14), (14, am_if1 (fun x => x = 0) 26 17), (17, am_iload 3 18), (18, am_iload 4 20), (20, am_callS live 2 TX7_isSpan 23), (23, am_if1 (fun x => x = 0) 26 29), (26, am_const (.int (-2)) 28), (28, am_retI Ret), (29, am_aload 0 30), (30, am_getR live 7 0 33), (33, am_getR live 0 0 36), (36, am_getR live 2 2 39), (39, am_iload 1 40), (40, am_const (.int 40) 42), (42, am_i2 (fun x y => x * y) 43), (43, am_iload 3 44), (44, am_i2 (fun x y => x + y) 45), (45, am_iload 1 46), (46, am_const (.int 40) 48), (48, am_i2 (fun x y => x * y) 49), (49, am_iload 4 51), (51, am_i2 (fun x y => x + y) 52), (52, am_iload 2 53), (53, am_callS live 4 TX7_lay 56), (56, am_const (.int 1) 57), (57, am_retI Ret)]
theorem koX7_land (live : am_E) (Ret : am_R) : ∀ q ∈ kX7_land live Ret, am_ok RX7 cX7_land 5 (some .int) 2 47 live Ret q.1 q.2 :=
  am_kc (ak_aload_n dX7_land_0 rfl rfl) <|
  am_kc (ak_iload_n dX7_land_1 rfl rfl) <|
  am_kc (ak_callV (C := RX7) (F := TX7) (N := 4) metX7_isPerson rfl ⟨rfl, by decide +kernel, by decide +kernel, by decide +kernel⟩ (am_w5 wd_414 wd_416 wd_0 wd_58 wd_417) (by decide) dX7_land_2 rfl) <|
  am_kc (ak_if_eq dX7_land_5 (by decide +kernel) rfl) <|
  am_kc (ak_iload_n dX7_land_8 rfl rfl) <|
  am_kc (ak_iconst dX7_land_9 (by decide +kernel) rfl) <|
  am_kc (ak_iconst dX7_land_10 (by decide +kernel) rfl) <|
  am_kc (ak_callS metX7_within ⟨rfl, by decide +kernel, by decide +kernel, by decide +kernel⟩ (am_w4 wd_418 wd_419 wd_58 wd_420) (by decide) dX7_land_11 rfl) <|
  am_kc (ak_if_eq dX7_land_14 (by decide +kernel) rfl) <|
  am_kc (ak_iload_n dX7_land_17 rfl rfl) <|
  am_kc (ak_iload dX7_land_18 rfl) <|
  am_kc (ak_callS metX7_isSpan ⟨rfl, by decide +kernel, by decide +kernel, by decide +kernel⟩ (am_w4 wd_421 wd_422 wd_58 wd_423) (by decide) dX7_land_20 rfl) <|
  am_kc (ak_if_ne dX7_land_23 (by decide +kernel) rfl) <|
  am_kc (ak_bipush dX7_land_26 (by decide +kernel) rfl) <|
  am_kc (ak_retI dX7_land_28) <|
  am_kc (ak_aload_n dX7_land_29 rfl rfl) <|
  am_kc (ak_getR (C := RX7) (T := TX7) (N := 4) rfl inX7w (by decide) rfl rfl rfl wd_390 dX7_land_30 rfl) <|
  am_kc (ak_getR (C := RX0) (T := TX0) (N := 13) rfl inX0w (by decide) rfl rfl rfl wd_194 dX7_land_33 rfl) <|
  am_kc (ak_getR (C := RX2) (T := TX2) (N := 8) rfl inX2w (by decide) rfl rfl rfl wd_111 dX7_land_36 rfl) <|
  am_kc (ak_iload_n dX7_land_39 rfl rfl) <|
  am_kc (ak_bipush dX7_land_40 (by decide +kernel) rfl) <|
  am_kc (ak_imul dX7_land_42 rfl) <|
  am_kc (ak_iload_n dX7_land_43 rfl rfl) <|
  am_kc (ak_iadd dX7_land_44 rfl) <|
  am_kc (ak_iload_n dX7_land_45 rfl rfl) <|
  am_kc (ak_bipush dX7_land_46 (by decide +kernel) rfl) <|
  am_kc (ak_imul dX7_land_48 rfl) <|
  am_kc (ak_iload dX7_land_49 rfl) <|
  am_kc (ak_iadd dX7_land_51 rfl) <|
  am_kc (ak_iload_n dX7_land_52 rfl rfl) <|
  am_kc (ak_callS metX7_lay ⟨rfl, by decide +kernel, by decide +kernel, by decide +kernel⟩ (am_w4 wd_424 wd_425 wd_58 wd_426) (by decide) dX7_land_53 rfl) <|
  am_kc (ak_iconst dX7_land_56 (by decide +kernel) rfl) <|
  am_kc (ak_retI dX7_land_57) <| am_kn
def TX7_land : am_T := fun live as M R => match as with
  | [.ref n, .int p, .int l, .int f, .int t] => am_mn live ∧ n = 0 ∧ am_F7 M ∧ R (some (.int (-2))) M
  | _ => False
set_option maxRecDepth 100000 in
set_option maxHeartbeats 4000000 in
theorem metX7_land : am_Met yX7_land cX7_land 5 (some .int) (2) (47) TX7_land := by
  refine am_met (own := RX7) (by decide +kernel) rfl kX7_land koX7_land 300 (fun _ _ _ _ _ => none) (fun live as M Ret h => ?_) (fun _ _ _ _ _ _ _ _ hI => by cases hI)
  unfold TX7_land at h
  split at h
  · next n p l f t =>
    refine ⟨Nat.le_of_ble_eq_true rfl, ?_⟩
    change am_wp _ _ _ _ [(0, Value.ref n), (1, Value.int p), (2, Value.int l), (3, Value.int f), (4, Value.int t)] _ _
    obtain ⟨⟨i1, i2, rfl⟩, rfl, hF, h⟩ := h
    have hs : M.1 21 7 = 0 := hF.1
    have hp : (if 0 ≤ p ∧ p < M.1 21 7 then (1 : Int32) else 0) = 0 := am_b0.mpr (fun q => by
      rw [hs, i_le, i_lt, Int32.toInt_zero] at q
      omega)
    repeat' (first | apply And.intro | exact rfl | (intro hx; with_reducible exact absurd hp hx) | intro hx | (refine Exists.intro _ (And.intro rfl ?_)))
    all_goals try first | (with_reducible change am_tI _ _) | (change Ret _ _) | (change Ret _ _ _) | (change Exists _)
    all_goals try dsimp only at *
    all_goals try exact absurd ‹(1000 : Int64) = 0› (by decide)
    all_goals first | exact h | exact hp | (left; exact hp) | grind
  · exact h.elim
theorem wd_407 : Cond.methodLink "LearnLoans" 34 yX7_isYear ∈ am_ws := am_wsi (List.mem_of_getElem? (i := 407) (by decide +kernel)) (by decide +kernel)
theorem wd_408 : Cond.static yX7_isYear ∈ am_ws := am_wsi (List.mem_of_getElem? (i := 408) (by decide +kernel)) (by decide +kernel)
theorem wd_409 : Cond.code yX7_isYear cX7_isYear 1 (some .boolean) ∈ am_ws := am_wsi (List.mem_of_getElem? (i := 409) (by decide +kernel)) (by decide +kernel)
theorem wd_109 : Cond.fieldLink "LearnLoans" 76 "LearnLoans$People" "died" "[I" ∈ am_ws := am_wsi (List.mem_of_getElem? (i := 109) (by decide +kernel)) (by decide +kernel)
theorem dX7_dies_0 : decode cX7_dies 0 = .ok (.aload_n 0, 1) := by decide +kernel
theorem dX7_dies_1 : decode cX7_dies 1 = .ok (.iload_n 1, 1) := by decide +kernel
theorem dX7_dies_2 : decode cX7_dies 2 = .ok (.invokevirtual 52, 3) := by decide +kernel
theorem dX7_dies_5 : decode cX7_dies 5 = .ok (.ifCond .eq 10, 3) := by decide +kernel
theorem dX7_dies_8 : decode cX7_dies 8 = .ok (.iload_n 2, 1) := by decide +kernel
theorem dX7_dies_9 : decode cX7_dies 9 = .ok (.invokestatic 34, 3) := by decide +kernel
theorem dX7_dies_12 : decode cX7_dies 12 = .ok (.ifCond .ne 6, 3) := by decide +kernel
theorem dX7_dies_15 : decode cX7_dies 15 = .ok (.bipush (-2), 2) := by decide +kernel
theorem dX7_dies_17 : decode cX7_dies 17 = .ok (.ireturn, 1) := by decide +kernel
theorem dX7_dies_18 : decode cX7_dies 18 = .ok (.aload_n 0, 1) := by decide +kernel
theorem dX7_dies_19 : decode cX7_dies 19 = .ok (.getfield 27, 3) := by decide +kernel
theorem dX7_dies_22 : decode cX7_dies 22 = .ok (.getfield 38, 3) := by decide +kernel
theorem dX7_dies_25 : decode cX7_dies 25 = .ok (.getfield 76, 3) := by decide +kernel
theorem dX7_dies_28 : decode cX7_dies 28 = .ok (.iload_n 1, 1) := by decide +kernel
theorem dX7_dies_29 : decode cX7_dies 29 = .ok (.iaload, 1) := by decide +kernel
theorem dX7_dies_30 : decode cX7_dies 30 = .ok (.iconst (-1), 1) := by decide +kernel
theorem dX7_dies_31 : decode cX7_dies 31 = .ok (.if_icmp .eq 6, 3) := by decide +kernel
theorem dX7_dies_34 : decode cX7_dies 34 = .ok (.bipush (-3), 2) := by decide +kernel
theorem dX7_dies_36 : decode cX7_dies 36 = .ok (.ireturn, 1) := by decide +kernel
theorem dX7_dies_37 : decode cX7_dies 37 = .ok (.aload_n 0, 1) := by decide +kernel
theorem dX7_dies_38 : decode cX7_dies 38 = .ok (.getfield 27, 3) := by decide +kernel
theorem dX7_dies_41 : decode cX7_dies 41 = .ok (.getfield 38, 3) := by decide +kernel
theorem dX7_dies_44 : decode cX7_dies 44 = .ok (.getfield 76, 3) := by decide +kernel
theorem dX7_dies_47 : decode cX7_dies 47 = .ok (.iload_n 1, 1) := by decide +kernel
theorem dX7_dies_48 : decode cX7_dies 48 = .ok (.iload_n 2, 1) := by decide +kernel
theorem dX7_dies_49 : decode cX7_dies 49 = .ok (.iastore, 1) := by decide +kernel
theorem dX7_dies_50 : decode cX7_dies 50 = .ok (.iconst 1, 1) := by decide +kernel
theorem dX7_dies_51 : decode cX7_dies 51 = .ok (.ireturn, 1) := by decide +kernel
def kX7_dies (live : am_E) (Ret : am_R) : am_code := [(0, am_aload 0 1), (1, am_iload 1 2), (2, am_callV live 7 1 TX7_isPerson 5), (5, am_if1 (fun x => x = 0) 15 8), (8, am_iload 2 9), (9, am_callS live 1 TX7_isYear 12), (12, am_if1 (fun x => x = 0) 15 18), (15, am_const (.int (-2)) 17), (17, am_retI Ret), (18, am_aload 0 19), (19, am_getR live 7 0 22), (22, am_getR live 0 0 25), (25, am_getR live 2 1 28), (28, am_iload 1 29), (29, am_ald live 0 30), (30, am_const (.int (-1)) 31), (31, am_if2 (fun x y => x = y) 37 34), (34, am_const (.int (-3)) 36), (36, am_retI Ret), (37, am_aload 0 38), (38, am_getR live 7 0 41), (41, am_getR live 0 0 44), (44, am_getR live 2 1 47), (47, am_iload 1 48), (48, am_iload 2 49), (49, am_ast live 0 50), (50, am_const (.int 1) 51), (51, am_retI Ret)]
theorem koX7_dies (live : am_E) (Ret : am_R) : ∀ q ∈ kX7_dies live Ret, am_ok RX7 cX7_dies 3 (some .int) 1 21 live Ret q.1 q.2 :=
  am_kc (ak_aload_n dX7_dies_0 rfl rfl) <|
  am_kc (ak_iload_n dX7_dies_1 rfl rfl) <|
  am_kc (ak_callV (C := RX7) (F := TX7) (N := 4) metX7_isPerson rfl ⟨rfl, by decide +kernel, by decide +kernel, by decide +kernel⟩ (am_w5 wd_414 wd_416 wd_0 wd_58 wd_417) (by decide) dX7_dies_2 rfl) <|
  am_kc (ak_if_eq dX7_dies_5 (by decide +kernel) rfl) <|
  am_kc (ak_iload_n dX7_dies_8 rfl rfl) <|
  am_kc (ak_callS metX7_isYear ⟨rfl, by decide +kernel, by decide +kernel, by decide +kernel⟩ (am_w4 wd_407 wd_408 wd_58 wd_409) (by decide) dX7_dies_9 rfl) <|
  am_kc (ak_if_ne dX7_dies_12 (by decide +kernel) rfl) <|
  am_kc (ak_bipush dX7_dies_15 (by decide +kernel) rfl) <|
  am_kc (ak_retI dX7_dies_17) <|
  am_kc (ak_aload_n dX7_dies_18 rfl rfl) <|
  am_kc (ak_getR (C := RX7) (T := TX7) (N := 4) rfl inX7w (by decide) rfl rfl rfl wd_390 dX7_dies_19 rfl) <|
  am_kc (ak_getR (C := RX0) (T := TX0) (N := 13) rfl inX0w (by decide) rfl rfl rfl wd_194 dX7_dies_22 rfl) <|
  am_kc (ak_getR (C := RX2) (T := TX2) (N := 8) rfl inX2w (by decide) rfl rfl rfl wd_109 dX7_dies_25 rfl) <|
  am_kc (ak_iload_n dX7_dies_28 rfl rfl) <|
  am_kc (ak_iald (t := 0) (fun _ => rfl) rfl dX7_dies_29 rfl) <|
  am_kc (ak_iconst dX7_dies_30 (by decide +kernel) rfl) <|
  am_kc (ak_icmp_eq dX7_dies_31 (by decide +kernel) rfl) <|
  am_kc (ak_bipush dX7_dies_34 (by decide +kernel) rfl) <|
  am_kc (ak_retI dX7_dies_36) <|
  am_kc (ak_aload_n dX7_dies_37 rfl rfl) <|
  am_kc (ak_getR (C := RX7) (T := TX7) (N := 4) rfl inX7w (by decide) rfl rfl rfl wd_390 dX7_dies_38 rfl) <|
  am_kc (ak_getR (C := RX0) (T := TX0) (N := 13) rfl inX0w (by decide) rfl rfl rfl wd_194 dX7_dies_41 rfl) <|
  am_kc (ak_getR (C := RX2) (T := TX2) (N := 8) rfl inX2w (by decide) rfl rfl rfl wd_109 dX7_dies_44 rfl) <|
  am_kc (ak_iload_n dX7_dies_47 rfl rfl) <|
  am_kc (ak_iload_n dX7_dies_48 rfl rfl) <|
  am_kc (ak_iast (t := 0) (fun _ => rfl) rfl dX7_dies_49 rfl) <|
  am_kc (ak_iconst dX7_dies_50 (by decide +kernel) rfl) <|
  am_kc (ak_retI dX7_dies_51) <| am_kn
def TX7_dies : am_T := fun live as M R => match as with
  | [.ref n, .int p, .int y] => am_mn live ∧ n = 0 ∧ am_F7 M ∧ R (some (.int (-2))) M
  | _ => False
set_option maxRecDepth 100000 in
set_option maxHeartbeats 4000000 in
theorem metX7_dies : am_Met yX7_dies cX7_dies 3 (some .int) (1) (21) TX7_dies := by
  refine am_met (own := RX7) (by decide +kernel) rfl kX7_dies koX7_dies 300 (fun _ _ _ _ _ => none) (fun live as M Ret h => ?_) (fun _ _ _ _ _ _ _ _ hI => by cases hI)
  unfold TX7_dies at h
  split at h
  · next n p y =>
    refine ⟨Nat.le_of_ble_eq_true rfl, ?_⟩
    change am_wp _ _ _ _ [(0, Value.ref n), (1, Value.int p), (2, Value.int y)] _ _
    obtain ⟨⟨i1, i2, rfl⟩, rfl, hF, h⟩ := h
    have hs : M.1 21 7 = 0 := hF.1
    have hp : (if 0 ≤ p ∧ p < M.1 21 7 then (1 : Int32) else 0) = 0 := am_b0.mpr (fun q => by
      rw [hs, i_le, i_lt, Int32.toInt_zero] at q
      omega)
    repeat' (first | apply And.intro | exact rfl | (intro hx; with_reducible exact absurd hp hx) | intro hx | (refine Exists.intro _ (And.intro rfl ?_)))
    all_goals try first | (with_reducible change am_tI _ _) | (change Ret _ _) | (change Ret _ _ _) | (change Exists _)
    all_goals try dsimp only at *
    all_goals try exact absurd ‹(1000 : Int64) = 0› (by decide)
    all_goals first | exact h | exact hp | (left; exact hp) | grind
  · exact h.elim
theorem wd_446 : Cond.methodLink "LearnLoans" 79 yX7_isPence ∈ am_ws := am_wsi (List.mem_of_getElem? (i := 446) (by decide +kernel)) (by decide +kernel)
theorem wd_447 : Cond.static yX7_isPence ∈ am_ws := am_wsi (List.mem_of_getElem? (i := 447) (by decide +kernel)) (by decide +kernel)
theorem wd_448 : Cond.code yX7_isPence cX7_isPence 1 (some .boolean) ∈ am_ws := am_wsi (List.mem_of_getElem? (i := 448) (by decide +kernel)) (by decide +kernel)
theorem wd_116 : Cond.fieldLink "LearnLoans" 82 "LearnLoans$People" "firstKnown" "[I" ∈ am_ws := am_wsi (List.mem_of_getElem? (i := 116) (by decide +kernel)) (by decide +kernel)
theorem wd_114 : Cond.fieldLink "LearnLoans" 85 "LearnLoans$People" "first" "[I" ∈ am_ws := am_wsi (List.mem_of_getElem? (i := 114) (by decide +kernel)) (by decide +kernel)
theorem dX7_earn_0 : decode cX7_earn 0 = .ok (.aload_n 0, 1) := by decide +kernel
theorem dX7_earn_1 : decode cX7_earn 1 = .ok (.iload_n 1, 1) := by decide +kernel
theorem dX7_earn_2 : decode cX7_earn 2 = .ok (.invokevirtual 52, 3) := by decide +kernel
theorem dX7_earn_5 : decode cX7_earn 5 = .ok (.ifCond .eq 19, 3) := by decide +kernel
theorem dX7_earn_8 : decode cX7_earn 8 = .ok (.iload_n 2, 1) := by decide +kernel
theorem dX7_earn_9 : decode cX7_earn 9 = .ok (.iload 4, 2) := by decide +kernel
theorem dX7_earn_11 : decode cX7_earn 11 = .ok (.invokestatic 59, 3) := by decide +kernel
theorem dX7_earn_14 : decode cX7_earn 14 = .ok (.ifCond .eq 10, 3) := by decide +kernel
theorem dX7_earn_17 : decode cX7_earn 17 = .ok (.iload_n 3, 1) := by decide +kernel
theorem dX7_earn_18 : decode cX7_earn 18 = .ok (.invokestatic 79, 3) := by decide +kernel
theorem dX7_earn_21 : decode cX7_earn 21 = .ok (.ifCond .ne 6, 3) := by decide +kernel
theorem dX7_earn_24 : decode cX7_earn 24 = .ok (.bipush (-2), 2) := by decide +kernel
theorem dX7_earn_26 : decode cX7_earn 26 = .ok (.ireturn, 1) := by decide +kernel
theorem dX7_earn_27 : decode cX7_earn 27 = .ok (.aload_n 0, 1) := by decide +kernel
theorem dX7_earn_28 : decode cX7_earn 28 = .ok (.getfield 27, 3) := by decide +kernel
theorem dX7_earn_31 : decode cX7_earn 31 = .ok (.getfield 38, 3) := by decide +kernel
theorem dX7_earn_34 : decode cX7_earn 34 = .ok (.astore 5, 2) := by decide +kernel
theorem dX7_earn_36 : decode cX7_earn 36 = .ok (.iload_n 1, 1) := by decide +kernel
theorem dX7_earn_37 : decode cX7_earn 37 = .ok (.bipush 40, 2) := by decide +kernel
theorem dX7_earn_39 : decode cX7_earn 39 = .ok (.imul, 1) := by decide +kernel
theorem dX7_earn_40 : decode cX7_earn 40 = .ok (.iload_n 2, 1) := by decide +kernel
theorem dX7_earn_41 : decode cX7_earn 41 = .ok (.iadd, 1) := by decide +kernel
theorem dX7_earn_42 : decode cX7_earn 42 = .ok (.istore 6, 2) := by decide +kernel
theorem dX7_earn_44 : decode cX7_earn 44 = .ok (.aload 5, 2) := by decide +kernel
theorem dX7_earn_46 : decode cX7_earn 46 = .ok (.getfield 82, 3) := by decide +kernel
theorem dX7_earn_49 : decode cX7_earn 49 = .ok (.iload 6, 2) := by decide +kernel
theorem dX7_earn_51 : decode cX7_earn 51 = .ok (.iaload, 1) := by decide +kernel
theorem dX7_earn_52 : decode cX7_earn 52 = .ok (.iconst (-1), 1) := by decide +kernel
theorem dX7_earn_53 : decode cX7_earn 53 = .ok (.if_icmp .eq 6, 3) := by decide +kernel
theorem dX7_earn_56 : decode cX7_earn 56 = .ok (.bipush (-3), 2) := by decide +kernel
theorem dX7_earn_58 : decode cX7_earn 58 = .ok (.ireturn, 1) := by decide +kernel
theorem dX7_earn_59 : decode cX7_earn 59 = .ok (.aload 5, 2) := by decide +kernel
theorem dX7_earn_61 : decode cX7_earn 61 = .ok (.getfield 85, 3) := by decide +kernel
theorem dX7_earn_64 : decode cX7_earn 64 = .ok (.iload 6, 2) := by decide +kernel
theorem dX7_earn_66 : decode cX7_earn 66 = .ok (.iload_n 3, 1) := by decide +kernel
theorem dX7_earn_67 : decode cX7_earn 67 = .ok (.iastore, 1) := by decide +kernel
theorem dX7_earn_68 : decode cX7_earn 68 = .ok (.aload 5, 2) := by decide +kernel
theorem dX7_earn_70 : decode cX7_earn 70 = .ok (.getfield 82, 3) := by decide +kernel
theorem dX7_earn_73 : decode cX7_earn 73 = .ok (.iload 6, 2) := by decide +kernel
theorem dX7_earn_75 : decode cX7_earn 75 = .ok (.iload 4, 2) := by decide +kernel
theorem dX7_earn_77 : decode cX7_earn 77 = .ok (.iastore, 1) := by decide +kernel
theorem dX7_earn_78 : decode cX7_earn 78 = .ok (.iconst 1, 1) := by decide +kernel
theorem dX7_earn_79 : decode cX7_earn 79 = .ok (.ireturn, 1) := by decide +kernel
def kX7_earn (live : am_E) (Ret : am_R) : am_code := [(0, am_aload 0 1), (1, am_iload 1 2), (2, am_callV live 7 1 TX7_isPerson 5), (5, am_if1 (fun x => x = 0) 24 8), (8, am_iload 2 9), (9, am_iload 4 11), (11, am_callS live 2 TX7_isSpan 14), (14, am_if1 (fun x => x = 0) 24 17), (17, am_iload 3 18), (18, am_callS live 1 TX7_isPence 21), (21, am_if1 (fun x => x = 0) 24 27), (24, am_const (.int (-2)) 26), (26, am_retI Ret), (27, am_aload 0 28), (28, am_getR live 7 0 31), (31, am_getR live 0 0 34), (34, am_astore 5 7 36), (36, am_iload 1 37), (37, am_const (.int 40) 39), (39, am_i2 (fun x y => x * y) 40), (40, am_iload 2 41), (41, am_i2 (fun x y => x + y) 42), (42, am_istore 6 7 44), (44, am_aload 5 46), (46, am_getR live 2 4 49), (49, am_iload 6 51), (51, am_ald live 0 52), (52, am_const (.int (-1)) 53), (53, am_if2 (fun x y => x = y) 59 56), (56, am_const (.int (-3)) 58), (58, am_retI Ret), (59, am_aload 5 61), (61, am_getR live 2 3 64), (64, am_iload 6 66), (66, am_iload 3 67), (67, am_ast live 0 68), (68, am_aload 5 70), (70, am_getR live 2 4 73), (73, am_iload 6 75), (75, am_iload 4 77), (77, am_ast live 0 78), (78, am_const (.int 1) 79), (79, am_retI Ret)]
theorem koX7_earn (live : am_E) (Ret : am_R) : ∀ q ∈ kX7_earn live Ret, am_ok RX7 cX7_earn 7 (some .int) 1 21 live Ret q.1 q.2 :=
  am_kc (ak_aload_n dX7_earn_0 rfl rfl) <|
  am_kc (ak_iload_n dX7_earn_1 rfl rfl) <|
  am_kc (ak_callV (C := RX7) (F := TX7) (N := 4) metX7_isPerson rfl ⟨rfl, by decide +kernel, by decide +kernel, by decide +kernel⟩ (am_w5 wd_414 wd_416 wd_0 wd_58 wd_417) (by decide) dX7_earn_2 rfl) <|
  am_kc (ak_if_eq dX7_earn_5 (by decide +kernel) rfl) <|
  am_kc (ak_iload_n dX7_earn_8 rfl rfl) <|
  am_kc (ak_iload dX7_earn_9 rfl) <|
  am_kc (ak_callS metX7_isSpan ⟨rfl, by decide +kernel, by decide +kernel, by decide +kernel⟩ (am_w4 wd_421 wd_422 wd_58 wd_423) (by decide) dX7_earn_11 rfl) <|
  am_kc (ak_if_eq dX7_earn_14 (by decide +kernel) rfl) <|
  am_kc (ak_iload_n dX7_earn_17 rfl rfl) <|
  am_kc (ak_callS metX7_isPence ⟨rfl, by decide +kernel, by decide +kernel, by decide +kernel⟩ (am_w4 wd_446 wd_447 wd_58 wd_448) (by decide) dX7_earn_18 rfl) <|
  am_kc (ak_if_ne dX7_earn_21 (by decide +kernel) rfl) <|
  am_kc (ak_bipush dX7_earn_24 (by decide +kernel) rfl) <|
  am_kc (ak_retI dX7_earn_26) <|
  am_kc (ak_aload_n dX7_earn_27 rfl rfl) <|
  am_kc (ak_getR (C := RX7) (T := TX7) (N := 4) rfl inX7w (by decide) rfl rfl rfl wd_390 dX7_earn_28 rfl) <|
  am_kc (ak_getR (C := RX0) (T := TX0) (N := 13) rfl inX0w (by decide) rfl rfl rfl wd_194 dX7_earn_31 rfl) <|
  am_kc (ak_astore dX7_earn_34 rfl) <|
  am_kc (ak_iload_n dX7_earn_36 rfl rfl) <|
  am_kc (ak_bipush dX7_earn_37 (by decide +kernel) rfl) <|
  am_kc (ak_imul dX7_earn_39 rfl) <|
  am_kc (ak_iload_n dX7_earn_40 rfl rfl) <|
  am_kc (ak_iadd dX7_earn_41 rfl) <|
  am_kc (ak_istore dX7_earn_42 rfl) <|
  am_kc (ak_aload dX7_earn_44 rfl) <|
  am_kc (ak_getR (C := RX2) (T := TX2) (N := 8) rfl inX2w (by decide) rfl rfl rfl wd_116 dX7_earn_46 rfl) <|
  am_kc (ak_iload dX7_earn_49 rfl) <|
  am_kc (ak_iald (t := 0) (fun _ => rfl) rfl dX7_earn_51 rfl) <|
  am_kc (ak_iconst dX7_earn_52 (by decide +kernel) rfl) <|
  am_kc (ak_icmp_eq dX7_earn_53 (by decide +kernel) rfl) <|
  am_kc (ak_bipush dX7_earn_56 (by decide +kernel) rfl) <|
  am_kc (ak_retI dX7_earn_58) <|
  am_kc (ak_aload dX7_earn_59 rfl) <|
  am_kc (ak_getR (C := RX2) (T := TX2) (N := 8) rfl inX2w (by decide) rfl rfl rfl wd_114 dX7_earn_61 rfl) <|
  am_kc (ak_iload dX7_earn_64 rfl) <|
  am_kc (ak_iload_n dX7_earn_66 rfl rfl) <|
  am_kc (ak_iast (t := 0) (fun _ => rfl) rfl dX7_earn_67 rfl) <|
  am_kc (ak_aload dX7_earn_68 rfl) <|
  am_kc (ak_getR (C := RX2) (T := TX2) (N := 8) rfl inX2w (by decide) rfl rfl rfl wd_116 dX7_earn_70 rfl) <|
  am_kc (ak_iload dX7_earn_73 rfl) <|
  am_kc (ak_iload dX7_earn_75 rfl) <|
  am_kc (ak_iast (t := 0) (fun _ => rfl) rfl dX7_earn_77 rfl) <|
  am_kc (ak_iconst dX7_earn_78 (by decide +kernel) rfl) <|
  am_kc (ak_retI dX7_earn_79) <| am_kn
def TX7_earn : am_T := fun live as M R => match as with
  | [.ref n, .int p, .int y, .int e, .int k] => am_mn live ∧ n = 0 ∧ am_F7 M ∧ R (some (.int (-2))) M
  | _ => False
set_option maxRecDepth 100000 in
set_option maxHeartbeats 4000000 in
theorem metX7_earn : am_Met yX7_earn cX7_earn 7 (some .int) (1) (21) TX7_earn := by
  refine am_met (own := RX7) (by decide +kernel) rfl kX7_earn koX7_earn 300 (fun _ _ _ _ _ => none) (fun live as M Ret h => ?_) (fun _ _ _ _ _ _ _ _ hI => by cases hI)
  unfold TX7_earn at h
  split at h
  · next n p y e k =>
    refine ⟨Nat.le_of_ble_eq_true rfl, ?_⟩
    change am_wp _ _ _ _ [(0, Value.ref n), (1, Value.int p), (2, Value.int y), (3, Value.int e), (4, Value.int k)] _ _
    obtain ⟨⟨i1, i2, rfl⟩, rfl, hF, h⟩ := h
    have hs : M.1 21 7 = 0 := hF.1
    have hp : (if 0 ≤ p ∧ p < M.1 21 7 then (1 : Int32) else 0) = 0 := am_b0.mpr (fun q => by
      rw [hs, i_le, i_lt, Int32.toInt_zero] at q
      omega)
    repeat' (first | apply And.intro | exact rfl | (intro hx; with_reducible exact absurd hp hx) | intro hx | (refine Exists.intro _ (And.intro rfl ?_)))
    all_goals try first | (with_reducible change am_tI _ _) | (change Ret _ _) | (change Ret _ _ _) | (change Exists _)
    all_goals try dsimp only at *
    all_goals try exact absurd ‹(1000 : Int64) = 0› (by decide)
    all_goals first | exact h | exact hp | (left; exact hp) | grind
  · exact h.elim
theorem wd_120 : Cond.fieldLink "LearnLoans" 88 "LearnLoans$People" "secondKnown" "[I" ∈ am_ws := am_wsi (List.mem_of_getElem? (i := 120) (by decide +kernel)) (by decide +kernel)
theorem wd_118 : Cond.fieldLink "LearnLoans" 91 "LearnLoans$People" "second" "[I" ∈ am_ws := am_wsi (List.mem_of_getElem? (i := 118) (by decide +kernel)) (by decide +kernel)
theorem dX7_right_0 : decode cX7_right 0 = .ok (.aload_n 0, 1) := by decide +kernel
theorem dX7_right_1 : decode cX7_right 1 = .ok (.iload_n 1, 1) := by decide +kernel
theorem dX7_right_2 : decode cX7_right 2 = .ok (.invokevirtual 52, 3) := by decide +kernel
theorem dX7_right_5 : decode cX7_right 5 = .ok (.ifCond .eq 25, 3) := by decide +kernel
theorem dX7_right_8 : decode cX7_right 8 = .ok (.iload_n 2, 1) := by decide +kernel
theorem dX7_right_9 : decode cX7_right 9 = .ok (.invokestatic 34, 3) := by decide +kernel
theorem dX7_right_12 : decode cX7_right 12 = .ok (.ifCond .eq 18, 3) := by decide +kernel
theorem dX7_right_15 : decode cX7_right 15 = .ok (.iload_n 3, 1) := by decide +kernel
theorem dX7_right_16 : decode cX7_right 16 = .ok (.invokestatic 79, 3) := by decide +kernel
theorem dX7_right_19 : decode cX7_right 19 = .ok (.ifCond .eq 11, 3) := by decide +kernel
theorem dX7_right_22 : decode cX7_right 22 = .ok (.iload 4, 2) := by decide +kernel
theorem dX7_right_24 : decode cX7_right 24 = .ok (.invokestatic 34, 3) := by decide +kernel
theorem dX7_right_27 : decode cX7_right 27 = .ok (.ifCond .ne 6, 3) := by decide +kernel
theorem dX7_right_30 : decode cX7_right 30 = .ok (.bipush (-2), 2) := by decide +kernel
theorem dX7_right_32 : decode cX7_right 32 = .ok (.ireturn, 1) := by decide +kernel
theorem dX7_right_33 : decode cX7_right 33 = .ok (.aload_n 0, 1) := by decide +kernel
theorem dX7_right_34 : decode cX7_right 34 = .ok (.getfield 27, 3) := by decide +kernel
theorem dX7_right_37 : decode cX7_right 37 = .ok (.getfield 38, 3) := by decide +kernel
theorem dX7_right_40 : decode cX7_right 40 = .ok (.astore 5, 2) := by decide +kernel
theorem dX7_right_42 : decode cX7_right 42 = .ok (.iload_n 1, 1) := by decide +kernel
theorem dX7_right_43 : decode cX7_right 43 = .ok (.bipush 40, 2) := by decide +kernel
theorem dX7_right_45 : decode cX7_right 45 = .ok (.imul, 1) := by decide +kernel
theorem dX7_right_46 : decode cX7_right 46 = .ok (.iload_n 2, 1) := by decide +kernel
theorem dX7_right_47 : decode cX7_right 47 = .ok (.iadd, 1) := by decide +kernel
theorem dX7_right_48 : decode cX7_right 48 = .ok (.istore 6, 2) := by decide +kernel
theorem dX7_right_50 : decode cX7_right 50 = .ok (.iload 4, 2) := by decide +kernel
theorem dX7_right_52 : decode cX7_right 52 = .ok (.aload 5, 2) := by decide +kernel
theorem dX7_right_54 : decode cX7_right 54 = .ok (.getfield 82, 3) := by decide +kernel
theorem dX7_right_57 : decode cX7_right 57 = .ok (.iload 6, 2) := by decide +kernel
theorem dX7_right_59 : decode cX7_right 59 = .ok (.iaload, 1) := by decide +kernel
theorem dX7_right_60 : decode cX7_right 60 = .ok (.if_icmp .ge 6, 3) := by decide +kernel
theorem dX7_right_63 : decode cX7_right 63 = .ok (.bipush (-2), 2) := by decide +kernel
theorem dX7_right_65 : decode cX7_right 65 = .ok (.ireturn, 1) := by decide +kernel
theorem dX7_right_66 : decode cX7_right 66 = .ok (.aload 5, 2) := by decide +kernel
theorem dX7_right_68 : decode cX7_right 68 = .ok (.getfield 82, 3) := by decide +kernel
theorem dX7_right_71 : decode cX7_right 71 = .ok (.iload 6, 2) := by decide +kernel
theorem dX7_right_73 : decode cX7_right 73 = .ok (.iaload, 1) := by decide +kernel
theorem dX7_right_74 : decode cX7_right 74 = .ok (.iconst (-1), 1) := by decide +kernel
theorem dX7_right_75 : decode cX7_right 75 = .ok (.if_icmp .eq 15, 3) := by decide +kernel
theorem dX7_right_78 : decode cX7_right 78 = .ok (.aload 5, 2) := by decide +kernel
theorem dX7_right_80 : decode cX7_right 80 = .ok (.getfield 88, 3) := by decide +kernel
theorem dX7_right_83 : decode cX7_right 83 = .ok (.iload 6, 2) := by decide +kernel
theorem dX7_right_85 : decode cX7_right 85 = .ok (.iaload, 1) := by decide +kernel
theorem dX7_right_86 : decode cX7_right 86 = .ok (.iconst (-1), 1) := by decide +kernel
theorem dX7_right_87 : decode cX7_right 87 = .ok (.if_icmp .eq 6, 3) := by decide +kernel
theorem dX7_right_90 : decode cX7_right 90 = .ok (.bipush (-3), 2) := by decide +kernel
theorem dX7_right_92 : decode cX7_right 92 = .ok (.ireturn, 1) := by decide +kernel
theorem dX7_right_93 : decode cX7_right 93 = .ok (.aload 5, 2) := by decide +kernel
theorem dX7_right_95 : decode cX7_right 95 = .ok (.getfield 91, 3) := by decide +kernel
theorem dX7_right_98 : decode cX7_right 98 = .ok (.iload 6, 2) := by decide +kernel
theorem dX7_right_100 : decode cX7_right 100 = .ok (.iload_n 3, 1) := by decide +kernel
theorem dX7_right_101 : decode cX7_right 101 = .ok (.iastore, 1) := by decide +kernel
theorem dX7_right_102 : decode cX7_right 102 = .ok (.aload 5, 2) := by decide +kernel
theorem dX7_right_104 : decode cX7_right 104 = .ok (.getfield 88, 3) := by decide +kernel
theorem dX7_right_107 : decode cX7_right 107 = .ok (.iload 6, 2) := by decide +kernel
theorem dX7_right_109 : decode cX7_right 109 = .ok (.iload 4, 2) := by decide +kernel
theorem dX7_right_111 : decode cX7_right 111 = .ok (.iastore, 1) := by decide +kernel
theorem dX7_right_112 : decode cX7_right 112 = .ok (.iconst 1, 1) := by decide +kernel
theorem dX7_right_113 : decode cX7_right 113 = .ok (.ireturn, 1) := by decide +kernel
def kX7_right (live : am_E) (Ret : am_R) : am_code := [(0, am_aload 0 1), (1, am_iload 1 2), (2, am_callV live 7 1 TX7_isPerson 5), (5, am_if1 (fun x => x = 0) 30 8), (8, am_iload 2 9), (9, am_callS live 1 TX7_isYear 12), (12, am_if1 (fun x => x = 0) 30 15), (15, am_iload 3 16), (16, am_callS live 1 TX7_isPence 19), (19, am_if1 (fun x => x = 0) 30 22), (22, am_iload 4 24), (24, am_callS live 1 TX7_isYear 27), (27, am_if1 (fun x => x = 0) 30 33), (30, am_const (.int (-2)) 32), (32, am_retI Ret), (33, am_aload 0 34), (34, am_getR live 7 0 37), (37, am_getR live 0 0 40), (40, am_astore 5 7 42), (42, am_iload 1 43), (43, am_const (.int 40) 45), (45, am_i2 (fun x y => x * y) 46), (46, am_iload 2 47), (47, am_i2 (fun x y => x + y) 48), (48, am_istore 6 7 50), (50, am_iload 4 52), (52, am_aload 5 54), (54, am_getR live 2 4 57), (57, am_iload 6 59), (59, am_ald live 0 60), (60, am_if2 (fun x y => y ≤ x) 66 63), (63, am_const (.int (-2)) 65), (65, am_retI Ret), (66, am_aload 5 68), (68, am_getR live 2 4 71), (71, am_iload 6 73), (73, am_ald live 0 74), (74, am_const (.int (-1)) 75), (75, am_if2 (fun x y => x = y) 90 78), (78, am_aload 5 80), (80, am_getR live 2 6 83), (83, am_iload 6 85), (85, am_ald live 0 86), (86, am_const (.int (-1)) 87), (87, am_if2 (fun x y => x = y) 93 90), (90, am_const (.int (-3)) 92), (92, am_retI Ret), (93, am_aload 5 95), (95, am_getR live 2 5 98), (98, am_iload 6 100), (100, am_iload 3 101), (101, am_ast live 0 102), (102, am_aload 5 104), (104, am_getR live 2 6 107), (107, am_iload 6 109), (109, am_iload 4 111), (111, am_ast live 0 112), (112, am_const (.int 1) 113), (113, am_retI Ret)]
theorem koX7_right (live : am_E) (Ret : am_R) : ∀ q ∈ kX7_right live Ret, am_ok RX7 cX7_right 7 (some .int) 1 21 live Ret q.1 q.2 :=
  am_kc (ak_aload_n dX7_right_0 rfl rfl) <|
  am_kc (ak_iload_n dX7_right_1 rfl rfl) <|
  am_kc (ak_callV (C := RX7) (F := TX7) (N := 4) metX7_isPerson rfl ⟨rfl, by decide +kernel, by decide +kernel, by decide +kernel⟩ (am_w5 wd_414 wd_416 wd_0 wd_58 wd_417) (by decide) dX7_right_2 rfl) <|
  am_kc (ak_if_eq dX7_right_5 (by decide +kernel) rfl) <|
  am_kc (ak_iload_n dX7_right_8 rfl rfl) <|
  am_kc (ak_callS metX7_isYear ⟨rfl, by decide +kernel, by decide +kernel, by decide +kernel⟩ (am_w4 wd_407 wd_408 wd_58 wd_409) (by decide) dX7_right_9 rfl) <|
  am_kc (ak_if_eq dX7_right_12 (by decide +kernel) rfl) <|
  am_kc (ak_iload_n dX7_right_15 rfl rfl) <|
  am_kc (ak_callS metX7_isPence ⟨rfl, by decide +kernel, by decide +kernel, by decide +kernel⟩ (am_w4 wd_446 wd_447 wd_58 wd_448) (by decide) dX7_right_16 rfl) <|
  am_kc (ak_if_eq dX7_right_19 (by decide +kernel) rfl) <|
  am_kc (ak_iload dX7_right_22 rfl) <|
  am_kc (ak_callS metX7_isYear ⟨rfl, by decide +kernel, by decide +kernel, by decide +kernel⟩ (am_w4 wd_407 wd_408 wd_58 wd_409) (by decide) dX7_right_24 rfl) <|
  am_kc (ak_if_ne dX7_right_27 (by decide +kernel) rfl) <|
  am_kc (ak_bipush dX7_right_30 (by decide +kernel) rfl) <|
  am_kc (ak_retI dX7_right_32) <|
  am_kc (ak_aload_n dX7_right_33 rfl rfl) <|
  am_kc (ak_getR (C := RX7) (T := TX7) (N := 4) rfl inX7w (by decide) rfl rfl rfl wd_390 dX7_right_34 rfl) <|
  am_kc (ak_getR (C := RX0) (T := TX0) (N := 13) rfl inX0w (by decide) rfl rfl rfl wd_194 dX7_right_37 rfl) <|
  am_kc (ak_astore dX7_right_40 rfl) <|
  am_kc (ak_iload_n dX7_right_42 rfl rfl) <|
  am_kc (ak_bipush dX7_right_43 (by decide +kernel) rfl) <|
  am_kc (ak_imul dX7_right_45 rfl) <|
  am_kc (ak_iload_n dX7_right_46 rfl rfl) <|
  am_kc (ak_iadd dX7_right_47 rfl) <|
  am_kc (ak_istore dX7_right_48 rfl) <|
  am_kc (ak_iload dX7_right_50 rfl) <|
  am_kc (ak_aload dX7_right_52 rfl) <|
  am_kc (ak_getR (C := RX2) (T := TX2) (N := 8) rfl inX2w (by decide) rfl rfl rfl wd_116 dX7_right_54 rfl) <|
  am_kc (ak_iload dX7_right_57 rfl) <|
  am_kc (ak_iald (t := 0) (fun _ => rfl) rfl dX7_right_59 rfl) <|
  am_kc (ak_icmp_ge dX7_right_60 (by decide +kernel) rfl) <|
  am_kc (ak_bipush dX7_right_63 (by decide +kernel) rfl) <|
  am_kc (ak_retI dX7_right_65) <|
  am_kc (ak_aload dX7_right_66 rfl) <|
  am_kc (ak_getR (C := RX2) (T := TX2) (N := 8) rfl inX2w (by decide) rfl rfl rfl wd_116 dX7_right_68 rfl) <|
  am_kc (ak_iload dX7_right_71 rfl) <|
  am_kc (ak_iald (t := 0) (fun _ => rfl) rfl dX7_right_73 rfl) <|
  am_kc (ak_iconst dX7_right_74 (by decide +kernel) rfl) <|
  am_kc (ak_icmp_eq dX7_right_75 (by decide +kernel) rfl) <|
  am_kc (ak_aload dX7_right_78 rfl) <|
  am_kc (ak_getR (C := RX2) (T := TX2) (N := 8) rfl inX2w (by decide) rfl rfl rfl wd_120 dX7_right_80 rfl) <|
  am_kc (ak_iload dX7_right_83 rfl) <|
  am_kc (ak_iald (t := 0) (fun _ => rfl) rfl dX7_right_85 rfl) <|
  am_kc (ak_iconst dX7_right_86 (by decide +kernel) rfl) <|
  am_kc (ak_icmp_eq dX7_right_87 (by decide +kernel) rfl) <|
  am_kc (ak_bipush dX7_right_90 (by decide +kernel) rfl) <|
  am_kc (ak_retI dX7_right_92) <|
  am_kc (ak_aload dX7_right_93 rfl) <|
  am_kc (ak_getR (C := RX2) (T := TX2) (N := 8) rfl inX2w (by decide) rfl rfl rfl wd_118 dX7_right_95 rfl) <|
  am_kc (ak_iload dX7_right_98 rfl) <|
  am_kc (ak_iload_n dX7_right_100 rfl rfl) <|
  am_kc (ak_iast (t := 0) (fun _ => rfl) rfl dX7_right_101 rfl) <|
  am_kc (ak_aload dX7_right_102 rfl) <|
  am_kc (ak_getR (C := RX2) (T := TX2) (N := 8) rfl inX2w (by decide) rfl rfl rfl wd_120 dX7_right_104 rfl) <|
  am_kc (ak_iload dX7_right_107 rfl) <|
  am_kc (ak_iload dX7_right_109 rfl) <|
  am_kc (ak_iast (t := 0) (fun _ => rfl) rfl dX7_right_111 rfl) <|
  am_kc (ak_iconst dX7_right_112 (by decide +kernel) rfl) <|
  am_kc (ak_retI dX7_right_113) <| am_kn
def TX7_right : am_T := fun live as M R => match as with
  | [.ref n, .int p, .int y, .int e, .int k] => am_mn live ∧ n = 0 ∧ am_F7 M ∧ R (some (.int (-2))) M
  | _ => False
set_option maxRecDepth 100000 in
set_option maxHeartbeats 4000000 in
theorem metX7_right : am_Met yX7_right cX7_right 7 (some .int) (1) (21) TX7_right := by
  refine am_met (own := RX7) (by decide +kernel) rfl kX7_right koX7_right 300 (fun _ _ _ _ _ => none) (fun live as M Ret h => ?_) (fun _ _ _ _ _ _ _ _ hI => by cases hI)
  unfold TX7_right at h
  split at h
  · next n p y e k =>
    refine ⟨Nat.le_of_ble_eq_true rfl, ?_⟩
    change am_wp _ _ _ _ [(0, Value.ref n), (1, Value.int p), (2, Value.int y), (3, Value.int e), (4, Value.int k)] _ _
    obtain ⟨⟨i1, i2, rfl⟩, rfl, hF, h⟩ := h
    have hs : M.1 21 7 = 0 := hF.1
    have hp : (if 0 ≤ p ∧ p < M.1 21 7 then (1 : Int32) else 0) = 0 := am_b0.mpr (fun q => by
      rw [hs, i_le, i_lt, Int32.toInt_zero] at q
      omega)
    repeat' (first | apply And.intro | exact rfl | (intro hx; with_reducible exact absurd hp hx) | intro hx | (refine Exists.intro _ (And.intro rfl ?_)))
    all_goals try first | (with_reducible change am_tI _ _) | (change Ret _ _) | (change Ret _ _ _) | (change Exists _)
    all_goals try dsimp only at *
    all_goals try exact absurd ‹(1000 : Int64) = 0› (by decide)
    all_goals first | exact h | exact hp | (left; exact hp) | grind
  · exact h.elim
theorem wd_458 : Cond.methodLink "LearnLoans" 94 yX2_earned ∈ am_ws := am_wsi (List.mem_of_getElem? (i := 458) (by decide +kernel)) (by decide +kernel)
theorem wd_459 : Cond.instanceMethod yX2_earned ∈ am_ws := am_wsi (List.mem_of_getElem? (i := 459) (by decide +kernel)) (by decide +kernel)
theorem wd_460 : Cond.selects "LearnLoans$People" yX2_earned yX2_earned ∈ am_ws := am_wsi (List.mem_of_getElem? (i := 460) (by decide +kernel)) (by decide +kernel)
theorem wd_461 : Cond.code yX2_earned cX2_earned 5 (some .int) ∈ am_ws := am_wsi (List.mem_of_getElem? (i := 461) (by decide +kernel)) (by decide +kernel)
theorem dX7_earnings_0 : decode cX7_earnings 0 = .ok (.aload_n 0, 1) := by decide +kernel
theorem dX7_earnings_1 : decode cX7_earnings 1 = .ok (.iload_n 1, 1) := by decide +kernel
theorem dX7_earnings_2 : decode cX7_earnings 2 = .ok (.invokevirtual 52, 3) := by decide +kernel
theorem dX7_earnings_5 : decode cX7_earnings 5 = .ok (.ifCond .eq 17, 3) := by decide +kernel
theorem dX7_earnings_8 : decode cX7_earnings 8 = .ok (.iload_n 2, 1) := by decide +kernel
theorem dX7_earnings_9 : decode cX7_earnings 9 = .ok (.invokestatic 34, 3) := by decide +kernel
theorem dX7_earnings_12 : decode cX7_earnings 12 = .ok (.ifCond .eq 10, 3) := by decide +kernel
theorem dX7_earnings_15 : decode cX7_earnings 15 = .ok (.iload_n 3, 1) := by decide +kernel
theorem dX7_earnings_16 : decode cX7_earnings 16 = .ok (.invokestatic 34, 3) := by decide +kernel
theorem dX7_earnings_19 : decode cX7_earnings 19 = .ok (.ifCond .ne 6, 3) := by decide +kernel
theorem dX7_earnings_22 : decode cX7_earnings 22 = .ok (.bipush (-2), 2) := by decide +kernel
theorem dX7_earnings_24 : decode cX7_earnings 24 = .ok (.ireturn, 1) := by decide +kernel
theorem dX7_earnings_25 : decode cX7_earnings 25 = .ok (.aload_n 0, 1) := by decide +kernel
theorem dX7_earnings_26 : decode cX7_earnings 26 = .ok (.getfield 27, 3) := by decide +kernel
theorem dX7_earnings_29 : decode cX7_earnings 29 = .ok (.getfield 38, 3) := by decide +kernel
theorem dX7_earnings_32 : decode cX7_earnings 32 = .ok (.iload_n 1, 1) := by decide +kernel
theorem dX7_earnings_33 : decode cX7_earnings 33 = .ok (.iload_n 2, 1) := by decide +kernel
theorem dX7_earnings_34 : decode cX7_earnings 34 = .ok (.iload_n 3, 1) := by decide +kernel
theorem dX7_earnings_35 : decode cX7_earnings 35 = .ok (.invokevirtual 94, 3) := by decide +kernel
theorem dX7_earnings_38 : decode cX7_earnings 38 = .ok (.ireturn, 1) := by decide +kernel
def kX7_earnings (live : am_E) (Ret : am_R) : am_code := [(0, am_aload 0 1), (1, am_iload 1 2), (2, am_callV live 7 1 TX7_isPerson 5), (5, am_if1 (fun x => x = 0) 22 8), (8, am_iload 2 9), (9, am_callS live 1 TX7_isYear 12), (12, am_if1 (fun x => x = 0) 22 15), (15, am_iload 3 16), (16, am_callS live 1 TX7_isYear 19), (19, am_if1 (fun x => x = 0) 22 25), (22, am_const (.int (-2)) 24), (24, am_retI Ret), (25, am_aload 0 26), (26, am_getR live 7 0 29), (29, am_getR live 0 0 32), (32, am_iload 1 33), (33, am_iload 2 34), (34, am_iload 3 35), (35, am_callV live 2 3 TX2_earned 38), (38, am_retI Ret)]
theorem koX7_earnings (live : am_E) (Ret : am_R) : ∀ q ∈ kX7_earnings live Ret, am_ok RX7 cX7_earnings 4 (some .int) 1 24 live Ret q.1 q.2 :=
  am_kc (ak_aload_n dX7_earnings_0 rfl rfl) <|
  am_kc (ak_iload_n dX7_earnings_1 rfl rfl) <|
  am_kc (ak_callV (C := RX7) (F := TX7) (N := 4) metX7_isPerson rfl ⟨rfl, by decide +kernel, by decide +kernel, by decide +kernel⟩ (am_w5 wd_414 wd_416 wd_0 wd_58 wd_417) (by decide) dX7_earnings_2 rfl) <|
  am_kc (ak_if_eq dX7_earnings_5 (by decide +kernel) rfl) <|
  am_kc (ak_iload_n dX7_earnings_8 rfl rfl) <|
  am_kc (ak_callS metX7_isYear ⟨rfl, by decide +kernel, by decide +kernel, by decide +kernel⟩ (am_w4 wd_407 wd_408 wd_58 wd_409) (by decide) dX7_earnings_9 rfl) <|
  am_kc (ak_if_eq dX7_earnings_12 (by decide +kernel) rfl) <|
  am_kc (ak_iload_n dX7_earnings_15 rfl rfl) <|
  am_kc (ak_callS metX7_isYear ⟨rfl, by decide +kernel, by decide +kernel, by decide +kernel⟩ (am_w4 wd_407 wd_408 wd_58 wd_409) (by decide) dX7_earnings_16 rfl) <|
  am_kc (ak_if_ne dX7_earnings_19 (by decide +kernel) rfl) <|
  am_kc (ak_bipush dX7_earnings_22 (by decide +kernel) rfl) <|
  am_kc (ak_retI dX7_earnings_24) <|
  am_kc (ak_aload_n dX7_earnings_25 rfl rfl) <|
  am_kc (ak_getR (C := RX7) (T := TX7) (N := 4) rfl inX7w (by decide) rfl rfl rfl wd_390 dX7_earnings_26 rfl) <|
  am_kc (ak_getR (C := RX0) (T := TX0) (N := 13) rfl inX0w (by decide) rfl rfl rfl wd_194 dX7_earnings_29 rfl) <|
  am_kc (ak_iload_n dX7_earnings_32 rfl rfl) <|
  am_kc (ak_iload_n dX7_earnings_33 rfl rfl) <|
  am_kc (ak_iload_n dX7_earnings_34 rfl rfl) <|
  am_kc (ak_callV (C := RX2) (F := TX2) (N := 8) metX2_earned rfl ⟨rfl, by decide +kernel, by decide +kernel, by decide +kernel⟩ (am_w5 wd_458 wd_459 wd_460 wd_62 wd_461) (by decide) dX7_earnings_35 rfl) <|
  am_kc (ak_retI dX7_earnings_38) <| am_kn
def TX7_earnings : am_T := fun live as M R => match as with
  | [.ref n, .int p, .int y, .int k] => am_mn live ∧ n = 0 ∧ am_F7 M ∧ R (some (.int (-2))) M
  | _ => False
set_option maxRecDepth 100000 in
set_option maxHeartbeats 4000000 in
theorem metX7_earnings : am_Met yX7_earnings cX7_earnings 4 (some .int) (1) (24) TX7_earnings := by
  refine am_met (own := RX7) (by decide +kernel) rfl kX7_earnings koX7_earnings 300 (fun _ _ _ _ _ => none) (fun live as M Ret h => ?_) (fun _ _ _ _ _ _ _ _ hI => by cases hI)
  unfold TX7_earnings at h
  split at h
  · next n p y k =>
    refine ⟨Nat.le_of_ble_eq_true rfl, ?_⟩
    change am_wp _ _ _ _ [(0, Value.ref n), (1, Value.int p), (2, Value.int y), (3, Value.int k)] _ _
    obtain ⟨⟨i1, i2, rfl⟩, rfl, hF, h⟩ := h
    have hs : M.1 21 7 = 0 := hF.1
    have hp : (if 0 ≤ p ∧ p < M.1 21 7 then (1 : Int32) else 0) = 0 := am_b0.mpr (fun q => by
      rw [hs, i_le, i_lt, Int32.toInt_zero] at q
      omega)
    repeat' (first | apply And.intro | exact rfl | (intro hx; with_reducible exact absurd hp hx) | intro hx | (refine Exists.intro _ (And.intro rfl ?_)))
    all_goals try first | (with_reducible change am_tI _ _) | (change Ret _ _) | (change Ret _ _ _) | (change Exists _)
    all_goals try dsimp only at *
    all_goals try exact absurd ‹(1000 : Int64) = 0› (by decide)
    all_goals first | exact h | exact hp | (left; exact hp) | grind
  · exact h.elim
theorem wd_466 : Cond.methodLink "LearnLoans" 98 yX7_isPlan ∈ am_ws := am_wsi (List.mem_of_getElem? (i := 466) (by decide +kernel)) (by decide +kernel)
theorem wd_467 : Cond.static yX7_isPlan ∈ am_ws := am_wsi (List.mem_of_getElem? (i := 467) (by decide +kernel)) (by decide +kernel)
theorem wd_468 : Cond.code yX7_isPlan cX7_isPlan 1 (some .boolean) ∈ am_ws := am_wsi (List.mem_of_getElem? (i := 468) (by decide +kernel)) (by decide +kernel)
theorem wd_493 : Cond.methodLink "LearnLoans" 115 yX4_layNumbers ∈ am_ws := am_wsi (List.mem_of_getElem? (i := 493) (by decide +kernel)) (by decide +kernel)
theorem wd_494 : Cond.instanceMethod yX4_layNumbers ∈ am_ws := am_wsi (List.mem_of_getElem? (i := 494) (by decide +kernel)) (by decide +kernel)
theorem wd_495 : Cond.selects "LearnLoans$Run" yX4_layNumbers yX4_layNumbers ∈ am_ws := am_wsi (List.mem_of_getElem? (i := 495) (by decide +kernel)) (by decide +kernel)
theorem wd_496 : Cond.code yX4_layNumbers cX4_layNumbers 5 none ∈ am_ws := am_wsi (List.mem_of_getElem? (i := 496) (by decide +kernel)) (by decide +kernel)
theorem wd_295 : Cond.fieldLink "LearnLoans" 119 "LearnLoans$Run" "numbers" "[I" ∈ am_ws := am_wsi (List.mem_of_getElem? (i := 295) (by decide +kernel)) (by decide +kernel)
theorem dX7_force_0 : decode cX7_force 0 = .ok (.iload_n 1, 1) := by decide +kernel
theorem dX7_force_1 : decode cX7_force 1 = .ok (.invokestatic 98, 3) := by decide +kernel
theorem dX7_force_4 : decode cX7_force 4 = .ok (.ifCond .eq 28, 3) := by decide +kernel
theorem dX7_force_7 : decode cX7_force 7 = .ok (.iload_n 2, 1) := by decide +kernel
theorem dX7_force_8 : decode cX7_force 8 = .ok (.iconst 0, 1) := by decide +kernel
theorem dX7_force_9 : decode cX7_force 9 = .ok (.iconst 5, 1) := by decide +kernel
theorem dX7_force_10 : decode cX7_force 10 = .ok (.invokestatic 55, 3) := by decide +kernel
theorem dX7_force_13 : decode cX7_force 13 = .ok (.ifCond .eq 19, 3) := by decide +kernel
theorem dX7_force_16 : decode cX7_force 16 = .ok (.aload_n 0, 1) := by decide +kernel
theorem dX7_force_17 : decode cX7_force 17 = .ok (.iload_n 3, 1) := by decide +kernel
theorem dX7_force_18 : decode cX7_force 18 = .ok (.invokevirtual 52, 3) := by decide +kernel
theorem dX7_force_21 : decode cX7_force 21 = .ok (.ifCond .eq 11, 3) := by decide +kernel
theorem dX7_force_24 : decode cX7_force 24 = .ok (.iload 4, 2) := by decide +kernel
theorem dX7_force_26 : decode cX7_force 26 = .ok (.invokestatic 34, 3) := by decide +kernel
theorem dX7_force_29 : decode cX7_force 29 = .ok (.ifCond .ne 6, 3) := by decide +kernel
theorem dX7_force_32 : decode cX7_force 32 = .ok (.bipush (-2), 2) := by decide +kernel
theorem dX7_force_34 : decode cX7_force 34 = .ok (.ireturn, 1) := by decide +kernel
theorem dX7_force_35 : decode cX7_force 35 = .ok (.aload_n 0, 1) := by decide +kernel
theorem dX7_force_36 : decode cX7_force 36 = .ok (.getfield 20, 3) := by decide +kernel
theorem dX7_force_39 : decode cX7_force 39 = .ok (.iload_n 3, 1) := by decide +kernel
theorem dX7_force_40 : decode cX7_force 40 = .ok (.invokevirtual 115, 3) := by decide +kernel
theorem dX7_force_43 : decode cX7_force 43 = .ok (.aload_n 0, 1) := by decide +kernel
theorem dX7_force_44 : decode cX7_force 44 = .ok (.getfield 20, 3) := by decide +kernel
theorem dX7_force_47 : decode cX7_force 47 = .ok (.getfield 119, 3) := by decide +kernel
theorem dX7_force_50 : decode cX7_force 50 = .ok (.iload 4, 2) := by decide +kernel
theorem dX7_force_52 : decode cX7_force 52 = .ok (.iconst 5, 1) := by decide +kernel
theorem dX7_force_53 : decode cX7_force 53 = .ok (.imul, 1) := by decide +kernel
theorem dX7_force_54 : decode cX7_force 54 = .ok (.iload_n 1, 1) := by decide +kernel
theorem dX7_force_55 : decode cX7_force 55 = .ok (.iadd, 1) := by decide +kernel
theorem dX7_force_56 : decode cX7_force 56 = .ok (.bipush 6, 2) := by decide +kernel
theorem dX7_force_58 : decode cX7_force 58 = .ok (.imul, 1) := by decide +kernel
theorem dX7_force_59 : decode cX7_force 59 = .ok (.iload_n 2, 1) := by decide +kernel
theorem dX7_force_60 : decode cX7_force 60 = .ok (.iadd, 1) := by decide +kernel
theorem dX7_force_61 : decode cX7_force 61 = .ok (.iaload, 1) := by decide +kernel
theorem dX7_force_62 : decode cX7_force 62 = .ok (.ireturn, 1) := by decide +kernel
def kX7_force (live : am_E) (Ret : am_R) : am_code := [(0, am_iload 1 1), (1, am_callS live 1 TX7_isPlan 4), (4, am_if1 (fun x => x = 0) 32 7), (7, am_iload 2 8), (8, am_const (.int 0) 9), (9, am_const (.int 5) 10), (10, am_callS live 3 TX7_within 13), (13, am_if1 (fun x => x = 0) 32 16), (16, am_aload 0 17), (17, am_iload 3 18), (18, am_callV live 7 1 TX7_isPerson 21), (21, am_if1 (fun x => x = 0) 32 24), (24, am_iload 4 26), (26, am_callS live 1 TX7_isYear 29), (29, am_if1 (fun x => x = 0) 32 35), (32, am_const (.int (-2)) 34), (34, am_retI Ret), (35, am_aload 0 36), (36, am_getR live 7 2 39), (39, am_iload 3 40), (40, am_callV live 4 1 am_TF 43), (43, am_aload 0 44), (44, am_getR live 7 2 47), (47, am_getR live 4 1 50), (50, am_iload 4 52), (52, am_const (.int 5) 53), (53, am_i2 (fun x y => x * y) 54), (54, am_iload 1 55), (55, am_i2 (fun x y => x + y) 56), (56, am_const (.int 6) 58), (58, am_i2 (fun x y => x * y) 59), (59, am_iload 2 60), (60, am_i2 (fun x y => x + y) 61), (61, am_ald live 0 62), (62, am_retI Ret)]
theorem koX7_force (live : am_E) (Ret : am_R) : ∀ q ∈ kX7_force live Ret, am_ok RX7 cX7_force 5 (some .int) 1 24 live Ret q.1 q.2 :=
  am_kc (ak_iload_n dX7_force_0 rfl rfl) <|
  am_kc (ak_callS metX7_isPlan ⟨rfl, by decide +kernel, by decide +kernel, by decide +kernel⟩ (am_w4 wd_466 wd_467 wd_58 wd_468) (by decide) dX7_force_1 rfl) <|
  am_kc (ak_if_eq dX7_force_4 (by decide +kernel) rfl) <|
  am_kc (ak_iload_n dX7_force_7 rfl rfl) <|
  am_kc (ak_iconst dX7_force_8 (by decide +kernel) rfl) <|
  am_kc (ak_iconst dX7_force_9 (by decide +kernel) rfl) <|
  am_kc (ak_callS metX7_within ⟨rfl, by decide +kernel, by decide +kernel, by decide +kernel⟩ (am_w4 wd_418 wd_419 wd_58 wd_420) (by decide) dX7_force_10 rfl) <|
  am_kc (ak_if_eq dX7_force_13 (by decide +kernel) rfl) <|
  am_kc (ak_aload_n dX7_force_16 rfl rfl) <|
  am_kc (ak_iload_n dX7_force_17 rfl rfl) <|
  am_kc (ak_callV (C := RX7) (F := TX7) (N := 4) metX7_isPerson rfl ⟨rfl, by decide +kernel, by decide +kernel, by decide +kernel⟩ (am_w5 wd_414 wd_416 wd_0 wd_58 wd_417) (by decide) dX7_force_18 rfl) <|
  am_kc (ak_if_eq dX7_force_21 (by decide +kernel) rfl) <|
  am_kc (ak_iload dX7_force_24 rfl) <|
  am_kc (ak_callS metX7_isYear ⟨rfl, by decide +kernel, by decide +kernel, by decide +kernel⟩ (am_w4 wd_407 wd_408 wd_58 wd_409) (by decide) dX7_force_26 rfl) <|
  am_kc (ak_if_ne dX7_force_29 (by decide +kernel) rfl) <|
  am_kc (ak_bipush dX7_force_32 (by decide +kernel) rfl) <|
  am_kc (ak_retI dX7_force_34) <|
  am_kc (ak_aload_n dX7_force_35 rfl rfl) <|
  am_kc (ak_getR (C := RX7) (T := TX7) (N := 4) rfl inX7w (by decide) rfl rfl rfl wd_392 dX7_force_36 rfl) <|
  am_kc (ak_iload_n dX7_force_39 rfl rfl) <|
  am_kc (ak_callV (C := RX4) (F := TX4) (N := 19) (am_metF _ _ _ _) rfl ⟨rfl, by decide +kernel, by decide +kernel, by decide +kernel⟩ (am_w5 wd_493 wd_494 wd_495 wd_60 wd_496) (by decide) dX7_force_40 rfl) <|
  am_kc (ak_aload_n dX7_force_43 rfl rfl) <|
  am_kc (ak_getR (C := RX7) (T := TX7) (N := 4) rfl inX7w (by decide) rfl rfl rfl wd_392 dX7_force_44 rfl) <|
  am_kc (ak_getR (C := RX4) (T := TX4) (N := 19) rfl inX4w (by decide) rfl rfl rfl wd_295 dX7_force_47 rfl) <|
  am_kc (ak_iload dX7_force_50 rfl) <|
  am_kc (ak_iconst dX7_force_52 (by decide +kernel) rfl) <|
  am_kc (ak_imul dX7_force_53 rfl) <|
  am_kc (ak_iload_n dX7_force_54 rfl rfl) <|
  am_kc (ak_iadd dX7_force_55 rfl) <|
  am_kc (ak_bipush dX7_force_56 (by decide +kernel) rfl) <|
  am_kc (ak_imul dX7_force_58 rfl) <|
  am_kc (ak_iload_n dX7_force_59 rfl rfl) <|
  am_kc (ak_iadd dX7_force_60 rfl) <|
  am_kc (ak_iald (t := 0) (fun _ => rfl) rfl dX7_force_61 rfl) <|
  am_kc (ak_retI dX7_force_62) <| am_kn
def TX7_force : am_T := fun live as M R => match as with
  | [.ref n, .int l, .int w, .int p, .int y] => am_mn live ∧ n = 0 ∧ am_F7 M ∧ R (some (.int (-2))) M
  | _ => False
set_option maxRecDepth 100000 in
set_option maxHeartbeats 4000000 in
theorem metX7_force : am_Met yX7_force cX7_force 5 (some .int) (1) (24) TX7_force := by
  refine am_met (own := RX7) (by decide +kernel) rfl kX7_force koX7_force 300 (fun _ _ _ _ _ => none) (fun live as M Ret h => ?_) (fun _ _ _ _ _ _ _ _ hI => by cases hI)
  unfold TX7_force at h
  split at h
  · next n l w p y =>
    refine ⟨Nat.le_of_ble_eq_true rfl, ?_⟩
    change am_wp _ _ _ _ [(0, Value.ref n), (1, Value.int l), (2, Value.int w), (3, Value.int p), (4, Value.int y)] _ _
    obtain ⟨⟨i1, i2, rfl⟩, rfl, hF, h⟩ := h
    have hs : M.1 21 7 = 0 := hF.1
    have hp : (if 0 ≤ p ∧ p < M.1 21 7 then (1 : Int32) else 0) = 0 := am_b0.mpr (fun q => by
      rw [hs, i_le, i_lt, Int32.toInt_zero] at q
      omega)
    repeat' (first | apply And.intro | exact rfl | (intro hx; with_reducible exact absurd hp hx) | intro hx | (refine Exists.intro _ (And.intro rfl ?_)))
    all_goals try first | (with_reducible change am_tI _ _) | (change Ret _ _) | (change Ret _ _ _) | (change Exists _)
    all_goals try dsimp only at *
    all_goals try exact absurd ‹(1000 : Int64) = 0› (by decide)
    all_goals first | exact h | exact hp | (left; exact hp) | grind
  · exact h.elim
theorem wd_514 : Cond.methodLink "LearnLoans" 125 yX3_add ∈ am_ws := am_wsi (List.mem_of_getElem? (i := 514) (by decide +kernel)) (by decide +kernel)
theorem wd_515 : Cond.methodLink "LearnLoans" 128 yX3_put ∈ am_ws := am_wsi (List.mem_of_getElem? (i := 515) (by decide +kernel)) (by decide +kernel)
theorem wd_211 : Cond.fieldLink "LearnLoans" 132 "LearnLoans$House" "planAt" "[I" ∈ am_ws := am_wsi (List.mem_of_getElem? (i := 211) (by decide +kernel)) (by decide +kernel)
theorem dX7_loan_0 : decode cX7_loan 0 = .ok (.aload_n 0, 1) := by decide +kernel
theorem dX7_loan_1 : decode cX7_loan 1 = .ok (.iload_n 1, 1) := by decide +kernel
theorem dX7_loan_2 : decode cX7_loan 2 = .ok (.invokevirtual 52, 3) := by decide +kernel
theorem dX7_loan_5 : decode cX7_loan 5 = .ok (.ifCond .eq 30, 3) := by decide +kernel
theorem dX7_loan_8 : decode cX7_loan 8 = .ok (.iload_n 2, 1) := by decide +kernel
theorem dX7_loan_9 : decode cX7_loan 9 = .ok (.invokestatic 98, 3) := by decide +kernel
theorem dX7_loan_12 : decode cX7_loan 12 = .ok (.ifCond .eq 23, 3) := by decide +kernel
theorem dX7_loan_15 : decode cX7_loan 15 = .ok (.iload_n 3, 1) := by decide +kernel
theorem dX7_loan_16 : decode cX7_loan 16 = .ok (.invokestatic 34, 3) := by decide +kernel
theorem dX7_loan_19 : decode cX7_loan 19 = .ok (.ifCond .eq 16, 3) := by decide +kernel
theorem dX7_loan_22 : decode cX7_loan 22 = .ok (.iload 4, 2) := by decide +kernel
theorem dX7_loan_24 : decode cX7_loan 24 = .ok (.invokestatic 79, 3) := by decide +kernel
theorem dX7_loan_27 : decode cX7_loan 27 = .ok (.ifCond .eq 8, 3) := by decide +kernel
theorem dX7_loan_30 : decode cX7_loan 30 = .ok (.iload 4, 2) := by decide +kernel
theorem dX7_loan_32 : decode cX7_loan 32 = .ok (.ifCond .ne 6, 3) := by decide +kernel
theorem dX7_loan_35 : decode cX7_loan 35 = .ok (.bipush (-2), 2) := by decide +kernel
theorem dX7_loan_37 : decode cX7_loan 37 = .ok (.ireturn, 1) := by decide +kernel
theorem dX7_loan_38 : decode cX7_loan 38 = .ok (.aload_n 0, 1) := by decide +kernel
theorem dX7_loan_39 : decode cX7_loan 39 = .ok (.getfield 27, 3) := by decide +kernel
theorem dX7_loan_42 : decode cX7_loan 42 = .ok (.getfield 122, 3) := by decide +kernel
theorem dX7_loan_45 : decode cX7_loan 45 = .ok (.astore 6, 2) := by decide +kernel
theorem dX7_loan_47 : decode cX7_loan 47 = .ok (.aload 6, 2) := by decide +kernel
theorem dX7_loan_49 : decode cX7_loan 49 = .ok (.getfield 108, 3) := by decide +kernel
theorem dX7_loan_52 : decode cX7_loan 52 = .ok (.bipush 30, 2) := by decide +kernel
theorem dX7_loan_54 : decode cX7_loan 54 = .ok (.if_icmp .lt 6, 3) := by decide +kernel
theorem dX7_loan_57 : decode cX7_loan 57 = .ok (.bipush (-4), 2) := by decide +kernel
theorem dX7_loan_59 : decode cX7_loan 59 = .ok (.ireturn, 1) := by decide +kernel
theorem dX7_loan_60 : decode cX7_loan 60 = .ok (.aload 6, 2) := by decide +kernel
theorem dX7_loan_62 : decode cX7_loan 62 = .ok (.iload_n 1, 1) := by decide +kernel
theorem dX7_loan_63 : decode cX7_loan 63 = .ok (.iload_n 2, 1) := by decide +kernel
theorem dX7_loan_64 : decode cX7_loan 64 = .ok (.iload_n 3, 1) := by decide +kernel
theorem dX7_loan_65 : decode cX7_loan 65 = .ok (.invokevirtual 125, 3) := by decide +kernel
theorem dX7_loan_68 : decode cX7_loan 68 = .ok (.istore 7, 2) := by decide +kernel
theorem dX7_loan_70 : decode cX7_loan 70 = .ok (.aload 6, 2) := by decide +kernel
theorem dX7_loan_72 : decode cX7_loan 72 = .ok (.iload 7, 2) := by decide +kernel
theorem dX7_loan_74 : decode cX7_loan 74 = .ok (.iconst 3, 1) := by decide +kernel
theorem dX7_loan_75 : decode cX7_loan 75 = .ok (.iload 4, 2) := by decide +kernel
theorem dX7_loan_77 : decode cX7_loan 77 = .ok (.invokevirtual 128, 3) := by decide +kernel
theorem dX7_loan_80 : decode cX7_loan 80 = .ok (.aload 6, 2) := by decide +kernel
theorem dX7_loan_82 : decode cX7_loan 82 = .ok (.iload 7, 2) := by decide +kernel
theorem dX7_loan_84 : decode cX7_loan 84 = .ok (.iconst 4, 1) := by decide +kernel
theorem dX7_loan_85 : decode cX7_loan 85 = .ok (.iload 5, 2) := by decide +kernel
theorem dX7_loan_87 : decode cX7_loan 87 = .ok (.ifCond .eq 7, 3) := by decide +kernel
theorem dX7_loan_90 : decode cX7_loan 90 = .ok (.iconst 1, 1) := by decide +kernel
theorem dX7_loan_91 : decode cX7_loan 91 = .ok (.goto 4, 3) := by decide +kernel
theorem dX7_loan_94 : decode cX7_loan 94 = .ok (.iconst 0, 1) := by decide +kernel
theorem dX7_loan_95 : decode cX7_loan 95 = .ok (.invokevirtual 128, 3) := by decide +kernel
theorem dX7_loan_98 : decode cX7_loan 98 = .ok (.aload 6, 2) := by decide +kernel
theorem dX7_loan_100 : decode cX7_loan 100 = .ok (.iload 7, 2) := by decide +kernel
theorem dX7_loan_102 : decode cX7_loan 102 = .ok (.iconst 5, 1) := by decide +kernel
theorem dX7_loan_103 : decode cX7_loan 103 = .ok (.iconst (-1), 1) := by decide +kernel
theorem dX7_loan_104 : decode cX7_loan 104 = .ok (.invokevirtual 128, 3) := by decide +kernel
theorem dX7_loan_107 : decode cX7_loan 107 = .ok (.aload 6, 2) := by decide +kernel
theorem dX7_loan_109 : decode cX7_loan 109 = .ok (.iload 7, 2) := by decide +kernel
theorem dX7_loan_111 : decode cX7_loan 111 = .ok (.bipush 6, 2) := by decide +kernel
theorem dX7_loan_113 : decode cX7_loan 113 = .ok (.iconst (-1), 1) := by decide +kernel
theorem dX7_loan_114 : decode cX7_loan 114 = .ok (.invokevirtual 128, 3) := by decide +kernel
theorem dX7_loan_117 : decode cX7_loan 117 = .ok (.aload 6, 2) := by decide +kernel
theorem dX7_loan_119 : decode cX7_loan 119 = .ok (.iload 7, 2) := by decide +kernel
theorem dX7_loan_121 : decode cX7_loan 121 = .ok (.bipush 7, 2) := by decide +kernel
theorem dX7_loan_123 : decode cX7_loan 123 = .ok (.iconst (-1), 1) := by decide +kernel
theorem dX7_loan_124 : decode cX7_loan 124 = .ok (.invokevirtual 128, 3) := by decide +kernel
theorem dX7_loan_127 : decode cX7_loan 127 = .ok (.aload_n 0, 1) := by decide +kernel
theorem dX7_loan_128 : decode cX7_loan 128 = .ok (.getfield 27, 3) := by decide +kernel
theorem dX7_loan_131 : decode cX7_loan 131 = .ok (.getfield 132, 3) := by decide +kernel
theorem dX7_loan_134 : decode cX7_loan 134 = .ok (.iload 7, 2) := by decide +kernel
theorem dX7_loan_136 : decode cX7_loan 136 = .ok (.bipush 40, 2) := by decide +kernel
theorem dX7_loan_138 : decode cX7_loan 138 = .ok (.imul, 1) := by decide +kernel
theorem dX7_loan_139 : decode cX7_loan 139 = .ok (.iload 7, 2) := by decide +kernel
theorem dX7_loan_141 : decode cX7_loan 141 = .ok (.bipush 40, 2) := by decide +kernel
theorem dX7_loan_143 : decode cX7_loan 143 = .ok (.imul, 1) := by decide +kernel
theorem dX7_loan_144 : decode cX7_loan 144 = .ok (.bipush 39, 2) := by decide +kernel
theorem dX7_loan_146 : decode cX7_loan 146 = .ok (.iadd, 1) := by decide +kernel
theorem dX7_loan_147 : decode cX7_loan 147 = .ok (.iload_n 2, 1) := by decide +kernel
theorem dX7_loan_148 : decode cX7_loan 148 = .ok (.invokestatic 66, 3) := by decide +kernel
theorem dX7_loan_151 : decode cX7_loan 151 = .ok (.iload 7, 2) := by decide +kernel
theorem dX7_loan_153 : decode cX7_loan 153 = .ok (.ireturn, 1) := by decide +kernel
def kX7_loan (live : am_E) (Ret : am_R) : am_code := [(0, am_aload 0 1), (1, am_iload 1 2), (2, am_callV live 7 1 TX7_isPerson 5), (5, am_if1 (fun x => x = 0) 35 8), (8, am_iload 2 9), (9, am_callS live 1 TX7_isPlan 12), (12, am_if1 (fun x => x = 0) 35 15), (15, am_iload 3 16), (16, am_callS live 1 TX7_isYear 19), (19, am_if1 (fun x => x = 0) 35 22), (22, am_iload 4 24), (24, am_callS live 1 TX7_isPence 27), (27, am_if1 (fun x => x = 0) 35 30), (30, am_iload 4 32), (32, am_if1 (fun x => x = 0) 35 38), (35, am_const (.int (-2)) 37), (37, am_retI Ret), (38, am_aload 0 39), (39, am_getR live 7 0 42), (42, am_getR live 0 4 45), (45, am_astore 6 8 47), (47, am_aload 6 49), (49, am_getI live 3 2 52), (52, am_const (.int 30) 54), (54, am_if2 (fun x y => x < y) 60 57), (57, am_const (.int (-4)) 59), (59, am_retI Ret), (60, am_aload 6 62), (62, am_iload 1 63), (63, am_iload 2 64), (64, am_iload 3 65), (65, am_callV live 3 3 TX3_add 68), (68, am_istore 7 8 70), (70, am_aload 6 72), (72, am_iload 7 74), (74, am_const (.int 3) 75), (75, am_iload 4 77), (77, am_callV live 3 3 TX3_put 80), (80, am_aload 6 82), (82, am_iload 7 84), (84, am_const (.int 4) 85), (85, am_iload 5 87), (87, am_if1 (fun x => x = 0) 94 90), (90, am_const (.int 1) 91), (91, am_goto 95), (94, am_const (.int 0) 95), (95, am_callV live 3 3 TX3_put 98), (98, am_aload 6 100), (100, am_iload 7 102), (102, am_const (.int 5) 103), (103, am_const (.int (-1)) 104), (104, am_callV live 3 3 TX3_put 107), (107, am_aload 6 109), (109, am_iload 7 111), (111, am_const (.int 6) 113), (113, am_const (.int (-1)) 114), (114, am_callV live 3 3 TX3_put 117), (117, am_aload 6 119), (119, am_iload 7 121), (121, am_const (.int 7) 123), (123, am_const (.int (-1)) 124), (124, am_callV live 3 3 TX3_put 127), (127, am_aload 0 128), (128, am_getR live 7 0 131), (131, am_getR live 0 6 134), (134, am_iload 7 136), (136, am_const (.int 40) 138), (138, am_i2 (fun x y => x * y) 139), (139, am_iload 7 141), (141, am_const (.int 40) 143), (143, am_i2 (fun x y => x * y) 144), (144, am_const (.int 39) 146), (146, am_i2 (fun x y => x + y) 147), (147, am_iload 2 148), (148, am_callS live 4 TX7_lay 151), (151, am_iload 7 153), (153, am_retI Ret)]
theorem koX7_loan (live : am_E) (Ret : am_R) : ∀ q ∈ kX7_loan live Ret, am_ok RX7 cX7_loan 8 (some .int) 2 47 live Ret q.1 q.2 :=
  am_kc (ak_aload_n dX7_loan_0 rfl rfl) <|
  am_kc (ak_iload_n dX7_loan_1 rfl rfl) <|
  am_kc (ak_callV (C := RX7) (F := TX7) (N := 4) metX7_isPerson rfl ⟨rfl, by decide +kernel, by decide +kernel, by decide +kernel⟩ (am_w5 wd_414 wd_416 wd_0 wd_58 wd_417) (by decide) dX7_loan_2 rfl) <|
  am_kc (ak_if_eq dX7_loan_5 (by decide +kernel) rfl) <|
  am_kc (ak_iload_n dX7_loan_8 rfl rfl) <|
  am_kc (ak_callS metX7_isPlan ⟨rfl, by decide +kernel, by decide +kernel, by decide +kernel⟩ (am_w4 wd_466 wd_467 wd_58 wd_468) (by decide) dX7_loan_9 rfl) <|
  am_kc (ak_if_eq dX7_loan_12 (by decide +kernel) rfl) <|
  am_kc (ak_iload_n dX7_loan_15 rfl rfl) <|
  am_kc (ak_callS metX7_isYear ⟨rfl, by decide +kernel, by decide +kernel, by decide +kernel⟩ (am_w4 wd_407 wd_408 wd_58 wd_409) (by decide) dX7_loan_16 rfl) <|
  am_kc (ak_if_eq dX7_loan_19 (by decide +kernel) rfl) <|
  am_kc (ak_iload dX7_loan_22 rfl) <|
  am_kc (ak_callS metX7_isPence ⟨rfl, by decide +kernel, by decide +kernel, by decide +kernel⟩ (am_w4 wd_446 wd_447 wd_58 wd_448) (by decide) dX7_loan_24 rfl) <|
  am_kc (ak_if_eq dX7_loan_27 (by decide +kernel) rfl) <|
  am_kc (ak_iload dX7_loan_30 rfl) <|
  am_kc (ak_if_ne dX7_loan_32 (by decide +kernel) rfl) <|
  am_kc (ak_bipush dX7_loan_35 (by decide +kernel) rfl) <|
  am_kc (ak_retI dX7_loan_37) <|
  am_kc (ak_aload_n dX7_loan_38 rfl rfl) <|
  am_kc (ak_getR (C := RX7) (T := TX7) (N := 4) rfl inX7w (by decide) rfl rfl rfl wd_390 dX7_loan_39 rfl) <|
  am_kc (ak_getR (C := RX0) (T := TX0) (N := 13) rfl inX0w (by decide) rfl rfl rfl wd_207 dX7_loan_42 rfl) <|
  am_kc (ak_astore dX7_loan_45 rfl) <|
  am_kc (ak_aload dX7_loan_47 rfl) <|
  am_kc (ak_getI (C := RX3) (T := TX3) (N := 3) rfl inX3w (by decide) rfl rfl rfl wd_152 dX7_loan_49 rfl) <|
  am_kc (ak_bipush dX7_loan_52 (by decide +kernel) rfl) <|
  am_kc (ak_icmp_lt dX7_loan_54 (by decide +kernel) rfl) <|
  am_kc (ak_bipush dX7_loan_57 (by decide +kernel) rfl) <|
  am_kc (ak_retI dX7_loan_59) <|
  am_kc (ak_aload dX7_loan_60 rfl) <|
  am_kc (ak_iload_n dX7_loan_62 rfl rfl) <|
  am_kc (ak_iload_n dX7_loan_63 rfl rfl) <|
  am_kc (ak_iload_n dX7_loan_64 rfl rfl) <|
  am_kc (ak_callV (C := RX3) (F := TX3) (N := 3) metX3_add rfl ⟨rfl, by decide +kernel, by decide +kernel, by decide +kernel⟩ (am_w5 wd_514 wd_481 wd_482 wd_64 wd_483) (by decide) dX7_loan_65 rfl) <|
  am_kc (ak_istore dX7_loan_68 rfl) <|
  am_kc (ak_aload dX7_loan_70 rfl) <|
  am_kc (ak_iload dX7_loan_72 rfl) <|
  am_kc (ak_iconst dX7_loan_74 (by decide +kernel) rfl) <|
  am_kc (ak_iload dX7_loan_75 rfl) <|
  am_kc (ak_callV (C := RX3) (F := TX3) (N := 3) metX3_put rfl ⟨rfl, by decide +kernel, by decide +kernel, by decide +kernel⟩ (am_w5 wd_515 wd_485 wd_486 wd_64 wd_487) (by decide) dX7_loan_77 rfl) <|
  am_kc (ak_aload dX7_loan_80 rfl) <|
  am_kc (ak_iload dX7_loan_82 rfl) <|
  am_kc (ak_iconst dX7_loan_84 (by decide +kernel) rfl) <|
  am_kc (ak_iload dX7_loan_85 rfl) <|
  am_kc (ak_if_eq dX7_loan_87 (by decide +kernel) rfl) <|
  am_kc (ak_iconst dX7_loan_90 (by decide +kernel) rfl) <|
  am_kc (ak_goto dX7_loan_91 (by decide +kernel)) <|
  am_kc (ak_iconst dX7_loan_94 (by decide +kernel) rfl) <|
  am_kc (ak_callV (C := RX3) (F := TX3) (N := 3) metX3_put rfl ⟨rfl, by decide +kernel, by decide +kernel, by decide +kernel⟩ (am_w5 wd_515 wd_485 wd_486 wd_64 wd_487) (by decide) dX7_loan_95 rfl) <|
  am_kc (ak_aload dX7_loan_98 rfl) <|
  am_kc (ak_iload dX7_loan_100 rfl) <|
  am_kc (ak_iconst dX7_loan_102 (by decide +kernel) rfl) <|
  am_kc (ak_iconst dX7_loan_103 (by decide +kernel) rfl) <|
  am_kc (ak_callV (C := RX3) (F := TX3) (N := 3) metX3_put rfl ⟨rfl, by decide +kernel, by decide +kernel, by decide +kernel⟩ (am_w5 wd_515 wd_485 wd_486 wd_64 wd_487) (by decide) dX7_loan_104 rfl) <|
  am_kc (ak_aload dX7_loan_107 rfl) <|
  am_kc (ak_iload dX7_loan_109 rfl) <|
  am_kc (ak_bipush dX7_loan_111 (by decide +kernel) rfl) <|
  am_kc (ak_iconst dX7_loan_113 (by decide +kernel) rfl) <|
  am_kc (ak_callV (C := RX3) (F := TX3) (N := 3) metX3_put rfl ⟨rfl, by decide +kernel, by decide +kernel, by decide +kernel⟩ (am_w5 wd_515 wd_485 wd_486 wd_64 wd_487) (by decide) dX7_loan_114 rfl) <|
  am_kc (ak_aload dX7_loan_117 rfl) <|
  am_kc (ak_iload dX7_loan_119 rfl) <|
  am_kc (ak_bipush dX7_loan_121 (by decide +kernel) rfl) <|
  am_kc (ak_iconst dX7_loan_123 (by decide +kernel) rfl) <|
  am_kc (ak_callV (C := RX3) (F := TX3) (N := 3) metX3_put rfl ⟨rfl, by decide +kernel, by decide +kernel, by decide +kernel⟩ (am_w5 wd_515 wd_485 wd_486 wd_64 wd_487) (by decide) dX7_loan_124 rfl) <|
  am_kc (ak_aload_n dX7_loan_127 rfl rfl) <|
  am_kc (ak_getR (C := RX7) (T := TX7) (N := 4) rfl inX7w (by decide) rfl rfl rfl wd_390 dX7_loan_128 rfl) <|
  am_kc (ak_getR (C := RX0) (T := TX0) (N := 13) rfl inX0w (by decide) rfl rfl rfl wd_211 dX7_loan_131 rfl) <|
  am_kc (ak_iload dX7_loan_134 rfl) <|
  am_kc (ak_bipush dX7_loan_136 (by decide +kernel) rfl) <|
  am_kc (ak_imul dX7_loan_138 rfl) <|
  am_kc (ak_iload dX7_loan_139 rfl) <|
  am_kc (ak_bipush dX7_loan_141 (by decide +kernel) rfl) <|
  am_kc (ak_imul dX7_loan_143 rfl) <|
  am_kc (ak_bipush dX7_loan_144 (by decide +kernel) rfl) <|
  am_kc (ak_iadd dX7_loan_146 rfl) <|
  am_kc (ak_iload_n dX7_loan_147 rfl rfl) <|
  am_kc (ak_callS metX7_lay ⟨rfl, by decide +kernel, by decide +kernel, by decide +kernel⟩ (am_w4 wd_424 wd_425 wd_58 wd_426) (by decide) dX7_loan_148 rfl) <|
  am_kc (ak_iload dX7_loan_151 rfl) <|
  am_kc (ak_retI dX7_loan_153) <| am_kn
def TX7_loan : am_T := fun live as M R => match as with
  | [.ref n, .int p, .int l, .int y, .int s, .int e] => am_mn live ∧ n = 0 ∧ am_F7 M ∧ R (some (.int (-2))) M
  | _ => False
set_option maxRecDepth 100000 in
set_option maxHeartbeats 4000000 in
theorem metX7_loan : am_Met yX7_loan cX7_loan 8 (some .int) (2) (47) TX7_loan := by
  refine am_met (own := RX7) (by decide +kernel) rfl kX7_loan koX7_loan 300 (fun _ _ _ _ _ => none) (fun live as M Ret h => ?_) (fun _ _ _ _ _ _ _ _ hI => by cases hI)
  unfold TX7_loan at h
  split at h
  · next n p l y s e =>
    refine ⟨Nat.le_of_ble_eq_true rfl, ?_⟩
    change am_wp _ _ _ _ [(0, Value.ref n), (1, Value.int p), (2, Value.int l), (3, Value.int y), (4, Value.int s), (5, Value.int e)] _ _
    obtain ⟨⟨i1, i2, rfl⟩, rfl, hF, h⟩ := h
    have hs : M.1 21 7 = 0 := hF.1
    have hp : (if 0 ≤ p ∧ p < M.1 21 7 then (1 : Int32) else 0) = 0 := am_b0.mpr (fun q => by
      rw [hs, i_le, i_lt, Int32.toInt_zero] at q
      omega)
    repeat' (first | apply And.intro | exact rfl | (intro hx; with_reducible exact absurd hp hx) | intro hx | (refine Exists.intro _ (And.intro rfl ?_)))
    all_goals try first | (with_reducible change am_tI _ _) | (change Ret _ _) | (change Ret _ _ _) | (change Exists _)
    all_goals try dsimp only at *
    all_goals try exact absurd ‹(1000 : Int64) = 0› (by decide)
    all_goals first | exact h | exact hp | (left; exact hp) | grind
  · exact h.elim
theorem wd_520 : Cond.methodLink "LearnLoans" 135 yX7_isLoan ∈ am_ws := am_wsi (List.mem_of_getElem? (i := 520) (by decide +kernel)) (by decide +kernel)
theorem wd_522 : Cond.instanceMethod yX7_isLoan ∈ am_ws := am_wsi (List.mem_of_getElem? (i := 522) (by decide +kernel)) (by decide +kernel)
theorem wd_2 : Cond.selects "LearnLoans" yX7_isLoan yX7_isLoan ∈ am_ws := am_wsi (List.mem_of_getElem? (i := 2) (by decide +kernel)) (by decide +kernel)
theorem wd_523 : Cond.code yX7_isLoan cX7_isLoan 2 (some .boolean) ∈ am_ws := am_wsi (List.mem_of_getElem? (i := 523) (by decide +kernel)) (by decide +kernel)
theorem wd_524 : Cond.methodLink "LearnLoans" 138 yX3_at ∈ am_ws := am_wsi (List.mem_of_getElem? (i := 524) (by decide +kernel)) (by decide +kernel)
theorem wd_525 : Cond.methodLink "LearnLoans" 142 yX0_givenBack ∈ am_ws := am_wsi (List.mem_of_getElem? (i := 525) (by decide +kernel)) (by decide +kernel)
theorem wd_526 : Cond.instanceMethod yX0_givenBack ∈ am_ws := am_wsi (List.mem_of_getElem? (i := 526) (by decide +kernel)) (by decide +kernel)
theorem wd_527 : Cond.selects "LearnLoans$House" yX0_givenBack yX0_givenBack ∈ am_ws := am_wsi (List.mem_of_getElem? (i := 527) (by decide +kernel)) (by decide +kernel)
theorem wd_528 : Cond.code yX0_givenBack cX0_givenBack 5 (some .long) ∈ am_ws := am_wsi (List.mem_of_getElem? (i := 528) (by decide +kernel)) (by decide +kernel)
theorem dX7_leave_0 : decode cX7_leave 0 = .ok (.aload_n 0, 1) := by decide +kernel
theorem dX7_leave_1 : decode cX7_leave 1 = .ok (.iload_n 1, 1) := by decide +kernel
theorem dX7_leave_2 : decode cX7_leave 2 = .ok (.invokevirtual 135, 3) := by decide +kernel
theorem dX7_leave_5 : decode cX7_leave 5 = .ok (.ifCond .eq 10, 3) := by decide +kernel
theorem dX7_leave_8 : decode cX7_leave 8 = .ok (.iload_n 2, 1) := by decide +kernel
theorem dX7_leave_9 : decode cX7_leave 9 = .ok (.invokestatic 34, 3) := by decide +kernel
theorem dX7_leave_12 : decode cX7_leave 12 = .ok (.ifCond .ne 6, 3) := by decide +kernel
theorem dX7_leave_15 : decode cX7_leave 15 = .ok (.bipush (-2), 2) := by decide +kernel
theorem dX7_leave_17 : decode cX7_leave 17 = .ok (.ireturn, 1) := by decide +kernel
theorem dX7_leave_18 : decode cX7_leave 18 = .ok (.aload_n 0, 1) := by decide +kernel
theorem dX7_leave_19 : decode cX7_leave 19 = .ok (.getfield 27, 3) := by decide +kernel
theorem dX7_leave_22 : decode cX7_leave 22 = .ok (.getfield 122, 3) := by decide +kernel
theorem dX7_leave_25 : decode cX7_leave 25 = .ok (.astore_n 3, 1) := by decide +kernel
theorem dX7_leave_26 : decode cX7_leave 26 = .ok (.aload_n 3, 1) := by decide +kernel
theorem dX7_leave_27 : decode cX7_leave 27 = .ok (.iload_n 1, 1) := by decide +kernel
theorem dX7_leave_28 : decode cX7_leave 28 = .ok (.iconst 4, 1) := by decide +kernel
theorem dX7_leave_29 : decode cX7_leave 29 = .ok (.invokevirtual 138, 3) := by decide +kernel
theorem dX7_leave_32 : decode cX7_leave 32 = .ok (.iconst 1, 1) := by decide +kernel
theorem dX7_leave_33 : decode cX7_leave 33 = .ok (.if_icmp .ne 13, 3) := by decide +kernel
theorem dX7_leave_36 : decode cX7_leave 36 = .ok (.iload_n 2, 1) := by decide +kernel
theorem dX7_leave_37 : decode cX7_leave 37 = .ok (.aload_n 3, 1) := by decide +kernel
theorem dX7_leave_38 : decode cX7_leave 38 = .ok (.iload_n 1, 1) := by decide +kernel
theorem dX7_leave_39 : decode cX7_leave 39 = .ok (.iconst 2, 1) := by decide +kernel
theorem dX7_leave_40 : decode cX7_leave 40 = .ok (.invokevirtual 138, 3) := by decide +kernel
theorem dX7_leave_43 : decode cX7_leave 43 = .ok (.if_icmp .ge 6, 3) := by decide +kernel
theorem dX7_leave_46 : decode cX7_leave 46 = .ok (.bipush (-2), 2) := by decide +kernel
theorem dX7_leave_48 : decode cX7_leave 48 = .ok (.ireturn, 1) := by decide +kernel
theorem dX7_leave_49 : decode cX7_leave 49 = .ok (.aload_n 3, 1) := by decide +kernel
theorem dX7_leave_50 : decode cX7_leave 50 = .ok (.iload_n 1, 1) := by decide +kernel
theorem dX7_leave_51 : decode cX7_leave 51 = .ok (.iconst 5, 1) := by decide +kernel
theorem dX7_leave_52 : decode cX7_leave 52 = .ok (.invokevirtual 138, 3) := by decide +kernel
theorem dX7_leave_55 : decode cX7_leave 55 = .ok (.iconst (-1), 1) := by decide +kernel
theorem dX7_leave_56 : decode cX7_leave 56 = .ok (.if_icmp .eq 6, 3) := by decide +kernel
theorem dX7_leave_59 : decode cX7_leave 59 = .ok (.bipush (-3), 2) := by decide +kernel
theorem dX7_leave_61 : decode cX7_leave 61 = .ok (.ireturn, 1) := by decide +kernel
theorem dX7_leave_62 : decode cX7_leave 62 = .ok (.aload_n 3, 1) := by decide +kernel
theorem dX7_leave_63 : decode cX7_leave 63 = .ok (.iload_n 1, 1) := by decide +kernel
theorem dX7_leave_64 : decode cX7_leave 64 = .ok (.iconst 5, 1) := by decide +kernel
theorem dX7_leave_65 : decode cX7_leave 65 = .ok (.iload_n 2, 1) := by decide +kernel
theorem dX7_leave_66 : decode cX7_leave 66 = .ok (.invokevirtual 128, 3) := by decide +kernel
theorem dX7_leave_69 : decode cX7_leave 69 = .ok (.aload_n 0, 1) := by decide +kernel
theorem dX7_leave_70 : decode cX7_leave 70 = .ok (.getfield 27, 3) := by decide +kernel
theorem dX7_leave_73 : decode cX7_leave 73 = .ok (.iload_n 1, 1) := by decide +kernel
theorem dX7_leave_74 : decode cX7_leave 74 = .ok (.invokevirtual 142, 3) := by decide +kernel
theorem dX7_leave_77 : decode cX7_leave 77 = .ok (.l2i, 1) := by decide +kernel
theorem dX7_leave_78 : decode cX7_leave 78 = .ok (.ireturn, 1) := by decide +kernel
def kX7_leave (live : am_E) (Ret : am_R) : am_code := [(0, am_aload 0 1), (1, am_iload 1 2), (2, am_callV live 7 1 TX7_isLoan 5), (5, am_if1 (fun x => x = 0) 15 8), (8, am_iload 2 9), (9, am_callS live 1 TX7_isYear 12), (12, am_if1 (fun x => x = 0) 15 18), (15, am_const (.int (-2)) 17), (17, am_retI Ret), (18, am_aload 0 19), (19, am_getR live 7 0 22), (22, am_getR live 0 4 25), (25, am_astore 3 4 26), (26, am_aload 3 27), (27, am_iload 1 28), (28, am_const (.int 4) 29), (29, am_callV live 3 2 TX3_at 32), (32, am_const (.int 1) 33), (33, am_if2 (fun x y => x = y) 36 46), (36, am_iload 2 37), (37, am_aload 3 38), (38, am_iload 1 39), (39, am_const (.int 2) 40), (40, am_callV live 3 2 TX3_at 43), (43, am_if2 (fun x y => y ≤ x) 49 46), (46, am_const (.int (-2)) 48), (48, am_retI Ret), (49, am_aload 3 50), (50, am_iload 1 51), (51, am_const (.int 5) 52), (52, am_callV live 3 2 TX3_at 55), (55, am_const (.int (-1)) 56), (56, am_if2 (fun x y => x = y) 62 59), (59, am_const (.int (-3)) 61), (61, am_retI Ret), (62, am_aload 3 63), (63, am_iload 1 64), (64, am_const (.int 5) 65), (65, am_iload 2 66), (66, am_callV live 3 3 TX3_put 69), (69, am_aload 0 70), (70, am_getR live 7 0 73), (73, am_iload 1 74), (74, am_callV live 0 1 TX0_givenBack 77), (77, am_l2i 78), (78, am_retI Ret)]
theorem koX7_leave (live : am_E) (Ret : am_R) : ∀ q ∈ kX7_leave live Ret, am_ok RX7 cX7_leave 4 (some .int) 2 47 live Ret q.1 q.2 :=
  am_kc (ak_aload_n dX7_leave_0 rfl rfl) <|
  am_kc (ak_iload_n dX7_leave_1 rfl rfl) <|
  am_kc (ak_callV (C := RX7) (F := TX7) (N := 4) metX7_isLoan rfl ⟨rfl, by decide +kernel, by decide +kernel, by decide +kernel⟩ (am_w5 wd_520 wd_522 wd_2 wd_58 wd_523) (by decide) dX7_leave_2 rfl) <|
  am_kc (ak_if_eq dX7_leave_5 (by decide +kernel) rfl) <|
  am_kc (ak_iload_n dX7_leave_8 rfl rfl) <|
  am_kc (ak_callS metX7_isYear ⟨rfl, by decide +kernel, by decide +kernel, by decide +kernel⟩ (am_w4 wd_407 wd_408 wd_58 wd_409) (by decide) dX7_leave_9 rfl) <|
  am_kc (ak_if_ne dX7_leave_12 (by decide +kernel) rfl) <|
  am_kc (ak_bipush dX7_leave_15 (by decide +kernel) rfl) <|
  am_kc (ak_retI dX7_leave_17) <|
  am_kc (ak_aload_n dX7_leave_18 rfl rfl) <|
  am_kc (ak_getR (C := RX7) (T := TX7) (N := 4) rfl inX7w (by decide) rfl rfl rfl wd_390 dX7_leave_19 rfl) <|
  am_kc (ak_getR (C := RX0) (T := TX0) (N := 13) rfl inX0w (by decide) rfl rfl rfl wd_207 dX7_leave_22 rfl) <|
  am_kc (ak_astore_n dX7_leave_25 rfl rfl) <|
  am_kc (ak_aload_n dX7_leave_26 rfl rfl) <|
  am_kc (ak_iload_n dX7_leave_27 rfl rfl) <|
  am_kc (ak_iconst dX7_leave_28 (by decide +kernel) rfl) <|
  am_kc (ak_callV (C := RX3) (F := TX3) (N := 3) metX3_at rfl ⟨rfl, by decide +kernel, by decide +kernel, by decide +kernel⟩ (am_w5 wd_524 wd_503 wd_504 wd_64 wd_505) (by decide) dX7_leave_29 rfl) <|
  am_kc (ak_iconst dX7_leave_32 (by decide +kernel) rfl) <|
  am_kc (ak_icmp_ne dX7_leave_33 (by decide +kernel) rfl) <|
  am_kc (ak_iload_n dX7_leave_36 rfl rfl) <|
  am_kc (ak_aload_n dX7_leave_37 rfl rfl) <|
  am_kc (ak_iload_n dX7_leave_38 rfl rfl) <|
  am_kc (ak_iconst dX7_leave_39 (by decide +kernel) rfl) <|
  am_kc (ak_callV (C := RX3) (F := TX3) (N := 3) metX3_at rfl ⟨rfl, by decide +kernel, by decide +kernel, by decide +kernel⟩ (am_w5 wd_524 wd_503 wd_504 wd_64 wd_505) (by decide) dX7_leave_40 rfl) <|
  am_kc (ak_icmp_ge dX7_leave_43 (by decide +kernel) rfl) <|
  am_kc (ak_bipush dX7_leave_46 (by decide +kernel) rfl) <|
  am_kc (ak_retI dX7_leave_48) <|
  am_kc (ak_aload_n dX7_leave_49 rfl rfl) <|
  am_kc (ak_iload_n dX7_leave_50 rfl rfl) <|
  am_kc (ak_iconst dX7_leave_51 (by decide +kernel) rfl) <|
  am_kc (ak_callV (C := RX3) (F := TX3) (N := 3) metX3_at rfl ⟨rfl, by decide +kernel, by decide +kernel, by decide +kernel⟩ (am_w5 wd_524 wd_503 wd_504 wd_64 wd_505) (by decide) dX7_leave_52 rfl) <|
  am_kc (ak_iconst dX7_leave_55 (by decide +kernel) rfl) <|
  am_kc (ak_icmp_eq dX7_leave_56 (by decide +kernel) rfl) <|
  am_kc (ak_bipush dX7_leave_59 (by decide +kernel) rfl) <|
  am_kc (ak_retI dX7_leave_61) <|
  am_kc (ak_aload_n dX7_leave_62 rfl rfl) <|
  am_kc (ak_iload_n dX7_leave_63 rfl rfl) <|
  am_kc (ak_iconst dX7_leave_64 (by decide +kernel) rfl) <|
  am_kc (ak_iload_n dX7_leave_65 rfl rfl) <|
  am_kc (ak_callV (C := RX3) (F := TX3) (N := 3) metX3_put rfl ⟨rfl, by decide +kernel, by decide +kernel, by decide +kernel⟩ (am_w5 wd_515 wd_485 wd_486 wd_64 wd_487) (by decide) dX7_leave_66 rfl) <|
  am_kc (ak_aload_n dX7_leave_69 rfl rfl) <|
  am_kc (ak_getR (C := RX7) (T := TX7) (N := 4) rfl inX7w (by decide) rfl rfl rfl wd_390 dX7_leave_70 rfl) <|
  am_kc (ak_iload_n dX7_leave_73 rfl rfl) <|
  am_kc (ak_callV (C := RX0) (F := TX0) (N := 13) metX0_givenBack rfl ⟨rfl, by decide +kernel, by decide +kernel, by decide +kernel⟩ (am_w5 wd_525 wd_526 wd_527 wd_61 wd_528) (by decide) dX7_leave_74 rfl) <|
  am_kc (ak_l2i dX7_leave_77 rfl) <|
  am_kc (ak_retI dX7_leave_78) <| am_kn
def TX7_leave : am_T := fun live as M R => match as with
  | [.ref n, .int l, .int y] => am_mn live ∧ n = 0 ∧ am_F7 M ∧ R (some (.int (-2))) M
  | _ => False
set_option maxRecDepth 100000 in
set_option maxHeartbeats 4000000 in
theorem metX7_leave : am_Met yX7_leave cX7_leave 4 (some .int) (2) (47) TX7_leave := by
  refine am_met (own := RX7) (by decide +kernel) rfl kX7_leave koX7_leave 300 (fun _ _ _ _ _ => none) (fun live as M Ret h => ?_) (fun _ _ _ _ _ _ _ _ hI => by cases hI)
  unfold TX7_leave at h
  split at h
  · next n l y =>
    refine ⟨Nat.le_of_ble_eq_true rfl, ?_⟩
    change am_wp _ _ _ _ [(0, Value.ref n), (1, Value.int l), (2, Value.int y)] _ _
    obtain ⟨⟨i1, i2, rfl⟩, rfl, hF, h⟩ := h
    have hs : M.1 33 2 = 0 := hF.2.1
    have hp : (if 0 ≤ l ∧ l < M.1 33 2 then (1 : Int32) else 0) = 0 := am_b0.mpr (fun q => by
      rw [hs, i_le, i_lt, Int32.toInt_zero] at q
      omega)
    repeat' (first | apply And.intro | exact rfl | (intro hx; with_reducible exact absurd hp hx) | intro hx | (refine Exists.intro _ (And.intro rfl ?_)))
    all_goals try first | (with_reducible change am_tI _ _) | (change Ret _ _) | (change Ret _ _ _) | (change Exists _)
    all_goals try dsimp only at *
    all_goals try exact absurd ‹(1000 : Int64) = 0› (by decide)
    all_goals first | exact h | exact hp | (left; exact hp) | grind
  · exact h.elim
theorem wd_209 : Cond.fieldLink "LearnLoans" 146 "LearnLoans$House" "moves" "LLearnLoans$Rows;" ∈ am_ws := am_wsi (List.mem_of_getElem? (i := 209) (by decide +kernel)) (by decide +kernel)
theorem dX7_move_0 : decode cX7_move 0 = .ok (.aload_n 0, 1) := by decide +kernel
theorem dX7_move_1 : decode cX7_move 1 = .ok (.iload_n 1, 1) := by decide +kernel
theorem dX7_move_2 : decode cX7_move 2 = .ok (.invokevirtual 135, 3) := by decide +kernel
theorem dX7_move_5 : decode cX7_move 5 = .ok (.ifCond .eq 17, 3) := by decide +kernel
theorem dX7_move_8 : decode cX7_move 8 = .ok (.iload_n 2, 1) := by decide +kernel
theorem dX7_move_9 : decode cX7_move 9 = .ok (.invokestatic 98, 3) := by decide +kernel
theorem dX7_move_12 : decode cX7_move 12 = .ok (.ifCond .eq 10, 3) := by decide +kernel
theorem dX7_move_15 : decode cX7_move 15 = .ok (.iload_n 3, 1) := by decide +kernel
theorem dX7_move_16 : decode cX7_move 16 = .ok (.invokestatic 34, 3) := by decide +kernel
theorem dX7_move_19 : decode cX7_move 19 = .ok (.ifCond .ne 6, 3) := by decide +kernel
theorem dX7_move_22 : decode cX7_move 22 = .ok (.bipush (-2), 2) := by decide +kernel
theorem dX7_move_24 : decode cX7_move 24 = .ok (.ireturn, 1) := by decide +kernel
theorem dX7_move_25 : decode cX7_move 25 = .ok (.aload_n 0, 1) := by decide +kernel
theorem dX7_move_26 : decode cX7_move 26 = .ok (.getfield 27, 3) := by decide +kernel
theorem dX7_move_29 : decode cX7_move 29 = .ok (.getfield 146, 3) := by decide +kernel
theorem dX7_move_32 : decode cX7_move 32 = .ok (.getfield 108, 3) := by decide +kernel
theorem dX7_move_35 : decode cX7_move 35 = .ok (.bipush 60, 2) := by decide +kernel
theorem dX7_move_37 : decode cX7_move 37 = .ok (.if_icmp .lt 6, 3) := by decide +kernel
theorem dX7_move_40 : decode cX7_move 40 = .ok (.bipush (-4), 2) := by decide +kernel
theorem dX7_move_42 : decode cX7_move 42 = .ok (.ireturn, 1) := by decide +kernel
theorem dX7_move_43 : decode cX7_move 43 = .ok (.aload_n 0, 1) := by decide +kernel
theorem dX7_move_44 : decode cX7_move 44 = .ok (.getfield 27, 3) := by decide +kernel
theorem dX7_move_47 : decode cX7_move 47 = .ok (.getfield 146, 3) := by decide +kernel
theorem dX7_move_50 : decode cX7_move 50 = .ok (.iload_n 1, 1) := by decide +kernel
theorem dX7_move_51 : decode cX7_move 51 = .ok (.iload_n 2, 1) := by decide +kernel
theorem dX7_move_52 : decode cX7_move 52 = .ok (.iload_n 3, 1) := by decide +kernel
theorem dX7_move_53 : decode cX7_move 53 = .ok (.invokevirtual 125, 3) := by decide +kernel
theorem dX7_move_56 : decode cX7_move 56 = .ok (.pop, 1) := by decide +kernel
theorem dX7_move_57 : decode cX7_move 57 = .ok (.aload_n 0, 1) := by decide +kernel
theorem dX7_move_58 : decode cX7_move 58 = .ok (.getfield 27, 3) := by decide +kernel
theorem dX7_move_61 : decode cX7_move 61 = .ok (.getfield 132, 3) := by decide +kernel
theorem dX7_move_64 : decode cX7_move 64 = .ok (.iload_n 1, 1) := by decide +kernel
theorem dX7_move_65 : decode cX7_move 65 = .ok (.bipush 40, 2) := by decide +kernel
theorem dX7_move_67 : decode cX7_move 67 = .ok (.imul, 1) := by decide +kernel
theorem dX7_move_68 : decode cX7_move 68 = .ok (.iload_n 3, 1) := by decide +kernel
theorem dX7_move_69 : decode cX7_move 69 = .ok (.iadd, 1) := by decide +kernel
theorem dX7_move_70 : decode cX7_move 70 = .ok (.iload_n 1, 1) := by decide +kernel
theorem dX7_move_71 : decode cX7_move 71 = .ok (.bipush 40, 2) := by decide +kernel
theorem dX7_move_73 : decode cX7_move 73 = .ok (.imul, 1) := by decide +kernel
theorem dX7_move_74 : decode cX7_move 74 = .ok (.bipush 39, 2) := by decide +kernel
theorem dX7_move_76 : decode cX7_move 76 = .ok (.iadd, 1) := by decide +kernel
theorem dX7_move_77 : decode cX7_move 77 = .ok (.iload_n 2, 1) := by decide +kernel
theorem dX7_move_78 : decode cX7_move 78 = .ok (.invokestatic 66, 3) := by decide +kernel
theorem dX7_move_81 : decode cX7_move 81 = .ok (.iconst 1, 1) := by decide +kernel
theorem dX7_move_82 : decode cX7_move 82 = .ok (.ireturn, 1) := by decide +kernel
def kX7_move (live : am_E) (Ret : am_R) : am_code := [(0, am_aload 0 1), (1, am_iload 1 2), (2, am_callV live 7 1 TX7_isLoan 5), (5, am_if1 (fun x => x = 0) 22 8), (8, am_iload 2 9), (9, am_callS live 1 TX7_isPlan 12), (12, am_if1 (fun x => x = 0) 22 15), (15, am_iload 3 16), (16, am_callS live 1 TX7_isYear 19), (19, am_if1 (fun x => x = 0) 22 25), (22, am_const (.int (-2)) 24), (24, am_retI Ret), (25, am_aload 0 26), (26, am_getR live 7 0 29), (29, am_getR live 0 5 32), (32, am_getI live 3 2 35), (35, am_const (.int 60) 37), (37, am_if2 (fun x y => x < y) 43 40), (40, am_const (.int (-4)) 42), (42, am_retI Ret), (43, am_aload 0 44), (44, am_getR live 7 0 47), (47, am_getR live 0 5 50), (50, am_iload 1 51), (51, am_iload 2 52), (52, am_iload 3 53), (53, am_callV live 3 3 TX3_add 56), (56, am_pop 57), (57, am_aload 0 58), (58, am_getR live 7 0 61), (61, am_getR live 0 6 64), (64, am_iload 1 65), (65, am_const (.int 40) 67), (67, am_i2 (fun x y => x * y) 68), (68, am_iload 3 69), (69, am_i2 (fun x y => x + y) 70), (70, am_iload 1 71), (71, am_const (.int 40) 73), (73, am_i2 (fun x y => x * y) 74), (74, am_const (.int 39) 76), (76, am_i2 (fun x y => x + y) 77), (77, am_iload 2 78), (78, am_callS live 4 TX7_lay 81), (81, am_const (.int 1) 82), (82, am_retI Ret)]
theorem koX7_move (live : am_E) (Ret : am_R) : ∀ q ∈ kX7_move live Ret, am_ok RX7 cX7_move 4 (some .int) 2 47 live Ret q.1 q.2 :=
  am_kc (ak_aload_n dX7_move_0 rfl rfl) <|
  am_kc (ak_iload_n dX7_move_1 rfl rfl) <|
  am_kc (ak_callV (C := RX7) (F := TX7) (N := 4) metX7_isLoan rfl ⟨rfl, by decide +kernel, by decide +kernel, by decide +kernel⟩ (am_w5 wd_520 wd_522 wd_2 wd_58 wd_523) (by decide) dX7_move_2 rfl) <|
  am_kc (ak_if_eq dX7_move_5 (by decide +kernel) rfl) <|
  am_kc (ak_iload_n dX7_move_8 rfl rfl) <|
  am_kc (ak_callS metX7_isPlan ⟨rfl, by decide +kernel, by decide +kernel, by decide +kernel⟩ (am_w4 wd_466 wd_467 wd_58 wd_468) (by decide) dX7_move_9 rfl) <|
  am_kc (ak_if_eq dX7_move_12 (by decide +kernel) rfl) <|
  am_kc (ak_iload_n dX7_move_15 rfl rfl) <|
  am_kc (ak_callS metX7_isYear ⟨rfl, by decide +kernel, by decide +kernel, by decide +kernel⟩ (am_w4 wd_407 wd_408 wd_58 wd_409) (by decide) dX7_move_16 rfl) <|
  am_kc (ak_if_ne dX7_move_19 (by decide +kernel) rfl) <|
  am_kc (ak_bipush dX7_move_22 (by decide +kernel) rfl) <|
  am_kc (ak_retI dX7_move_24) <|
  am_kc (ak_aload_n dX7_move_25 rfl rfl) <|
  am_kc (ak_getR (C := RX7) (T := TX7) (N := 4) rfl inX7w (by decide) rfl rfl rfl wd_390 dX7_move_26 rfl) <|
  am_kc (ak_getR (C := RX0) (T := TX0) (N := 13) rfl inX0w (by decide) rfl rfl rfl wd_209 dX7_move_29 rfl) <|
  am_kc (ak_getI (C := RX3) (T := TX3) (N := 3) rfl inX3w (by decide) rfl rfl rfl wd_152 dX7_move_32 rfl) <|
  am_kc (ak_bipush dX7_move_35 (by decide +kernel) rfl) <|
  am_kc (ak_icmp_lt dX7_move_37 (by decide +kernel) rfl) <|
  am_kc (ak_bipush dX7_move_40 (by decide +kernel) rfl) <|
  am_kc (ak_retI dX7_move_42) <|
  am_kc (ak_aload_n dX7_move_43 rfl rfl) <|
  am_kc (ak_getR (C := RX7) (T := TX7) (N := 4) rfl inX7w (by decide) rfl rfl rfl wd_390 dX7_move_44 rfl) <|
  am_kc (ak_getR (C := RX0) (T := TX0) (N := 13) rfl inX0w (by decide) rfl rfl rfl wd_209 dX7_move_47 rfl) <|
  am_kc (ak_iload_n dX7_move_50 rfl rfl) <|
  am_kc (ak_iload_n dX7_move_51 rfl rfl) <|
  am_kc (ak_iload_n dX7_move_52 rfl rfl) <|
  am_kc (ak_callV (C := RX3) (F := TX3) (N := 3) metX3_add rfl ⟨rfl, by decide +kernel, by decide +kernel, by decide +kernel⟩ (am_w5 wd_514 wd_481 wd_482 wd_64 wd_483) (by decide) dX7_move_53 rfl) <|
  am_kc (ak_pop dX7_move_56 rfl) <|
  am_kc (ak_aload_n dX7_move_57 rfl rfl) <|
  am_kc (ak_getR (C := RX7) (T := TX7) (N := 4) rfl inX7w (by decide) rfl rfl rfl wd_390 dX7_move_58 rfl) <|
  am_kc (ak_getR (C := RX0) (T := TX0) (N := 13) rfl inX0w (by decide) rfl rfl rfl wd_211 dX7_move_61 rfl) <|
  am_kc (ak_iload_n dX7_move_64 rfl rfl) <|
  am_kc (ak_bipush dX7_move_65 (by decide +kernel) rfl) <|
  am_kc (ak_imul dX7_move_67 rfl) <|
  am_kc (ak_iload_n dX7_move_68 rfl rfl) <|
  am_kc (ak_iadd dX7_move_69 rfl) <|
  am_kc (ak_iload_n dX7_move_70 rfl rfl) <|
  am_kc (ak_bipush dX7_move_71 (by decide +kernel) rfl) <|
  am_kc (ak_imul dX7_move_73 rfl) <|
  am_kc (ak_bipush dX7_move_74 (by decide +kernel) rfl) <|
  am_kc (ak_iadd dX7_move_76 rfl) <|
  am_kc (ak_iload_n dX7_move_77 rfl rfl) <|
  am_kc (ak_callS metX7_lay ⟨rfl, by decide +kernel, by decide +kernel, by decide +kernel⟩ (am_w4 wd_424 wd_425 wd_58 wd_426) (by decide) dX7_move_78 rfl) <|
  am_kc (ak_iconst dX7_move_81 (by decide +kernel) rfl) <|
  am_kc (ak_retI dX7_move_82) <| am_kn
def TX7_move : am_T := fun live as M R => match as with
  | [.ref n, .int l, .int p, .int y] => am_mn live ∧ n = 0 ∧ am_F7 M ∧ R (some (.int (-2))) M
  | _ => False
set_option maxRecDepth 100000 in
set_option maxHeartbeats 4000000 in
theorem metX7_move : am_Met yX7_move cX7_move 4 (some .int) (2) (47) TX7_move := by
  refine am_met (own := RX7) (by decide +kernel) rfl kX7_move koX7_move 300 (fun _ _ _ _ _ => none) (fun live as M Ret h => ?_) (fun _ _ _ _ _ _ _ _ hI => by cases hI)
  unfold TX7_move at h
  split at h
  · next n l p y =>
    refine ⟨Nat.le_of_ble_eq_true rfl, ?_⟩
    change am_wp _ _ _ _ [(0, Value.ref n), (1, Value.int l), (2, Value.int p), (3, Value.int y)] _ _
    obtain ⟨⟨i1, i2, rfl⟩, rfl, hF, h⟩ := h
    have hs : M.1 33 2 = 0 := hF.2.1
    have hp : (if 0 ≤ l ∧ l < M.1 33 2 then (1 : Int32) else 0) = 0 := am_b0.mpr (fun q => by
      rw [hs, i_le, i_lt, Int32.toInt_zero] at q
      omega)
    repeat' (first | apply And.intro | exact rfl | (intro hx; with_reducible exact absurd hp hx) | intro hx | (refine Exists.intro _ (And.intro rfl ?_)))
    all_goals try first | (with_reducible change am_tI _ _) | (change Ret _ _) | (change Ret _ _ _) | (change Exists _)
    all_goals try dsimp only at *
    all_goals try exact absurd ‹(1000 : Int64) = 0› (by decide)
    all_goals first | exact h | exact hp | (left; exact hp) | grind
  · exact h.elim
theorem dX7_planOf_0 : decode cX7_planOf 0 = .ok (.aload_n 0, 1) := by decide +kernel
theorem dX7_planOf_1 : decode cX7_planOf 1 = .ok (.iload_n 1, 1) := by decide +kernel
theorem dX7_planOf_2 : decode cX7_planOf 2 = .ok (.invokevirtual 135, 3) := by decide +kernel
theorem dX7_planOf_5 : decode cX7_planOf 5 = .ok (.ifCond .eq 10, 3) := by decide +kernel
theorem dX7_planOf_8 : decode cX7_planOf 8 = .ok (.iload_n 2, 1) := by decide +kernel
theorem dX7_planOf_9 : decode cX7_planOf 9 = .ok (.invokestatic 34, 3) := by decide +kernel
theorem dX7_planOf_12 : decode cX7_planOf 12 = .ok (.ifCond .ne 6, 3) := by decide +kernel
theorem dX7_planOf_15 : decode cX7_planOf 15 = .ok (.bipush (-2), 2) := by decide +kernel
theorem dX7_planOf_17 : decode cX7_planOf 17 = .ok (.ireturn, 1) := by decide +kernel
theorem dX7_planOf_18 : decode cX7_planOf 18 = .ok (.aload_n 0, 1) := by decide +kernel
theorem dX7_planOf_19 : decode cX7_planOf 19 = .ok (.getfield 27, 3) := by decide +kernel
theorem dX7_planOf_22 : decode cX7_planOf 22 = .ok (.getfield 132, 3) := by decide +kernel
theorem dX7_planOf_25 : decode cX7_planOf 25 = .ok (.iload_n 1, 1) := by decide +kernel
theorem dX7_planOf_26 : decode cX7_planOf 26 = .ok (.bipush 40, 2) := by decide +kernel
theorem dX7_planOf_28 : decode cX7_planOf 28 = .ok (.imul, 1) := by decide +kernel
theorem dX7_planOf_29 : decode cX7_planOf 29 = .ok (.iload_n 2, 1) := by decide +kernel
theorem dX7_planOf_30 : decode cX7_planOf 30 = .ok (.iadd, 1) := by decide +kernel
theorem dX7_planOf_31 : decode cX7_planOf 31 = .ok (.iaload, 1) := by decide +kernel
theorem dX7_planOf_32 : decode cX7_planOf 32 = .ok (.ireturn, 1) := by decide +kernel
def kX7_planOf (live : am_E) (Ret : am_R) : am_code := [(0, am_aload 0 1), (1, am_iload 1 2), (2, am_callV live 7 1 TX7_isLoan 5), (5, am_if1 (fun x => x = 0) 15 8), (8, am_iload 2 9), (9, am_callS live 1 TX7_isYear 12), (12, am_if1 (fun x => x = 0) 15 18), (15, am_const (.int (-2)) 17), (17, am_retI Ret), (18, am_aload 0 19), (19, am_getR live 7 0 22), (22, am_getR live 0 6 25), (25, am_iload 1 26), (26, am_const (.int 40) 28), (28, am_i2 (fun x y => x * y) 29), (29, am_iload 2 30), (30, am_i2 (fun x y => x + y) 31), (31, am_ald live 0 32), (32, am_retI Ret)]
theorem koX7_planOf (live : am_E) (Ret : am_R) : ∀ q ∈ kX7_planOf live Ret, am_ok RX7 cX7_planOf 3 (some .int) 1 21 live Ret q.1 q.2 :=
  am_kc (ak_aload_n dX7_planOf_0 rfl rfl) <|
  am_kc (ak_iload_n dX7_planOf_1 rfl rfl) <|
  am_kc (ak_callV (C := RX7) (F := TX7) (N := 4) metX7_isLoan rfl ⟨rfl, by decide +kernel, by decide +kernel, by decide +kernel⟩ (am_w5 wd_520 wd_522 wd_2 wd_58 wd_523) (by decide) dX7_planOf_2 rfl) <|
  am_kc (ak_if_eq dX7_planOf_5 (by decide +kernel) rfl) <|
  am_kc (ak_iload_n dX7_planOf_8 rfl rfl) <|
  am_kc (ak_callS metX7_isYear ⟨rfl, by decide +kernel, by decide +kernel, by decide +kernel⟩ (am_w4 wd_407 wd_408 wd_58 wd_409) (by decide) dX7_planOf_9 rfl) <|
  am_kc (ak_if_ne dX7_planOf_12 (by decide +kernel) rfl) <|
  am_kc (ak_bipush dX7_planOf_15 (by decide +kernel) rfl) <|
  am_kc (ak_retI dX7_planOf_17) <|
  am_kc (ak_aload_n dX7_planOf_18 rfl rfl) <|
  am_kc (ak_getR (C := RX7) (T := TX7) (N := 4) rfl inX7w (by decide) rfl rfl rfl wd_390 dX7_planOf_19 rfl) <|
  am_kc (ak_getR (C := RX0) (T := TX0) (N := 13) rfl inX0w (by decide) rfl rfl rfl wd_211 dX7_planOf_22 rfl) <|
  am_kc (ak_iload_n dX7_planOf_25 rfl rfl) <|
  am_kc (ak_bipush dX7_planOf_26 (by decide +kernel) rfl) <|
  am_kc (ak_imul dX7_planOf_28 rfl) <|
  am_kc (ak_iload_n dX7_planOf_29 rfl rfl) <|
  am_kc (ak_iadd dX7_planOf_30 rfl) <|
  am_kc (ak_iald (t := 0) (fun _ => rfl) rfl dX7_planOf_31 rfl) <|
  am_kc (ak_retI dX7_planOf_32) <| am_kn
def TX7_planOf : am_T := fun live as M R => match as with
  | [.ref n, .int l, .int y] => am_mn live ∧ n = 0 ∧ am_F7 M ∧ R (some (.int (-2))) M
  | _ => False
set_option maxRecDepth 100000 in
set_option maxHeartbeats 4000000 in
theorem metX7_planOf : am_Met yX7_planOf cX7_planOf 3 (some .int) (1) (21) TX7_planOf := by
  refine am_met (own := RX7) (by decide +kernel) rfl kX7_planOf koX7_planOf 300 (fun _ _ _ _ _ => none) (fun live as M Ret h => ?_) (fun _ _ _ _ _ _ _ _ hI => by cases hI)
  unfold TX7_planOf at h
  split at h
  · next n l y =>
    refine ⟨Nat.le_of_ble_eq_true rfl, ?_⟩
    change am_wp _ _ _ _ [(0, Value.ref n), (1, Value.int l), (2, Value.int y)] _ _
    obtain ⟨⟨i1, i2, rfl⟩, rfl, hF, h⟩ := h
    have hs : M.1 33 2 = 0 := hF.2.1
    have hp : (if 0 ≤ l ∧ l < M.1 33 2 then (1 : Int32) else 0) = 0 := am_b0.mpr (fun q => by
      rw [hs, i_le, i_lt, Int32.toInt_zero] at q
      omega)
    repeat' (first | apply And.intro | exact rfl | (intro hx; with_reducible exact absurd hp hx) | intro hx | (refine Exists.intro _ (And.intro rfl ?_)))
    all_goals try first | (with_reducible change am_tI _ _) | (change Ret _ _) | (change Ret _ _ _) | (change Exists _)
    all_goals try dsimp only at *
    all_goals try exact absurd ‹(1000 : Int64) = 0› (by decide)
    all_goals first | exact h | exact hp | (left; exact hp) | grind
  · exact h.elim
theorem wd_545 : Cond.constantLong "LearnLoans" 149 (-2) ∈ am_ws := am_wsi (List.mem_of_getElem? (i := 545) (by decide +kernel)) (by decide +kernel)
theorem wd_546 : Cond.methodLink "LearnLoans" 151 yX4_begin ∈ am_ws := am_wsi (List.mem_of_getElem? (i := 546) (by decide +kernel)) (by decide +kernel)
theorem wd_547 : Cond.instanceMethod yX4_begin ∈ am_ws := am_wsi (List.mem_of_getElem? (i := 547) (by decide +kernel)) (by decide +kernel)
theorem wd_548 : Cond.selects "LearnLoans$Run" yX4_begin yX4_begin ∈ am_ws := am_wsi (List.mem_of_getElem? (i := 548) (by decide +kernel)) (by decide +kernel)
theorem wd_549 : Cond.code yX4_begin cX4_begin 5 none ∈ am_ws := am_wsi (List.mem_of_getElem? (i := 549) (by decide +kernel)) (by decide +kernel)
theorem wd_559 : Cond.methodLink "LearnLoans" 155 yX4_go ∈ am_ws := am_wsi (List.mem_of_getElem? (i := 559) (by decide +kernel)) (by decide +kernel)
theorem wd_560 : Cond.instanceMethod yX4_go ∈ am_ws := am_wsi (List.mem_of_getElem? (i := 560) (by decide +kernel)) (by decide +kernel)
theorem wd_561 : Cond.selects "LearnLoans$Run" yX4_go yX4_go ∈ am_ws := am_wsi (List.mem_of_getElem? (i := 561) (by decide +kernel)) (by decide +kernel)
theorem wd_562 : Cond.code yX4_go cX4_go 3 none ∈ am_ws := am_wsi (List.mem_of_getElem? (i := 562) (by decide +kernel)) (by decide +kernel)
theorem wd_298 : Cond.fieldLink "LearnLoans" 158 "LearnLoans$Run" "sums" "[J" ∈ am_ws := am_wsi (List.mem_of_getElem? (i := 298) (by decide +kernel)) (by decide +kernel)
theorem dX7_owes_0 : decode cX7_owes 0 = .ok (.aload_n 0, 1) := by decide +kernel
theorem dX7_owes_1 : decode cX7_owes 1 = .ok (.iload_n 1, 1) := by decide +kernel
theorem dX7_owes_2 : decode cX7_owes 2 = .ok (.invokevirtual 135, 3) := by decide +kernel
theorem dX7_owes_5 : decode cX7_owes 5 = .ok (.ifCond .eq 27, 3) := by decide +kernel
theorem dX7_owes_8 : decode cX7_owes 8 = .ok (.iload_n 2, 1) := by decide +kernel
theorem dX7_owes_9 : decode cX7_owes 9 = .ok (.invokestatic 34, 3) := by decide +kernel
theorem dX7_owes_12 : decode cX7_owes 12 = .ok (.ifCond .eq 20, 3) := by decide +kernel
theorem dX7_owes_15 : decode cX7_owes 15 = .ok (.iload_n 3, 1) := by decide +kernel
theorem dX7_owes_16 : decode cX7_owes 16 = .ok (.invokestatic 34, 3) := by decide +kernel
theorem dX7_owes_19 : decode cX7_owes 19 = .ok (.ifCond .eq 13, 3) := by decide +kernel
theorem dX7_owes_22 : decode cX7_owes 22 = .ok (.iload 4, 2) := by decide +kernel
theorem dX7_owes_24 : decode cX7_owes 24 = .ok (.iconst 0, 1) := by decide +kernel
theorem dX7_owes_25 : decode cX7_owes 25 = .ok (.iconst 4, 1) := by decide +kernel
theorem dX7_owes_26 : decode cX7_owes 26 = .ok (.invokestatic 55, 3) := by decide +kernel
theorem dX7_owes_29 : decode cX7_owes 29 = .ok (.ifCond .ne 7, 3) := by decide +kernel
theorem dX7_owes_32 : decode cX7_owes 32 = .ok (.ldc2_w 149, 3) := by decide +kernel
theorem dX7_owes_35 : decode cX7_owes 35 = .ok (.lreturn, 1) := by decide +kernel
theorem dX7_owes_36 : decode cX7_owes 36 = .ok (.aload_n 0, 1) := by decide +kernel
theorem dX7_owes_37 : decode cX7_owes 37 = .ok (.getfield 20, 3) := by decide +kernel
theorem dX7_owes_40 : decode cX7_owes 40 = .ok (.aload_n 0, 1) := by decide +kernel
theorem dX7_owes_41 : decode cX7_owes 41 = .ok (.getfield 27, 3) := by decide +kernel
theorem dX7_owes_44 : decode cX7_owes 44 = .ok (.getfield 122, 3) := by decide +kernel
theorem dX7_owes_47 : decode cX7_owes 47 = .ok (.iload_n 1, 1) := by decide +kernel
theorem dX7_owes_48 : decode cX7_owes 48 = .ok (.iconst 0, 1) := by decide +kernel
theorem dX7_owes_49 : decode cX7_owes 49 = .ok (.invokevirtual 138, 3) := by decide +kernel
theorem dX7_owes_52 : decode cX7_owes 52 = .ok (.iload_n 3, 1) := by decide +kernel
theorem dX7_owes_53 : decode cX7_owes 53 = .ok (.invokevirtual 151, 3) := by decide +kernel
theorem dX7_owes_56 : decode cX7_owes 56 = .ok (.aload_n 0, 1) := by decide +kernel
theorem dX7_owes_57 : decode cX7_owes 57 = .ok (.getfield 20, 3) := by decide +kernel
theorem dX7_owes_60 : decode cX7_owes 60 = .ok (.iload_n 2, 1) := by decide +kernel
theorem dX7_owes_61 : decode cX7_owes 61 = .ok (.invokevirtual 155, 3) := by decide +kernel
theorem dX7_owes_64 : decode cX7_owes 64 = .ok (.aload_n 0, 1) := by decide +kernel
theorem dX7_owes_65 : decode cX7_owes 65 = .ok (.getfield 20, 3) := by decide +kernel
theorem dX7_owes_68 : decode cX7_owes 68 = .ok (.getfield 158, 3) := by decide +kernel
theorem dX7_owes_71 : decode cX7_owes 71 = .ok (.iload 4, 2) := by decide +kernel
theorem dX7_owes_73 : decode cX7_owes 73 = .ok (.bipush 30, 2) := by decide +kernel
theorem dX7_owes_75 : decode cX7_owes 75 = .ok (.imul, 1) := by decide +kernel
theorem dX7_owes_76 : decode cX7_owes 76 = .ok (.iload_n 1, 1) := by decide +kernel
theorem dX7_owes_77 : decode cX7_owes 77 = .ok (.iadd, 1) := by decide +kernel
theorem dX7_owes_78 : decode cX7_owes 78 = .ok (.laload, 1) := by decide +kernel
theorem dX7_owes_79 : decode cX7_owes 79 = .ok (.lreturn, 1) := by decide +kernel
def kX7_owes (live : am_E) (Ret : am_R) : am_code := [(0, am_aload 0 1), (1, am_iload 1 2), (2, am_callV live 7 1 TX7_isLoan 5), (5, am_if1 (fun x => x = 0) 32 8), (8, am_iload 2 9), (9, am_callS live 1 TX7_isYear 12), (12, am_if1 (fun x => x = 0) 32 15), (15, am_iload 3 16), (16, am_callS live 1 TX7_isYear 19), (19, am_if1 (fun x => x = 0) 32 22), (22, am_iload 4 24), (24, am_const (.int 0) 25), (25, am_const (.int 4) 26), (26, am_callS live 3 TX7_within 29), (29, am_if1 (fun x => x = 0) 32 36), (32, am_const (.long (-2)) 35), (35, am_retL Ret), (36, am_aload 0 37), (37, am_getR live 7 2 40), (40, am_aload 0 41), (41, am_getR live 7 0 44), (44, am_getR live 0 4 47), (47, am_iload 1 48), (48, am_const (.int 0) 49), (49, am_callV live 3 2 TX3_at 52), (52, am_iload 3 53), (53, am_callV live 4 2 am_TF 56), (56, am_aload 0 57), (57, am_getR live 7 2 60), (60, am_iload 2 61), (61, am_callV live 4 1 am_TF 64), (64, am_aload 0 65), (65, am_getR live 7 2 68), (68, am_getR live 4 2 71), (71, am_iload 4 73), (73, am_const (.int 30) 75), (75, am_i2 (fun x y => x * y) 76), (76, am_iload 1 77), (77, am_i2 (fun x y => x + y) 78), (78, am_lald live 1 79), (79, am_retL Ret)]
theorem koX7_owes (live : am_E) (Ret : am_R) : ∀ q ∈ kX7_owes live Ret, am_ok RX7 cX7_owes 5 (some .long) 1 24 live Ret q.1 q.2 :=
  am_kc (ak_aload_n dX7_owes_0 rfl rfl) <|
  am_kc (ak_iload_n dX7_owes_1 rfl rfl) <|
  am_kc (ak_callV (C := RX7) (F := TX7) (N := 4) metX7_isLoan rfl ⟨rfl, by decide +kernel, by decide +kernel, by decide +kernel⟩ (am_w5 wd_520 wd_522 wd_2 wd_58 wd_523) (by decide) dX7_owes_2 rfl) <|
  am_kc (ak_if_eq dX7_owes_5 (by decide +kernel) rfl) <|
  am_kc (ak_iload_n dX7_owes_8 rfl rfl) <|
  am_kc (ak_callS metX7_isYear ⟨rfl, by decide +kernel, by decide +kernel, by decide +kernel⟩ (am_w4 wd_407 wd_408 wd_58 wd_409) (by decide) dX7_owes_9 rfl) <|
  am_kc (ak_if_eq dX7_owes_12 (by decide +kernel) rfl) <|
  am_kc (ak_iload_n dX7_owes_15 rfl rfl) <|
  am_kc (ak_callS metX7_isYear ⟨rfl, by decide +kernel, by decide +kernel, by decide +kernel⟩ (am_w4 wd_407 wd_408 wd_58 wd_409) (by decide) dX7_owes_16 rfl) <|
  am_kc (ak_if_eq dX7_owes_19 (by decide +kernel) rfl) <|
  am_kc (ak_iload dX7_owes_22 rfl) <|
  am_kc (ak_iconst dX7_owes_24 (by decide +kernel) rfl) <|
  am_kc (ak_iconst dX7_owes_25 (by decide +kernel) rfl) <|
  am_kc (ak_callS metX7_within ⟨rfl, by decide +kernel, by decide +kernel, by decide +kernel⟩ (am_w4 wd_418 wd_419 wd_58 wd_420) (by decide) dX7_owes_26 rfl) <|
  am_kc (ak_if_ne dX7_owes_29 (by decide +kernel) rfl) <|
  am_kc (ak_ldc2 wd_545 dX7_owes_32 rfl) <|
  am_kc (ak_retL dX7_owes_35) <|
  am_kc (ak_aload_n dX7_owes_36 rfl rfl) <|
  am_kc (ak_getR (C := RX7) (T := TX7) (N := 4) rfl inX7w (by decide) rfl rfl rfl wd_392 dX7_owes_37 rfl) <|
  am_kc (ak_aload_n dX7_owes_40 rfl rfl) <|
  am_kc (ak_getR (C := RX7) (T := TX7) (N := 4) rfl inX7w (by decide) rfl rfl rfl wd_390 dX7_owes_41 rfl) <|
  am_kc (ak_getR (C := RX0) (T := TX0) (N := 13) rfl inX0w (by decide) rfl rfl rfl wd_207 dX7_owes_44 rfl) <|
  am_kc (ak_iload_n dX7_owes_47 rfl rfl) <|
  am_kc (ak_iconst dX7_owes_48 (by decide +kernel) rfl) <|
  am_kc (ak_callV (C := RX3) (F := TX3) (N := 3) metX3_at rfl ⟨rfl, by decide +kernel, by decide +kernel, by decide +kernel⟩ (am_w5 wd_524 wd_503 wd_504 wd_64 wd_505) (by decide) dX7_owes_49 rfl) <|
  am_kc (ak_iload_n dX7_owes_52 rfl rfl) <|
  am_kc (ak_callV (C := RX4) (F := TX4) (N := 19) (am_metF _ _ _ _) rfl ⟨rfl, by decide +kernel, by decide +kernel, by decide +kernel⟩ (am_w5 wd_546 wd_547 wd_548 wd_60 wd_549) (by decide) dX7_owes_53 rfl) <|
  am_kc (ak_aload_n dX7_owes_56 rfl rfl) <|
  am_kc (ak_getR (C := RX7) (T := TX7) (N := 4) rfl inX7w (by decide) rfl rfl rfl wd_392 dX7_owes_57 rfl) <|
  am_kc (ak_iload_n dX7_owes_60 rfl rfl) <|
  am_kc (ak_callV (C := RX4) (F := TX4) (N := 19) (am_metF _ _ _ _) rfl ⟨rfl, by decide +kernel, by decide +kernel, by decide +kernel⟩ (am_w5 wd_559 wd_560 wd_561 wd_60 wd_562) (by decide) dX7_owes_61 rfl) <|
  am_kc (ak_aload_n dX7_owes_64 rfl rfl) <|
  am_kc (ak_getR (C := RX7) (T := TX7) (N := 4) rfl inX7w (by decide) rfl rfl rfl wd_392 dX7_owes_65 rfl) <|
  am_kc (ak_getR (C := RX4) (T := TX4) (N := 19) rfl inX4w (by decide) rfl rfl rfl wd_298 dX7_owes_68 rfl) <|
  am_kc (ak_iload dX7_owes_71 rfl) <|
  am_kc (ak_bipush dX7_owes_73 (by decide +kernel) rfl) <|
  am_kc (ak_imul dX7_owes_75 rfl) <|
  am_kc (ak_iload_n dX7_owes_76 rfl rfl) <|
  am_kc (ak_iadd dX7_owes_77 rfl) <|
  am_kc (ak_lald (t := 1) (fun _ => rfl) rfl dX7_owes_78 rfl) <|
  am_kc (ak_retL dX7_owes_79) <| am_kn
def TX7_owes : am_T := fun live as M R => match as with
  | [.ref n, .int l, .int y, .int k, .int w] => am_mn live ∧ n = 0 ∧ am_F7 M ∧ R (some (.long (-2))) M
  | _ => False
set_option maxRecDepth 100000 in
set_option maxHeartbeats 4000000 in
theorem metX7_owes : am_Met yX7_owes cX7_owes 5 (some .long) (1) (24) TX7_owes := by
  refine am_met (own := RX7) (by decide +kernel) rfl kX7_owes koX7_owes 300 (fun _ _ _ _ _ => none) (fun live as M Ret h => ?_) (fun _ _ _ _ _ _ _ _ hI => by cases hI)
  unfold TX7_owes at h
  split at h
  · next n l y k w =>
    refine ⟨Nat.le_of_ble_eq_true rfl, ?_⟩
    change am_wp _ _ _ _ [(0, Value.ref n), (1, Value.int l), (2, Value.int y), (3, Value.int k), (4, Value.int w)] _ _
    obtain ⟨⟨i1, i2, rfl⟩, rfl, hF, h⟩ := h
    have hs : M.1 33 2 = 0 := hF.2.1
    have hp : (if 0 ≤ l ∧ l < M.1 33 2 then (1 : Int32) else 0) = 0 := am_b0.mpr (fun q => by
      rw [hs, i_le, i_lt, Int32.toInt_zero] at q
      omega)
    repeat' (first | apply And.intro | exact rfl | (intro hx; with_reducible exact absurd hp hx) | intro hx | (refine Exists.intro _ (And.intro rfl ?_)))
    all_goals try first | (with_reducible change am_tI _ _) | (change Ret _ _) | (change Ret _ _ _) | (change Exists _)
    all_goals try dsimp only at *
    all_goals try exact absurd ‹(1000 : Int64) = 0› (by decide)
    all_goals first | exact h | exact hp | (left; exact hp) | grind
  · exact h.elim
theorem wd_645 : Cond.methodLink "LearnLoans" 162 yX7_together ∈ am_ws := am_wsi (List.mem_of_getElem? (i := 645) (by decide +kernel)) (by decide +kernel)
theorem wd_647 : Cond.instanceMethod yX7_together ∈ am_ws := am_wsi (List.mem_of_getElem? (i := 647) (by decide +kernel)) (by decide +kernel)
theorem wd_12 : Cond.selects "LearnLoans" yX7_together yX7_together ∈ am_ws := am_wsi (List.mem_of_getElem? (i := 12) (by decide +kernel)) (by decide +kernel)
theorem wd_648 : Cond.code yX7_together cX7_together 5 (some .long) ∈ am_ws := am_wsi (List.mem_of_getElem? (i := 648) (by decide +kernel)) (by decide +kernel)
theorem dX7_all_0 : decode cX7_all 0 = .ok (.aload_n 0, 1) := by decide +kernel
theorem dX7_all_1 : decode cX7_all 1 = .ok (.iload_n 1, 1) := by decide +kernel
theorem dX7_all_2 : decode cX7_all 2 = .ok (.invokevirtual 52, 3) := by decide +kernel
theorem dX7_all_5 : decode cX7_all 5 = .ok (.ifCond .eq 27, 3) := by decide +kernel
theorem dX7_all_8 : decode cX7_all 8 = .ok (.iload_n 2, 1) := by decide +kernel
theorem dX7_all_9 : decode cX7_all 9 = .ok (.invokestatic 34, 3) := by decide +kernel
theorem dX7_all_12 : decode cX7_all 12 = .ok (.ifCond .eq 20, 3) := by decide +kernel
theorem dX7_all_15 : decode cX7_all 15 = .ok (.iload_n 3, 1) := by decide +kernel
theorem dX7_all_16 : decode cX7_all 16 = .ok (.invokestatic 34, 3) := by decide +kernel
theorem dX7_all_19 : decode cX7_all 19 = .ok (.ifCond .eq 13, 3) := by decide +kernel
theorem dX7_all_22 : decode cX7_all 22 = .ok (.iload 4, 2) := by decide +kernel
theorem dX7_all_24 : decode cX7_all 24 = .ok (.iconst 0, 1) := by decide +kernel
theorem dX7_all_25 : decode cX7_all 25 = .ok (.iconst 4, 1) := by decide +kernel
theorem dX7_all_26 : decode cX7_all 26 = .ok (.invokestatic 55, 3) := by decide +kernel
theorem dX7_all_29 : decode cX7_all 29 = .ok (.ifCond .ne 7, 3) := by decide +kernel
theorem dX7_all_32 : decode cX7_all 32 = .ok (.ldc2_w 149, 3) := by decide +kernel
theorem dX7_all_35 : decode cX7_all 35 = .ok (.lreturn, 1) := by decide +kernel
theorem dX7_all_36 : decode cX7_all 36 = .ok (.aload_n 0, 1) := by decide +kernel
theorem dX7_all_37 : decode cX7_all 37 = .ok (.iload_n 1, 1) := by decide +kernel
theorem dX7_all_38 : decode cX7_all 38 = .ok (.iload_n 2, 1) := by decide +kernel
theorem dX7_all_39 : decode cX7_all 39 = .ok (.iload_n 3, 1) := by decide +kernel
theorem dX7_all_40 : decode cX7_all 40 = .ok (.iload 4, 2) := by decide +kernel
theorem dX7_all_42 : decode cX7_all 42 = .ok (.invokevirtual 162, 3) := by decide +kernel
theorem dX7_all_45 : decode cX7_all 45 = .ok (.lreturn, 1) := by decide +kernel
def kX7_all (live : am_E) (Ret : am_R) : am_code := [(0, am_aload 0 1), (1, am_iload 1 2), (2, am_callV live 7 1 TX7_isPerson 5), (5, am_if1 (fun x => x = 0) 32 8), (8, am_iload 2 9), (9, am_callS live 1 TX7_isYear 12), (12, am_if1 (fun x => x = 0) 32 15), (15, am_iload 3 16), (16, am_callS live 1 TX7_isYear 19), (19, am_if1 (fun x => x = 0) 32 22), (22, am_iload 4 24), (24, am_const (.int 0) 25), (25, am_const (.int 4) 26), (26, am_callS live 3 TX7_within 29), (29, am_if1 (fun x => x = 0) 32 36), (32, am_const (.long (-2)) 35), (35, am_retL Ret), (36, am_aload 0 37), (37, am_iload 1 38), (38, am_iload 2 39), (39, am_iload 3 40), (40, am_iload 4 42), (42, am_callV live 7 4 am_TF 45), (45, am_retL Ret)]
theorem koX7_all (live : am_E) (Ret : am_R) : ∀ q ∈ kX7_all live Ret, am_ok RX7 cX7_all 5 (some .long) 1 24 live Ret q.1 q.2 :=
  am_kc (ak_aload_n dX7_all_0 rfl rfl) <|
  am_kc (ak_iload_n dX7_all_1 rfl rfl) <|
  am_kc (ak_callV (C := RX7) (F := TX7) (N := 4) metX7_isPerson rfl ⟨rfl, by decide +kernel, by decide +kernel, by decide +kernel⟩ (am_w5 wd_414 wd_416 wd_0 wd_58 wd_417) (by decide) dX7_all_2 rfl) <|
  am_kc (ak_if_eq dX7_all_5 (by decide +kernel) rfl) <|
  am_kc (ak_iload_n dX7_all_8 rfl rfl) <|
  am_kc (ak_callS metX7_isYear ⟨rfl, by decide +kernel, by decide +kernel, by decide +kernel⟩ (am_w4 wd_407 wd_408 wd_58 wd_409) (by decide) dX7_all_9 rfl) <|
  am_kc (ak_if_eq dX7_all_12 (by decide +kernel) rfl) <|
  am_kc (ak_iload_n dX7_all_15 rfl rfl) <|
  am_kc (ak_callS metX7_isYear ⟨rfl, by decide +kernel, by decide +kernel, by decide +kernel⟩ (am_w4 wd_407 wd_408 wd_58 wd_409) (by decide) dX7_all_16 rfl) <|
  am_kc (ak_if_eq dX7_all_19 (by decide +kernel) rfl) <|
  am_kc (ak_iload dX7_all_22 rfl) <|
  am_kc (ak_iconst dX7_all_24 (by decide +kernel) rfl) <|
  am_kc (ak_iconst dX7_all_25 (by decide +kernel) rfl) <|
  am_kc (ak_callS metX7_within ⟨rfl, by decide +kernel, by decide +kernel, by decide +kernel⟩ (am_w4 wd_418 wd_419 wd_58 wd_420) (by decide) dX7_all_26 rfl) <|
  am_kc (ak_if_ne dX7_all_29 (by decide +kernel) rfl) <|
  am_kc (ak_ldc2 wd_545 dX7_all_32 rfl) <|
  am_kc (ak_retL dX7_all_35) <|
  am_kc (ak_aload_n dX7_all_36 rfl rfl) <|
  am_kc (ak_iload_n dX7_all_37 rfl rfl) <|
  am_kc (ak_iload_n dX7_all_38 rfl rfl) <|
  am_kc (ak_iload_n dX7_all_39 rfl rfl) <|
  am_kc (ak_iload dX7_all_40 rfl) <|
  am_kc (ak_callV (C := RX7) (F := TX7) (N := 4) (am_metF _ _ _ _) rfl ⟨rfl, by decide +kernel, by decide +kernel, by decide +kernel⟩ (am_w5 wd_645 wd_647 wd_12 wd_58 wd_648) (by decide) dX7_all_42 rfl) <|
  am_kc (ak_retL dX7_all_45) <| am_kn
def TX7_all : am_T := fun live as M R => match as with
  | [.ref n, .int p, .int y, .int k, .int w] => am_mn live ∧ n = 0 ∧ am_F7 M ∧ R (some (.long (-2))) M
  | _ => False
set_option maxRecDepth 100000 in
set_option maxHeartbeats 4000000 in
theorem metX7_all : am_Met yX7_all cX7_all 5 (some .long) (1) (24) TX7_all := by
  refine am_met (own := RX7) (by decide +kernel) rfl kX7_all koX7_all 300 (fun _ _ _ _ _ => none) (fun live as M Ret h => ?_) (fun _ _ _ _ _ _ _ _ hI => by cases hI)
  unfold TX7_all at h
  split at h
  · next n p y k w =>
    refine ⟨Nat.le_of_ble_eq_true rfl, ?_⟩
    change am_wp _ _ _ _ [(0, Value.ref n), (1, Value.int p), (2, Value.int y), (3, Value.int k), (4, Value.int w)] _ _
    obtain ⟨⟨i1, i2, rfl⟩, rfl, hF, h⟩ := h
    have hs : M.1 21 7 = 0 := hF.1
    have hp : (if 0 ≤ p ∧ p < M.1 21 7 then (1 : Int32) else 0) = 0 := am_b0.mpr (fun q => by
      rw [hs, i_le, i_lt, Int32.toInt_zero] at q
      omega)
    repeat' (first | apply And.intro | exact rfl | (intro hx; with_reducible exact absurd hp hx) | intro hx | (refine Exists.intro _ (And.intro rfl ?_)))
    all_goals try first | (with_reducible change am_tI _ _) | (change Ret _ _) | (change Ret _ _ _) | (change Exists _)
    all_goals try dsimp only at *
    all_goals try exact absurd ‹(1000 : Int64) = 0› (by decide)
    all_goals first | exact h | exact hp | (left; exact hp) | grind
  · exact h.elim
theorem wd_657 : Cond.methodLink "LearnLoans" 166 yX4_look ∈ am_ws := am_wsi (List.mem_of_getElem? (i := 657) (by decide +kernel)) (by decide +kernel)
theorem wd_564 : Cond.instanceMethod yX4_look ∈ am_ws := am_wsi (List.mem_of_getElem? (i := 564) (by decide +kernel)) (by decide +kernel)
theorem wd_565 : Cond.selects "LearnLoans$Run" yX4_look yX4_look ∈ am_ws := am_wsi (List.mem_of_getElem? (i := 565) (by decide +kernel)) (by decide +kernel)
theorem wd_566 : Cond.code yX4_look cX4_look 2 none ∈ am_ws := am_wsi (List.mem_of_getElem? (i := 566) (by decide +kernel)) (by decide +kernel)
theorem wd_658 : Cond.methodLink "LearnLoans" 169 yX4_rateOf ∈ am_ws := am_wsi (List.mem_of_getElem? (i := 658) (by decide +kernel)) (by decide +kernel)
theorem wd_589 : Cond.instanceMethod yX4_rateOf ∈ am_ws := am_wsi (List.mem_of_getElem? (i := 589) (by decide +kernel)) (by decide +kernel)
theorem wd_590 : Cond.selects "LearnLoans$Run" yX4_rateOf yX4_rateOf ∈ am_ws := am_wsi (List.mem_of_getElem? (i := 590) (by decide +kernel)) (by decide +kernel)
theorem wd_591 : Cond.code yX4_rateOf cX4_rateOf 7 (some .int) ∈ am_ws := am_wsi (List.mem_of_getElem? (i := 591) (by decide +kernel)) (by decide +kernel)
theorem dX7_rate_0 : decode cX7_rate 0 = .ok (.aload_n 0, 1) := by decide +kernel
theorem dX7_rate_1 : decode cX7_rate 1 = .ok (.iload_n 1, 1) := by decide +kernel
theorem dX7_rate_2 : decode cX7_rate 2 = .ok (.invokevirtual 135, 3) := by decide +kernel
theorem dX7_rate_5 : decode cX7_rate 5 = .ok (.ifCond .eq 17, 3) := by decide +kernel
theorem dX7_rate_8 : decode cX7_rate 8 = .ok (.iload_n 2, 1) := by decide +kernel
theorem dX7_rate_9 : decode cX7_rate 9 = .ok (.invokestatic 34, 3) := by decide +kernel
theorem dX7_rate_12 : decode cX7_rate 12 = .ok (.ifCond .eq 10, 3) := by decide +kernel
theorem dX7_rate_15 : decode cX7_rate 15 = .ok (.iload_n 3, 1) := by decide +kernel
theorem dX7_rate_16 : decode cX7_rate 16 = .ok (.invokestatic 34, 3) := by decide +kernel
theorem dX7_rate_19 : decode cX7_rate 19 = .ok (.ifCond .ne 6, 3) := by decide +kernel
theorem dX7_rate_22 : decode cX7_rate 22 = .ok (.bipush (-2), 2) := by decide +kernel
theorem dX7_rate_24 : decode cX7_rate 24 = .ok (.ireturn, 1) := by decide +kernel
theorem dX7_rate_25 : decode cX7_rate 25 = .ok (.aload_n 0, 1) := by decide +kernel
theorem dX7_rate_26 : decode cX7_rate 26 = .ok (.getfield 20, 3) := by decide +kernel
theorem dX7_rate_29 : decode cX7_rate 29 = .ok (.aload_n 0, 1) := by decide +kernel
theorem dX7_rate_30 : decode cX7_rate 30 = .ok (.getfield 27, 3) := by decide +kernel
theorem dX7_rate_33 : decode cX7_rate 33 = .ok (.getfield 122, 3) := by decide +kernel
theorem dX7_rate_36 : decode cX7_rate 36 = .ok (.iload_n 1, 1) := by decide +kernel
theorem dX7_rate_37 : decode cX7_rate 37 = .ok (.iconst 0, 1) := by decide +kernel
theorem dX7_rate_38 : decode cX7_rate 38 = .ok (.invokevirtual 138, 3) := by decide +kernel
theorem dX7_rate_41 : decode cX7_rate 41 = .ok (.iload_n 3, 1) := by decide +kernel
theorem dX7_rate_42 : decode cX7_rate 42 = .ok (.invokevirtual 151, 3) := by decide +kernel
theorem dX7_rate_45 : decode cX7_rate 45 = .ok (.aload_n 0, 1) := by decide +kernel
theorem dX7_rate_46 : decode cX7_rate 46 = .ok (.getfield 20, 3) := by decide +kernel
theorem dX7_rate_49 : decode cX7_rate 49 = .ok (.iload_n 2, 1) := by decide +kernel
theorem dX7_rate_50 : decode cX7_rate 50 = .ok (.iconst 1, 1) := by decide +kernel
theorem dX7_rate_51 : decode cX7_rate 51 = .ok (.isub, 1) := by decide +kernel
theorem dX7_rate_52 : decode cX7_rate 52 = .ok (.invokevirtual 155, 3) := by decide +kernel
theorem dX7_rate_55 : decode cX7_rate 55 = .ok (.aload_n 0, 1) := by decide +kernel
theorem dX7_rate_56 : decode cX7_rate 56 = .ok (.getfield 20, 3) := by decide +kernel
theorem dX7_rate_59 : decode cX7_rate 59 = .ok (.iload_n 2, 1) := by decide +kernel
theorem dX7_rate_60 : decode cX7_rate 60 = .ok (.invokevirtual 166, 3) := by decide +kernel
theorem dX7_rate_63 : decode cX7_rate 63 = .ok (.aload_n 0, 1) := by decide +kernel
theorem dX7_rate_64 : decode cX7_rate 64 = .ok (.getfield 20, 3) := by decide +kernel
theorem dX7_rate_67 : decode cX7_rate 67 = .ok (.iload_n 1, 1) := by decide +kernel
theorem dX7_rate_68 : decode cX7_rate 68 = .ok (.iload_n 2, 1) := by decide +kernel
theorem dX7_rate_69 : decode cX7_rate 69 = .ok (.invokevirtual 169, 3) := by decide +kernel
theorem dX7_rate_72 : decode cX7_rate 72 = .ok (.ireturn, 1) := by decide +kernel
def kX7_rate (live : am_E) (Ret : am_R) : am_code := [(0, am_aload 0 1), (1, am_iload 1 2), (2, am_callV live 7 1 TX7_isLoan 5), (5, am_if1 (fun x => x = 0) 22 8), (8, am_iload 2 9), (9, am_callS live 1 TX7_isYear 12), (12, am_if1 (fun x => x = 0) 22 15), (15, am_iload 3 16), (16, am_callS live 1 TX7_isYear 19), (19, am_if1 (fun x => x = 0) 22 25), (22, am_const (.int (-2)) 24), (24, am_retI Ret), (25, am_aload 0 26), (26, am_getR live 7 2 29), (29, am_aload 0 30), (30, am_getR live 7 0 33), (33, am_getR live 0 4 36), (36, am_iload 1 37), (37, am_const (.int 0) 38), (38, am_callV live 3 2 TX3_at 41), (41, am_iload 3 42), (42, am_callV live 4 2 am_TF 45), (45, am_aload 0 46), (46, am_getR live 7 2 49), (49, am_iload 2 50), (50, am_const (.int 1) 51), (51, am_i2 (fun x y => x - y) 52), (52, am_callV live 4 1 am_TF 55), (55, am_aload 0 56), (56, am_getR live 7 2 59), (59, am_iload 2 60), (60, am_callV live 4 1 am_TF 63), (63, am_aload 0 64), (64, am_getR live 7 2 67), (67, am_iload 1 68), (68, am_iload 2 69), (69, am_callV live 4 2 am_TF 72), (72, am_retI Ret)]
theorem koX7_rate (live : am_E) (Ret : am_R) : ∀ q ∈ kX7_rate live Ret, am_ok RX7 cX7_rate 4 (some .int) 1 26 live Ret q.1 q.2 :=
  am_kc (ak_aload_n dX7_rate_0 rfl rfl) <|
  am_kc (ak_iload_n dX7_rate_1 rfl rfl) <|
  am_kc (ak_callV (C := RX7) (F := TX7) (N := 4) metX7_isLoan rfl ⟨rfl, by decide +kernel, by decide +kernel, by decide +kernel⟩ (am_w5 wd_520 wd_522 wd_2 wd_58 wd_523) (by decide) dX7_rate_2 rfl) <|
  am_kc (ak_if_eq dX7_rate_5 (by decide +kernel) rfl) <|
  am_kc (ak_iload_n dX7_rate_8 rfl rfl) <|
  am_kc (ak_callS metX7_isYear ⟨rfl, by decide +kernel, by decide +kernel, by decide +kernel⟩ (am_w4 wd_407 wd_408 wd_58 wd_409) (by decide) dX7_rate_9 rfl) <|
  am_kc (ak_if_eq dX7_rate_12 (by decide +kernel) rfl) <|
  am_kc (ak_iload_n dX7_rate_15 rfl rfl) <|
  am_kc (ak_callS metX7_isYear ⟨rfl, by decide +kernel, by decide +kernel, by decide +kernel⟩ (am_w4 wd_407 wd_408 wd_58 wd_409) (by decide) dX7_rate_16 rfl) <|
  am_kc (ak_if_ne dX7_rate_19 (by decide +kernel) rfl) <|
  am_kc (ak_bipush dX7_rate_22 (by decide +kernel) rfl) <|
  am_kc (ak_retI dX7_rate_24) <|
  am_kc (ak_aload_n dX7_rate_25 rfl rfl) <|
  am_kc (ak_getR (C := RX7) (T := TX7) (N := 4) rfl inX7w (by decide) rfl rfl rfl wd_392 dX7_rate_26 rfl) <|
  am_kc (ak_aload_n dX7_rate_29 rfl rfl) <|
  am_kc (ak_getR (C := RX7) (T := TX7) (N := 4) rfl inX7w (by decide) rfl rfl rfl wd_390 dX7_rate_30 rfl) <|
  am_kc (ak_getR (C := RX0) (T := TX0) (N := 13) rfl inX0w (by decide) rfl rfl rfl wd_207 dX7_rate_33 rfl) <|
  am_kc (ak_iload_n dX7_rate_36 rfl rfl) <|
  am_kc (ak_iconst dX7_rate_37 (by decide +kernel) rfl) <|
  am_kc (ak_callV (C := RX3) (F := TX3) (N := 3) metX3_at rfl ⟨rfl, by decide +kernel, by decide +kernel, by decide +kernel⟩ (am_w5 wd_524 wd_503 wd_504 wd_64 wd_505) (by decide) dX7_rate_38 rfl) <|
  am_kc (ak_iload_n dX7_rate_41 rfl rfl) <|
  am_kc (ak_callV (C := RX4) (F := TX4) (N := 19) (am_metF _ _ _ _) rfl ⟨rfl, by decide +kernel, by decide +kernel, by decide +kernel⟩ (am_w5 wd_546 wd_547 wd_548 wd_60 wd_549) (by decide) dX7_rate_42 rfl) <|
  am_kc (ak_aload_n dX7_rate_45 rfl rfl) <|
  am_kc (ak_getR (C := RX7) (T := TX7) (N := 4) rfl inX7w (by decide) rfl rfl rfl wd_392 dX7_rate_46 rfl) <|
  am_kc (ak_iload_n dX7_rate_49 rfl rfl) <|
  am_kc (ak_iconst dX7_rate_50 (by decide +kernel) rfl) <|
  am_kc (ak_isub dX7_rate_51 rfl) <|
  am_kc (ak_callV (C := RX4) (F := TX4) (N := 19) (am_metF _ _ _ _) rfl ⟨rfl, by decide +kernel, by decide +kernel, by decide +kernel⟩ (am_w5 wd_559 wd_560 wd_561 wd_60 wd_562) (by decide) dX7_rate_52 rfl) <|
  am_kc (ak_aload_n dX7_rate_55 rfl rfl) <|
  am_kc (ak_getR (C := RX7) (T := TX7) (N := 4) rfl inX7w (by decide) rfl rfl rfl wd_392 dX7_rate_56 rfl) <|
  am_kc (ak_iload_n dX7_rate_59 rfl rfl) <|
  am_kc (ak_callV (C := RX4) (F := TX4) (N := 19) (am_metF _ _ _ _) rfl ⟨rfl, by decide +kernel, by decide +kernel, by decide +kernel⟩ (am_w5 wd_657 wd_564 wd_565 wd_60 wd_566) (by decide) dX7_rate_60 rfl) <|
  am_kc (ak_aload_n dX7_rate_63 rfl rfl) <|
  am_kc (ak_getR (C := RX7) (T := TX7) (N := 4) rfl inX7w (by decide) rfl rfl rfl wd_392 dX7_rate_64 rfl) <|
  am_kc (ak_iload_n dX7_rate_67 rfl rfl) <|
  am_kc (ak_iload_n dX7_rate_68 rfl rfl) <|
  am_kc (ak_callV (C := RX4) (F := TX4) (N := 19) (am_metF _ _ _ _) rfl ⟨rfl, by decide +kernel, by decide +kernel, by decide +kernel⟩ (am_w5 wd_658 wd_589 wd_590 wd_60 wd_591) (by decide) dX7_rate_69 rfl) <|
  am_kc (ak_retI dX7_rate_72) <| am_kn
def TX7_rate : am_T := fun live as M R => match as with
  | [.ref n, .int l, .int y, .int k] => am_mn live ∧ n = 0 ∧ am_F7 M ∧ R (some (.int (-2))) M
  | _ => False
set_option maxRecDepth 100000 in
set_option maxHeartbeats 4000000 in
theorem metX7_rate : am_Met yX7_rate cX7_rate 4 (some .int) (1) (26) TX7_rate := by
  refine am_met (own := RX7) (by decide +kernel) rfl kX7_rate koX7_rate 300 (fun _ _ _ _ _ => none) (fun live as M Ret h => ?_) (fun _ _ _ _ _ _ _ _ hI => by cases hI)
  unfold TX7_rate at h
  split at h
  · next n l y k =>
    refine ⟨Nat.le_of_ble_eq_true rfl, ?_⟩
    change am_wp _ _ _ _ [(0, Value.ref n), (1, Value.int l), (2, Value.int y), (3, Value.int k)] _ _
    obtain ⟨⟨i1, i2, rfl⟩, rfl, hF, h⟩ := h
    have hs : M.1 33 2 = 0 := hF.2.1
    have hp : (if 0 ≤ l ∧ l < M.1 33 2 then (1 : Int32) else 0) = 0 := am_b0.mpr (fun q => by
      rw [hs, i_le, i_lt, Int32.toInt_zero] at q
      omega)
    repeat' (first | apply And.intro | exact rfl | (intro hx; with_reducible exact absurd hp hx) | intro hx | (refine Exists.intro _ (And.intro rfl ?_)))
    all_goals try first | (with_reducible change am_tI _ _) | (change Ret _ _) | (change Ret _ _ _) | (change Exists _)
    all_goals try dsimp only at *
    all_goals try exact absurd ‹(1000 : Int64) = 0› (by decide)
    all_goals first | exact h | exact hp | (left; exact hp) | grind
  · exact h.elim
theorem wd_663 : Cond.constantLong "LearnLoans" 172 (-1000000000000000) ∈ am_ws := am_wsi (List.mem_of_getElem? (i := 663) (by decide +kernel)) (by decide +kernel)
theorem dX7_over_0 : decode cX7_over 0 = .ok (.aload_n 0, 1) := by decide +kernel
theorem dX7_over_1 : decode cX7_over 1 = .ok (.iload_n 1, 1) := by decide +kernel
theorem dX7_over_2 : decode cX7_over 2 = .ok (.invokevirtual 52, 3) := by decide +kernel
theorem dX7_over_5 : decode cX7_over 5 = .ok (.ifCond .eq 17, 3) := by decide +kernel
theorem dX7_over_8 : decode cX7_over 8 = .ok (.iload_n 2, 1) := by decide +kernel
theorem dX7_over_9 : decode cX7_over 9 = .ok (.invokestatic 34, 3) := by decide +kernel
theorem dX7_over_12 : decode cX7_over 12 = .ok (.ifCond .eq 10, 3) := by decide +kernel
theorem dX7_over_15 : decode cX7_over 15 = .ok (.iload_n 3, 1) := by decide +kernel
theorem dX7_over_16 : decode cX7_over 16 = .ok (.invokestatic 34, 3) := by decide +kernel
theorem dX7_over_19 : decode cX7_over 19 = .ok (.ifCond .ne 7, 3) := by decide +kernel
theorem dX7_over_22 : decode cX7_over 22 = .ok (.ldc2_w 172, 3) := by decide +kernel
theorem dX7_over_25 : decode cX7_over 25 = .ok (.lreturn, 1) := by decide +kernel
theorem dX7_over_26 : decode cX7_over 26 = .ok (.aload_n 0, 1) := by decide +kernel
theorem dX7_over_27 : decode cX7_over 27 = .ok (.iload_n 1, 1) := by decide +kernel
theorem dX7_over_28 : decode cX7_over 28 = .ok (.iload_n 2, 1) := by decide +kernel
theorem dX7_over_29 : decode cX7_over 29 = .ok (.iload_n 2, 1) := by decide +kernel
theorem dX7_over_30 : decode cX7_over 30 = .ok (.iconst 1, 1) := by decide +kernel
theorem dX7_over_31 : decode cX7_over 31 = .ok (.invokevirtual 162, 3) := by decide +kernel
theorem dX7_over_34 : decode cX7_over 34 = .ok (.aload_n 0, 1) := by decide +kernel
theorem dX7_over_35 : decode cX7_over 35 = .ok (.iload_n 1, 1) := by decide +kernel
theorem dX7_over_36 : decode cX7_over 36 = .ok (.iload_n 2, 1) := by decide +kernel
theorem dX7_over_37 : decode cX7_over 37 = .ok (.iload_n 3, 1) := by decide +kernel
theorem dX7_over_38 : decode cX7_over 38 = .ok (.iconst 1, 1) := by decide +kernel
theorem dX7_over_39 : decode cX7_over 39 = .ok (.invokevirtual 162, 3) := by decide +kernel
theorem dX7_over_42 : decode cX7_over 42 = .ok (.lsub, 1) := by decide +kernel
theorem dX7_over_43 : decode cX7_over 43 = .ok (.lreturn, 1) := by decide +kernel
def kX7_over (live : am_E) (Ret : am_R) : am_code := [(0, am_aload 0 1), (1, am_iload 1 2), (2, am_callV live 7 1 TX7_isPerson 5), (5, am_if1 (fun x => x = 0) 22 8), (8, am_iload 2 9), (9, am_callS live 1 TX7_isYear 12), (12, am_if1 (fun x => x = 0) 22 15), (15, am_iload 3 16), (16, am_callS live 1 TX7_isYear 19), (19, am_if1 (fun x => x = 0) 22 26), (22, am_const (.long (-1000000000000000)) 25), (25, am_retL Ret), (26, am_aload 0 27), (27, am_iload 1 28), (28, am_iload 2 29), (29, am_iload 2 30), (30, am_const (.int 1) 31), (31, am_callV live 7 4 am_TF 34), (34, am_aload 0 35), (35, am_iload 1 36), (36, am_iload 2 37), (37, am_iload 3 38), (38, am_const (.int 1) 39), (39, am_callV live 7 4 am_TF 42), (42, am_l2 (fun x y => x - y) 43), (43, am_retL Ret)]
theorem koX7_over (live : am_E) (Ret : am_R) : ∀ q ∈ kX7_over live Ret, am_ok RX7 cX7_over 4 (some .long) 1 24 live Ret q.1 q.2 :=
  am_kc (ak_aload_n dX7_over_0 rfl rfl) <|
  am_kc (ak_iload_n dX7_over_1 rfl rfl) <|
  am_kc (ak_callV (C := RX7) (F := TX7) (N := 4) metX7_isPerson rfl ⟨rfl, by decide +kernel, by decide +kernel, by decide +kernel⟩ (am_w5 wd_414 wd_416 wd_0 wd_58 wd_417) (by decide) dX7_over_2 rfl) <|
  am_kc (ak_if_eq dX7_over_5 (by decide +kernel) rfl) <|
  am_kc (ak_iload_n dX7_over_8 rfl rfl) <|
  am_kc (ak_callS metX7_isYear ⟨rfl, by decide +kernel, by decide +kernel, by decide +kernel⟩ (am_w4 wd_407 wd_408 wd_58 wd_409) (by decide) dX7_over_9 rfl) <|
  am_kc (ak_if_eq dX7_over_12 (by decide +kernel) rfl) <|
  am_kc (ak_iload_n dX7_over_15 rfl rfl) <|
  am_kc (ak_callS metX7_isYear ⟨rfl, by decide +kernel, by decide +kernel, by decide +kernel⟩ (am_w4 wd_407 wd_408 wd_58 wd_409) (by decide) dX7_over_16 rfl) <|
  am_kc (ak_if_ne dX7_over_19 (by decide +kernel) rfl) <|
  am_kc (ak_ldc2 wd_663 dX7_over_22 rfl) <|
  am_kc (ak_retL dX7_over_25) <|
  am_kc (ak_aload_n dX7_over_26 rfl rfl) <|
  am_kc (ak_iload_n dX7_over_27 rfl rfl) <|
  am_kc (ak_iload_n dX7_over_28 rfl rfl) <|
  am_kc (ak_iload_n dX7_over_29 rfl rfl) <|
  am_kc (ak_iconst dX7_over_30 (by decide +kernel) rfl) <|
  am_kc (ak_callV (C := RX7) (F := TX7) (N := 4) (am_metF _ _ _ _) rfl ⟨rfl, by decide +kernel, by decide +kernel, by decide +kernel⟩ (am_w5 wd_645 wd_647 wd_12 wd_58 wd_648) (by decide) dX7_over_31 rfl) <|
  am_kc (ak_aload_n dX7_over_34 rfl rfl) <|
  am_kc (ak_iload_n dX7_over_35 rfl rfl) <|
  am_kc (ak_iload_n dX7_over_36 rfl rfl) <|
  am_kc (ak_iload_n dX7_over_37 rfl rfl) <|
  am_kc (ak_iconst dX7_over_38 (by decide +kernel) rfl) <|
  am_kc (ak_callV (C := RX7) (F := TX7) (N := 4) (am_metF _ _ _ _) rfl ⟨rfl, by decide +kernel, by decide +kernel, by decide +kernel⟩ (am_w5 wd_645 wd_647 wd_12 wd_58 wd_648) (by decide) dX7_over_39 rfl) <|
  am_kc (ak_lsub dX7_over_42 rfl) <|
  am_kc (ak_retL dX7_over_43) <| am_kn
def TX7_over : am_T := fun live as M R => match as with
  | [.ref n, .int p, .int y, .int k] => am_mn live ∧ n = 0 ∧ am_F7 M ∧ R (some (.long (-1000000000000000))) M
  | _ => False
set_option maxRecDepth 100000 in
set_option maxHeartbeats 4000000 in
theorem metX7_over : am_Met yX7_over cX7_over 4 (some .long) (1) (24) TX7_over := by
  refine am_met (own := RX7) (by decide +kernel) rfl kX7_over koX7_over 300 (fun _ _ _ _ _ => none) (fun live as M Ret h => ?_) (fun _ _ _ _ _ _ _ _ hI => by cases hI)
  unfold TX7_over at h
  split at h
  · next n p y k =>
    refine ⟨Nat.le_of_ble_eq_true rfl, ?_⟩
    change am_wp _ _ _ _ [(0, Value.ref n), (1, Value.int p), (2, Value.int y), (3, Value.int k)] _ _
    obtain ⟨⟨i1, i2, rfl⟩, rfl, hF, h⟩ := h
    have hs : M.1 21 7 = 0 := hF.1
    have hp : (if 0 ≤ p ∧ p < M.1 21 7 then (1 : Int32) else 0) = 0 := am_b0.mpr (fun q => by
      rw [hs, i_le, i_lt, Int32.toInt_zero] at q
      omega)
    repeat' (first | apply And.intro | exact rfl | (intro hx; with_reducible exact absurd hp hx) | intro hx | (refine Exists.intro _ (And.intro rfl ?_)))
    all_goals try first | (with_reducible change am_tI _ _) | (change Ret _ _) | (change Ret _ _ _) | (change Exists _)
    all_goals try dsimp only at *
    all_goals try exact absurd ‹(1000 : Int64) = 0› (by decide)
    all_goals first | exact h | exact hp | (left; exact hp) | grind
  · exact h.elim
theorem dX7_sell_0 : decode cX7_sell 0 = .ok (.aload_n 0, 1) := by decide +kernel
theorem dX7_sell_1 : decode cX7_sell 1 = .ok (.iload_n 1, 1) := by decide +kernel
theorem dX7_sell_2 : decode cX7_sell 2 = .ok (.invokevirtual 135, 3) := by decide +kernel
theorem dX7_sell_5 : decode cX7_sell 5 = .ok (.ifCond .eq 19, 3) := by decide +kernel
theorem dX7_sell_8 : decode cX7_sell 8 = .ok (.iload_n 2, 1) := by decide +kernel
theorem dX7_sell_9 : decode cX7_sell 9 = .ok (.iconst 0, 1) := by decide +kernel
theorem dX7_sell_10 : decode cX7_sell 10 = .ok (.iconst 3, 1) := by decide +kernel
theorem dX7_sell_11 : decode cX7_sell 11 = .ok (.invokestatic 55, 3) := by decide +kernel
theorem dX7_sell_14 : decode cX7_sell 14 = .ok (.ifCond .eq 10, 3) := by decide +kernel
theorem dX7_sell_17 : decode cX7_sell 17 = .ok (.iload_n 3, 1) := by decide +kernel
theorem dX7_sell_18 : decode cX7_sell 18 = .ok (.invokestatic 34, 3) := by decide +kernel
theorem dX7_sell_21 : decode cX7_sell 21 = .ok (.ifCond .ne 6, 3) := by decide +kernel
theorem dX7_sell_24 : decode cX7_sell 24 = .ok (.bipush (-2), 2) := by decide +kernel
theorem dX7_sell_26 : decode cX7_sell 26 = .ok (.ireturn, 1) := by decide +kernel
theorem dX7_sell_27 : decode cX7_sell 27 = .ok (.aload_n 0, 1) := by decide +kernel
theorem dX7_sell_28 : decode cX7_sell 28 = .ok (.getfield 27, 3) := by decide +kernel
theorem dX7_sell_31 : decode cX7_sell 31 = .ok (.getfield 122, 3) := by decide +kernel
theorem dX7_sell_34 : decode cX7_sell 34 = .ok (.iload_n 1, 1) := by decide +kernel
theorem dX7_sell_35 : decode cX7_sell 35 = .ok (.bipush 6, 2) := by decide +kernel
theorem dX7_sell_37 : decode cX7_sell 37 = .ok (.invokevirtual 138, 3) := by decide +kernel
theorem dX7_sell_40 : decode cX7_sell 40 = .ok (.iconst (-1), 1) := by decide +kernel
theorem dX7_sell_41 : decode cX7_sell 41 = .ok (.if_icmp .eq 6, 3) := by decide +kernel
theorem dX7_sell_44 : decode cX7_sell 44 = .ok (.bipush (-3), 2) := by decide +kernel
theorem dX7_sell_46 : decode cX7_sell 46 = .ok (.ireturn, 1) := by decide +kernel
theorem dX7_sell_47 : decode cX7_sell 47 = .ok (.aload_n 0, 1) := by decide +kernel
theorem dX7_sell_48 : decode cX7_sell 48 = .ok (.getfield 27, 3) := by decide +kernel
theorem dX7_sell_51 : decode cX7_sell 51 = .ok (.getfield 122, 3) := by decide +kernel
theorem dX7_sell_54 : decode cX7_sell 54 = .ok (.iload_n 1, 1) := by decide +kernel
theorem dX7_sell_55 : decode cX7_sell 55 = .ok (.bipush 6, 2) := by decide +kernel
theorem dX7_sell_57 : decode cX7_sell 57 = .ok (.iload_n 2, 1) := by decide +kernel
theorem dX7_sell_58 : decode cX7_sell 58 = .ok (.invokevirtual 128, 3) := by decide +kernel
theorem dX7_sell_61 : decode cX7_sell 61 = .ok (.aload_n 0, 1) := by decide +kernel
theorem dX7_sell_62 : decode cX7_sell 62 = .ok (.getfield 27, 3) := by decide +kernel
theorem dX7_sell_65 : decode cX7_sell 65 = .ok (.getfield 122, 3) := by decide +kernel
theorem dX7_sell_68 : decode cX7_sell 68 = .ok (.iload_n 1, 1) := by decide +kernel
theorem dX7_sell_69 : decode cX7_sell 69 = .ok (.bipush 7, 2) := by decide +kernel
theorem dX7_sell_71 : decode cX7_sell 71 = .ok (.iload_n 3, 1) := by decide +kernel
theorem dX7_sell_72 : decode cX7_sell 72 = .ok (.invokevirtual 128, 3) := by decide +kernel
theorem dX7_sell_75 : decode cX7_sell 75 = .ok (.iconst 1, 1) := by decide +kernel
theorem dX7_sell_76 : decode cX7_sell 76 = .ok (.ireturn, 1) := by decide +kernel
def kX7_sell (live : am_E) (Ret : am_R) : am_code := [(0, am_aload 0 1), (1, am_iload 1 2), (2, am_callV live 7 1 TX7_isLoan 5), (5, am_if1 (fun x => x = 0) 24 8), (8, am_iload 2 9), (9, am_const (.int 0) 10), (10, am_const (.int 3) 11), (11, am_callS live 3 TX7_within 14), (14, am_if1 (fun x => x = 0) 24 17), (17, am_iload 3 18), (18, am_callS live 1 TX7_isYear 21), (21, am_if1 (fun x => x = 0) 24 27), (24, am_const (.int (-2)) 26), (26, am_retI Ret), (27, am_aload 0 28), (28, am_getR live 7 0 31), (31, am_getR live 0 4 34), (34, am_iload 1 35), (35, am_const (.int 6) 37), (37, am_callV live 3 2 TX3_at 40), (40, am_const (.int (-1)) 41), (41, am_if2 (fun x y => x = y) 47 44), (44, am_const (.int (-3)) 46), (46, am_retI Ret), (47, am_aload 0 48), (48, am_getR live 7 0 51), (51, am_getR live 0 4 54), (54, am_iload 1 55), (55, am_const (.int 6) 57), (57, am_iload 2 58), (58, am_callV live 3 3 TX3_put 61), (61, am_aload 0 62), (62, am_getR live 7 0 65), (65, am_getR live 0 4 68), (68, am_iload 1 69), (69, am_const (.int 7) 71), (71, am_iload 3 72), (72, am_callV live 3 3 TX3_put 75), (75, am_const (.int 1) 76), (76, am_retI Ret)]
theorem koX7_sell (live : am_E) (Ret : am_R) : ∀ q ∈ kX7_sell live Ret, am_ok RX7 cX7_sell 4 (some .int) 1 24 live Ret q.1 q.2 :=
  am_kc (ak_aload_n dX7_sell_0 rfl rfl) <|
  am_kc (ak_iload_n dX7_sell_1 rfl rfl) <|
  am_kc (ak_callV (C := RX7) (F := TX7) (N := 4) metX7_isLoan rfl ⟨rfl, by decide +kernel, by decide +kernel, by decide +kernel⟩ (am_w5 wd_520 wd_522 wd_2 wd_58 wd_523) (by decide) dX7_sell_2 rfl) <|
  am_kc (ak_if_eq dX7_sell_5 (by decide +kernel) rfl) <|
  am_kc (ak_iload_n dX7_sell_8 rfl rfl) <|
  am_kc (ak_iconst dX7_sell_9 (by decide +kernel) rfl) <|
  am_kc (ak_iconst dX7_sell_10 (by decide +kernel) rfl) <|
  am_kc (ak_callS metX7_within ⟨rfl, by decide +kernel, by decide +kernel, by decide +kernel⟩ (am_w4 wd_418 wd_419 wd_58 wd_420) (by decide) dX7_sell_11 rfl) <|
  am_kc (ak_if_eq dX7_sell_14 (by decide +kernel) rfl) <|
  am_kc (ak_iload_n dX7_sell_17 rfl rfl) <|
  am_kc (ak_callS metX7_isYear ⟨rfl, by decide +kernel, by decide +kernel, by decide +kernel⟩ (am_w4 wd_407 wd_408 wd_58 wd_409) (by decide) dX7_sell_18 rfl) <|
  am_kc (ak_if_ne dX7_sell_21 (by decide +kernel) rfl) <|
  am_kc (ak_bipush dX7_sell_24 (by decide +kernel) rfl) <|
  am_kc (ak_retI dX7_sell_26) <|
  am_kc (ak_aload_n dX7_sell_27 rfl rfl) <|
  am_kc (ak_getR (C := RX7) (T := TX7) (N := 4) rfl inX7w (by decide) rfl rfl rfl wd_390 dX7_sell_28 rfl) <|
  am_kc (ak_getR (C := RX0) (T := TX0) (N := 13) rfl inX0w (by decide) rfl rfl rfl wd_207 dX7_sell_31 rfl) <|
  am_kc (ak_iload_n dX7_sell_34 rfl rfl) <|
  am_kc (ak_bipush dX7_sell_35 (by decide +kernel) rfl) <|
  am_kc (ak_callV (C := RX3) (F := TX3) (N := 3) metX3_at rfl ⟨rfl, by decide +kernel, by decide +kernel, by decide +kernel⟩ (am_w5 wd_524 wd_503 wd_504 wd_64 wd_505) (by decide) dX7_sell_37 rfl) <|
  am_kc (ak_iconst dX7_sell_40 (by decide +kernel) rfl) <|
  am_kc (ak_icmp_eq dX7_sell_41 (by decide +kernel) rfl) <|
  am_kc (ak_bipush dX7_sell_44 (by decide +kernel) rfl) <|
  am_kc (ak_retI dX7_sell_46) <|
  am_kc (ak_aload_n dX7_sell_47 rfl rfl) <|
  am_kc (ak_getR (C := RX7) (T := TX7) (N := 4) rfl inX7w (by decide) rfl rfl rfl wd_390 dX7_sell_48 rfl) <|
  am_kc (ak_getR (C := RX0) (T := TX0) (N := 13) rfl inX0w (by decide) rfl rfl rfl wd_207 dX7_sell_51 rfl) <|
  am_kc (ak_iload_n dX7_sell_54 rfl rfl) <|
  am_kc (ak_bipush dX7_sell_55 (by decide +kernel) rfl) <|
  am_kc (ak_iload_n dX7_sell_57 rfl rfl) <|
  am_kc (ak_callV (C := RX3) (F := TX3) (N := 3) metX3_put rfl ⟨rfl, by decide +kernel, by decide +kernel, by decide +kernel⟩ (am_w5 wd_515 wd_485 wd_486 wd_64 wd_487) (by decide) dX7_sell_58 rfl) <|
  am_kc (ak_aload_n dX7_sell_61 rfl rfl) <|
  am_kc (ak_getR (C := RX7) (T := TX7) (N := 4) rfl inX7w (by decide) rfl rfl rfl wd_390 dX7_sell_62 rfl) <|
  am_kc (ak_getR (C := RX0) (T := TX0) (N := 13) rfl inX0w (by decide) rfl rfl rfl wd_207 dX7_sell_65 rfl) <|
  am_kc (ak_iload_n dX7_sell_68 rfl rfl) <|
  am_kc (ak_bipush dX7_sell_69 (by decide +kernel) rfl) <|
  am_kc (ak_iload_n dX7_sell_71 rfl rfl) <|
  am_kc (ak_callV (C := RX3) (F := TX3) (N := 3) metX3_put rfl ⟨rfl, by decide +kernel, by decide +kernel, by decide +kernel⟩ (am_w5 wd_515 wd_485 wd_486 wd_64 wd_487) (by decide) dX7_sell_72 rfl) <|
  am_kc (ak_iconst dX7_sell_75 (by decide +kernel) rfl) <|
  am_kc (ak_retI dX7_sell_76) <| am_kn
def TX7_sell : am_T := fun live as M R => match as with
  | [.ref n, .int l, .int b, .int y] => am_mn live ∧ n = 0 ∧ am_F7 M ∧ R (some (.int (-2))) M
  | _ => False
set_option maxRecDepth 100000 in
set_option maxHeartbeats 4000000 in
theorem metX7_sell : am_Met yX7_sell cX7_sell 4 (some .int) (1) (24) TX7_sell := by
  refine am_met (own := RX7) (by decide +kernel) rfl kX7_sell koX7_sell 300 (fun _ _ _ _ _ => none) (fun live as M Ret h => ?_) (fun _ _ _ _ _ _ _ _ hI => by cases hI)
  unfold TX7_sell at h
  split at h
  · next n l b y =>
    refine ⟨Nat.le_of_ble_eq_true rfl, ?_⟩
    change am_wp _ _ _ _ [(0, Value.ref n), (1, Value.int l), (2, Value.int b), (3, Value.int y)] _ _
    obtain ⟨⟨i1, i2, rfl⟩, rfl, hF, h⟩ := h
    have hs : M.1 33 2 = 0 := hF.2.1
    have hp : (if 0 ≤ l ∧ l < M.1 33 2 then (1 : Int32) else 0) = 0 := am_b0.mpr (fun q => by
      rw [hs, i_le, i_lt, Int32.toInt_zero] at q
      omega)
    repeat' (first | apply And.intro | exact rfl | (intro hx; with_reducible exact absurd hp hx) | intro hx | (refine Exists.intro _ (And.intro rfl ?_)))
    all_goals try first | (with_reducible change am_tI _ _) | (change Ret _ _) | (change Ret _ _ _) | (change Exists _)
    all_goals try dsimp only at *
    all_goals try exact absurd ‹(1000 : Int64) = 0› (by decide)
    all_goals first | exact h | exact hp | (left; exact hp) | grind
  · exact h.elim
theorem wd_738 : Cond.constant "LearnLoans" 189 1000000000 ∈ am_ws := am_wsi (List.mem_of_getElem? (i := 738) (by decide +kernel)) (by decide +kernel)
theorem wd_760 : Cond.methodLink "LearnLoans" 209 yX7_takenByLife ∈ am_ws := am_wsi (List.mem_of_getElem? (i := 760) (by decide +kernel)) (by decide +kernel)
theorem wd_762 : Cond.instanceMethod yX7_takenByLife ∈ am_ws := am_wsi (List.mem_of_getElem? (i := 762) (by decide +kernel)) (by decide +kernel)
theorem wd_24 : Cond.selects "LearnLoans" yX7_takenByLife yX7_takenByLife ∈ am_ws := am_wsi (List.mem_of_getElem? (i := 24) (by decide +kernel)) (by decide +kernel)
theorem wd_763 : Cond.code yX7_takenByLife cX7_takenByLife 9 (some .long) ∈ am_ws := am_wsi (List.mem_of_getElem? (i := 763) (by decide +kernel)) (by decide +kernel)
theorem wd_312 : Cond.fieldLink "LearnLoans" 213 "LearnLoans$Run" "paid" "J" ∈ am_ws := am_wsi (List.mem_of_getElem? (i := 312) (by decide +kernel)) (by decide +kernel)
theorem dX7_early_0 : decode cX7_early 0 = .ok (.aload_n 0, 1) := by decide +kernel
theorem dX7_early_1 : decode cX7_early 1 = .ok (.iload_n 1, 1) := by decide +kernel
theorem dX7_early_2 : decode cX7_early 2 = .ok (.invokevirtual 52, 3) := by decide +kernel
theorem dX7_early_5 : decode cX7_early 5 = .ok (.ifCond .eq 28, 3) := by decide +kernel
theorem dX7_early_8 : decode cX7_early 8 = .ok (.iload_n 2, 1) := by decide +kernel
theorem dX7_early_9 : decode cX7_early 9 = .ok (.iconst 1, 1) := by decide +kernel
theorem dX7_early_10 : decode cX7_early 10 = .ok (.ldc 189, 2) := by decide +kernel
theorem dX7_early_12 : decode cX7_early 12 = .ok (.invokestatic 55, 3) := by decide +kernel
theorem dX7_early_15 : decode cX7_early 15 = .ok (.ifCond .eq 18, 3) := by decide +kernel
theorem dX7_early_18 : decode cX7_early 18 = .ok (.iload_n 3, 1) := by decide +kernel
theorem dX7_early_19 : decode cX7_early 19 = .ok (.invokestatic 34, 3) := by decide +kernel
theorem dX7_early_22 : decode cX7_early 22 = .ok (.ifCond .eq 11, 3) := by decide +kernel
theorem dX7_early_25 : decode cX7_early 25 = .ok (.iload 4, 2) := by decide +kernel
theorem dX7_early_27 : decode cX7_early 27 = .ok (.invokestatic 34, 3) := by decide +kernel
theorem dX7_early_30 : decode cX7_early 30 = .ok (.ifCond .ne 6, 3) := by decide +kernel
theorem dX7_early_33 : decode cX7_early 33 = .ok (.bipush (-2), 2) := by decide +kernel
theorem dX7_early_35 : decode cX7_early 35 = .ok (.ireturn, 1) := by decide +kernel
theorem dX7_early_36 : decode cX7_early 36 = .ok (.iconst 0, 1) := by decide +kernel
theorem dX7_early_37 : decode cX7_early 37 = .ok (.istore 5, 2) := by decide +kernel
theorem dX7_early_39 : decode cX7_early 39 = .ok (.iconst 0, 1) := by decide +kernel
theorem dX7_early_40 : decode cX7_early 40 = .ok (.istore 6, 2) := by decide +kernel
theorem dX7_early_42 : decode cX7_early 42 = .ok (.iload 6, 2) := by decide +kernel
theorem dX7_early_44 : decode cX7_early 44 = .ok (.iconst 4, 1) := by decide +kernel
theorem dX7_early_45 : decode cX7_early 45 = .ok (.if_icmp .ge 62, 3) := by decide +kernel
theorem dX7_early_48 : decode cX7_early 48 = .ok (.aload_n 0, 1) := by decide +kernel
theorem dX7_early_49 : decode cX7_early 49 = .ok (.iload_n 1, 1) := by decide +kernel
theorem dX7_early_50 : decode cX7_early 50 = .ok (.iconst (-1), 1) := by decide +kernel
theorem dX7_early_51 : decode cX7_early 51 = .ok (.iload 6, 2) := by decide +kernel
theorem dX7_early_53 : decode cX7_early 53 = .ok (.iload_n 3, 1) := by decide +kernel
theorem dX7_early_54 : decode cX7_early 54 = .ok (.iload 4, 2) := by decide +kernel
theorem dX7_early_56 : decode cX7_early 56 = .ok (.iconst 0, 1) := by decide +kernel
theorem dX7_early_57 : decode cX7_early 57 = .ok (.invokevirtual 209, 3) := by decide +kernel
theorem dX7_early_60 : decode cX7_early 60 = .ok (.lstore 7, 2) := by decide +kernel
theorem dX7_early_62 : decode cX7_early 62 = .ok (.aload_n 0, 1) := by decide +kernel
theorem dX7_early_63 : decode cX7_early 63 = .ok (.iload_n 1, 1) := by decide +kernel
theorem dX7_early_64 : decode cX7_early 64 = .ok (.iconst (-1), 1) := by decide +kernel
theorem dX7_early_65 : decode cX7_early 65 = .ok (.iload 6, 2) := by decide +kernel
theorem dX7_early_67 : decode cX7_early 67 = .ok (.iload_n 3, 1) := by decide +kernel
theorem dX7_early_68 : decode cX7_early 68 = .ok (.iload 4, 2) := by decide +kernel
theorem dX7_early_70 : decode cX7_early 70 = .ok (.iload_n 2, 1) := by decide +kernel
theorem dX7_early_71 : decode cX7_early 71 = .ok (.invokevirtual 209, 3) := by decide +kernel
theorem dX7_early_74 : decode cX7_early 74 = .ok (.aload_n 0, 1) := by decide +kernel
theorem dX7_early_75 : decode cX7_early 75 = .ok (.getfield 20, 3) := by decide +kernel
theorem dX7_early_78 : decode cX7_early 78 = .ok (.getfield 213, 3) := by decide +kernel
theorem dX7_early_81 : decode cX7_early 81 = .ok (.ladd, 1) := by decide +kernel
theorem dX7_early_82 : decode cX7_early 82 = .ok (.lstore 9, 2) := by decide +kernel
theorem dX7_early_84 : decode cX7_early 84 = .ok (.lload 9, 2) := by decide +kernel
theorem dX7_early_86 : decode cX7_early 86 = .ok (.lload 7, 2) := by decide +kernel
theorem dX7_early_88 : decode cX7_early 88 = .ok (.lcmp, 1) := by decide +kernel
theorem dX7_early_89 : decode cX7_early 89 = .ok (.ifCond .ge 12, 3) := by decide +kernel
theorem dX7_early_92 : decode cX7_early 92 = .ok (.iload 5, 2) := by decide +kernel
theorem dX7_early_94 : decode cX7_early 94 = .ok (.iconst 1, 1) := by decide +kernel
theorem dX7_early_95 : decode cX7_early 95 = .ok (.iload 6, 2) := by decide +kernel
theorem dX7_early_97 : decode cX7_early 97 = .ok (.ishl, 1) := by decide +kernel
theorem dX7_early_98 : decode cX7_early 98 = .ok (.ior, 1) := by decide +kernel
theorem dX7_early_99 : decode cX7_early 99 = .ok (.istore 5, 2) := by decide +kernel
theorem dX7_early_101 : decode cX7_early 101 = .ok (.iinc 6 1, 3) := by decide +kernel
theorem dX7_early_104 : decode cX7_early 104 = .ok (.goto (-62), 3) := by decide +kernel
theorem dX7_early_107 : decode cX7_early 107 = .ok (.iload 5, 2) := by decide +kernel
theorem dX7_early_109 : decode cX7_early 109 = .ok (.ireturn, 1) := by decide +kernel
def kX7_early (live : am_E) (Ret : am_R) : am_code := [(0, am_aload 0 1), (1, am_iload 1 2), (2, am_callV live 7 1 TX7_isPerson 5), (5, am_if1 (fun x => x = 0) 33 8), (8, am_iload 2 9), (9, am_const (.int 1) 10), (10, am_const (.int 1000000000) 12), (12, am_callS live 3 TX7_within 15), (15, am_if1 (fun x => x = 0) 33 18), (18, am_iload 3 19), (19, am_callS live 1 TX7_isYear 22), (22, am_if1 (fun x => x = 0) 33 25), (25, am_iload 4 27), (27, am_callS live 1 TX7_isYear 30), (30, am_if1 (fun x => x = 0) 33 36), (33, am_const (.int (-2)) 35), (35, am_retI Ret), (36, am_const (.int 0) 37), (37, am_istore 5 11 39), (39, am_const (.int 0) 40), (40, am_istore 6 11 42), (42, am_iload 6 44), (44, am_const (.int 4) 45), (45, am_if2 (fun x y => y ≤ x) 107 48), (48, am_aload 0 49), (49, am_iload 1 50), (50, am_const (.int (-1)) 51), (51, am_iload 6 53), (53, am_iload 3 54), (54, am_iload 4 56), (56, am_const (.int 0) 57), (57, am_callV live 7 6 am_TF 60), (60, am_lstore 7 11 62), (62, am_aload 0 63), (63, am_iload 1 64), (64, am_const (.int (-1)) 65), (65, am_iload 6 67), (67, am_iload 3 68), (68, am_iload 4 70), (70, am_iload 2 71), (71, am_callV live 7 6 am_TF 74), (74, am_aload 0 75), (75, am_getR live 7 2 78), (78, am_getJ live 4 15 81), (81, am_l2 (fun x y => x + y) 82), (82, am_lstore 9 11 84), (84, am_lload 9 86), (86, am_lload 7 88), (88, am_lcmp 89), (89, am_if1 (fun x => 0 ≤ x) 101 92), (92, am_iload 5 94), (94, am_const (.int 1) 95), (95, am_iload 6 97), (97, am_i2 (fun x y => x <<< (y &&& 31)) 98), (98, am_i2 (fun x y => x ||| y) 99), (99, am_istore 5 11 101), (101, am_iinc 6 11 1 104), (104, am_goto 42), (107, am_iload 5 109), (109, am_retI Ret)]
theorem koX7_early (live : am_E) (Ret : am_R) : ∀ q ∈ kX7_early live Ret, am_ok RX7 cX7_early 11 (some .int) 1 28 live Ret q.1 q.2 :=
  am_kc (ak_aload_n dX7_early_0 rfl rfl) <|
  am_kc (ak_iload_n dX7_early_1 rfl rfl) <|
  am_kc (ak_callV (C := RX7) (F := TX7) (N := 4) metX7_isPerson rfl ⟨rfl, by decide +kernel, by decide +kernel, by decide +kernel⟩ (am_w5 wd_414 wd_416 wd_0 wd_58 wd_417) (by decide) dX7_early_2 rfl) <|
  am_kc (ak_if_eq dX7_early_5 (by decide +kernel) rfl) <|
  am_kc (ak_iload_n dX7_early_8 rfl rfl) <|
  am_kc (ak_iconst dX7_early_9 (by decide +kernel) rfl) <|
  am_kc (ak_ldc wd_738 dX7_early_10 rfl) <|
  am_kc (ak_callS metX7_within ⟨rfl, by decide +kernel, by decide +kernel, by decide +kernel⟩ (am_w4 wd_418 wd_419 wd_58 wd_420) (by decide) dX7_early_12 rfl) <|
  am_kc (ak_if_eq dX7_early_15 (by decide +kernel) rfl) <|
  am_kc (ak_iload_n dX7_early_18 rfl rfl) <|
  am_kc (ak_callS metX7_isYear ⟨rfl, by decide +kernel, by decide +kernel, by decide +kernel⟩ (am_w4 wd_407 wd_408 wd_58 wd_409) (by decide) dX7_early_19 rfl) <|
  am_kc (ak_if_eq dX7_early_22 (by decide +kernel) rfl) <|
  am_kc (ak_iload dX7_early_25 rfl) <|
  am_kc (ak_callS metX7_isYear ⟨rfl, by decide +kernel, by decide +kernel, by decide +kernel⟩ (am_w4 wd_407 wd_408 wd_58 wd_409) (by decide) dX7_early_27 rfl) <|
  am_kc (ak_if_ne dX7_early_30 (by decide +kernel) rfl) <|
  am_kc (ak_bipush dX7_early_33 (by decide +kernel) rfl) <|
  am_kc (ak_retI dX7_early_35) <|
  am_kc (ak_iconst dX7_early_36 (by decide +kernel) rfl) <|
  am_kc (ak_istore dX7_early_37 rfl) <|
  am_kc (ak_iconst dX7_early_39 (by decide +kernel) rfl) <|
  am_kc (ak_istore dX7_early_40 rfl) <|
  am_kc (ak_iload dX7_early_42 rfl) <|
  am_kc (ak_iconst dX7_early_44 (by decide +kernel) rfl) <|
  am_kc (ak_icmp_ge dX7_early_45 (by decide +kernel) rfl) <|
  am_kc (ak_aload_n dX7_early_48 rfl rfl) <|
  am_kc (ak_iload_n dX7_early_49 rfl rfl) <|
  am_kc (ak_iconst dX7_early_50 (by decide +kernel) rfl) <|
  am_kc (ak_iload dX7_early_51 rfl) <|
  am_kc (ak_iload_n dX7_early_53 rfl rfl) <|
  am_kc (ak_iload dX7_early_54 rfl) <|
  am_kc (ak_iconst dX7_early_56 (by decide +kernel) rfl) <|
  am_kc (ak_callV (C := RX7) (F := TX7) (N := 4) (am_metF _ _ _ _) rfl ⟨rfl, by decide +kernel, by decide +kernel, by decide +kernel⟩ (am_w5 wd_760 wd_762 wd_24 wd_58 wd_763) (by decide) dX7_early_57 rfl) <|
  am_kc (ak_lstore dX7_early_60 rfl) <|
  am_kc (ak_aload_n dX7_early_62 rfl rfl) <|
  am_kc (ak_iload_n dX7_early_63 rfl rfl) <|
  am_kc (ak_iconst dX7_early_64 (by decide +kernel) rfl) <|
  am_kc (ak_iload dX7_early_65 rfl) <|
  am_kc (ak_iload_n dX7_early_67 rfl rfl) <|
  am_kc (ak_iload dX7_early_68 rfl) <|
  am_kc (ak_iload_n dX7_early_70 rfl rfl) <|
  am_kc (ak_callV (C := RX7) (F := TX7) (N := 4) (am_metF _ _ _ _) rfl ⟨rfl, by decide +kernel, by decide +kernel, by decide +kernel⟩ (am_w5 wd_760 wd_762 wd_24 wd_58 wd_763) (by decide) dX7_early_71 rfl) <|
  am_kc (ak_aload_n dX7_early_74 rfl rfl) <|
  am_kc (ak_getR (C := RX7) (T := TX7) (N := 4) rfl inX7w (by decide) rfl rfl rfl wd_392 dX7_early_75 rfl) <|
  am_kc (ak_getJ (C := RX4) (T := TX4) (N := 19) rfl inX4w (by decide) rfl rfl rfl wd_312 dX7_early_78 rfl) <|
  am_kc (ak_ladd dX7_early_81 rfl) <|
  am_kc (ak_lstore dX7_early_82 rfl) <|
  am_kc (ak_lload dX7_early_84 rfl) <|
  am_kc (ak_lload dX7_early_86 rfl) <|
  am_kc (ak_lcmp dX7_early_88 rfl) <|
  am_kc (ak_if_ge dX7_early_89 (by decide +kernel) rfl) <|
  am_kc (ak_iload dX7_early_92 rfl) <|
  am_kc (ak_iconst dX7_early_94 (by decide +kernel) rfl) <|
  am_kc (ak_iload dX7_early_95 rfl) <|
  am_kc (ak_ishl dX7_early_97 rfl) <|
  am_kc (ak_ior dX7_early_98 rfl) <|
  am_kc (ak_istore dX7_early_99 rfl) <|
  am_kc (ak_iinc dX7_early_101 (by decide +kernel) rfl) <|
  am_kc (ak_goto dX7_early_104 (by decide +kernel)) <|
  am_kc (ak_iload dX7_early_107 rfl) <|
  am_kc (ak_retI dX7_early_109) <| am_kn
def TX7_early : am_T := fun live as M R => match as with
  | [.ref n, .int p, .int s, .int y, .int k] => am_mn live ∧ n = 0 ∧ am_F7 M ∧ R (some (.int (-2))) M
  | _ => False
set_option maxRecDepth 100000 in
set_option maxHeartbeats 4000000 in
theorem metX7_early : am_Met yX7_early cX7_early 11 (some .int) (1) (28) TX7_early := by
  refine am_met (own := RX7) (by decide +kernel) rfl kX7_early koX7_early 300 (fun _ _ _ _ _ => none) (fun live as M Ret h => ?_) (fun _ _ _ _ _ _ _ _ hI => by cases hI)
  unfold TX7_early at h
  split at h
  · next n p s y k =>
    refine ⟨Nat.le_of_ble_eq_true rfl, ?_⟩
    change am_wp _ _ _ _ [(0, Value.ref n), (1, Value.int p), (2, Value.int s), (3, Value.int y), (4, Value.int k)] _ _
    obtain ⟨⟨i1, i2, rfl⟩, rfl, hF, h⟩ := h
    have hs : M.1 21 7 = 0 := hF.1
    have hp : (if 0 ≤ p ∧ p < M.1 21 7 then (1 : Int32) else 0) = 0 := am_b0.mpr (fun q => by
      rw [hs, i_le, i_lt, Int32.toInt_zero] at q
      omega)
    repeat' (first | apply And.intro | exact rfl | (intro hx; with_reducible exact absurd hp hx) | intro hx | (refine Exists.intro _ (And.intro rfl ?_)))
    all_goals try first | (with_reducible change am_tI _ _) | (change Ret _ _) | (change Ret _ _ _) | (change Exists _)
    all_goals try dsimp only at *
    all_goals try exact absurd ‹(1000 : Int64) = 0› (by decide)
    all_goals first | exact h | exact hp | (left; exact hp) | grind
  · exact h.elim
theorem dX7_choice_0 : decode cX7_choice 0 = .ok (.aload_n 0, 1) := by decide +kernel
theorem dX7_choice_1 : decode cX7_choice 1 = .ok (.iload_n 1, 1) := by decide +kernel
theorem dX7_choice_2 : decode cX7_choice 2 = .ok (.invokevirtual 52, 3) := by decide +kernel
theorem dX7_choice_5 : decode cX7_choice 5 = .ok (.ifCond .eq 24, 3) := by decide +kernel
theorem dX7_choice_8 : decode cX7_choice 8 = .ok (.iload_n 2, 1) := by decide +kernel
theorem dX7_choice_9 : decode cX7_choice 9 = .ok (.invokestatic 98, 3) := by decide +kernel
theorem dX7_choice_12 : decode cX7_choice 12 = .ok (.ifCond .ne 8, 3) := by decide +kernel
theorem dX7_choice_15 : decode cX7_choice 15 = .ok (.iload_n 2, 1) := by decide +kernel
theorem dX7_choice_16 : decode cX7_choice 16 = .ok (.iconst (-1), 1) := by decide +kernel
theorem dX7_choice_17 : decode cX7_choice 17 = .ok (.if_icmp .ne 12, 3) := by decide +kernel
theorem dX7_choice_20 : decode cX7_choice 20 = .ok (.iload_n 3, 1) := by decide +kernel
theorem dX7_choice_21 : decode cX7_choice 21 = .ok (.iconst 0, 1) := by decide +kernel
theorem dX7_choice_22 : decode cX7_choice 22 = .ok (.iconst 3, 1) := by decide +kernel
theorem dX7_choice_23 : decode cX7_choice 23 = .ok (.invokestatic 55, 3) := by decide +kernel
theorem dX7_choice_26 : decode cX7_choice 26 = .ok (.ifCond .ne 7, 3) := by decide +kernel
theorem dX7_choice_29 : decode cX7_choice 29 = .ok (.ldc2_w 149, 3) := by decide +kernel
theorem dX7_choice_32 : decode cX7_choice 32 = .ok (.lreturn, 1) := by decide +kernel
theorem dX7_choice_33 : decode cX7_choice 33 = .ok (.iload 4, 2) := by decide +kernel
theorem dX7_choice_35 : decode cX7_choice 35 = .ok (.invokestatic 34, 3) := by decide +kernel
theorem dX7_choice_38 : decode cX7_choice 38 = .ok (.ifCond .eq 11, 3) := by decide +kernel
theorem dX7_choice_41 : decode cX7_choice 41 = .ok (.iload 5, 2) := by decide +kernel
theorem dX7_choice_43 : decode cX7_choice 43 = .ok (.invokestatic 34, 3) := by decide +kernel
theorem dX7_choice_46 : decode cX7_choice 46 = .ok (.ifCond .ne 7, 3) := by decide +kernel
theorem dX7_choice_49 : decode cX7_choice 49 = .ok (.ldc2_w 149, 3) := by decide +kernel
theorem dX7_choice_52 : decode cX7_choice 52 = .ok (.lreturn, 1) := by decide +kernel
theorem dX7_choice_53 : decode cX7_choice 53 = .ok (.aload_n 0, 1) := by decide +kernel
theorem dX7_choice_54 : decode cX7_choice 54 = .ok (.iload_n 1, 1) := by decide +kernel
theorem dX7_choice_55 : decode cX7_choice 55 = .ok (.iload_n 2, 1) := by decide +kernel
theorem dX7_choice_56 : decode cX7_choice 56 = .ok (.iload_n 3, 1) := by decide +kernel
theorem dX7_choice_57 : decode cX7_choice 57 = .ok (.iload 4, 2) := by decide +kernel
theorem dX7_choice_59 : decode cX7_choice 59 = .ok (.iload 5, 2) := by decide +kernel
theorem dX7_choice_61 : decode cX7_choice 61 = .ok (.iconst 0, 1) := by decide +kernel
theorem dX7_choice_62 : decode cX7_choice 62 = .ok (.invokevirtual 209, 3) := by decide +kernel
theorem dX7_choice_65 : decode cX7_choice 65 = .ok (.lreturn, 1) := by decide +kernel
def kX7_choice (live : am_E) (Ret : am_R) : am_code := [(0, am_aload 0 1), (1, am_iload 1 2), (2, am_callV live 7 1 TX7_isPerson 5), (5, am_if1 (fun x => x = 0) 29 8), (8, am_iload 2 9), (9, am_callS live 1 TX7_isPlan 12), (12, am_if1 (fun x => x = 0) 15 20), (15, am_iload 2 16), (16, am_const (.int (-1)) 17), (17, am_if2 (fun x y => x = y) 20 29), (20, am_iload 3 21), (21, am_const (.int 0) 22), (22, am_const (.int 3) 23), (23, am_callS live 3 TX7_within 26), (26, am_if1 (fun x => x = 0) 29 33), (29, am_const (.long (-2)) 32), (32, am_retL Ret), (33, am_iload 4 35), (35, am_callS live 1 TX7_isYear 38), (38, am_if1 (fun x => x = 0) 49 41), (41, am_iload 5 43), (43, am_callS live 1 TX7_isYear 46), (46, am_if1 (fun x => x = 0) 49 53), (49, am_const (.long (-2)) 52), (52, am_retL Ret), (53, am_aload 0 54), (54, am_iload 1 55), (55, am_iload 2 56), (56, am_iload 3 57), (57, am_iload 4 59), (59, am_iload 5 61), (61, am_const (.int 0) 62), (62, am_callV live 7 6 am_TF 65), (65, am_retL Ret)]
theorem koX7_choice (live : am_E) (Ret : am_R) : ∀ q ∈ kX7_choice live Ret, am_ok RX7 cX7_choice 6 (some .long) 1 28 live Ret q.1 q.2 :=
  am_kc (ak_aload_n dX7_choice_0 rfl rfl) <|
  am_kc (ak_iload_n dX7_choice_1 rfl rfl) <|
  am_kc (ak_callV (C := RX7) (F := TX7) (N := 4) metX7_isPerson rfl ⟨rfl, by decide +kernel, by decide +kernel, by decide +kernel⟩ (am_w5 wd_414 wd_416 wd_0 wd_58 wd_417) (by decide) dX7_choice_2 rfl) <|
  am_kc (ak_if_eq dX7_choice_5 (by decide +kernel) rfl) <|
  am_kc (ak_iload_n dX7_choice_8 rfl rfl) <|
  am_kc (ak_callS metX7_isPlan ⟨rfl, by decide +kernel, by decide +kernel, by decide +kernel⟩ (am_w4 wd_466 wd_467 wd_58 wd_468) (by decide) dX7_choice_9 rfl) <|
  am_kc (ak_if_ne dX7_choice_12 (by decide +kernel) rfl) <|
  am_kc (ak_iload_n dX7_choice_15 rfl rfl) <|
  am_kc (ak_iconst dX7_choice_16 (by decide +kernel) rfl) <|
  am_kc (ak_icmp_ne dX7_choice_17 (by decide +kernel) rfl) <|
  am_kc (ak_iload_n dX7_choice_20 rfl rfl) <|
  am_kc (ak_iconst dX7_choice_21 (by decide +kernel) rfl) <|
  am_kc (ak_iconst dX7_choice_22 (by decide +kernel) rfl) <|
  am_kc (ak_callS metX7_within ⟨rfl, by decide +kernel, by decide +kernel, by decide +kernel⟩ (am_w4 wd_418 wd_419 wd_58 wd_420) (by decide) dX7_choice_23 rfl) <|
  am_kc (ak_if_ne dX7_choice_26 (by decide +kernel) rfl) <|
  am_kc (ak_ldc2 wd_545 dX7_choice_29 rfl) <|
  am_kc (ak_retL dX7_choice_32) <|
  am_kc (ak_iload dX7_choice_33 rfl) <|
  am_kc (ak_callS metX7_isYear ⟨rfl, by decide +kernel, by decide +kernel, by decide +kernel⟩ (am_w4 wd_407 wd_408 wd_58 wd_409) (by decide) dX7_choice_35 rfl) <|
  am_kc (ak_if_eq dX7_choice_38 (by decide +kernel) rfl) <|
  am_kc (ak_iload dX7_choice_41 rfl) <|
  am_kc (ak_callS metX7_isYear ⟨rfl, by decide +kernel, by decide +kernel, by decide +kernel⟩ (am_w4 wd_407 wd_408 wd_58 wd_409) (by decide) dX7_choice_43 rfl) <|
  am_kc (ak_if_ne dX7_choice_46 (by decide +kernel) rfl) <|
  am_kc (ak_ldc2 wd_545 dX7_choice_49 rfl) <|
  am_kc (ak_retL dX7_choice_52) <|
  am_kc (ak_aload_n dX7_choice_53 rfl rfl) <|
  am_kc (ak_iload_n dX7_choice_54 rfl rfl) <|
  am_kc (ak_iload_n dX7_choice_55 rfl rfl) <|
  am_kc (ak_iload_n dX7_choice_56 rfl rfl) <|
  am_kc (ak_iload dX7_choice_57 rfl) <|
  am_kc (ak_iload dX7_choice_59 rfl) <|
  am_kc (ak_iconst dX7_choice_61 (by decide +kernel) rfl) <|
  am_kc (ak_callV (C := RX7) (F := TX7) (N := 4) (am_metF _ _ _ _) rfl ⟨rfl, by decide +kernel, by decide +kernel, by decide +kernel⟩ (am_w5 wd_760 wd_762 wd_24 wd_58 wd_763) (by decide) dX7_choice_62 rfl) <|
  am_kc (ak_retL dX7_choice_65) <| am_kn
def TX7_choice : am_T := fun live as M R => match as with
  | [.ref n, .int p, .int l, .int f, .int y, .int k] => am_mn live ∧ n = 0 ∧ am_F7 M ∧ R (some (.long (-2))) M
  | _ => False
set_option maxRecDepth 100000 in
set_option maxHeartbeats 4000000 in
theorem metX7_choice : am_Met yX7_choice cX7_choice 6 (some .long) (1) (28) TX7_choice := by
  refine am_met (own := RX7) (by decide +kernel) rfl kX7_choice koX7_choice 300 (fun _ _ _ _ _ => none) (fun live as M Ret h => ?_) (fun _ _ _ _ _ _ _ _ hI => by cases hI)
  unfold TX7_choice at h
  split at h
  · next n p l f y k =>
    refine ⟨Nat.le_of_ble_eq_true rfl, ?_⟩
    change am_wp _ _ _ _ [(0, Value.ref n), (1, Value.int p), (2, Value.int l), (3, Value.int f), (4, Value.int y), (5, Value.int k)] _ _
    obtain ⟨⟨i1, i2, rfl⟩, rfl, hF, h⟩ := h
    have hs : M.1 21 7 = 0 := hF.1
    have hp : (if 0 ≤ p ∧ p < M.1 21 7 then (1 : Int32) else 0) = 0 := am_b0.mpr (fun q => by
      rw [hs, i_le, i_lt, Int32.toInt_zero] at q
      omega)
    repeat' (first | apply And.intro | exact rfl | (intro hx; with_reducible exact absurd hp hx) | intro hx | (refine Exists.intro _ (And.intro rfl ?_)))
    all_goals try first | (with_reducible change am_tI _ _) | (change Ret _ _) | (change Ret _ _ _) | (change Exists _)
    all_goals try dsimp only at *
    all_goals try exact absurd ‹(1000 : Int64) = 0› (by decide)
    all_goals first | exact h | exact hp | (left; exact hp) | grind
  · exact h.elim
theorem wd_780 : Cond.methodLink "LearnLoans" 223 yX6_follow ∈ am_ws := am_wsi (List.mem_of_getElem? (i := 780) (by decide +kernel)) (by decide +kernel)
theorem wd_781 : Cond.instanceMethod yX6_follow ∈ am_ws := am_wsi (List.mem_of_getElem? (i := 781) (by decide +kernel)) (by decide +kernel)
theorem wd_782 : Cond.selects "LearnLoans$Ways" yX6_follow yX6_follow ∈ am_ws := am_wsi (List.mem_of_getElem? (i := 782) (by decide +kernel)) (by decide +kernel)
theorem wd_783 : Cond.code yX6_follow cX6_follow 6 none ∈ am_ws := am_wsi (List.mem_of_getElem? (i := 783) (by decide +kernel)) (by decide +kernel)
theorem wd_362 : Cond.fieldLink "LearnLoans" 227 "LearnLoans$Ways" "mean" "J" ∈ am_ws := am_wsi (List.mem_of_getElem? (i := 362) (by decide +kernel)) (by decide +kernel)
theorem wd_364 : Cond.fieldLink "LearnLoans" 230 "LearnLoans$Ways" "least" "J" ∈ am_ws := am_wsi (List.mem_of_getElem? (i := 364) (by decide +kernel)) (by decide +kernel)
theorem wd_366 : Cond.fieldLink "LearnLoans" 233 "LearnLoans$Ways" "greatest" "J" ∈ am_ws := am_wsi (List.mem_of_getElem? (i := 366) (by decide +kernel)) (by decide +kernel)
theorem wd_368 : Cond.fieldLink "LearnLoans" 236 "LearnLoans$Ways" "neve\x72" "J" ∈ am_ws := am_wsi (List.mem_of_getElem? (i := 368) (by decide +kernel)) (by decide +kernel)
theorem dX7_foretold_0 : decode cX7_foretold 0 = .ok (.aload_n 0, 1) := by decide +kernel
theorem dX7_foretold_1 : decode cX7_foretold 1 = .ok (.iload_n 1, 1) := by decide +kernel
theorem dX7_foretold_2 : decode cX7_foretold 2 = .ok (.invokevirtual 52, 3) := by decide +kernel
theorem dX7_foretold_5 : decode cX7_foretold 5 = .ok (.ifCond .eq 19, 3) := by decide +kernel
theorem dX7_foretold_8 : decode cX7_foretold 8 = .ok (.iload_n 2, 1) := by decide +kernel
theorem dX7_foretold_9 : decode cX7_foretold 9 = .ok (.iconst 0, 1) := by decide +kernel
theorem dX7_foretold_10 : decode cX7_foretold 10 = .ok (.iconst 3, 1) := by decide +kernel
theorem dX7_foretold_11 : decode cX7_foretold 11 = .ok (.invokestatic 55, 3) := by decide +kernel
theorem dX7_foretold_14 : decode cX7_foretold 14 = .ok (.ifCond .eq 10, 3) := by decide +kernel
theorem dX7_foretold_17 : decode cX7_foretold 17 = .ok (.iload_n 3, 1) := by decide +kernel
theorem dX7_foretold_18 : decode cX7_foretold 18 = .ok (.invokestatic 79, 3) := by decide +kernel
theorem dX7_foretold_21 : decode cX7_foretold 21 = .ok (.ifCond .ne 7, 3) := by decide +kernel
theorem dX7_foretold_24 : decode cX7_foretold 24 = .ok (.ldc2_w 149, 3) := by decide +kernel
theorem dX7_foretold_27 : decode cX7_foretold 27 = .ok (.lreturn, 1) := by decide +kernel
theorem dX7_foretold_28 : decode cX7_foretold 28 = .ok (.iload 4, 2) := by decide +kernel
theorem dX7_foretold_30 : decode cX7_foretold 30 = .ok (.invokestatic 34, 3) := by decide +kernel
theorem dX7_foretold_33 : decode cX7_foretold 33 = .ok (.ifCond .eq 33, 3) := by decide +kernel
theorem dX7_foretold_36 : decode cX7_foretold 36 = .ok (.iload 5, 2) := by decide +kernel
theorem dX7_foretold_38 : decode cX7_foretold 38 = .ok (.iconst 1, 1) := by decide +kernel
theorem dX7_foretold_39 : decode cX7_foretold 39 = .ok (.iconst 5, 1) := by decide +kernel
theorem dX7_foretold_40 : decode cX7_foretold 40 = .ok (.invokestatic 55, 3) := by decide +kernel
theorem dX7_foretold_43 : decode cX7_foretold 43 = .ok (.ifCond .eq 23, 3) := by decide +kernel
theorem dX7_foretold_46 : decode cX7_foretold 46 = .ok (.iload 4, 2) := by decide +kernel
theorem dX7_foretold_48 : decode cX7_foretold 48 = .ok (.iload 5, 2) := by decide +kernel
theorem dX7_foretold_50 : decode cX7_foretold 50 = .ok (.iadd, 1) := by decide +kernel
theorem dX7_foretold_51 : decode cX7_foretold 51 = .ok (.bipush 40, 2) := by decide +kernel
theorem dX7_foretold_53 : decode cX7_foretold 53 = .ok (.if_icmp .gt 13, 3) := by decide +kernel
theorem dX7_foretold_56 : decode cX7_foretold 56 = .ok (.iload 6, 2) := by decide +kernel
theorem dX7_foretold_58 : decode cX7_foretold 58 = .ok (.iconst 0, 1) := by decide +kernel
theorem dX7_foretold_59 : decode cX7_foretold 59 = .ok (.iconst 3, 1) := by decide +kernel
theorem dX7_foretold_60 : decode cX7_foretold 60 = .ok (.invokestatic 55, 3) := by decide +kernel
theorem dX7_foretold_63 : decode cX7_foretold 63 = .ok (.ifCond .ne 7, 3) := by decide +kernel
theorem dX7_foretold_66 : decode cX7_foretold 66 = .ok (.ldc2_w 149, 3) := by decide +kernel
theorem dX7_foretold_69 : decode cX7_foretold 69 = .ok (.lreturn, 1) := by decide +kernel
theorem dX7_foretold_70 : decode cX7_foretold 70 = .ok (.aload_n 0, 1) := by decide +kernel
theorem dX7_foretold_71 : decode cX7_foretold 71 = .ok (.getfield 12, 3) := by decide +kernel
theorem dX7_foretold_74 : decode cX7_foretold 74 = .ok (.iload_n 1, 1) := by decide +kernel
theorem dX7_foretold_75 : decode cX7_foretold 75 = .ok (.iload_n 2, 1) := by decide +kernel
theorem dX7_foretold_76 : decode cX7_foretold 76 = .ok (.iload_n 3, 1) := by decide +kernel
theorem dX7_foretold_77 : decode cX7_foretold 77 = .ok (.iload 4, 2) := by decide +kernel
theorem dX7_foretold_79 : decode cX7_foretold 79 = .ok (.iload 5, 2) := by decide +kernel
theorem dX7_foretold_81 : decode cX7_foretold 81 = .ok (.invokevirtual 223, 3) := by decide +kernel
theorem dX7_foretold_84 : decode cX7_foretold 84 = .ok (.iload 6, 2) := by decide +kernel
theorem dX7_foretold_86 : decode cX7_foretold 86 = .ok (.tableswitch 50 0 2 #[26, 34, 42], 26) := by decide +kernel
theorem dX7_foretold_112 : decode cX7_foretold 112 = .ok (.aload_n 0, 1) := by decide +kernel
theorem dX7_foretold_113 : decode cX7_foretold 113 = .ok (.getfield 12, 3) := by decide +kernel
theorem dX7_foretold_116 : decode cX7_foretold 116 = .ok (.getfield 227, 3) := by decide +kernel
theorem dX7_foretold_119 : decode cX7_foretold 119 = .ok (.lreturn, 1) := by decide +kernel
theorem dX7_foretold_120 : decode cX7_foretold 120 = .ok (.aload_n 0, 1) := by decide +kernel
theorem dX7_foretold_121 : decode cX7_foretold 121 = .ok (.getfield 12, 3) := by decide +kernel
theorem dX7_foretold_124 : decode cX7_foretold 124 = .ok (.getfield 230, 3) := by decide +kernel
theorem dX7_foretold_127 : decode cX7_foretold 127 = .ok (.lreturn, 1) := by decide +kernel
theorem dX7_foretold_128 : decode cX7_foretold 128 = .ok (.aload_n 0, 1) := by decide +kernel
theorem dX7_foretold_129 : decode cX7_foretold 129 = .ok (.getfield 12, 3) := by decide +kernel
theorem dX7_foretold_132 : decode cX7_foretold 132 = .ok (.getfield 233, 3) := by decide +kernel
theorem dX7_foretold_135 : decode cX7_foretold 135 = .ok (.lreturn, 1) := by decide +kernel
theorem dX7_foretold_136 : decode cX7_foretold 136 = .ok (.aload_n 0, 1) := by decide +kernel
theorem dX7_foretold_137 : decode cX7_foretold 137 = .ok (.getfield 12, 3) := by decide +kernel
theorem dX7_foretold_140 : decode cX7_foretold 140 = .ok (.getfield 236, 3) := by decide +kernel
theorem dX7_foretold_143 : decode cX7_foretold 143 = .ok (.lreturn, 1) := by decide +kernel
def kX7_foretold (live : am_E) (Ret : am_R) : am_code := [(0, am_aload 0 1), (1, am_iload 1 2), (2, am_callV live 7 1 TX7_isPerson 5), (5, am_if1 (fun x => x = 0) 24 8), (8, am_iload 2 9), (9, am_const (.int 0) 10), (10, am_const (.int 3) 11), (11, am_callS live 3 TX7_within 14), (14, am_if1 (fun x => x = 0) 24 17), (17, am_iload 3 18), (18, am_callS live 1 TX7_isPence 21), (21, am_if1 (fun x => x = 0) 24 28), (24, am_const (.long (-2)) 27), (27, am_retL Ret), (28, am_iload 4 30), (30, am_callS live 1 TX7_isYear 33), (33, am_if1 (fun x => x = 0) 66 36), (36, am_iload 5 38), (38, am_const (.int 1) 39), (39, am_const (.int 5) 40), (40, am_callS live 3 TX7_within 43), (43, am_if1 (fun x => x = 0) 66 46), (46, am_iload 4 48), (48, am_iload 5 50), (50, am_i2 (fun x y => x + y) 51), (51, am_const (.int 40) 53), (53, am_if2 (fun x y => y < x) 66 56), (56, am_iload 6 58), (58, am_const (.int 0) 59), (59, am_const (.int 3) 60), (60, am_callS live 3 TX7_within 63), (63, am_if1 (fun x => x = 0) 66 70), (66, am_const (.long (-2)) 69), (69, am_retL Ret), (70, am_aload 0 71), (71, am_getR live 7 3 74), (74, am_iload 1 75), (75, am_iload 2 76), (76, am_iload 3 77), (77, am_iload 4 79), (79, am_iload 5 81), (81, am_callV live 6 5 am_TF 84), (84, am_iload 6 86), (86, am_switch [(0, 112), (1, 120), (2, 128)] 136), (112, am_aload 0 113), (113, am_getR live 7 3 116), (116, am_getJ live 6 5 119), (119, am_retL Ret), (120, am_aload 0 121), (121, am_getR live 7 3 124), (124, am_getJ live 6 6 127), (127, am_retL Ret), (128, am_aload 0 129), (129, am_getR live 7 3 132), (132, am_getJ live 6 7 135), (135, am_retL Ret), (136, am_aload 0 137), (137, am_getR live 7 3 140), (140, am_getJ live 6 8 143), (143, am_retL Ret)]
theorem koX7_foretold (live : am_E) (Ret : am_R) : ∀ q ∈ kX7_foretold live Ret, am_ok RX7 cX7_foretold 7 (some .long) 1 25 live Ret q.1 q.2 :=
  am_kc (ak_aload_n dX7_foretold_0 rfl rfl) <|
  am_kc (ak_iload_n dX7_foretold_1 rfl rfl) <|
  am_kc (ak_callV (C := RX7) (F := TX7) (N := 4) metX7_isPerson rfl ⟨rfl, by decide +kernel, by decide +kernel, by decide +kernel⟩ (am_w5 wd_414 wd_416 wd_0 wd_58 wd_417) (by decide) dX7_foretold_2 rfl) <|
  am_kc (ak_if_eq dX7_foretold_5 (by decide +kernel) rfl) <|
  am_kc (ak_iload_n dX7_foretold_8 rfl rfl) <|
  am_kc (ak_iconst dX7_foretold_9 (by decide +kernel) rfl) <|
  am_kc (ak_iconst dX7_foretold_10 (by decide +kernel) rfl) <|
  am_kc (ak_callS metX7_within ⟨rfl, by decide +kernel, by decide +kernel, by decide +kernel⟩ (am_w4 wd_418 wd_419 wd_58 wd_420) (by decide) dX7_foretold_11 rfl) <|
  am_kc (ak_if_eq dX7_foretold_14 (by decide +kernel) rfl) <|
  am_kc (ak_iload_n dX7_foretold_17 rfl rfl) <|
  am_kc (ak_callS metX7_isPence ⟨rfl, by decide +kernel, by decide +kernel, by decide +kernel⟩ (am_w4 wd_446 wd_447 wd_58 wd_448) (by decide) dX7_foretold_18 rfl) <|
  am_kc (ak_if_ne dX7_foretold_21 (by decide +kernel) rfl) <|
  am_kc (ak_ldc2 wd_545 dX7_foretold_24 rfl) <|
  am_kc (ak_retL dX7_foretold_27) <|
  am_kc (ak_iload dX7_foretold_28 rfl) <|
  am_kc (ak_callS metX7_isYear ⟨rfl, by decide +kernel, by decide +kernel, by decide +kernel⟩ (am_w4 wd_407 wd_408 wd_58 wd_409) (by decide) dX7_foretold_30 rfl) <|
  am_kc (ak_if_eq dX7_foretold_33 (by decide +kernel) rfl) <|
  am_kc (ak_iload dX7_foretold_36 rfl) <|
  am_kc (ak_iconst dX7_foretold_38 (by decide +kernel) rfl) <|
  am_kc (ak_iconst dX7_foretold_39 (by decide +kernel) rfl) <|
  am_kc (ak_callS metX7_within ⟨rfl, by decide +kernel, by decide +kernel, by decide +kernel⟩ (am_w4 wd_418 wd_419 wd_58 wd_420) (by decide) dX7_foretold_40 rfl) <|
  am_kc (ak_if_eq dX7_foretold_43 (by decide +kernel) rfl) <|
  am_kc (ak_iload dX7_foretold_46 rfl) <|
  am_kc (ak_iload dX7_foretold_48 rfl) <|
  am_kc (ak_iadd dX7_foretold_50 rfl) <|
  am_kc (ak_bipush dX7_foretold_51 (by decide +kernel) rfl) <|
  am_kc (ak_icmp_gt dX7_foretold_53 (by decide +kernel) rfl) <|
  am_kc (ak_iload dX7_foretold_56 rfl) <|
  am_kc (ak_iconst dX7_foretold_58 (by decide +kernel) rfl) <|
  am_kc (ak_iconst dX7_foretold_59 (by decide +kernel) rfl) <|
  am_kc (ak_callS metX7_within ⟨rfl, by decide +kernel, by decide +kernel, by decide +kernel⟩ (am_w4 wd_418 wd_419 wd_58 wd_420) (by decide) dX7_foretold_60 rfl) <|
  am_kc (ak_if_ne dX7_foretold_63 (by decide +kernel) rfl) <|
  am_kc (ak_ldc2 wd_545 dX7_foretold_66 rfl) <|
  am_kc (ak_retL dX7_foretold_69) <|
  am_kc (ak_aload_n dX7_foretold_70 rfl rfl) <|
  am_kc (ak_getR (C := RX7) (T := TX7) (N := 4) rfl inX7w (by decide) rfl rfl rfl wd_393 dX7_foretold_71 rfl) <|
  am_kc (ak_iload_n dX7_foretold_74 rfl rfl) <|
  am_kc (ak_iload_n dX7_foretold_75 rfl rfl) <|
  am_kc (ak_iload_n dX7_foretold_76 rfl rfl) <|
  am_kc (ak_iload dX7_foretold_77 rfl) <|
  am_kc (ak_iload dX7_foretold_79 rfl) <|
  am_kc (ak_callV (C := RX6) (F := TX6) (N := 9) (am_metF _ _ _ _) rfl ⟨rfl, by decide +kernel, by decide +kernel, by decide +kernel⟩ (am_w5 wd_780 wd_781 wd_782 wd_59 wd_783) (by decide) dX7_foretold_81 rfl) <|
  am_kc (ak_iload dX7_foretold_84 rfl) <|
  am_kc (ak_tswitch dX7_foretold_86 (by decide +kernel) (by decide +kernel) (by decide +kernel) (by decide +kernel) (by decide +kernel) (by decide +kernel)) <|
  am_kc (ak_aload_n dX7_foretold_112 rfl rfl) <|
  am_kc (ak_getR (C := RX7) (T := TX7) (N := 4) rfl inX7w (by decide) rfl rfl rfl wd_393 dX7_foretold_113 rfl) <|
  am_kc (ak_getJ (C := RX6) (T := TX6) (N := 9) rfl inX6w (by decide) rfl rfl rfl wd_362 dX7_foretold_116 rfl) <|
  am_kc (ak_retL dX7_foretold_119) <|
  am_kc (ak_aload_n dX7_foretold_120 rfl rfl) <|
  am_kc (ak_getR (C := RX7) (T := TX7) (N := 4) rfl inX7w (by decide) rfl rfl rfl wd_393 dX7_foretold_121 rfl) <|
  am_kc (ak_getJ (C := RX6) (T := TX6) (N := 9) rfl inX6w (by decide) rfl rfl rfl wd_364 dX7_foretold_124 rfl) <|
  am_kc (ak_retL dX7_foretold_127) <|
  am_kc (ak_aload_n dX7_foretold_128 rfl rfl) <|
  am_kc (ak_getR (C := RX7) (T := TX7) (N := 4) rfl inX7w (by decide) rfl rfl rfl wd_393 dX7_foretold_129 rfl) <|
  am_kc (ak_getJ (C := RX6) (T := TX6) (N := 9) rfl inX6w (by decide) rfl rfl rfl wd_366 dX7_foretold_132 rfl) <|
  am_kc (ak_retL dX7_foretold_135) <|
  am_kc (ak_aload_n dX7_foretold_136 rfl rfl) <|
  am_kc (ak_getR (C := RX7) (T := TX7) (N := 4) rfl inX7w (by decide) rfl rfl rfl wd_393 dX7_foretold_137 rfl) <|
  am_kc (ak_getJ (C := RX6) (T := TX6) (N := 9) rfl inX6w (by decide) rfl rfl rfl wd_368 dX7_foretold_140 rfl) <|
  am_kc (ak_retL dX7_foretold_143) <| am_kn
def TX7_foretold : am_T := fun live as M R => match as with
  | [.ref n, .int p, .int s, .int e, .int y, .int t, .int w] => am_mn live ∧ n = 0 ∧ am_F7 M ∧ R (some (.long (-2))) M
  | _ => False
set_option maxRecDepth 100000 in
set_option maxHeartbeats 4000000 in
theorem metX7_foretold : am_Met yX7_foretold cX7_foretold 7 (some .long) (1) (25) TX7_foretold := by
  refine am_met (own := RX7) (by decide +kernel) rfl kX7_foretold koX7_foretold 300 (fun _ _ _ _ _ => none) (fun live as M Ret h => ?_) (fun _ _ _ _ _ _ _ _ hI => by cases hI)
  unfold TX7_foretold at h
  split at h
  · next n p s e y t w =>
    refine ⟨Nat.le_of_ble_eq_true rfl, ?_⟩
    change am_wp _ _ _ _ [(0, Value.ref n), (1, Value.int p), (2, Value.int s), (3, Value.int e), (4, Value.int y), (5, Value.int t), (6, Value.int w)] _ _
    obtain ⟨⟨i1, i2, rfl⟩, rfl, hF, h⟩ := h
    have hs : M.1 21 7 = 0 := hF.1
    have hp : (if 0 ≤ p ∧ p < M.1 21 7 then (1 : Int32) else 0) = 0 := am_b0.mpr (fun q => by
      rw [hs, i_le, i_lt, Int32.toInt_zero] at q
      omega)
    repeat' (first | apply And.intro | exact rfl | (intro hx; with_reducible exact absurd hp hx) | intro hx | (refine Exists.intro _ (And.intro rfl ?_)))
    all_goals try first | (with_reducible change am_tI _ _) | (change Ret _ _) | (change Ret _ _ _) | (change Exists _)
    all_goals try dsimp only at *
    all_goals try exact absurd ‹(1000 : Int64) = 0› (by decide)
    all_goals first | exact h | exact hp | (left; exact hp) | grind
  · exact h.elim
theorem wd_824 : Cond.methodLink "LearnLoans" 249 yX7_force ∈ am_ws := am_wsi (List.mem_of_getElem? (i := 824) (by decide +kernel)) (by decide +kernel)
theorem wd_490 : Cond.instanceMethod yX7_force ∈ am_ws := am_wsi (List.mem_of_getElem? (i := 490) (by decide +kernel)) (by decide +kernel)
theorem wd_491 : Cond.selects "LearnLoans" yX7_force yX7_force ∈ am_ws := am_wsi (List.mem_of_getElem? (i := 491) (by decide +kernel)) (by decide +kernel)
theorem wd_492 : Cond.code yX7_force cX7_force 5 (some .int) ∈ am_ws := am_wsi (List.mem_of_getElem? (i := 492) (by decide +kernel)) (by decide +kernel)
theorem wd_227 : Cond.fieldLink "LearnLoans" 243 "LearnLoans$House" "toldSize" "I" ∈ am_ws := am_wsi (List.mem_of_getElem? (i := 227) (by decide +kernel)) (by decide +kernel)
theorem wd_225 : Cond.fieldLink "LearnLoans" 246 "LearnLoans$House" "told" "[I" ∈ am_ws := am_wsi (List.mem_of_getElem? (i := 225) (by decide +kernel)) (by decide +kernel)
theorem wd_469 : Cond.methodLink "LearnLoans" 101 yX7_isNumber ∈ am_ws := am_wsi (List.mem_of_getElem? (i := 469) (by decide +kernel)) (by decide +kernel)
theorem wd_470 : Cond.static yX7_isNumber ∈ am_ws := am_wsi (List.mem_of_getElem? (i := 470) (by decide +kernel)) (by decide +kernel)
theorem wd_471 : Cond.code yX7_isNumber cX7_isNumber 2 (some .boolean) ∈ am_ws := am_wsi (List.mem_of_getElem? (i := 471) (by decide +kernel)) (by decide +kernel)
theorem wd_825 : Cond.methodLink "LearnLoans" 253 yX7_isNearer ∈ am_ws := am_wsi (List.mem_of_getElem? (i := 825) (by decide +kernel)) (by decide +kernel)
theorem wd_826 : Cond.static yX7_isNearer ∈ am_ws := am_wsi (List.mem_of_getElem? (i := 826) (by decide +kernel)) (by decide +kernel)
theorem wd_827 : Cond.code yX7_isNearer cX7_isNearer 5 (some .boolean) ∈ am_ws := am_wsi (List.mem_of_getElem? (i := 827) (by decide +kernel)) (by decide +kernel)
theorem wd_804 : Cond.methodLink "LearnLoans" 239 yX7_takenIf ∈ am_ws := am_wsi (List.mem_of_getElem? (i := 804) (by decide +kernel)) (by decide +kernel)
theorem wd_806 : Cond.instanceMethod yX7_takenIf ∈ am_ws := am_wsi (List.mem_of_getElem? (i := 806) (by decide +kernel)) (by decide +kernel)
theorem wd_26 : Cond.selects "LearnLoans" yX7_takenIf yX7_takenIf ∈ am_ws := am_wsi (List.mem_of_getElem? (i := 26) (by decide +kernel)) (by decide +kernel)
theorem wd_807 : Cond.code yX7_takenIf cX7_takenIf 9 (some .long) ∈ am_ws := am_wsi (List.mem_of_getElem? (i := 807) (by decide +kernel)) (by decide +kernel)
theorem dX7_best_0 : decode cX7_best 0 = .ok (.iload_n 1, 1) := by decide +kernel
theorem dX7_best_1 : decode cX7_best 1 = .ok (.invokestatic 98, 3) := by decide +kernel
theorem dX7_best_4 : decode cX7_best 4 = .ok (.ifCond .eq 27, 3) := by decide +kernel
theorem dX7_best_7 : decode cX7_best 7 = .ok (.iload_n 2, 1) := by decide +kernel
theorem dX7_best_8 : decode cX7_best 8 = .ok (.iconst 0, 1) := by decide +kernel
theorem dX7_best_9 : decode cX7_best 9 = .ok (.iconst 5, 1) := by decide +kernel
theorem dX7_best_10 : decode cX7_best 10 = .ok (.invokestatic 55, 3) := by decide +kernel
theorem dX7_best_13 : decode cX7_best 13 = .ok (.ifCond .eq 18, 3) := by decide +kernel
theorem dX7_best_16 : decode cX7_best 16 = .ok (.iload_n 3, 1) := by decide +kernel
theorem dX7_best_17 : decode cX7_best 17 = .ok (.invokestatic 34, 3) := by decide +kernel
theorem dX7_best_20 : decode cX7_best 20 = .ok (.ifCond .eq 11, 3) := by decide +kernel
theorem dX7_best_23 : decode cX7_best 23 = .ok (.iload 4, 2) := by decide +kernel
theorem dX7_best_25 : decode cX7_best 25 = .ok (.invokestatic 34, 3) := by decide +kernel
theorem dX7_best_28 : decode cX7_best 28 = .ok (.ifCond .ne 6, 3) := by decide +kernel
theorem dX7_best_31 : decode cX7_best 31 = .ok (.bipush (-2), 2) := by decide +kernel
theorem dX7_best_33 : decode cX7_best 33 = .ok (.ireturn, 1) := by decide +kernel
theorem dX7_best_34 : decode cX7_best 34 = .ok (.aload_n 0, 1) := by decide +kernel
theorem dX7_best_35 : decode cX7_best 35 = .ok (.iload 5, 2) := by decide +kernel
theorem dX7_best_37 : decode cX7_best 37 = .ok (.invokevirtual 52, 3) := by decide +kernel
theorem dX7_best_40 : decode cX7_best 40 = .ok (.ifCond .ne 6, 3) := by decide +kernel
theorem dX7_best_43 : decode cX7_best 43 = .ok (.bipush (-2), 2) := by decide +kernel
theorem dX7_best_45 : decode cX7_best 45 = .ok (.ireturn, 1) := by decide +kernel
theorem dX7_best_46 : decode cX7_best 46 = .ok (.aload_n 0, 1) := by decide +kernel
theorem dX7_best_47 : decode cX7_best 47 = .ok (.iload_n 1, 1) := by decide +kernel
theorem dX7_best_48 : decode cX7_best 48 = .ok (.iload_n 2, 1) := by decide +kernel
theorem dX7_best_49 : decode cX7_best 49 = .ok (.iload 5, 2) := by decide +kernel
theorem dX7_best_51 : decode cX7_best 51 = .ok (.iload 4, 2) := by decide +kernel
theorem dX7_best_53 : decode cX7_best 53 = .ok (.invokevirtual 249, 3) := by decide +kernel
theorem dX7_best_56 : decode cX7_best 56 = .ok (.istore 8, 2) := by decide +kernel
theorem dX7_best_58 : decode cX7_best 58 = .ok (.iconst (-1), 1) := by decide +kernel
theorem dX7_best_59 : decode cX7_best 59 = .ok (.istore 9, 2) := by decide +kernel
theorem dX7_best_61 : decode cX7_best 61 = .ok (.iconst 0, 1) := by decide +kernel
theorem dX7_best_62 : decode cX7_best 62 = .ok (.istore 10, 2) := by decide +kernel
theorem dX7_best_64 : decode cX7_best 64 = .ok (.iload 10, 2) := by decide +kernel
theorem dX7_best_66 : decode cX7_best 66 = .ok (.aload_n 0, 1) := by decide +kernel
theorem dX7_best_67 : decode cX7_best 67 = .ok (.getfield 27, 3) := by decide +kernel
theorem dX7_best_70 : decode cX7_best 70 = .ok (.getfield 243, 3) := by decide +kernel
theorem dX7_best_73 : decode cX7_best 73 = .ok (.if_icmp .ge 70, 3) := by decide +kernel
theorem dX7_best_76 : decode cX7_best 76 = .ok (.iload 10, 2) := by decide +kernel
theorem dX7_best_78 : decode cX7_best 78 = .ok (.bipush 9, 2) := by decide +kernel
theorem dX7_best_80 : decode cX7_best 80 = .ok (.if_icmp .ge 63, 3) := by decide +kernel
theorem dX7_best_83 : decode cX7_best 83 = .ok (.aload_n 0, 1) := by decide +kernel
theorem dX7_best_84 : decode cX7_best 84 = .ok (.getfield 27, 3) := by decide +kernel
theorem dX7_best_87 : decode cX7_best 87 = .ok (.getfield 246, 3) := by decide +kernel
theorem dX7_best_90 : decode cX7_best 90 = .ok (.iload 10, 2) := by decide +kernel
theorem dX7_best_92 : decode cX7_best 92 = .ok (.iaload, 1) := by decide +kernel
theorem dX7_best_93 : decode cX7_best 93 = .ok (.istore 11, 2) := by decide +kernel
theorem dX7_best_95 : decode cX7_best 95 = .ok (.iload_n 2, 1) := by decide +kernel
theorem dX7_best_96 : decode cX7_best 96 = .ok (.iload 11, 2) := by decide +kernel
theorem dX7_best_98 : decode cX7_best 98 = .ok (.invokestatic 101, 3) := by decide +kernel
theorem dX7_best_101 : decode cX7_best 101 = .ok (.ifCond .eq 36, 3) := by decide +kernel
theorem dX7_best_104 : decode cX7_best 104 = .ok (.iload 11, 2) := by decide +kernel
theorem dX7_best_106 : decode cX7_best 106 = .ok (.iload 9, 2) := by decide +kernel
theorem dX7_best_108 : decode cX7_best 108 = .ok (.iload 8, 2) := by decide +kernel
theorem dX7_best_110 : decode cX7_best 110 = .ok (.invokestatic 253, 3) := by decide +kernel
theorem dX7_best_113 : decode cX7_best 113 = .ok (.ifCond .eq 24, 3) := by decide +kernel
theorem dX7_best_116 : decode cX7_best 116 = .ok (.aload_n 0, 1) := by decide +kernel
theorem dX7_best_117 : decode cX7_best 117 = .ok (.iload_n 1, 1) := by decide +kernel
theorem dX7_best_118 : decode cX7_best 118 = .ok (.iload_n 2, 1) := by decide +kernel
theorem dX7_best_119 : decode cX7_best 119 = .ok (.iload 11, 2) := by decide +kernel
theorem dX7_best_121 : decode cX7_best 121 = .ok (.iload_n 3, 1) := by decide +kernel
theorem dX7_best_122 : decode cX7_best 122 = .ok (.iload 4, 2) := by decide +kernel
theorem dX7_best_124 : decode cX7_best 124 = .ok (.invokevirtual 239, 3) := by decide +kernel
theorem dX7_best_127 : decode cX7_best 127 = .ok (.lload 6, 2) := by decide +kernel
theorem dX7_best_129 : decode cX7_best 129 = .ok (.lcmp, 1) := by decide +kernel
theorem dX7_best_130 : decode cX7_best 130 = .ok (.ifCond .lt 7, 3) := by decide +kernel
theorem dX7_best_133 : decode cX7_best 133 = .ok (.iload 11, 2) := by decide +kernel
theorem dX7_best_135 : decode cX7_best 135 = .ok (.istore 9, 2) := by decide +kernel
theorem dX7_best_137 : decode cX7_best 137 = .ok (.iinc 10 1, 3) := by decide +kernel
theorem dX7_best_140 : decode cX7_best 140 = .ok (.goto (-76), 3) := by decide +kernel
theorem dX7_best_143 : decode cX7_best 143 = .ok (.iload 9, 2) := by decide +kernel
theorem dX7_best_145 : decode cX7_best 145 = .ok (.ireturn, 1) := by decide +kernel
def kX7_best (live : am_E) (Ret : am_R) : am_code := [(0, am_iload 1 1), (1, am_callS live 1 TX7_isPlan 4), (4, am_if1 (fun x => x = 0) 31 7), (7, am_iload 2 8), (8, am_const (.int 0) 9), (9, am_const (.int 5) 10), (10, am_callS live 3 TX7_within 13), (13, am_if1 (fun x => x = 0) 31 16), (16, am_iload 3 17), (17, am_callS live 1 TX7_isYear 20), (20, am_if1 (fun x => x = 0) 31 23), (23, am_iload 4 25), (25, am_callS live 1 TX7_isYear 28), (28, am_if1 (fun x => x = 0) 31 34), (31, am_const (.int (-2)) 33), (33, am_retI Ret), (34, am_aload 0 35), (35, am_iload 5 37), (37, am_callV live 7 1 TX7_isPerson 40), (40, am_if1 (fun x => x = 0) 43 46), (43, am_const (.int (-2)) 45), (45, am_retI Ret), (46, am_aload 0 47), (47, am_iload 1 48), (48, am_iload 2 49), (49, am_iload 5 51), (51, am_iload 4 53), (53, am_callV live 7 4 TX7_force 56), (56, am_istore 8 12 58), (58, am_const (.int (-1)) 59), (59, am_istore 9 12 61), (61, am_const (.int 0) 62), (62, am_istore 10 12 64), (64, am_iload 10 66), (66, am_aload 0 67), (67, am_getR live 7 0 70), (70, am_getI live 0 12 73), (73, am_if2 (fun x y => y ≤ x) 143 76), (76, am_iload 10 78), (78, am_const (.int 9) 80), (80, am_if2 (fun x y => y ≤ x) 143 83), (83, am_aload 0 84), (84, am_getR live 7 0 87), (87, am_getR live 0 11 90), (90, am_iload 10 92), (92, am_ald live 0 93), (93, am_istore 11 12 95), (95, am_iload 2 96), (96, am_iload 11 98), (98, am_callS live 2 TX7_isNumber 101), (101, am_if1 (fun x => x = 0) 137 104), (104, am_iload 11 106), (106, am_iload 9 108), (108, am_iload 8 110), (110, am_callS live 3 am_TF 113), (113, am_if1 (fun x => x = 0) 137 116), (116, am_aload 0 117), (117, am_iload 1 118), (118, am_iload 2 119), (119, am_iload 11 121), (121, am_iload 3 122), (122, am_iload 4 124), (124, am_callV live 7 5 am_TF 127), (127, am_lload 6 129), (129, am_lcmp 130), (130, am_if1 (fun x => x < 0) 137 133), (133, am_iload 11 135), (135, am_istore 9 12 137), (137, am_iinc 10 12 1 140), (140, am_goto 64), (143, am_iload 9 145), (145, am_retI Ret)]
theorem koX7_best (live : am_E) (Ret : am_R) : ∀ q ∈ kX7_best live Ret, am_ok RX7 cX7_best 12 (some .int) 2 48 live Ret q.1 q.2 :=
  am_kc (ak_iload_n dX7_best_0 rfl rfl) <|
  am_kc (ak_callS metX7_isPlan ⟨rfl, by decide +kernel, by decide +kernel, by decide +kernel⟩ (am_w4 wd_466 wd_467 wd_58 wd_468) (by decide) dX7_best_1 rfl) <|
  am_kc (ak_if_eq dX7_best_4 (by decide +kernel) rfl) <|
  am_kc (ak_iload_n dX7_best_7 rfl rfl) <|
  am_kc (ak_iconst dX7_best_8 (by decide +kernel) rfl) <|
  am_kc (ak_iconst dX7_best_9 (by decide +kernel) rfl) <|
  am_kc (ak_callS metX7_within ⟨rfl, by decide +kernel, by decide +kernel, by decide +kernel⟩ (am_w4 wd_418 wd_419 wd_58 wd_420) (by decide) dX7_best_10 rfl) <|
  am_kc (ak_if_eq dX7_best_13 (by decide +kernel) rfl) <|
  am_kc (ak_iload_n dX7_best_16 rfl rfl) <|
  am_kc (ak_callS metX7_isYear ⟨rfl, by decide +kernel, by decide +kernel, by decide +kernel⟩ (am_w4 wd_407 wd_408 wd_58 wd_409) (by decide) dX7_best_17 rfl) <|
  am_kc (ak_if_eq dX7_best_20 (by decide +kernel) rfl) <|
  am_kc (ak_iload dX7_best_23 rfl) <|
  am_kc (ak_callS metX7_isYear ⟨rfl, by decide +kernel, by decide +kernel, by decide +kernel⟩ (am_w4 wd_407 wd_408 wd_58 wd_409) (by decide) dX7_best_25 rfl) <|
  am_kc (ak_if_ne dX7_best_28 (by decide +kernel) rfl) <|
  am_kc (ak_bipush dX7_best_31 (by decide +kernel) rfl) <|
  am_kc (ak_retI dX7_best_33) <|
  am_kc (ak_aload_n dX7_best_34 rfl rfl) <|
  am_kc (ak_iload dX7_best_35 rfl) <|
  am_kc (ak_callV (C := RX7) (F := TX7) (N := 4) metX7_isPerson rfl ⟨rfl, by decide +kernel, by decide +kernel, by decide +kernel⟩ (am_w5 wd_414 wd_416 wd_0 wd_58 wd_417) (by decide) dX7_best_37 rfl) <|
  am_kc (ak_if_ne dX7_best_40 (by decide +kernel) rfl) <|
  am_kc (ak_bipush dX7_best_43 (by decide +kernel) rfl) <|
  am_kc (ak_retI dX7_best_45) <|
  am_kc (ak_aload_n dX7_best_46 rfl rfl) <|
  am_kc (ak_iload_n dX7_best_47 rfl rfl) <|
  am_kc (ak_iload_n dX7_best_48 rfl rfl) <|
  am_kc (ak_iload dX7_best_49 rfl) <|
  am_kc (ak_iload dX7_best_51 rfl) <|
  am_kc (ak_callV (C := RX7) (F := TX7) (N := 4) metX7_force rfl ⟨rfl, by decide +kernel, by decide +kernel, by decide +kernel⟩ (am_w5 wd_824 wd_490 wd_491 wd_58 wd_492) (by decide) dX7_best_53 rfl) <|
  am_kc (ak_istore dX7_best_56 rfl) <|
  am_kc (ak_iconst dX7_best_58 (by decide +kernel) rfl) <|
  am_kc (ak_istore dX7_best_59 rfl) <|
  am_kc (ak_iconst dX7_best_61 (by decide +kernel) rfl) <|
  am_kc (ak_istore dX7_best_62 rfl) <|
  am_kc (ak_iload dX7_best_64 rfl) <|
  am_kc (ak_aload_n dX7_best_66 rfl rfl) <|
  am_kc (ak_getR (C := RX7) (T := TX7) (N := 4) rfl inX7w (by decide) rfl rfl rfl wd_390 dX7_best_67 rfl) <|
  am_kc (ak_getI (C := RX0) (T := TX0) (N := 13) rfl inX0w (by decide) rfl rfl rfl wd_227 dX7_best_70 rfl) <|
  am_kc (ak_icmp_ge dX7_best_73 (by decide +kernel) rfl) <|
  am_kc (ak_iload dX7_best_76 rfl) <|
  am_kc (ak_bipush dX7_best_78 (by decide +kernel) rfl) <|
  am_kc (ak_icmp_ge dX7_best_80 (by decide +kernel) rfl) <|
  am_kc (ak_aload_n dX7_best_83 rfl rfl) <|
  am_kc (ak_getR (C := RX7) (T := TX7) (N := 4) rfl inX7w (by decide) rfl rfl rfl wd_390 dX7_best_84 rfl) <|
  am_kc (ak_getR (C := RX0) (T := TX0) (N := 13) rfl inX0w (by decide) rfl rfl rfl wd_225 dX7_best_87 rfl) <|
  am_kc (ak_iload dX7_best_90 rfl) <|
  am_kc (ak_iald (t := 0) (fun _ => rfl) rfl dX7_best_92 rfl) <|
  am_kc (ak_istore dX7_best_93 rfl) <|
  am_kc (ak_iload_n dX7_best_95 rfl rfl) <|
  am_kc (ak_iload dX7_best_96 rfl) <|
  am_kc (ak_callS metX7_isNumber ⟨rfl, by decide +kernel, by decide +kernel, by decide +kernel⟩ (am_w4 wd_469 wd_470 wd_58 wd_471) (by decide) dX7_best_98 rfl) <|
  am_kc (ak_if_eq dX7_best_101 (by decide +kernel) rfl) <|
  am_kc (ak_iload dX7_best_104 rfl) <|
  am_kc (ak_iload dX7_best_106 rfl) <|
  am_kc (ak_iload dX7_best_108 rfl) <|
  am_kc (ak_callS (am_metF _ _ _ _) ⟨rfl, by decide +kernel, by decide +kernel, by decide +kernel⟩ (am_w4 wd_825 wd_826 wd_58 wd_827) (by decide) dX7_best_110 rfl) <|
  am_kc (ak_if_eq dX7_best_113 (by decide +kernel) rfl) <|
  am_kc (ak_aload_n dX7_best_116 rfl rfl) <|
  am_kc (ak_iload_n dX7_best_117 rfl rfl) <|
  am_kc (ak_iload_n dX7_best_118 rfl rfl) <|
  am_kc (ak_iload dX7_best_119 rfl) <|
  am_kc (ak_iload_n dX7_best_121 rfl rfl) <|
  am_kc (ak_iload dX7_best_122 rfl) <|
  am_kc (ak_callV (C := RX7) (F := TX7) (N := 4) (am_metF _ _ _ _) rfl ⟨rfl, by decide +kernel, by decide +kernel, by decide +kernel⟩ (am_w5 wd_804 wd_806 wd_26 wd_58 wd_807) (by decide) dX7_best_124 rfl) <|
  am_kc (ak_lload dX7_best_127 rfl) <|
  am_kc (ak_lcmp dX7_best_129 rfl) <|
  am_kc (ak_if_lt dX7_best_130 (by decide +kernel) rfl) <|
  am_kc (ak_iload dX7_best_133 rfl) <|
  am_kc (ak_istore dX7_best_135 rfl) <|
  am_kc (ak_iinc dX7_best_137 (by decide +kernel) rfl) <|
  am_kc (ak_goto dX7_best_140 (by decide +kernel)) <|
  am_kc (ak_iload dX7_best_143 rfl) <|
  am_kc (ak_retI dX7_best_145) <| am_kn
def TX7_best : am_T := fun live as M R => match as with
  | [.ref n, .int l, .int w, .int f, .int y, .int p, .long q] => am_mn live ∧ n = 0 ∧ am_F7 M ∧ R (some (.int (-2))) M
  | _ => False
set_option maxRecDepth 100000 in
set_option maxHeartbeats 4000000 in
theorem metX7_best : am_Met yX7_best cX7_best 12 (some .int) (2) (48) TX7_best := by
  refine am_met (own := RX7) (by decide +kernel) rfl kX7_best koX7_best 300 (fun _ _ _ _ _ => none) (fun live as M Ret h => ?_) (fun _ _ _ _ _ _ _ _ hI => by cases hI)
  unfold TX7_best at h
  split at h
  · next n l w f y p q =>
    refine ⟨Nat.le_of_ble_eq_true rfl, ?_⟩
    change am_wp _ _ _ _ [(0, Value.ref n), (1, Value.int l), (2, Value.int w), (3, Value.int f), (4, Value.int y), (5, Value.int p), (6, Value.long q)] _ _
    obtain ⟨⟨i1, i2, rfl⟩, rfl, hF, h⟩ := h
    have hs : M.1 21 7 = 0 := hF.1
    have hp : (if 0 ≤ p ∧ p < M.1 21 7 then (1 : Int32) else 0) = 0 := am_b0.mpr (fun q => by
      rw [hs, i_le, i_lt, Int32.toInt_zero] at q
      omega)
    repeat' (first | apply And.intro | exact rfl | (intro hx; with_reducible exact absurd hp hx) | intro hx | (refine Exists.intro _ (And.intro rfl ?_)))
    all_goals try first | (with_reducible change am_tI _ _) | (change Ret _ _) | (change Ret _ _ _) | (change Exists _)
    all_goals try dsimp only at *
    all_goals try exact absurd ‹(1000 : Int64) = 0› (by decide)
    all_goals first | exact h | exact hp | (left; exact hp) | grind
  · exact h.elim
