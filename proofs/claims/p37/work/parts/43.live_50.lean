-- part 43.live.lean.txt
section
/-! p1: what is live, in closed form -/
/-- how many references a cell holds -/
def am_wq (q : Nat) : Nat := match Nat.beq q 1 with
  | true => 2
  | false => (am_qs q).length
def an_fin (E : am_E) : Prop := (∀ q, 216 ≤ q → E.1 q = false) ∧ (∀ q k, (216 ≤ q ∨ am_wq q ≤ k) → E.2 q k = none)
theorem an_fin0 : an_fin an_E0 := ⟨fun _ _ => rfl, fun _ _ _ => rfl⟩
theorem an_fin.b {E : am_E} {n : Nat} (h : an_fin E) (hn : n < 216) : an_fin (an_bE E n) := by
  refine ⟨fun q hq => ?_, fun q k hq => ?_⟩
  · show (Nat.beq q n || E.1 q) = false
    rw [an_bne (by omega), h.1 q hq]
    rfl
  · by_cases e : q = n
    · subst e; exact an_bE_2n E q k
    · rw [an_bE_2 E k e]; exact h.2 q k hq
theorem an_fin.r {E : am_E} {n j v : Nat} (h : an_fin E) (hn : n < 216) (hj : j < am_wq n) : an_fin (an_rE E n j v) := by
  refine ⟨h.1, fun q k hq => ?_⟩
  by_cases e : q = n
  · subst e
    rw [an_rE_k E q v (by omega)]
    exact h.2 q k hq
  · rw [an_rE_o E j v k e]
    exact h.2 q k hq
theorem am_qs_len : ∀ q, q < 216 → (am_qs q).length ≤ 27 := by decide +kernel
theorem am_lv_hi (i1 i2 : Bool) {q : Nat} (hq : 216 ≤ q) : am_lv i1 i2 q = false := by
  have hb : ∀ b : Nat, b ≤ q → Nat.blt q b = false := fun b h => by
    cases hh : Nat.blt q b with
    | true => exact absurd (Nat.le_of_ble_eq_true hh) (by omega)
    | false => rfl
  unfold am_lv
  rw [hb 20 (by omega), hb 60 (by omega), hb 100 (by omega), hb 140 (by omega), hb am_top (Nat.le_trans (by decide) hq)]
  exact Bool.and_false _
theorem am_fin_lv (i1 i2 : Bool) : an_fin (am_lv i1 i2, am_q i1 i2) := by
  refine ⟨fun q hq => am_lv_hi i1 i2 hq, fun q k hq => ?_⟩
  show am_q i1 i2 q k = none
  unfold am_q
  by_cases h4 : q < 216
  · have hk : am_wq q ≤ k := by omega
    cases am_lv i1 i2 q with
    | false => rfl
    | true =>
      by_cases e : q = 1
      · subst e
        have hk : 2 ≤ k := hk
        match k, hk with
        | k + 2, _ => rfl
      · rw [an_bne e]
        show (am_qs q).getD k none = none
        unfold am_wq at hk
        rw [an_bne e] at hk
        have hk : (am_qs q).length ≤ k := hk
        rw [List.getD_eq_getElem?_getD, List.getElem?_eq_none (by omega)]
        rfl
  · rw [am_lv_hi i1 i2 (by omega)]
theorem an_eq {E F : am_E} (hE : an_fin E) (hF : an_fin F) (h1 : ∀ q, q < 216 → E.1 q = F.1 q) (h2 : ∀ q, q < 216 → ∀ k, k < am_wq q → E.2 q k = F.2 q k) : E = F := by
  refine Prod.ext (funext fun q => ?_) (funext fun q => funext fun k => ?_)
  · by_cases h : q < 216
    · exact h1 q h
    · rw [hE.1 q (by omega), hF.1 q (by omega)]
  · by_cases h : q < 216 ∧ k < am_wq q
    · exact h2 q h.1 k h.2
    · rw [hE.2 q k (by omega), hF.2 q k (by omega)]
def an_Ef : am_E := eX8 (an_bE (eX7 (an_bE an_E0 0)) 200)
set_option maxRecDepth 100000 in
set_option maxHeartbeats 4000000 in
theorem an_Ef_eq : an_Ef = (am_lv false false, am_q false false) := by
  refine an_eq ?_ (am_fin_lv _ _) (by decide +kernel) (by decide +kernel)
  unfold an_Ef eX8 eX7 eX6 eX4 eX0 eX2 eX5
  repeat (first | refine an_fin.b ?_ (by decide) | refine an_fin.r ?_ (by decide) (by decide +kernel) | exact an_fin0)
set_option maxRecDepth 100000 in
set_option maxHeartbeats 4000000 in
theorem an_Ei0 : an_rE (eX0 60 (an_bE (am_lv false false, am_q false false) 60)) 1 0 60 = (am_lv true false, am_q true false) := by
  refine an_eq ?_ (am_fin_lv _ _) (by decide +kernel) (by decide +kernel)
  unfold eX0 eX2 eX5
  repeat (first | refine an_fin.b ?_ (by decide) | refine an_fin.r ?_ (by decide) (by decide +kernel) | exact am_fin_lv _ _)
set_option maxRecDepth 100000 in
set_option maxHeartbeats 4000000 in
theorem an_Ei1 : an_rE (eX0 100 (an_bE (am_lv false false, am_q false false) 100)) 1 1 100 = (am_lv false true, am_q false true) := by
  refine an_eq ?_ (am_fin_lv _ _) (by decide +kernel) (by decide +kernel)
  unfold eX0 eX2 eX5
  repeat (first | refine an_fin.b ?_ (by decide) | refine an_fin.r ?_ (by decide) (by decide +kernel) | exact am_fin_lv _ _)
end
-- part 44.image.lean.txt
section
/-! general: images of the class -/
set_option maxRecDepth 100000 in
set_option maxHeartbeats 4000000 in
theorem an_EiG0 (i2 : Bool) : an_rE (eX0 60 (an_bE (am_lv false i2, am_q false i2) 60)) 1 0 60 = (am_lv true i2, am_q true i2) := by
  cases i2 with
  | false => exact an_Ei0
  | true =>
    refine an_eq ?_ (am_fin_lv _ _) (by decide +kernel) (by decide +kernel)
    unfold eX0 eX5 eX2
    repeat (first | exact am_fin_lv _ _ | refine an_fin.b ?_ (by decide) | refine an_fin.r ?_ (by decide) (by decide +kernel))
set_option maxRecDepth 100000 in
set_option maxHeartbeats 4000000 in
theorem an_EiG1 (i1 : Bool) : an_rE (eX0 100 (an_bE (am_lv i1 false, am_q i1 false) 100)) 1 1 100 = (am_lv i1 true, am_q i1 true) := by
  cases i1 with
  | false => exact an_Ei1
  | true =>
    refine an_eq ?_ (am_fin_lv _ _) (by decide +kernel) (by decide +kernel)
    unfold eX0 eX5 eX2
    repeat (first | exact am_fin_lv _ _ | refine an_fin.b ?_ (by decide) | refine an_fin.r ?_ (by decide) (by decide +kernel))
def g_im (b : Nat) (M M' : am_M) : Prop := ∃ _ : Unit, (∀ a k, (a < b ∨ b + 39 ≤ a) → M'.1 a k = M.1 a k ∧ M'.2 a k = M.2 a k) ∧ ∀ o k, g_hit g_sh0 o k = true → M'.1 (b + o) k = M.1 (20 + o) k
theorem g_sh0_lt {o k : Nat} (h : g_hit g_sh0 o k = true) : o < 39 := by
  unfold g_hit at h
  obtain ⟨q, hq, h2⟩ := List.any_eq_true.mp h
  rw [Bool.and_eq_true, Bool.and_eq_true] at h2
  have e := Nat.eq_of_beq_eq_true h2.1.1
  have hl : ∀ q ∈ g_sh0, q.1 < 39 := by decide
  have := hl q hq
  omega
theorem g_cs_im {b : Nat} {M M' : am_M} (h : g_cs b 20 g_sh0 M M') : g_im b M M' := by
  obtain ⟨-, hj, h⟩ := h
  refine ⟨(), fun a k z => ⟨?_, by rw [hj]⟩, fun o k z => ?_⟩
  · rw [h a k, if_neg (fun q => ?_)]
    have := g_sh0_lt q.2
    omega
  · rw [h (b + o) k, Nat.add_sub_cancel_left, if_pos ⟨Nat.le_add_right _ _, z⟩]
theorem an_m0_o (b : Nat) (M : am_M) (a k : Nat) (h : a < b ∨ b + 39 ≤ a) : (mX0 b (an_bM M b)).1 a k = M.1 a k := by
  have hb : ∀ (N : am_M) n, b ≤ n → n < b + 39 → (an_bM N n).1 a k = N.1 a k := fun N n h1 h2 => an_bM_1 N k (by omega)
  have hw : ∀ (N : am_M) n j v, b ≤ n → n < b + 39 → (am_wI N n j v).1 a k = N.1 a k := fun N n j v h1 h2 => by rw [am_wI_1, if_neg (fun q => by omega)]
  have hl : ∀ (N : am_M) n lo hi v, b ≤ n → n < b + 39 → (am_lay N n lo hi v).1 a k = N.1 a k := fun N n lo hi v h1 h2 => by rw [am_lay_1, if_neg (fun q => by omega)]
  unfold mX0 mX2 mX5
  repeat (first | rw [hb _ _ (by omega) (by omega)] | rw [hw _ _ _ _ (by omega) (by omega)] | rw [hl _ _ _ _ _ (by omega) (by omega)])
theorem an_m0_J (b : Nat) (M : am_M) (a k : Nat) (h : a < b ∨ b + 39 ≤ a) : (mX0 b (an_bM M b)).2 a k = M.2 a k := by
  have hb : ∀ (N : am_M) n, b ≤ n → n < b + 39 → (an_bM N n).2 a k = N.2 a k := fun N n h1 h2 => by
    show (match Nat.beq a n with | true => 0 | false => N.2 a k) = _
    rw [an_bne (by omega)]
  have hw : ∀ (N : am_M) n j v, (am_wI N n j v).2 a k = N.2 a k := fun N n j v => rfl
  have hl : ∀ (N : am_M) n lo hi v, (am_lay N n lo hi v).2 a k = N.2 a k := fun N n lo hi v => rfl
  unfold mX0 mX2 mX5
  repeat (first | rw [hb _ _ (by omega) (by omega)] | rw [hw _ _ _ _] | rw [hl _ _ _ _ _])
theorem g_im_of {b : Nat} {M M' : am_M} (hb : 60 ≤ b) (h : g_cs b 20 g_sh0 (mX0 b (an_bM M b)) M') : g_im b M M' := by
  obtain ⟨-, h1, h2⟩ := g_cs_im h
  refine ⟨(), fun a k z => ⟨?_, ?_⟩, fun o k z => ?_⟩
  · rw [(h1 a k z).1, an_m0_o b M a k z]
  · rw [(h1 a k z).2, an_m0_J b M a k z]
  · have := g_sh0_lt z
    rw [h2 o k z, an_m0_o b M _ k (by omega)]
theorem hy_X0_takeOver : yX0_takeOver.cls ≠ "java/lang/invoke/MethodHandle" ∧ yX0_takeOver.cls ≠ "java/lang/invoke/VarHandle" ∧ (parseMethodDescriptor yX0_takeOver.desc).map (fun d => d.parameters.length) = some 1 := ⟨by decide +kernel, by decide +kernel, by decide +kernel⟩
set_option maxRecDepth 100000 in
theorem wd_836 : Cond.methodLink "LearnLoans" 257 yX0_takeOver ∈ am_ws := am_wt4 (List.mem_of_getElem? (i := 59) (by rfl)) (by decide +kernel)
set_option maxRecDepth 100000 in
theorem wd_837 : Cond.instanceMethod yX0_takeOver ∈ am_ws := am_wt4 (List.mem_of_getElem? (i := 60) (by rfl)) (by decide +kernel)
set_option maxRecDepth 100000 in
theorem wd_838 : Cond.selects "LearnLoans$House" yX0_takeOver yX0_takeOver ∈ am_ws := am_wt4 (List.mem_of_getElem? (i := 61) (by rfl)) (by decide +kernel)
set_option maxRecDepth 100000 in
theorem wd_839 : Cond.code yX0_takeOver cX0_takeOver 3 none ∈ am_ws := am_wt4 (List.mem_of_getElem? (i := 62) (by rfl)) (by decide +kernel)
def rwX7_from : List dz_r := [(0, .iload_n 1, 1), (1, .iconst 0, 1), (2, .iconst 1, 1), (3, .invokestatic 55, 3), (6, .ifCond .ne 6, 3), (9, .bipush (-2), 2), (11, .ireturn, 1), (12, .aload_n 0, 1), (13, .getfield 30, 3), (16, .iload_n 1, 1), (17, .aaload, 1), (18, .ifnonnull 6, 3), (21, .bipush (-3), 2), (23, .ireturn, 1), (24, .aload_n 0, 1), (25, .getfield 27, 3), (28, .aload_n 0, 1), (29, .getfield 30, 3), (32, .iload_n 1, 1), (33, .aaload, 1), (34, .invokevirtual 257, 3), (37, .iconst 1, 1), (38, .ireturn, 1)]
theorem dzX7_from : dz cX7_from rwX7_from := dz_all 0 (by decide +kernel)
def kX7_from (Ret : an_R) : an_code := [(0, an_lf (fun live => am_iload 1 1)), (1, an_lf (fun live => am_const (.int 0) 2)), (2, an_lf (fun live => am_const (.int 1) 3)), (3, an_lf (fun live => am_callS live 3 TX7_within 6)), (6, an_lf (fun live => am_if1 (fun x => x = 0) 9 12)), (9, an_lf (fun live => am_const (.int (-2)) 11)), (11, an_retI Ret), (12, an_lf (fun live => am_aload 0 13)), (13, an_lf (fun live => am_getR live 7 1 16)), (16, an_lf (fun live => am_iload 1 17)), (17, an_aldN 4 18), (18, an_ifnn 24 21), (21, an_lf (fun live => am_const (.int (-3)) 23)), (23, an_retI Ret), (24, an_lf (fun live => am_aload 0 25)), (25, an_lf (fun live => am_getR live 7 0 28)), (28, an_lf (fun live => am_aload 0 29)), (29, an_lf (fun live => am_getR live 7 1 32)), (32, an_lf (fun live => am_iload 1 33)), (33, an_lf (fun live => am_aald live 4 34)), (34, an_lf (fun live => am_callV live 0 1 TX0_takeOver 37)), (37, an_lf (fun live => am_const (.int 1) 38)), (38, an_retI Ret)]
theorem koX7_from (Ret : an_R) : ∀ q ∈ kX7_from Ret, an_ok RX7 cX7_from 2 (some .int) 3 74 0 0 false (fun _ _ _ => True) Ret q.1 q.2 :=
  am_kz dzX7_from <|
  an_kd (fun d => an_lift (fun live => ak_iload_n d rfl rfl)) <|
  an_kd (fun d => an_lift (fun live => ak_iconst d (by decide +kernel) rfl)) <|
  an_kd (fun d => an_lift (fun live => ak_iconst d (by decide +kernel) rfl)) <|
  an_kd (fun d => an_lift (fun live => ak_callS metX7_within ⟨rfl, hy_X7_within⟩ (am_w4 wd_418 wd_419 wd_58 wd_420) (by decide) d rfl)) <|
  an_kd (fun d => an_lift (fun live => ak_if_ne d (by decide +kernel) rfl)) <|
  an_kd (fun d => an_lift (fun live => ak_bipush d (by decide +kernel) rfl)) <|
  an_kd (fun d => nk_retI d) <|
  an_kd (fun d => an_lift (fun live => ak_aload_n d rfl rfl)) <|
  an_kd (fun d => an_lift (fun live => ak_getR (C := RX7) (T := TX7) (N := 4) rfl inX7w (by decide) rfl rfl rfl wd_391 d rfl)) <|
  an_kd (fun d => an_lift (fun live => ak_iload_n d rfl rfl)) <|
  an_kd (fun d => nk_aldN (t := 4) (fun _ => rfl) rfl d rfl) <|
  an_kd (fun d => nk_ifnn d (by decide +kernel) rfl) <|
  an_kd (fun d => an_lift (fun live => ak_bipush d (by decide +kernel) rfl)) <|
  an_kd (fun d => nk_retI d) <|
  an_kd (fun d => an_lift (fun live => ak_aload_n d rfl rfl)) <|
  an_kd (fun d => an_lift (fun live => ak_getR (C := RX7) (T := TX7) (N := 4) rfl inX7w (by decide) rfl rfl rfl wd_390 d rfl)) <|
  an_kd (fun d => an_lift (fun live => ak_aload_n d rfl rfl)) <|
  an_kd (fun d => an_lift (fun live => ak_getR (C := RX7) (T := TX7) (N := 4) rfl inX7w (by decide) rfl rfl rfl wd_391 d rfl)) <|
  an_kd (fun d => an_lift (fun live => ak_iload_n d rfl rfl)) <|
  an_kd (fun d => an_lift (fun live => ak_aald (t := 4) (fun _ => rfl) rfl d rfl)) <|
  an_kd (fun d => an_lift (fun live => ak_callV (C := RX0) (F := TX0) (N := 13) metX0_takeOver rfl ⟨rfl, hy_X0_takeOver⟩ (am_w5 wd_836 wd_837 wd_838 wd_61 wd_839) (by decide) d rfl)) <|
  an_kd (fun d => an_lift (fun live => ak_iconst d (by decide +kernel) rfl)) <|
  an_kd (fun d => nk_retI d) <| an_kdn
def TX7_from : an_T := fun E as M R => match as with
  | [.ref n, .int i] => ∃ i1 i2, E = (am_lv i1 i2, am_q i1 i2) ∧ n = 0 ∧ (¬ (0 ≤ i ∧ i ≤ 1) → R (some (.int (-2))) E M) ∧ (i = 0 → i1 = false → R (some (.int (-3))) E M) ∧ (i = 1 → i2 = false → R (some (.int (-3))) E M) ∧ (i = 0 → i1 = true → ∀ M', g_cs 20 60 g_sh0 M M' → R (some (.int 1)) E M') ∧ (i = 1 → i2 = true → ∀ M', g_cs 20 100 g_sh0 M M' → R (some (.int 1)) E M')
  | _ => False
set_option maxRecDepth 100000 in
set_option maxHeartbeats 4000000 in
theorem metX7_from : an_Met yX7_from cX7_from 2 (some .int) (3) (74) 0 0 TX7_from := by
  refine an_met (own := RX7) (ini := false) (by decide +kernel) rfl (fun h => by cases h) kX7_from koX7_from 100 (fun _ _ _ _ _ => none) (fun live as M Ret h => ?_) (fun _ _ _ _ _ _ _ _ hI => by cases hI)
  unfold TX7_from at h
  split at h
  · next n i =>
    refine ⟨Nat.le_of_ble_eq_true rfl, ?_⟩
    change an_wp _ _ _ _ [(0, Value.ref n), (1, Value.int i)] _ _
    obtain ⟨i1, i2, rfl, rfl, hb, h0, h1, g0, g1⟩ := h
    by_cases hc : 0 ≤ i ∧ i ≤ 1
    · have hs : i = 0 ∨ i = 1 := by
        simp only [i_le, i_eq, Int32.reduceToInt] at hc ⊢
        omega
      rcases hs with rfl | rfl
      · cases i1 with
        | false =>
          have h := h0 rfl rfl
          repeat' (first | (with_reducible exact h) | apply And.intro | exact rfl | (intro hx; exact absurd hx (by decide)) | (intro hx; exact absurd (by decide) hx) | decide | intro hx | (refine Exists.intro _ (And.intro rfl ?_)))
          all_goals try first | (with_reducible change am_tI _ _) | (change Ret _ _) | (change Ret _ _ _) | (change Exists _)
          all_goals try dsimp only at *
          all_goals try (with_reducible exact absurd ‹(1000 : Int64) = 0› am_z1000)
          all_goals first
            | (with_reducible exact h)
            | exact h
            | exact ⟨_, _, rfl⟩
        | true =>
          have h := g0 rfl rfl
          have hmn : am_mn (am_lv true i2, am_q true i2) := ⟨_, _, rfl⟩
          have hpr : g_pair 20 60 := by unfold g_pair; decide
          repeat' (first | (with_reducible exact hmn) | (with_reducible exact hpr) | apply And.intro | exact rfl | (intro hx; exact absurd hx (by decide)) | (intro hx; exact absurd (by decide) hx) | decide | intro hx | (refine Exists.intro _ (And.intro rfl ?_)))
          all_goals try first | (with_reducible change am_tI _ _) | (change Ret _ _) | (change Ret _ _ _) | (change Exists _)
          all_goals try dsimp only at *
          all_goals try (with_reducible exact absurd ‹(1000 : Int64) = 0› am_z1000)
          all_goals first
            | exact h _ (by with_reducible assumption)
            | exact ⟨_, _, rfl⟩
      · cases i2 with
        | false =>
          have h := h1 rfl rfl
          repeat' (first | (with_reducible exact h) | apply And.intro | exact rfl | (intro hx; exact absurd hx (by decide)) | (intro hx; exact absurd (by decide) hx) | decide | intro hx | (refine Exists.intro _ (And.intro rfl ?_)))
          all_goals try first | (with_reducible change am_tI _ _) | (change Ret _ _) | (change Ret _ _ _) | (change Exists _)
          all_goals try dsimp only at *
          all_goals try (with_reducible exact absurd ‹(1000 : Int64) = 0› am_z1000)
          all_goals first
            | (with_reducible exact h)
            | exact h
            | exact ⟨_, _, rfl⟩
        | true =>
          have h := g1 rfl rfl
          have hmn : am_mn (am_lv i1 true, am_q i1 true) := ⟨_, _, rfl⟩
          have hpr : g_pair 20 100 := by unfold g_pair; decide
          repeat' (first | (with_reducible exact hmn) | (with_reducible exact hpr) | apply And.intro | exact rfl | (intro hx; exact absurd hx (by decide)) | (intro hx; exact absurd (by decide) hx) | decide | intro hx | (refine Exists.intro _ (And.intro rfl ?_)))
          all_goals try first | (with_reducible change am_tI _ _) | (change Ret _ _) | (change Ret _ _ _) | (change Exists _)
          all_goals try dsimp only at *
          all_goals try (with_reducible exact absurd ‹(1000 : Int64) = 0› am_z1000)
          all_goals first
            | exact h _ (by with_reducible assumption)
            | exact ⟨_, _, rfl⟩
    · have h := hb hc
      have hp : (if 0 ≤ i ∧ i ≤ 1 then (1 : Int32) else 0) = 0 := if_neg hc
      repeat' (first | (with_reducible exact h) | apply And.intro | exact rfl | (intro hx; with_reducible exact absurd hp hx) | intro hx | (refine Exists.intro _ (And.intro rfl ?_)))
      all_goals try first | (with_reducible change am_tI _ _) | (change Ret _ _) | (change Ret _ _ _) | (change Exists _)
      all_goals try dsimp only at *
      all_goals try (with_reducible exact absurd ‹(1000 : Int64) = 0› am_z1000)
      all_goals exact h
  · exact h.elim
set_option maxRecDepth 100000 in
theorem wd_835 : Cond.methodLink "LearnLoans" 256 yX0_init ∈ am_ws := am_wt4 (List.mem_of_getElem? (i := 58) (by rfl)) (by decide +kernel)
def rwX7_image : List dz_r := [(0, .iload_n 1, 1), (1, .iconst 0, 1), (2, .iconst 1, 1), (3, .invokestatic 55, 3), (6, .ifCond .ne 6, 3), (9, .bipush (-2), 2), (11, .ireturn, 1), (12, .aload_n 0, 1), (13, .getfield 30, 3), (16, .iload_n 1, 1), (17, .aaload, 1), (18, .ifnonnull 16, 3), (21, .aload_n 0, 1), (22, .getfield 30, 3), (25, .iload_n 1, 1), (26, .new 28, 3), (29, .dup, 1), (30, .invokespecial 256, 3), (33, .aastore, 1), (34, .aload_n 0, 1), (35, .getfield 30, 3), (38, .iload_n 1, 1), (39, .aaload, 1), (40, .aload_n 0, 1), (41, .getfield 27, 3), (44, .invokevirtual 257, 3), (47, .iconst 1, 1), (48, .ireturn, 1)]
theorem dzX7_image : dz cX7_image rwX7_image := dz_all 0 (by decide +kernel)
def kX7_image (n : Nat) (Ret : an_R) : an_code := [(0, an_lf (fun live => am_iload 1 1)), (1, an_lf (fun live => am_const (.int 0) 2)), (2, an_lf (fun live => am_const (.int 1) 3)), (3, an_lf (fun live => am_callS live 3 TX7_within 6)), (6, an_lf (fun live => am_if1 (fun x => x = 0) 9 12)), (9, an_lf (fun live => am_const (.int (-2)) 11)), (11, an_retI Ret), (12, an_lf (fun live => am_aload 0 13)), (13, an_lf (fun live => am_getR live 7 1 16)), (16, an_lf (fun live => am_iload 1 17)), (17, an_aldN 4 18), (18, an_ifnn 34 21), (21, an_lf (fun live => am_aload 0 22)), (22, an_lf (fun live => am_getR live 7 1 25)), (25, an_lf (fun live => am_iload 1 26)), (26, an_new 0 13 (fun L => n) 39 5272 29), (29, an_lf (fun live => am_dup 30)), (30, an_callI 0 0 TX0_init 39 5272 38 5259 33), (33, an_astR 4 0 34), (34, an_lf (fun live => am_aload 0 35)), (35, an_lf (fun live => am_getR live 7 1 38)), (38, an_lf (fun live => am_iload 1 39)), (39, an_lf (fun live => am_aald live 4 40)), (40, an_lf (fun live => am_aload 0 41)), (41, an_lf (fun live => am_getR live 7 0 44)), (44, an_lf (fun live => am_callV live 0 1 TX0_takeOver 47)), (47, an_lf (fun live => am_const (.int 1) 48)), (48, an_retI Ret)]
theorem koX7_image (n : Nat) (Ret : an_R) : ∀ q ∈ kX7_image n Ret, an_ok RX7 cX7_image 2 (some .int) 3 74 39 5272 false (fun _ _ _ => True) Ret q.1 q.2 :=
  am_kz dzX7_image <|
  an_kd (fun d => an_lift (fun live => ak_iload_n d rfl rfl)) <|
  an_kd (fun d => an_lift (fun live => ak_iconst d (by decide +kernel) rfl)) <|
  an_kd (fun d => an_lift (fun live => ak_iconst d (by decide +kernel) rfl)) <|
  an_kd (fun d => an_lift (fun live => ak_callS metX7_within ⟨rfl, hy_X7_within⟩ (am_w4 wd_418 wd_419 wd_58 wd_420) (by decide) d rfl)) <|
  an_kd (fun d => an_lift (fun live => ak_if_ne d (by decide +kernel) rfl)) <|
  an_kd (fun d => an_lift (fun live => ak_bipush d (by decide +kernel) rfl)) <|
  an_kd (fun d => nk_retI d) <|
  an_kd (fun d => an_lift (fun live => ak_aload_n d rfl rfl)) <|
  an_kd (fun d => an_lift (fun live => ak_getR (C := RX7) (T := TX7) (N := 4) rfl inX7w (by decide) rfl rfl rfl wd_391 d rfl)) <|
  an_kd (fun d => an_lift (fun live => ak_iload_n d rfl rfl)) <|
  an_kd (fun d => nk_aldN (t := 4) (fun _ => rfl) rfl d rfl) <|
  an_kd (fun d => nk_ifnn d (by decide +kernel) rfl) <|
  an_kd (fun d => an_lift (fun live => ak_aload_n d rfl rfl)) <|
  an_kd (fun d => an_lift (fun live => ak_getR (C := RX7) (T := TX7) (N := 4) rfl inX7w (by decide) rfl rfl rfl wd_391 d rfl)) <|
  an_kd (fun d => an_lift (fun live => ak_iload_n d rfl rfl)) <|
  an_kd (fun d => nk_new (C := RX0) (T := TX0) (N := 13) (ty := tyX0) rfl inX0w tyX0_ok rfl zX0 (am_w3 wd_388 wd_91 wd_61) d rfl) <|
  an_kd (fun d => an_lift (fun live => ak_dup d rfl)) <|
  an_kd (fun d => nk_callI metX0_init rfl hy_X0_init (am_w4 wd_61 wd_835 wd_93 wd_94) (by decide) d rfl) <|
  an_kd (fun d => nk_astR (t := 4) (ci := 0) (r0 := (RX0, TX0, 13)) (fun _ => rfl) rfl rfl d rfl) <|
  an_kd (fun d => an_lift (fun live => ak_aload_n d rfl rfl)) <|
  an_kd (fun d => an_lift (fun live => ak_getR (C := RX7) (T := TX7) (N := 4) rfl inX7w (by decide) rfl rfl rfl wd_391 d rfl)) <|
  an_kd (fun d => an_lift (fun live => ak_iload_n d rfl rfl)) <|
  an_kd (fun d => an_lift (fun live => ak_aald (t := 4) (fun _ => rfl) rfl d rfl)) <|
  an_kd (fun d => an_lift (fun live => ak_aload_n d rfl rfl)) <|
  an_kd (fun d => an_lift (fun live => ak_getR (C := RX7) (T := TX7) (N := 4) rfl inX7w (by decide) rfl rfl rfl wd_390 d rfl)) <|
  an_kd (fun d => an_lift (fun live => ak_callV (C := RX0) (F := TX0) (N := 13) metX0_takeOver rfl ⟨rfl, hy_X0_takeOver⟩ (am_w5 wd_836 wd_837 wd_838 wd_61 wd_839) (by decide) d rfl)) <|
  an_kd (fun d => an_lift (fun live => ak_iconst d (by decide +kernel) rfl)) <|
  an_kd (fun d => nk_retI d) <| an_kdn
def TX7_image : an_T := fun E as M R => match as with
  | [.ref n, .int i] => ∃ i1 i2, E = (am_lv i1 i2, am_q i1 i2) ∧ n = 0 ∧ (i = 0 → ∀ M', g_im 60 M M' → R (some (.int 1)) (am_lv true i2, am_q true i2) M') ∧ (i = 1 → ∀ M', g_im 100 M M' → R (some (.int 1)) (am_lv i1 true, am_q i1 true) M') ∧ (¬ (0 ≤ i ∧ i ≤ 1) → R (some (.int (-2))) E M)
  | _ => False
def TX7_imagen (m : Nat) : an_T := fun E as M R => match as with
  | [.ref n, .int i] => ∃ i1 i2, E = (am_lv i1 i2, am_q i1 i2) ∧ n = 0 ∧ ((i = 0 → m = 60) ∧ (i = 1 → m = 100)) ∧ (i = 0 → ∀ M', g_im 60 M M' → R (some (.int 1)) (am_lv true i2, am_q true i2) M') ∧ (i = 1 → ∀ M', g_im 100 M M' → R (some (.int 1)) (am_lv i1 true, am_q i1 true) M') ∧ (¬ (0 ≤ i ∧ i ≤ 1) → R (some (.int (-2))) E M)
  | _ => False
set_option maxRecDepth 100000 in
set_option maxHeartbeats 4000000 in
theorem metX7_imagen (n : Nat) : an_Met yX7_image cX7_image 2 (some .int) (3) (74) 39 5272 (TX7_imagen n) := by
  refine an_met (own := RX7) (ini := false) (by decide +kernel) rfl (fun h => by cases h) (kX7_image n ) (koX7_image n  ) 200 (fun _ _ _ _ _ => none) (fun live as M Ret h => ?_) (fun _ _ _ _ _ _ _ _ hI => by cases hI)
  unfold TX7_imagen at h
  split at h
  · next r i =>
    refine ⟨Nat.le_of_ble_eq_true rfl, ?_⟩
    change an_wp _ _ _ _ [(0, Value.ref r), (1, Value.int i)] _ _
    obtain ⟨i1, i2, rfl, rfl, ⟨g0, g1⟩, h0, h1, h2⟩ := h
    by_cases hc : 0 ≤ i ∧ i ≤ 1
    · have hs : i = 0 ∨ i = 1 := by
        simp only [i_le, i_eq, Int32.reduceToInt] at hc ⊢
        omega
      have hpr0 : g_pair 60 20 := by unfold g_pair; decide
      have hpr1 : g_pair 100 20 := by unfold g_pair; decide
      rcases hs with rfl | rfl
      · have h := h0 rfl
        have g := g0 rfl
        subst g
        cases i1 with
        | false =>
          rw [← an_EiG0] at h
          repeat' (first | (with_reducible exact hpr0) | apply And.intro | exact rfl | (intro hx; exact absurd hx (by decide)) | (intro hx; exact absurd (by decide) hx) | decide | intro hx | (refine Exists.intro _ (And.intro rfl ?_)))
          all_goals try first | (with_reducible change am_tI _ _) | (change Ret _ _) | (change Ret _ _ _) | (change Exists _)
          all_goals try dsimp only at *
          all_goals try (with_reducible exact absurd ‹(1000 : Int64) = 0› am_z1000)
          all_goals first
            | exact ⟨_, _, an_EiG0 _⟩
            | exact h _ (g_im_of (by decide) (by with_reducible assumption))
        | true =>
          have hmn : am_mn (am_lv true i2, am_q true i2) := ⟨_, _, rfl⟩
          repeat' (first | (with_reducible exact hmn) | (with_reducible exact hpr0) | apply And.intro | exact rfl | (intro hx; exact absurd hx (by decide)) | (intro hx; exact absurd (by decide) hx) | decide | intro hx | (refine Exists.intro _ (And.intro rfl ?_)))
          all_goals try first | (with_reducible change am_tI _ _) | (change Ret _ _) | (change Ret _ _ _) | (change Exists _)
          all_goals try dsimp only at *
          all_goals try (with_reducible exact absurd ‹(1000 : Int64) = 0› am_z1000)
          all_goals first
            | exact h _ (g_cs_im (by with_reducible assumption))
            | exact ⟨_, _, rfl⟩
      · have h := h1 rfl
        have g := g1 rfl
        subst g
        cases i2 with
        | false =>
          rw [← an_EiG1] at h
          repeat' (first | (with_reducible exact hpr1) | apply And.intro | exact rfl | (intro hx; exact absurd hx (by decide)) | (intro hx; exact absurd (by decide) hx) | decide | intro hx | (refine Exists.intro _ (And.intro rfl ?_)))
          all_goals try first | (with_reducible change am_tI _ _) | (change Ret _ _) | (change Ret _ _ _) | (change Exists _)
          all_goals try dsimp only at *
          all_goals try (with_reducible exact absurd ‹(1000 : Int64) = 0› am_z1000)
          all_goals first
            | exact ⟨_, _, an_EiG1 _⟩
            | exact h _ (g_im_of (by decide) (by with_reducible assumption))
        | true =>
          have hmn : am_mn (am_lv i1 true, am_q i1 true) := ⟨_, _, rfl⟩
          repeat' (first | (with_reducible exact hmn) | (with_reducible exact hpr1) | apply And.intro | exact rfl | (intro hx; exact absurd hx (by decide)) | (intro hx; exact absurd (by decide) hx) | decide | intro hx | (refine Exists.intro _ (And.intro rfl ?_)))
          all_goals try first | (with_reducible change am_tI _ _) | (change Ret _ _) | (change Ret _ _ _) | (change Exists _)
          all_goals try dsimp only at *
          all_goals try (with_reducible exact absurd ‹(1000 : Int64) = 0› am_z1000)
          all_goals first
            | exact h _ (g_cs_im (by with_reducible assumption))
            | exact ⟨_, _, rfl⟩
    · have h := h2 hc
      have hp : (if 0 ≤ i ∧ i ≤ 1 then (1 : Int32) else 0) = 0 := if_neg hc
      repeat' (first | (with_reducible exact h) | apply And.intro | exact rfl | (intro hx; with_reducible exact absurd hp hx) | intro hx | (refine Exists.intro _ (And.intro rfl ?_)))
      all_goals try first | (with_reducible change am_tI _ _) | (change Ret _ _) | (change Ret _ _ _) | (change Exists _)
      all_goals try dsimp only at *
      all_goals try (with_reducible exact absurd ‹(1000 : Int64) = 0› am_z1000)
      all_goals exact h
  · exact h.elim
theorem metX7_image : an_Met yX7_image cX7_image 2 (some .int) (3) (74) 39 5272 TX7_image := by
  intro l D cA al B live as M Ret hcl hT
  unfold TX7_image at hT
  split at hT
  · next n i =>
    obtain ⟨i1, i2, rfl, rfl, h0, h1, h2⟩ := hT
    by_cases hi : i = 1
    · exact metX7_imagen 100 l D cA al B _ _ M Ret hcl ⟨i1, i2, rfl, rfl, ⟨fun z => absurd (z.symm.trans hi) (by decide), fun _ => rfl⟩, h0, h1, h2⟩
    · exact metX7_imagen 60 l D cA al B _ _ M Ret hcl ⟨i1, i2, rfl, rfl, ⟨fun _ => rfl, fun z => absurd z hi⟩, h0, h1, h2⟩
  · exact hT.elim
end
-- part 50.ref.lean.txt
section
/-! general: the reference: basis -/
theorem j_le (x y : Int64) : x ≤ y ↔ x.toInt ≤ y.toInt := Int64.le_iff_toInt_le

theorem am_rI {Ret : am_R} {M : am_M} {x y : Int32} (h : Ret (some (.int x)) M) (e : x = y) : Ret (some (.int y)) M := e ▸ h
theorem r_off {c x : Int32} (h1 : 0 ≤ c.toInt ∧ c.toInt ≤ 10000) (h2 : 0 ≤ x.toInt ∧ x.toInt ≤ 10000) : (c + x).toInt = c.toInt + x.toInt := i_add (by omega) (by omega)
theorem r_mul {c x : Int32} (h1 : 0 ≤ c.toInt ∧ c.toInt ≤ 4000) (h2 : 0 ≤ x.toInt ∧ x.toInt ≤ 500) : (c * x).toInt = c.toInt * x.toInt := by
  have h3 := Int.mul_nonneg h1.1 h2.1
  have h4 : c.toInt * x.toInt ≤ 4000 * 500 := Int.mul_le_mul h1.2 h2.2 h2.1 (by decide)
  exact i_mul (by omega) (by omega)
/-- told, as the reference holds it -/
def r_T (M : am_M) : Prop := ∃ _ : Unit, (am_rg (M.1 201 0) 12 ∧ am_rg (M.1 201 1) 30 ∧ am_rg (M.1 201 2) 60 ∧ am_rg (M.1 201 3) 60 ∧ am_rg (M.1 201 4) 20 ∧ am_rg (M.1 201 5) 9) ∧ (∀ k, k < 480 → am_in (M.1 201 (34 + k)) 4) ∧ (∀ l, l < 30 → am_in (M.1 201 (2838 + 8 * l)) 12 ∧ am_in (M.1 201 (2839 + 8 * l)) 5) ∧ (∀ m, m < 60 → am_in (M.1 201 (3079 + 3 * m)) 5) ∧ ∀ t, t < 5 → am_rg (M.1 201 (3508 + t)) 50
/-- the reference's own: the plan that leads -/
def r_S (M : am_M) : Prop := M.1 200 7 = -1 ∨ am_in (M.1 200 7) 5
def r_I (M : am_M) : Prop := ∃ _ : Unit, r_T M ∧ r_S M
/-- nothing but the reference's own has changed -/
def r_sc (M M' : am_M) : Prop := ∃ _ : Unit, (∀ a b, (a < 200 ∨ (201 ≤ a ∧ a ≤ 203)) → M'.1 a b = M.1 a b ∧ M'.2 a b = M.2 a b) ∧ M'.1 200 3 = M.1 200 3 ∧ M'.1 200 7 = M.1 200 7
theorem r_sc.rf {M : am_M} : r_sc M M := ⟨(), fun _ _ _ => ⟨rfl, rfl⟩, rfl, rfl⟩
theorem r_sc.f3 {M M' : am_M} (h : r_sc M M') : M'.1 200 3 = M.1 200 3 := by obtain ⟨-, -, h, -⟩ := h; exact h
theorem r_sc.f7 {M M' : am_M} (h : r_sc M M') : M'.1 200 7 = M.1 200 7 := by obtain ⟨-, -, -, h⟩ := h; exact h
theorem r_sc.g {M M' : am_M} (h : r_sc M M') : ∀ a b, (a < 200 ∨ (201 ≤ a ∧ a ≤ 203)) → M'.1 a b = M.1 a b ∧ M'.2 a b = M.2 a b := by obtain ⟨-, h, -, -⟩ := h; exact h
theorem r_sc.tr {M M' M'' : am_M} (h : r_sc M M') (h2 : r_sc M' M'') : r_sc M M'' := 
  ⟨(), fun a b z => ⟨(h2.g a b z).1.trans (h.g a b z).1, (h2.g a b z).2.trans (h.g a b z).2⟩, h2.f3.trans h.f3, h2.f7.trans h.f7⟩
def r_b (n : Nat) : Bool := Nat.beq n 200 || Nat.ble 204 n
def r_bk (n k : Nat) : Bool := r_b n && !(Nat.beq n 200 && (Nat.beq k 3 || Nat.beq k 7))
theorem r_b_of {n : Nat} (h : r_b n = true) : n = 200 ∨ 204 ≤ n := by
  unfold r_b at h
  rcases Bool.or_eq_true _ _ |>.mp h with q | q
  · exact Or.inl (Nat.eq_of_beq_eq_true q)
  · exact Or.inr (Nat.le_of_ble_eq_true q)
theorem r_bk_of {n k : Nat} (h : r_bk n k = true) : (n = 200 ∨ 204 ≤ n) ∧ ¬ (n = 200 ∧ (k = 3 ∨ k = 7)) := by
  unfold r_bk at h
  rw [Bool.and_eq_true] at h
  refine ⟨r_b_of h.1, ?_⟩
  rintro ⟨rfl, rfl | rfl⟩ <;> exact absurd h.2 (by decide)
theorem r_sc.wI {M M' : am_M} {n k : Nat} {v : Int32} (h : r_sc M M') (hn : r_bk n k = true) : r_sc M (am_wI M' n k v) := by
  have h1 := r_bk_of hn
  refine h.tr ⟨(), fun a b z => ⟨?_, rfl⟩, ?_, ?_⟩
  · rw [am_wI_1, if_neg (fun q => by have := h1.1; omega)]
  · rw [am_wI_1, if_neg (fun q => h1.2 ⟨q.1.symm, Or.inl q.2.symm⟩)]
  · rw [am_wI_1, if_neg (fun q => h1.2 ⟨q.1.symm, Or.inr q.2.symm⟩)]
theorem r_sc.wJ {M M' : am_M} {n k : Nat} {v : Int64} (h : r_sc M M') (hn : r_b n = true) : r_sc M (am_wJ M' n k v) := by
  have h1 := r_b_of hn
  refine h.tr ⟨(), fun a b z => ⟨rfl, ?_⟩, rfl, rfl⟩
  rw [am_wJ_1, if_neg (fun q => by omega)]
theorem r_sc.i {M M' : am_M} (h : r_sc M M') (b : Nat) : M'.1 201 b = M.1 201 b := (h.g 201 b (Or.inr ⟨by decide, by decide⟩)).1
theorem r_I.t {M : am_M} (h : r_I M) : r_T M := by obtain ⟨-, h, -⟩ := h; exact h
theorem r_I.s {M : am_M} (h : r_I M) : r_S M := by obtain ⟨-, -, h⟩ := h; exact h
theorem r_T.cg {M M' : am_M} (h : r_T M) (e : ∀ b, M'.1 201 b = M.1 201 b) : r_T M' := by
  obtain ⟨-, ⟨h0, h1, h2, h3, h4, h5⟩, h6, h7, h8, h9⟩ := h
  refine ⟨(), ⟨?_, ?_, ?_, ?_, ?_, ?_⟩, fun k hk => ?_, fun l hl => ?_, fun m hm => ?_, fun t ht => ?_⟩
  · rw [e]; exact h0
  · rw [e]; exact h1
  · rw [e]; exact h2
  · rw [e]; exact h3
  · rw [e]; exact h4
  · rw [e]; exact h5
  · rw [e]; exact h6 k hk
  · rw [e, e]; exact h7 l hl
  · rw [e]; exact h8 m hm
  · rw [e]; exact h9 t ht
theorem r_I.n0 {M : am_M} (h : r_I M) : 0 ≤ (M.1 201 0).toInt ∧ (M.1 201 0).toInt ≤ 12 := by obtain ⟨-, ⟨h, -⟩, -⟩ := h.t; exact h.i
theorem r_I.n1 {M : am_M} (h : r_I M) : 0 ≤ (M.1 201 1).toInt ∧ (M.1 201 1).toInt ≤ 30 := by obtain ⟨-, ⟨-, h, -⟩, -⟩ := h.t; exact h.i
theorem r_I.n2 {M : am_M} (h : r_I M) : 0 ≤ (M.1 201 2).toInt ∧ (M.1 201 2).toInt ≤ 60 := by obtain ⟨-, ⟨-, -, h, -⟩, -⟩ := h.t; exact h.i
theorem r_I.n3 {M : am_M} (h : r_I M) : 0 ≤ (M.1 201 3).toInt ∧ (M.1 201 3).toInt ≤ 60 := by obtain ⟨-, ⟨-, -, -, h, -⟩, -⟩ := h.t; exact h.i
theorem r_I.n4 {M : am_M} (h : r_I M) : 0 ≤ (M.1 201 4).toInt ∧ (M.1 201 4).toInt ≤ 20 := by obtain ⟨-, ⟨-, -, -, -, h, -⟩, -⟩ := h.t; exact h.i
theorem r_I.n5 {M : am_M} (h : r_I M) : 0 ≤ (M.1 201 5).toInt ∧ (M.1 201 5).toInt ≤ 9 := by obtain ⟨-, ⟨-, -, -, -, -, h⟩, -⟩ := h.t; exact h.i
theorem r_I.ld {M : am_M} (h : r_I M) {k : Nat} (hk : k < 480) : am_in (M.1 201 (34 + k)) 4 := by obtain ⟨-, -, h, -⟩ := h.t; exact h k hk
theorem r_I.lo {M : am_M} (h : r_I M) {l : Nat} (hl : l < 30) : am_in (M.1 201 (2838 + 8 * l)) 12 ∧ am_in (M.1 201 (2839 + 8 * l)) 5 := by obtain ⟨-, -, -, h, -⟩ := h.t; exact h l hl
theorem r_I.mv {M : am_M} (h : r_I M) {m : Nat} (hm : m < 60) : am_in (M.1 201 (3079 + 3 * m)) 5 := by obtain ⟨-, -, -, -, h, -⟩ := h.t; exact h m hm
theorem r_I.tx {M : am_M} (h : r_I M) {t : Nat} (ht : t < 5) : 0 ≤ (M.1 201 (3508 + t)).toInt ∧ (M.1 201 (3508 + t)).toInt ≤ 50 := by obtain ⟨-, -, -, -, -, h⟩ := h.t; exact (h t ht).i
theorem r_I.cg {M M' : am_M} (h : r_I M) (c : ∀ b, M'.1 201 b = M.1 201 b) (e : M'.1 200 7 = M.1 200 7) : r_I M' := by
  obtain ⟨-, h1, h2⟩ := h
  refine ⟨(), h1.cg c, ?_⟩
  unfold r_S
  rw [e]
  exact h2
theorem r_I.sc {M M' : am_M} (h : r_I M) (c : r_sc M M') : r_I M' := h.cg c.i c.f7
theorem r_I.wJ {M : am_M} {n k : Nat} {v : Int64} (h : r_I M) : r_I (am_wJ M n k v) := by
  obtain ⟨-, h1, h2⟩ := h
  exact ⟨(), h1.cg (fun _ => rfl), h2⟩
def r_fre (n k : Nat) : Bool := r_b n && !(Nat.beq n 200 && Nat.beq k 7)
theorem r_I.wI {M : am_M} {n k : Nat} {v : Int32} (h : r_I M) (hn : r_fre n k = true) : r_I (am_wI M n k v) := by
  unfold r_fre at hn
  rw [Bool.and_eq_true] at hn
  have h1 := r_b_of hn.1
  refine h.cg (fun b => by rw [am_wI_1, if_neg (fun q => by omega)]) ?_
  rw [am_wI_1, if_neg]
  rintro ⟨rfl, rfl⟩
  exact absurd hn.2 (by decide)
/-- a number of an array of the reference's own -/
theorem r_I.wA {M : am_M} {n k : Nat} {v : Int32} (h : r_I M) (hn : Nat.ble 204 n = true) : r_I (am_wI M n k v) := by
  have h1 := Nat.le_of_ble_eq_true hn
  refine h.cg (fun b => by rw [am_wI_1, if_neg (fun q => by omega)]) ?_
  rw [am_wI_1, if_neg (fun q => by omega)]
def rwX8_in : List dz_r := [(0, .lload_n 0, 1), (1, .lload_n 2, 1), (2, .lcmp, 1), (3, .ifCond .lt 14, 3), (6, .lload_n 0, 1), (7, .lload 4, 2), (9, .lcmp, 1), (10, .ifCond .gt 7, 3), (13, .iconst 1, 1), (14, .goto 4, 3), (17, .iconst 0, 1), (18, .ireturn, 1)]
theorem dzX8_in : dz cX8_in rwX8_in := dz_all 0 (by decide +kernel)
def kX8_in (live : am_E) (Ret : am_R) : am_code := [(0, am_lload 0 1), (1, am_lload 2 2), (2, am_lcmp 3), (3, am_if1 (fun x => x < 0) 17 6), (6, am_lload 0 7), (7, am_lload 4 9), (9, am_lcmp 10), (10, am_if1 (fun x => 0 < x) 17 13), (13, am_const (.int 1) 14), (14, am_goto 18), (17, am_const (.int 0) 18), (18, am_retZ Ret)]
theorem koX8_in (live : am_E) (Ret : am_R) : ∀ q ∈ kX8_in live Ret, am_ok RX8 cX8_in 6 (some .boolean) 0 0 live Ret q.1 q.2 :=
  am_kz dzX8_in <|
  am_kd (fun d => ak_lload_n d rfl rfl) <|
  am_kd (fun d => ak_lload_n d rfl rfl) <|
  am_kd (fun d => ak_lcmp d rfl) <|
  am_kd (fun d => ak_if_lt d (by decide +kernel) rfl) <|
  am_kd (fun d => ak_lload_n d rfl rfl) <|
  am_kd (fun d => ak_lload d rfl) <|
  am_kd (fun d => ak_lcmp d rfl) <|
  am_kd (fun d => ak_if_gt d (by decide +kernel) rfl) <|
  am_kd (fun d => ak_iconst d (by decide +kernel) rfl) <|
  am_kd (fun d => ak_goto d (by decide +kernel)) <|
  am_kd (fun d => ak_iconst d (by decide +kernel) rfl) <|
  am_kd (fun d => ak_retZ d) <| am_kdn
def TX8_in : am_T := fun _ as M R => match as with
  | [.long v, .long a, .long b] => R (some (.int (if a ≤ v ∧ v ≤ b then 1 else 0))) M
  | _ => False
set_option maxRecDepth 100000 in
set_option maxHeartbeats 4000000 in
theorem metX8_in : am_Met yX8_in cX8_in 6 (some .boolean) (0) (0) TX8_in := by
  refine am_met (own := RX8) (by decide +kernel) rfl kX8_in koX8_in 60 (fun _ _ _ _ _ => none) (fun live as M Ret h => ?_) (fun _ _ _ _ _ _ _ _ hI => by cases hI)
  unfold TX8_in at h
  split at h
  · next v a b =>
    refine ⟨Nat.le_of_ble_eq_true rfl, ?_⟩
    change am_wp _ _ _ _ [(0, Value.long v), (2, Value.long a), (4, Value.long b)] _ _
    repeat' (first | apply And.intro | exact rfl | intro hx | (refine Exists.intro _ (And.intro rfl ?_)))
    all_goals try first | (with_reducible change am_tI _ _) | (change Ret _ _) | (change Ret _ _ _) | (change Exists _)
    all_goals try dsimp only at *
    all_goals try (with_reducible exact absurd ‹(1000 : Int64) = 0› am_z1000)
    all_goals first
      | (left; rfl)
      | (right; rfl)
      | exact am_rI h (by first | exact if_pos ⟨by simp only [lg_cmp_lt, lg_cmp_gt, Int64.lt_iff_toInt_lt, j_le] at *; omega, by simp only [lg_cmp_lt, lg_cmp_gt, Int64.lt_iff_toInt_lt, j_le] at *; omega⟩ | exact if_neg (fun z => by simp only [lg_cmp_lt, lg_cmp_gt, Int64.lt_iff_toInt_lt, j_le] at *; omega))
  · exact h.elim
set_option maxRecDepth 100000 in
theorem wd_985 : Cond.constantLong "LearnLoansModel" 64 39 ∈ am_ws := am_wt4 (List.mem_of_getElem? (i := 208) (by rfl)) (by decide +kernel)
theorem hy_X8_in : yX8_in.cls ≠ "java/lang/invoke/MethodHandle" ∧ yX8_in.cls ≠ "java/lang/invoke/VarHandle" ∧ (parseMethodDescriptor yX8_in.desc).map (fun d => d.parameters.length) = some 3 := ⟨by decide +kernel, by decide +kernel, by decide +kernel⟩
set_option maxRecDepth 100000 in
theorem wd_986 : Cond.methodLink "LearnLoansModel" 66 yX8_in ∈ am_ws := am_wt4 (List.mem_of_getElem? (i := 209) (by rfl)) (by decide +kernel)
set_option maxRecDepth 100000 in
theorem wd_987 : Cond.static yX8_in ∈ am_ws := am_wt4 (List.mem_of_getElem? (i := 210) (by rfl)) (by decide +kernel)
set_option maxRecDepth 100000 in
theorem wd_67 : Cond.initialized "LearnLoansModel" ∈ am_ws := am_wt1 (List.mem_of_getElem? (i := 10) (by rfl)) (by decide +kernel)
set_option maxRecDepth 100000 in
theorem wd_988 : Cond.code yX8_in cX8_in 6 (some .boolean) ∈ am_ws := am_wt4 (List.mem_of_getElem? (i := 211) (by rfl)) (by decide +kernel)
def rwX8_isYear : List dz_r := [(0, .iload_n 0, 1), (1, .i2l, 1), (2, .lconst 0, 1), (3, .ldc2_w 64, 3), (6, .invokestatic 66, 3), (9, .ireturn, 1)]
theorem dzX8_isYear : dz cX8_isYear rwX8_isYear := dz_all 0 (by decide +kernel)
def kX8_isYear (live : am_E) (Ret : am_R) : am_code := [(0, am_iload 0 1), (1, am_i2l 2), (2, am_const (.long 0) 3), (3, am_const (.long 39) 6), (6, am_callS live 3 TX8_in 9), (9, am_retZ Ret)]
theorem koX8_isYear (live : am_E) (Ret : am_R) : ∀ q ∈ kX8_isYear live Ret, am_ok RX8 cX8_isYear 1 (some .boolean) 1 25 live Ret q.1 q.2 :=
  am_kz dzX8_isYear <|
  am_kd (fun d => ak_iload_n d rfl rfl) <|
  am_kd (fun d => ak_i2l d rfl) <|
  am_kd (fun d => ak_lconst d (by decide +kernel) rfl) <|
  am_kd (fun d => ak_ldc2 wd_985 d rfl) <|
  am_kd (fun d => ak_callS metX8_in ⟨rfl, hy_X8_in⟩ (am_w4 wd_986 wd_987 wd_67 wd_988) (by decide) d rfl) <|
  am_kd (fun d => ak_retZ d) <| am_kdn
def TX8_isYear : am_T := fun _ as M R => match as with
  | [.int v] => R (some (.int (if (0 ≤ v ∧ v < 40) then 1 else 0))) M
  | _ => False
set_option maxRecDepth 100000 in
set_option maxHeartbeats 4000000 in
theorem metX8_isYear : am_Met yX8_isYear cX8_isYear 1 (some .boolean) (1) (25) TX8_isYear := by
  refine am_met (own := RX8) (by decide +kernel) rfl kX8_isYear koX8_isYear 60 (fun _ _ _ _ _ => none) (fun live as M Ret h => ?_) (fun _ _ _ _ _ _ _ _ hI => by cases hI)
  unfold TX8_isYear at h
  split at h
  · next v =>
    refine ⟨Nat.le_of_ble_eq_true rfl, ?_⟩
    change am_wp _ _ _ _ [(0, Value.int v)] _ _
    repeat' (first | apply And.intro | exact rfl | intro hx | (refine Exists.intro _ (And.intro rfl ?_)))
    all_goals try first | (with_reducible change am_tI _ _) | (change Ret _ _) | (change Ret _ _ _) | (change Exists _)
    all_goals try dsimp only at *
    all_goals try (with_reducible exact absurd ‹(1000 : Int64) = 0› am_z1000)
    all_goals first
      | (left; rfl)
      | exact Decidable.em _
      | (split <;> first | exact Or.inl rfl | exact Or.inr rfl)
      | exact am_rI h (by
          by_cases z : (0 ≤ v ∧ v < 40)
          · rw [if_pos z, if_pos (by simp only [i_le, i_lt, i_eq, j_le, Int32.toInt_toInt64, Int32.reduceToInt, Int64.reduceToInt, Int32.toInt_zero] at z ⊢; omega)]
          · rw [if_neg z, if_neg (fun q => z (by simp only [i_le, i_lt, i_eq, j_le, Int32.toInt_toInt64, Int32.reduceToInt, Int64.reduceToInt, Int32.toInt_zero] at q ⊢; omega))])
  · exact h.elim
set_option maxRecDepth 100000 in
theorem wd_1037 : Cond.constantLong "LearnLoansModel" 70 4 ∈ am_ws := am_wt5 (List.mem_of_getElem? (i := 20) (by rfl)) (by decide +kernel)
def rwX8_isPlan : List dz_r := [(0, .iload_n 0, 1), (1, .i2l, 1), (2, .lconst 0, 1), (3, .ldc2_w 70, 3), (6, .invokestatic 66, 3), (9, .ireturn, 1)]
theorem dzX8_isPlan : dz cX8_isPlan rwX8_isPlan := dz_all 0 (by decide +kernel)
def kX8_isPlan (live : am_E) (Ret : am_R) : am_code := [(0, am_iload 0 1), (1, am_i2l 2), (2, am_const (.long 0) 3), (3, am_const (.long 4) 6), (6, am_callS live 3 TX8_in 9), (9, am_retZ Ret)]
theorem koX8_isPlan (live : am_E) (Ret : am_R) : ∀ q ∈ kX8_isPlan live Ret, am_ok RX8 cX8_isPlan 1 (some .boolean) 1 25 live Ret q.1 q.2 :=
  am_kz dzX8_isPlan <|
  am_kd (fun d => ak_iload_n d rfl rfl) <|
  am_kd (fun d => ak_i2l d rfl) <|
  am_kd (fun d => ak_lconst d (by decide +kernel) rfl) <|
  am_kd (fun d => ak_ldc2 wd_1037 d rfl) <|
  am_kd (fun d => ak_callS metX8_in ⟨rfl, hy_X8_in⟩ (am_w4 wd_986 wd_987 wd_67 wd_988) (by decide) d rfl) <|
  am_kd (fun d => ak_retZ d) <| am_kdn
def TX8_isPlan : am_T := fun _ as M R => match as with
  | [.int v] => R (some (.int (if (0 ≤ v ∧ v < 5) then 1 else 0))) M
  | _ => False
set_option maxRecDepth 100000 in
set_option maxHeartbeats 4000000 in
theorem metX8_isPlan : am_Met yX8_isPlan cX8_isPlan 1 (some .boolean) (1) (25) TX8_isPlan := by
  refine am_met (own := RX8) (by decide +kernel) rfl kX8_isPlan koX8_isPlan 60 (fun _ _ _ _ _ => none) (fun live as M Ret h => ?_) (fun _ _ _ _ _ _ _ _ hI => by cases hI)
  unfold TX8_isPlan at h
  split at h
  · next v =>
    refine ⟨Nat.le_of_ble_eq_true rfl, ?_⟩
    change am_wp _ _ _ _ [(0, Value.int v)] _ _
    repeat' (first | apply And.intro | exact rfl | intro hx | (refine Exists.intro _ (And.intro rfl ?_)))
    all_goals try first | (with_reducible change am_tI _ _) | (change Ret _ _) | (change Ret _ _ _) | (change Exists _)
    all_goals try dsimp only at *
    all_goals try (with_reducible exact absurd ‹(1000 : Int64) = 0› am_z1000)
    all_goals first
      | (left; rfl)
      | exact Decidable.em _
      | (split <;> first | exact Or.inl rfl | exact Or.inr rfl)
      | exact am_rI h (by
          by_cases z : (0 ≤ v ∧ v < 5)
          · rw [if_pos z, if_pos (by simp only [i_le, i_lt, i_eq, j_le, Int32.toInt_toInt64, Int32.reduceToInt, Int64.reduceToInt, Int32.toInt_zero] at z ⊢; omega)]
          · rw [if_neg z, if_neg (fun q => z (by simp only [i_le, i_lt, i_eq, j_le, Int32.toInt_toInt64, Int32.reduceToInt, Int64.reduceToInt, Int32.toInt_zero] at q ⊢; omega))])
  · exact h.elim
set_option maxRecDepth 100000 in
theorem wd_1041 : Cond.constantLong "LearnLoansModel" 102 5 ∈ am_ws := am_wt5 (List.mem_of_getElem? (i := 24) (by rfl)) (by decide +kernel)
def rwX8_isWhat : List dz_r := [(0, .iload_n 0, 1), (1, .i2l, 1), (2, .lconst 0, 1), (3, .ldc2_w 102, 3), (6, .invokestatic 66, 3), (9, .ireturn, 1)]
theorem dzX8_isWhat : dz cX8_isWhat rwX8_isWhat := dz_all 0 (by decide +kernel)
def kX8_isWhat (live : am_E) (Ret : am_R) : am_code := [(0, am_iload 0 1), (1, am_i2l 2), (2, am_const (.long 0) 3), (3, am_const (.long 5) 6), (6, am_callS live 3 TX8_in 9), (9, am_retZ Ret)]
theorem koX8_isWhat (live : am_E) (Ret : am_R) : ∀ q ∈ kX8_isWhat live Ret, am_ok RX8 cX8_isWhat 1 (some .boolean) 1 25 live Ret q.1 q.2 :=
  am_kz dzX8_isWhat <|
  am_kd (fun d => ak_iload_n d rfl rfl) <|
  am_kd (fun d => ak_i2l d rfl) <|
  am_kd (fun d => ak_lconst d (by decide +kernel) rfl) <|
  am_kd (fun d => ak_ldc2 wd_1041 d rfl) <|
  am_kd (fun d => ak_callS metX8_in ⟨rfl, hy_X8_in⟩ (am_w4 wd_986 wd_987 wd_67 wd_988) (by decide) d rfl) <|
  am_kd (fun d => ak_retZ d) <| am_kdn
def TX8_isWhat : am_T := fun _ as M R => match as with
  | [.int v] => R (some (.int (if (0 ≤ v ∧ v < 6) then 1 else 0))) M
  | _ => False
set_option maxRecDepth 100000 in
set_option maxHeartbeats 4000000 in
theorem metX8_isWhat : am_Met yX8_isWhat cX8_isWhat 1 (some .boolean) (1) (25) TX8_isWhat := by
  refine am_met (own := RX8) (by decide +kernel) rfl kX8_isWhat koX8_isWhat 60 (fun _ _ _ _ _ => none) (fun live as M Ret h => ?_) (fun _ _ _ _ _ _ _ _ hI => by cases hI)
  unfold TX8_isWhat at h
  split at h
  · next v =>
    refine ⟨Nat.le_of_ble_eq_true rfl, ?_⟩
    change am_wp _ _ _ _ [(0, Value.int v)] _ _
    repeat' (first | apply And.intro | exact rfl | intro hx | (refine Exists.intro _ (And.intro rfl ?_)))
    all_goals try first | (with_reducible change am_tI _ _) | (change Ret _ _) | (change Ret _ _ _) | (change Exists _)
    all_goals try dsimp only at *
    all_goals try (with_reducible exact absurd ‹(1000 : Int64) = 0› am_z1000)
    all_goals first
      | (left; rfl)
      | exact Decidable.em _
      | (split <;> first | exact Or.inl rfl | exact Or.inr rfl)
      | exact am_rI h (by
          by_cases z : (0 ≤ v ∧ v < 6)
          · rw [if_pos z, if_pos (by simp only [i_le, i_lt, i_eq, j_le, Int32.toInt_toInt64, Int32.reduceToInt, Int64.reduceToInt, Int32.toInt_zero] at z ⊢; omega)]
          · rw [if_neg z, if_neg (fun q => z (by simp only [i_le, i_lt, i_eq, j_le, Int32.toInt_toInt64, Int32.reduceToInt, Int64.reduceToInt, Int32.toInt_zero] at q ⊢; omega))])
  · exact h.elim
set_option maxRecDepth 100000 in
theorem wd_997 : Cond.constantLong "LearnLoansModel" 79 3 ∈ am_ws := am_wt4 (List.mem_of_getElem? (i := 220) (by rfl)) (by decide +kernel)
def rwX8_isLife : List dz_r := [(0, .iload_n 0, 1), (1, .i2l, 1), (2, .lconst 0, 1), (3, .ldc2_w 79, 3), (6, .invokestatic 66, 3), (9, .ireturn, 1)]
theorem dzX8_isLife : dz cX8_isLife rwX8_isLife := dz_all 0 (by decide +kernel)
def kX8_isLife (live : am_E) (Ret : am_R) : am_code := [(0, am_iload 0 1), (1, am_i2l 2), (2, am_const (.long 0) 3), (3, am_const (.long 3) 6), (6, am_callS live 3 TX8_in 9), (9, am_retZ Ret)]
theorem koX8_isLife (live : am_E) (Ret : am_R) : ∀ q ∈ kX8_isLife live Ret, am_ok RX8 cX8_isLife 1 (some .boolean) 1 25 live Ret q.1 q.2 :=
  am_kz dzX8_isLife <|
  am_kd (fun d => ak_iload_n d rfl rfl) <|
  am_kd (fun d => ak_i2l d rfl) <|
  am_kd (fun d => ak_lconst d (by decide +kernel) rfl) <|
  am_kd (fun d => ak_ldc2 wd_997 d rfl) <|
  am_kd (fun d => ak_callS metX8_in ⟨rfl, hy_X8_in⟩ (am_w4 wd_986 wd_987 wd_67 wd_988) (by decide) d rfl) <|
  am_kd (fun d => ak_retZ d) <| am_kdn
def TX8_isLife : am_T := fun _ as M R => match as with
  | [.int v] => R (some (.int (if (0 ≤ v ∧ v ≤ 3) then 1 else 0))) M
  | _ => False
set_option maxRecDepth 100000 in
set_option maxHeartbeats 4000000 in
theorem metX8_isLife : am_Met yX8_isLife cX8_isLife 1 (some .boolean) (1) (25) TX8_isLife := by
  refine am_met (own := RX8) (by decide +kernel) rfl kX8_isLife koX8_isLife 60 (fun _ _ _ _ _ => none) (fun live as M Ret h => ?_) (fun _ _ _ _ _ _ _ _ hI => by cases hI)
  unfold TX8_isLife at h
  split at h
  · next v =>
    refine ⟨Nat.le_of_ble_eq_true rfl, ?_⟩
    change am_wp _ _ _ _ [(0, Value.int v)] _ _
    repeat' (first | apply And.intro | exact rfl | intro hx | (refine Exists.intro _ (And.intro rfl ?_)))
    all_goals try first | (with_reducible change am_tI _ _) | (change Ret _ _) | (change Ret _ _ _) | (change Exists _)
    all_goals try dsimp only at *
    all_goals try (with_reducible exact absurd ‹(1000 : Int64) = 0› am_z1000)
    all_goals first
      | (left; rfl)
      | exact Decidable.em _
      | (split <;> first | exact Or.inl rfl | exact Or.inr rfl)
      | exact am_rI h (by
          by_cases z : (0 ≤ v ∧ v ≤ 3)
          · rw [if_pos z, if_pos (by simp only [i_le, i_lt, i_eq, j_le, Int32.toInt_toInt64, Int32.reduceToInt, Int64.reduceToInt, Int32.toInt_zero] at z ⊢; omega)]
          · rw [if_neg z, if_neg (fun q => z (by simp only [i_le, i_lt, i_eq, j_le, Int32.toInt_toInt64, Int32.reduceToInt, Int64.reduceToInt, Int32.toInt_zero] at q ⊢; omega))])
  · exact h.elim
set_option maxRecDepth 100000 in
theorem wd_1017 : Cond.constantLong "LearnLoansModel" 87 10000000 ∈ am_ws := am_wt5 (List.mem_of_getElem? (i := 0) (by rfl)) (by decide +kernel)
set_option maxRecDepth 100000 in
theorem wd_1045 : Cond.constantLong "LearnLoansModel" 94 1000 ∈ am_ws := am_wt5 (List.mem_of_getElem? (i := 28) (by rfl)) (by decide +kernel)
set_option maxRecDepth 100000 in
theorem wd_1008 : Cond.constantLong "LearnLoansModel" 85 500 ∈ am_ws := am_wt4 (List.mem_of_getElem? (i := 231) (by rfl)) (by decide +kernel)
set_option maxRecDepth 100000 in
theorem wd_1046 : Cond.constantLong "LearnLoansModel" 96 60 ∈ am_ws := am_wt5 (List.mem_of_getElem? (i := 29) (by rfl)) (by decide +kernel)
set_option maxRecDepth 100000 in
theorem wd_1047 : Cond.constantLong "LearnLoansModel" 98 9 ∈ am_ws := am_wt5 (List.mem_of_getElem? (i := 30) (by rfl)) (by decide +kernel)
set_option maxRecDepth 100000 in
theorem wd_1048 : Cond.constantLong "LearnLoansModel" 100 1000000 ∈ am_ws := am_wt5 (List.mem_of_getElem? (i := 31) (by rfl)) (by decide +kernel)
theorem dX8_mayBe_0 : decode cX8_mayBe 0 = .ok (.iload_n 0, 1) := by decide +kernel
theorem dX8_mayBe_1 : decode cX8_mayBe 1 = .ok (.tableswitch 85 0 4 #[35, 45, 55, 65, 75], 35) := by decide +kernel
theorem dX8_mayBe_36 : decode cX8_mayBe 36 = .ok (.iload_n 1, 1) := by decide +kernel
theorem dX8_mayBe_37 : decode cX8_mayBe 37 = .ok (.i2l, 1) := by decide +kernel
theorem dX8_mayBe_38 : decode cX8_mayBe 38 = .ok (.lconst 0, 1) := by decide +kernel
theorem dX8_mayBe_39 : decode cX8_mayBe 39 = .ok (.ldc2_w 87, 3) := by decide +kernel
theorem dX8_mayBe_42 : decode cX8_mayBe 42 = .ok (.invokestatic 66, 3) := by decide +kernel
theorem dX8_mayBe_45 : decode cX8_mayBe 45 = .ok (.ireturn, 1) := by decide +kernel
theorem dX8_mayBe_46 : decode cX8_mayBe 46 = .ok (.iload_n 1, 1) := by decide +kernel
theorem dX8_mayBe_47 : decode cX8_mayBe 47 = .ok (.i2l, 1) := by decide +kernel
theorem dX8_mayBe_48 : decode cX8_mayBe 48 = .ok (.lconst 0, 1) := by decide +kernel
theorem dX8_mayBe_49 : decode cX8_mayBe 49 = .ok (.ldc2_w 94, 3) := by decide +kernel
theorem dX8_mayBe_52 : decode cX8_mayBe 52 = .ok (.invokestatic 66, 3) := by decide +kernel
theorem dX8_mayBe_55 : decode cX8_mayBe 55 = .ok (.ireturn, 1) := by decide +kernel
theorem dX8_mayBe_56 : decode cX8_mayBe 56 = .ok (.iload_n 1, 1) := by decide +kernel
theorem dX8_mayBe_57 : decode cX8_mayBe 57 = .ok (.i2l, 1) := by decide +kernel
theorem dX8_mayBe_58 : decode cX8_mayBe 58 = .ok (.lconst 0, 1) := by decide +kernel
theorem dX8_mayBe_59 : decode cX8_mayBe 59 = .ok (.ldc2_w 85, 3) := by decide +kernel
theorem dX8_mayBe_62 : decode cX8_mayBe 62 = .ok (.invokestatic 66, 3) := by decide +kernel
theorem dX8_mayBe_65 : decode cX8_mayBe 65 = .ok (.ireturn, 1) := by decide +kernel
theorem dX8_mayBe_66 : decode cX8_mayBe 66 = .ok (.iload_n 1, 1) := by decide +kernel
theorem dX8_mayBe_67 : decode cX8_mayBe 67 = .ok (.i2l, 1) := by decide +kernel
theorem dX8_mayBe_68 : decode cX8_mayBe 68 = .ok (.lconst 1, 1) := by decide +kernel
theorem dX8_mayBe_69 : decode cX8_mayBe 69 = .ok (.ldc2_w 96, 3) := by decide +kernel
theorem dX8_mayBe_72 : decode cX8_mayBe 72 = .ok (.invokestatic 66, 3) := by decide +kernel
theorem dX8_mayBe_75 : decode cX8_mayBe 75 = .ok (.ireturn, 1) := by decide +kernel
theorem dX8_mayBe_76 : decode cX8_mayBe 76 = .ok (.iload_n 1, 1) := by decide +kernel
theorem dX8_mayBe_77 : decode cX8_mayBe 77 = .ok (.i2l, 1) := by decide +kernel
theorem dX8_mayBe_78 : decode cX8_mayBe 78 = .ok (.lconst 0, 1) := by decide +kernel
theorem dX8_mayBe_79 : decode cX8_mayBe 79 = .ok (.ldc2_w 98, 3) := by decide +kernel
theorem dX8_mayBe_82 : decode cX8_mayBe 82 = .ok (.invokestatic 66, 3) := by decide +kernel
theorem dX8_mayBe_85 : decode cX8_mayBe 85 = .ok (.ireturn, 1) := by decide +kernel
theorem dX8_mayBe_86 : decode cX8_mayBe 86 = .ok (.iload_n 1, 1) := by decide +kernel
theorem dX8_mayBe_87 : decode cX8_mayBe 87 = .ok (.i2l, 1) := by decide +kernel
theorem dX8_mayBe_88 : decode cX8_mayBe 88 = .ok (.lconst 0, 1) := by decide +kernel
theorem dX8_mayBe_89 : decode cX8_mayBe 89 = .ok (.ldc2_w 100, 3) := by decide +kernel
theorem dX8_mayBe_92 : decode cX8_mayBe 92 = .ok (.invokestatic 66, 3) := by decide +kernel
theorem dX8_mayBe_95 : decode cX8_mayBe 95 = .ok (.ireturn, 1) := by decide +kernel
def kX8_mayBe (live : am_E) (Ret : am_R) : am_code := [(0, am_iload 0 1), (1, am_switch [(0, 36), (1, 46), (2, 56), (3, 66), (4, 76)] 86), (36, am_iload 1 37), (37, am_i2l 38), (38, am_const (.long 0) 39), (39, am_const (.long 10000000) 42), (42, am_callS live 3 TX8_in 45), (45, am_retZ Ret), (46, am_iload 1 47), (47, am_i2l 48), (48, am_const (.long 0) 49), (49, am_const (.long 1000) 52), (52, am_callS live 3 TX8_in 55), (55, am_retZ Ret), (56, am_iload 1 57), (57, am_i2l 58), (58, am_const (.long 0) 59), (59, am_const (.long 500) 62), (62, am_callS live 3 TX8_in 65), (65, am_retZ Ret), (66, am_iload 1 67), (67, am_i2l 68), (68, am_const (.long 1) 69), (69, am_const (.long 60) 72), (72, am_callS live 3 TX8_in 75), (75, am_retZ Ret), (76, am_iload 1 77), (77, am_i2l 78), (78, am_const (.long 0) 79), (79, am_const (.long 9) 82), (82, am_callS live 3 TX8_in 85), (85, am_retZ Ret), (86, am_iload 1 87), (87, am_i2l 88), (88, am_const (.long 0) 89), (89, am_const (.long 1000000) 92), (92, am_callS live 3 TX8_in 95), (95, am_retZ Ret)]
theorem koX8_mayBe (live : am_E) (Ret : am_R) : ∀ q ∈ kX8_mayBe live Ret, am_ok RX8 cX8_mayBe 2 (some .boolean) 1 25 live Ret q.1 q.2 :=
  am_kc (ak_iload_n dX8_mayBe_0 rfl rfl) <|
  am_kc (ak_tswitch dX8_mayBe_1 (by decide +kernel) (by decide +kernel) (by decide +kernel) (by decide +kernel) (by decide +kernel) (by decide +kernel)) <|
  am_kc (ak_iload_n dX8_mayBe_36 rfl rfl) <|
  am_kc (ak_i2l dX8_mayBe_37 rfl) <|
  am_kc (ak_lconst dX8_mayBe_38 (by decide +kernel) rfl) <|
  am_kc (ak_ldc2 wd_1017 dX8_mayBe_39 rfl) <|
  am_kc (ak_callS metX8_in ⟨rfl, hy_X8_in⟩ (am_w4 wd_986 wd_987 wd_67 wd_988) (by decide) dX8_mayBe_42 rfl) <|
  am_kc (ak_retZ dX8_mayBe_45) <|
  am_kc (ak_iload_n dX8_mayBe_46 rfl rfl) <|
  am_kc (ak_i2l dX8_mayBe_47 rfl) <|
  am_kc (ak_lconst dX8_mayBe_48 (by decide +kernel) rfl) <|
  am_kc (ak_ldc2 wd_1045 dX8_mayBe_49 rfl) <|
  am_kc (ak_callS metX8_in ⟨rfl, hy_X8_in⟩ (am_w4 wd_986 wd_987 wd_67 wd_988) (by decide) dX8_mayBe_52 rfl) <|
  am_kc (ak_retZ dX8_mayBe_55) <|
  am_kc (ak_iload_n dX8_mayBe_56 rfl rfl) <|
  am_kc (ak_i2l dX8_mayBe_57 rfl) <|
  am_kc (ak_lconst dX8_mayBe_58 (by decide +kernel) rfl) <|
  am_kc (ak_ldc2 wd_1008 dX8_mayBe_59 rfl) <|
  am_kc (ak_callS metX8_in ⟨rfl, hy_X8_in⟩ (am_w4 wd_986 wd_987 wd_67 wd_988) (by decide) dX8_mayBe_62 rfl) <|
  am_kc (ak_retZ dX8_mayBe_65) <|
  am_kc (ak_iload_n dX8_mayBe_66 rfl rfl) <|
  am_kc (ak_i2l dX8_mayBe_67 rfl) <|
  am_kc (ak_lconst dX8_mayBe_68 (by decide +kernel) rfl) <|
  am_kc (ak_ldc2 wd_1046 dX8_mayBe_69 rfl) <|
  am_kc (ak_callS metX8_in ⟨rfl, hy_X8_in⟩ (am_w4 wd_986 wd_987 wd_67 wd_988) (by decide) dX8_mayBe_72 rfl) <|
  am_kc (ak_retZ dX8_mayBe_75) <|
  am_kc (ak_iload_n dX8_mayBe_76 rfl rfl) <|
  am_kc (ak_i2l dX8_mayBe_77 rfl) <|
  am_kc (ak_lconst dX8_mayBe_78 (by decide +kernel) rfl) <|
  am_kc (ak_ldc2 wd_1047 dX8_mayBe_79 rfl) <|
  am_kc (ak_callS metX8_in ⟨rfl, hy_X8_in⟩ (am_w4 wd_986 wd_987 wd_67 wd_988) (by decide) dX8_mayBe_82 rfl) <|
  am_kc (ak_retZ dX8_mayBe_85) <|
  am_kc (ak_iload_n dX8_mayBe_86 rfl rfl) <|
  am_kc (ak_i2l dX8_mayBe_87 rfl) <|
  am_kc (ak_lconst dX8_mayBe_88 (by decide +kernel) rfl) <|
  am_kc (ak_ldc2 wd_1048 dX8_mayBe_89 rfl) <|
  am_kc (ak_callS metX8_in ⟨rfl, hy_X8_in⟩ (am_w4 wd_986 wd_987 wd_67 wd_988) (by decide) dX8_mayBe_92 rfl) <|
  am_kc (ak_retZ dX8_mayBe_95) <| am_kn
def TX8_mayBe : am_T := fun _ as M R => match as with
  | [.int w, .int v] => (0 ≤ w ∧ w < 6) ∧ (am_isNum w v → R (some (.int 1)) M) ∧ (¬ am_isNum w v → R (some (.int 0)) M)
  | _ => False
set_option maxRecDepth 100000 in
set_option maxHeartbeats 4000000 in
theorem metX8_mayBe : am_Met yX8_mayBe cX8_mayBe 2 (some .boolean) (1) (25) TX8_mayBe := by
  refine am_met (own := RX8) (by decide +kernel) rfl kX8_mayBe koX8_mayBe 60 (fun _ _ _ _ _ => none) (fun live as M Ret h => ?_) (fun _ _ _ _ _ _ _ _ hI => by cases hI)
  unfold TX8_mayBe at h
  split at h
  · next w v =>
    refine ⟨Nat.le_of_ble_eq_true rfl, ?_⟩
    change am_wp _ _ _ _ [(0, Value.int w), (1, Value.int v)] _ _
    obtain ⟨hw, h1, h2⟩ := h
    have hs : w = 0 ∨ w = 1 ∨ w = 2 ∨ w = 3 ∨ w = 4 ∨ w = 5 := by
      simp only [i_le, i_lt, i_eq, Int32.reduceToInt] at hw ⊢
      omega
    rcases hs with rfl | rfl | rfl | rfl | rfl | rfl
    ·
      have e1 : am_sf 1 (0 : Int32).toNatClampNeg = 0 := rfl
      have e2 : am_sf 2 (0 : Int32).toNatClampNeg = 10000000 := rfl
      have hq : am_isNum 0 v ↔ ((0 : Int64) ≤ v.toInt64 ∧ v.toInt64 ≤ 10000000) := by
        unfold am_isNum
        rw [e1, e2]
        simp only [i_le, i_lt, i_eq, j_le, Int32.toInt_toInt64, Int32.reduceToInt, Int64.reduceToInt, Int32.toInt_zero]
        omega
      repeat' (first | apply And.intro | exact rfl | (intro hx; exact absurd hx (by decide)) | (intro hx; exact absurd (by decide) hx) | decide | intro hx | (refine Exists.intro _ (And.intro rfl ?_)))
      all_goals try first | (with_reducible change am_tI _ _) | (change Ret _ _) | (change Ret _ _ _) | (change Exists _)
      all_goals try dsimp only at *
      all_goals try (with_reducible exact absurd ‹(1000 : Int64) = 0› am_z1000)
      all_goals first
        | (split <;> first | exact Or.inl rfl | exact Or.inr rfl)
        | (by_cases z : am_isNum 0 v
           · exact am_rI (h1 z) (if_pos (hq.mp z)).symm
           · exact am_rI (h2 z) (if_neg (fun y => z (hq.mpr y))).symm)
    ·
      have e1 : am_sf 1 (1 : Int32).toNatClampNeg = 0 := rfl
      have e2 : am_sf 2 (1 : Int32).toNatClampNeg = 1000 := rfl
      have hq : am_isNum 1 v ↔ ((0 : Int64) ≤ v.toInt64 ∧ v.toInt64 ≤ 1000) := by
        unfold am_isNum
        rw [e1, e2]
        simp only [i_le, i_lt, i_eq, j_le, Int32.toInt_toInt64, Int32.reduceToInt, Int64.reduceToInt, Int32.toInt_zero]
        omega
      repeat' (first | apply And.intro | exact rfl | (intro hx; exact absurd hx (by decide)) | (intro hx; exact absurd (by decide) hx) | decide | intro hx | (refine Exists.intro _ (And.intro rfl ?_)))
      all_goals try first | (with_reducible change am_tI _ _) | (change Ret _ _) | (change Ret _ _ _) | (change Exists _)
      all_goals try dsimp only at *
      all_goals try (with_reducible exact absurd ‹(1000 : Int64) = 0› am_z1000)
      all_goals first
        | (split <;> first | exact Or.inl rfl | exact Or.inr rfl)
        | (by_cases z : am_isNum 1 v
           · exact am_rI (h1 z) (if_pos (hq.mp z)).symm
           · exact am_rI (h2 z) (if_neg (fun y => z (hq.mpr y))).symm)
    ·
      have e1 : am_sf 1 (2 : Int32).toNatClampNeg = 0 := rfl
      have e2 : am_sf 2 (2 : Int32).toNatClampNeg = 500 := rfl
      have hq : am_isNum 2 v ↔ ((0 : Int64) ≤ v.toInt64 ∧ v.toInt64 ≤ 500) := by
        unfold am_isNum
        rw [e1, e2]
        simp only [i_le, i_lt, i_eq, j_le, Int32.toInt_toInt64, Int32.reduceToInt, Int64.reduceToInt, Int32.toInt_zero]
        omega
      repeat' (first | apply And.intro | exact rfl | (intro hx; exact absurd hx (by decide)) | (intro hx; exact absurd (by decide) hx) | decide | intro hx | (refine Exists.intro _ (And.intro rfl ?_)))
      all_goals try first | (with_reducible change am_tI _ _) | (change Ret _ _) | (change Ret _ _ _) | (change Exists _)
      all_goals try dsimp only at *
      all_goals try (with_reducible exact absurd ‹(1000 : Int64) = 0› am_z1000)
      all_goals first
        | (split <;> first | exact Or.inl rfl | exact Or.inr rfl)
        | (by_cases z : am_isNum 2 v
           · exact am_rI (h1 z) (if_pos (hq.mp z)).symm
           · exact am_rI (h2 z) (if_neg (fun y => z (hq.mpr y))).symm)
    ·
      have e1 : am_sf 1 (3 : Int32).toNatClampNeg = 1 := rfl
      have e2 : am_sf 2 (3 : Int32).toNatClampNeg = 60 := rfl
      have hq : am_isNum 3 v ↔ ((1 : Int64) ≤ v.toInt64 ∧ v.toInt64 ≤ 60) := by
        unfold am_isNum
        rw [e1, e2]
        simp only [i_le, i_lt, i_eq, j_le, Int32.toInt_toInt64, Int32.reduceToInt, Int64.reduceToInt, Int32.toInt_zero]
        omega
      repeat' (first | apply And.intro | exact rfl | (intro hx; exact absurd hx (by decide)) | (intro hx; exact absurd (by decide) hx) | decide | intro hx | (refine Exists.intro _ (And.intro rfl ?_)))
      all_goals try first | (with_reducible change am_tI _ _) | (change Ret _ _) | (change Ret _ _ _) | (change Exists _)
      all_goals try dsimp only at *
      all_goals try (with_reducible exact absurd ‹(1000 : Int64) = 0› am_z1000)
      all_goals first
        | (split <;> first | exact Or.inl rfl | exact Or.inr rfl)
        | (by_cases z : am_isNum 3 v
           · exact am_rI (h1 z) (if_pos (hq.mp z)).symm
           · exact am_rI (h2 z) (if_neg (fun y => z (hq.mpr y))).symm)
    ·
      have e1 : am_sf 1 (4 : Int32).toNatClampNeg = 0 := rfl
      have e2 : am_sf 2 (4 : Int32).toNatClampNeg = 9 := rfl
      have hq : am_isNum 4 v ↔ ((0 : Int64) ≤ v.toInt64 ∧ v.toInt64 ≤ 9) := by
        unfold am_isNum
        rw [e1, e2]
        simp only [i_le, i_lt, i_eq, j_le, Int32.toInt_toInt64, Int32.reduceToInt, Int64.reduceToInt, Int32.toInt_zero]
        omega
      repeat' (first | apply And.intro | exact rfl | (intro hx; exact absurd hx (by decide)) | (intro hx; exact absurd (by decide) hx) | decide | intro hx | (refine Exists.intro _ (And.intro rfl ?_)))
      all_goals try first | (with_reducible change am_tI _ _) | (change Ret _ _) | (change Ret _ _ _) | (change Exists _)
      all_goals try dsimp only at *
      all_goals try (with_reducible exact absurd ‹(1000 : Int64) = 0› am_z1000)
      all_goals first
        | (split <;> first | exact Or.inl rfl | exact Or.inr rfl)
        | (by_cases z : am_isNum 4 v
           · exact am_rI (h1 z) (if_pos (hq.mp z)).symm
           · exact am_rI (h2 z) (if_neg (fun y => z (hq.mpr y))).symm)
    ·
      have e1 : am_sf 1 (5 : Int32).toNatClampNeg = 0 := rfl
      have e2 : am_sf 2 (5 : Int32).toNatClampNeg = 1000000 := rfl
      have hq : am_isNum 5 v ↔ ((0 : Int64) ≤ v.toInt64 ∧ v.toInt64 ≤ 1000000) := by
        unfold am_isNum
        rw [e1, e2]
        simp only [i_le, i_lt, i_eq, j_le, Int32.toInt_toInt64, Int32.reduceToInt, Int64.reduceToInt, Int32.toInt_zero]
        omega
      repeat' (first | apply And.intro | exact rfl | (intro hx; exact absurd hx (by decide)) | (intro hx; exact absurd (by decide) hx) | decide | intro hx | (refine Exists.intro _ (And.intro rfl ?_)))
      all_goals try first | (with_reducible change am_tI _ _) | (change Ret _ _) | (change Ret _ _ _) | (change Exists _)
      all_goals try dsimp only at *
      all_goals try (with_reducible exact absurd ‹(1000 : Int64) = 0› am_z1000)
      all_goals first
        | (split <;> first | exact Or.inl rfl | exact Or.inr rfl)
        | (by_cases z : am_isNum 5 v
           · exact am_rI (h1 z) (if_pos (hq.mp z)).symm
           · exact am_rI (h2 z) (if_neg (fun y => z (hq.mpr y))).symm)
  · exact h.elim
def rwX8_isPerson : List dz_r := [(0, .iload_n 1, 1), (1, .i2l, 1), (2, .lconst 0, 1), (3, .aload_n 0, 1), (4, .getfield 7, 3), (7, .iconst 0, 1), (8, .iaload, 1), (9, .iconst 1, 1), (10, .isub, 1), (11, .i2l, 1), (12, .invokestatic 66, 3), (15, .ireturn, 1)]
theorem dzX8_isPerson : dz cX8_isPerson rwX8_isPerson := dz_all 0 (by decide +kernel)
def kX8_isPerson (live : am_E) (Ret : am_R) : am_code := [(0, am_iload 1 1), (1, am_i2l 2), (2, am_const (.long 0) 3), (3, am_aload 0 4), (4, am_getR live 8 0 7), (7, am_const (.int 0) 8), (8, am_ald live 0 9), (9, am_const (.int 1) 10), (10, am_i2 (fun x y => x - y) 11), (11, am_i2l 12), (12, am_callS live 3 TX8_in 15), (15, am_retZ Ret)]
theorem koX8_isPerson (live : am_E) (Ret : am_R) : ∀ q ∈ kX8_isPerson live Ret, am_ok RX8 cX8_isPerson 2 (some .boolean) 1 25 live Ret q.1 q.2 :=
  am_kz dzX8_isPerson <|
  am_kd (fun d => ak_iload_n d rfl rfl) <|
  am_kd (fun d => ak_i2l d rfl) <|
  am_kd (fun d => ak_lconst d (by decide +kernel) rfl) <|
  am_kd (fun d => ak_aload_n d rfl rfl) <|
  am_kd (fun d => ak_getR (C := RX8) (T := TX8) (N := 27) rfl inX8w (by decide) rfl rfl rfl wd_895 d rfl) <|
  am_kd (fun d => ak_iconst d (by decide +kernel) rfl) <|
  am_kd (fun d => ak_iald (t := 0) (fun _ => rfl) rfl d rfl) <|
  am_kd (fun d => ak_iconst d (by decide +kernel) rfl) <|
  am_kd (fun d => ak_isub d rfl) <|
  am_kd (fun d => ak_i2l d rfl) <|
  am_kd (fun d => ak_callS metX8_in ⟨rfl, hy_X8_in⟩ (am_w4 wd_986 wd_987 wd_67 wd_988) (by decide) d rfl) <|
  am_kd (fun d => ak_retZ d) <| am_kdn
def TX8_isPerson : am_T := fun live as M R => match as with
  | [.ref n, .int v] => am_mn live ∧ n = 200 ∧ (0 ≤ (M.1 201 0).toInt ∧ (M.1 201 0).toInt ≤ 30) ∧ R (some (.int (if 0 ≤ v ∧ v < M.1 201 0 then 1 else 0))) M
  | _ => False
set_option maxRecDepth 100000 in
set_option maxHeartbeats 4000000 in
theorem metX8_isPerson : am_Met yX8_isPerson cX8_isPerson 2 (some .boolean) (1) (25) TX8_isPerson := by
  refine am_met (own := RX8) (by decide +kernel) rfl kX8_isPerson koX8_isPerson 60 (fun _ _ _ _ _ => none) (fun live as M Ret h => ?_) (fun _ _ _ _ _ _ _ _ hI => by cases hI)
  unfold TX8_isPerson at h
  split at h
  · next n v =>
    refine ⟨Nat.le_of_ble_eq_true rfl, ?_⟩
    change am_wp _ _ _ _ [(0, Value.ref n), (1, Value.int v)] _ _
    obtain ⟨⟨i1, i2, rfl⟩, rfl, hs, h⟩ := h
    have e1 := i_sub (x := M.1 201 0) (y := 1) (by simp only [Int32.reduceToInt]; omega) (by simp only [Int32.reduceToInt]; omega)
    simp only [Int32.reduceToInt] at e1
    repeat' (first | apply And.intro | exact rfl | (intro hx; exact absurd hx (by decide)) | (intro hx; exact absurd (by decide) hx) | decide | intro hx | (refine Exists.intro _ (And.intro rfl ?_)))
    all_goals try first | (with_reducible change am_tI _ _) | (change Ret _ _) | (change Ret _ _ _) | (change Exists _)
    all_goals try dsimp only at *
    all_goals try (with_reducible exact absurd ‹(1000 : Int64) = 0› am_z1000)
    all_goals first
      | (split <;> first | exact Or.inl rfl | exact Or.inr rfl)
      | exact am_rI h (by
          show _ = (if (0 : Int64) ≤ v.toInt64 ∧ v.toInt64 ≤ (M.1 201 0 - 1).toInt64 then (1 : Int32) else 0)
          by_cases z : 0 ≤ v ∧ v < M.1 201 0
          · rw [if_pos z, if_pos (by simp only [i_le, i_lt, j_le, Int32.toInt_toInt64, Int32.reduceToInt, Int64.reduceToInt, Int32.toInt_zero, e1] at z ⊢; omega)]
          · rw [if_neg z, if_neg (fun q => z (by simp only [i_le, i_lt, j_le, Int32.toInt_toInt64, Int32.reduceToInt, Int64.reduceToInt, Int32.toInt_zero, e1] at q ⊢; omega))])
  · exact h.elim
def rwX8_isLoan : List dz_r := [(0, .iload_n 1, 1), (1, .i2l, 1), (2, .lconst 0, 1), (3, .aload_n 0, 1), (4, .getfield 7, 3), (7, .iconst 1, 1), (8, .iaload, 1), (9, .iconst 1, 1), (10, .isub, 1), (11, .i2l, 1), (12, .invokestatic 66, 3), (15, .ireturn, 1)]
theorem dzX8_isLoan : dz cX8_isLoan rwX8_isLoan := dz_all 0 (by decide +kernel)
def kX8_isLoan (live : am_E) (Ret : am_R) : am_code := [(0, am_iload 1 1), (1, am_i2l 2), (2, am_const (.long 0) 3), (3, am_aload 0 4), (4, am_getR live 8 0 7), (7, am_const (.int 1) 8), (8, am_ald live 0 9), (9, am_const (.int 1) 10), (10, am_i2 (fun x y => x - y) 11), (11, am_i2l 12), (12, am_callS live 3 TX8_in 15), (15, am_retZ Ret)]
theorem koX8_isLoan (live : am_E) (Ret : am_R) : ∀ q ∈ kX8_isLoan live Ret, am_ok RX8 cX8_isLoan 2 (some .boolean) 1 25 live Ret q.1 q.2 :=
  am_kz dzX8_isLoan <|
  am_kd (fun d => ak_iload_n d rfl rfl) <|
  am_kd (fun d => ak_i2l d rfl) <|
  am_kd (fun d => ak_lconst d (by decide +kernel) rfl) <|
  am_kd (fun d => ak_aload_n d rfl rfl) <|
  am_kd (fun d => ak_getR (C := RX8) (T := TX8) (N := 27) rfl inX8w (by decide) rfl rfl rfl wd_895 d rfl) <|
  am_kd (fun d => ak_iconst d (by decide +kernel) rfl) <|
  am_kd (fun d => ak_iald (t := 0) (fun _ => rfl) rfl d rfl) <|
  am_kd (fun d => ak_iconst d (by decide +kernel) rfl) <|
  am_kd (fun d => ak_isub d rfl) <|
  am_kd (fun d => ak_i2l d rfl) <|
  am_kd (fun d => ak_callS metX8_in ⟨rfl, hy_X8_in⟩ (am_w4 wd_986 wd_987 wd_67 wd_988) (by decide) d rfl) <|
  am_kd (fun d => ak_retZ d) <| am_kdn
def TX8_isLoan : am_T := fun live as M R => match as with
  | [.ref n, .int v] => am_mn live ∧ n = 200 ∧ (0 ≤ (M.1 201 1).toInt ∧ (M.1 201 1).toInt ≤ 30) ∧ R (some (.int (if 0 ≤ v ∧ v < M.1 201 1 then 1 else 0))) M
  | _ => False
set_option maxRecDepth 100000 in
set_option maxHeartbeats 4000000 in
theorem metX8_isLoan : am_Met yX8_isLoan cX8_isLoan 2 (some .boolean) (1) (25) TX8_isLoan := by
  refine am_met (own := RX8) (by decide +kernel) rfl kX8_isLoan koX8_isLoan 60 (fun _ _ _ _ _ => none) (fun live as M Ret h => ?_) (fun _ _ _ _ _ _ _ _ hI => by cases hI)
  unfold TX8_isLoan at h
  split at h
  · next n v =>
    refine ⟨Nat.le_of_ble_eq_true rfl, ?_⟩
    change am_wp _ _ _ _ [(0, Value.ref n), (1, Value.int v)] _ _
    obtain ⟨⟨i1, i2, rfl⟩, rfl, hs, h⟩ := h
    have e1 := i_sub (x := M.1 201 1) (y := 1) (by simp only [Int32.reduceToInt]; omega) (by simp only [Int32.reduceToInt]; omega)
    simp only [Int32.reduceToInt] at e1
    repeat' (first | apply And.intro | exact rfl | (intro hx; exact absurd hx (by decide)) | (intro hx; exact absurd (by decide) hx) | decide | intro hx | (refine Exists.intro _ (And.intro rfl ?_)))
    all_goals try first | (with_reducible change am_tI _ _) | (change Ret _ _) | (change Ret _ _ _) | (change Exists _)
    all_goals try dsimp only at *
    all_goals try (with_reducible exact absurd ‹(1000 : Int64) = 0› am_z1000)
    all_goals first
      | (split <;> first | exact Or.inl rfl | exact Or.inr rfl)
      | exact am_rI h (by
          show _ = (if (0 : Int64) ≤ v.toInt64 ∧ v.toInt64 ≤ (M.1 201 1 - 1).toInt64 then (1 : Int32) else 0)
          by_cases z : 0 ≤ v ∧ v < M.1 201 1
          · rw [if_pos z, if_pos (by simp only [i_le, i_lt, j_le, Int32.toInt_toInt64, Int32.reduceToInt, Int64.reduceToInt, Int32.toInt_zero, e1] at z ⊢; omega)]
          · rw [if_neg z, if_neg (fun q => z (by simp only [i_le, i_lt, j_le, Int32.toInt_toInt64, Int32.reduceToInt, Int64.reduceToInt, Int32.toInt_zero, e1] at q ⊢; omega))])
  · exact h.elim
end
