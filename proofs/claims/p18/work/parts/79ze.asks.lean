/-! exact: owes, all, rate, over -/
theorem am_rL {Ret : am_R} {M : am_M} {x y : Int64} (h : Ret (some (.long x)) M) (e : x = y) : Ret (some (.long y)) M := e ▸ h
def r_mk (A B : Nat → Int32) : am_M := (fun a => if a = 201 then A else if a = 200 then B else fun _ => 0, fun _ _ => 0)
theorem r_cg {α : Type} {M N : am_M} (f : am_M → α) (hf : ∀ K, f K = f (r_mk (K.1 201) (K.1 200))) (h1 : N.1 201 = M.1 201) (h2 : N.1 200 = M.1 200) : f N = f M := by rw [hf N, hf M, h1, h2]
theorem r_yr_cg {M N : am_M} (h1 : N.1 201 = M.1 201) (h2 : N.1 200 = M.1 200) (p k : Int32) : r_yr N p k = r_yr M p k := by
  funext y
  unfold r_yr
  rw [r_cg (fun K => r_e K p k (Int32.ofNat y)) (fun _ => rfl) h1 h2, r_cg (fun K => r_la K p (Int32.ofNat y)) (fun _ => rfl) h1 h2, r_cg (fun K => r_dd K p (Int32.ofNat y)) (fun _ => rfl) h1 h2]
  exact r_cg (fun K => r_Y K p (Int32.ofNat y) (r_e M p k (Int32.ofNat y)) (r_la M p (Int32.ofNat y)) (r_dd M p (Int32.ofNat y)) 0) (fun _ => rfl) h1 h2
theorem r_R_cg {M N : am_M} (h1 : N.1 201 = M.1 201) (h2 : N.1 200 = M.1 200) (p k : Int32) (n : Nat) : r_R N p k n = r_R M p k n := by
  unfold r_R
  rw [r_yr_cg h1 h2]
theorem r_mine_cg {M N : am_M} (h1 : N.1 201 = M.1 201) (p : Int32) : r_mine N p (r_n N) = r_mine M p (r_n M) := by
  unfold r_mine r_n r_own r_lo
  rw [h1]
theorem g_sc.r1 {M N : am_M} (h : g_sc M N) {a : Nat} (ha : 11 ≤ a) : N.1 a = M.1 a := funext fun b => h.i b ha
theorem z_tog_cg {s s' : Nat → Int64} {w w' : Nat} : ∀ {ms : List Int32} {v : Int64}, (∀ l ∈ ms, s (w + l.toNatClampNeg) = s' (w' + l.toNatClampNeg)) → ms.foldl (fun v l => v + s (w + l.toNatClampNeg)) v = ms.foldl (fun v l => v + s' (w' + l.toNatClampNeg)) v
  | [], _, _ => rfl
  | a :: ms, v, h => by
    show ms.foldl _ (v + s (w + a.toNatClampNeg)) = ms.foldl _ (v + s' (w' + a.toNatClampNeg))
    rw [h a List.mem_cons_self]
    exact z_tog_cg (fun l hl => h l (List.mem_cons_of_mem _ hl))
section LXC
variable {i1 i2 : Bool} {M N N2 : am_M} {p k : Int32}
theorem LX.at (h : LX i1 i2 M) (hp : am_in p 12) (hp2 : p.toInt < (M.1 201 0).toInt) (hk : am_in k 40) (hb : c_bg M p k N) {u : Int32} (hu : -1 ≤ u.toInt ∧ u.toInt ≤ 39) (hs : c_st N2 = z_it (fun y => c_yr N (Int32.ofNat y)) (N.1 4 10).toNatClampNeg (c_nn (N.1 4 10) u) (c_st N)) {l : Int32} (hl : l ∈ r_mine M p (r_n M)) {w : Nat} (hw : w < 6) : N2.2 6 (30 * w + l.toNatClampNeg) = (r_R M p k (u.toInt + 1).toNat).1 (30 * w + l.toNatClampNeg) := ((h.go hp hp2 hk hb hu hs).1 l hl).1.1 w hw
theorem LX.tg (h : LX i1 i2 M) (hp : am_in p 12) (hp2 : p.toInt < (M.1 201 0).toInt) (hk : am_in k 40) (hb : c_bg M p k N) {u : Int32} (hu : -1 ≤ u.toInt ∧ u.toInt ≤ 39) (gn : c_gn N N2) (hs : c_st N2 = z_it (fun y => c_yr N (Int32.ofNat y)) (N.1 4 10).toNatClampNeg (c_nn (N.1 4 10) u) (c_st N)) {w : Nat} (hw : w < 6) : z_tog (N2.2 6) (30 * w) (c_ms N2 (c_sz N2)) = z_tog (r_R M p k (u.toInt + 1).toNat).1 (30 * w) (r_mine M p (r_n M)) := by
  have em : c_ms N2 (c_sz N2) = r_mine M p (r_n M) := by
    rw [← h.li.mine, ← hb.ms]
    unfold c_ms c_sz
    rw [gn.i (by decide) (fun q => absurd q.2 (by decide))]
    refine List.map_congr_left (fun j _ => ?_)
    rw [gn.i (by decide) (fun q => absurd q.1 (by decide))]
  rw [em]
  unfold z_tog
  exact z_tog_cg (fun l hl => h.at hp hp2 hk hb hu hs hl hw)
end LXC
def kX7_togetherE (live : am_E) (Ret : am_R) : am_code := [(0, am_aload 0 1), (1, am_getR live 7 2 4), (4, am_iload 1 5), (5, am_iload 3 6), (6, am_callV live 4 2 TE4_begin 9), (9, am_aload 0 10), (10, am_getR live 7 2 13), (13, am_iload 2 14), (14, am_callV live 4 1 TE4_go 17), (17, am_aload 0 18), (18, am_getR live 7 2 21), (21, am_iload 4 23), (23, am_callV live 4 1 TE4_together 26), (26, am_retL Ret)]
theorem koX7_togetherE (live : am_E) (Ret : am_R) : ∀ q ∈ kX7_togetherE live Ret, am_ok RX7 cX7_together 5 (some .long) 5 124 live Ret q.1 q.2 :=
  am_kc (ak_aload_n dX7_together_0 rfl rfl) <|
  am_kc (ak_getR (C := RX7) (T := TX7) (N := 4) rfl inX7w (by decide) rfl rfl rfl wd_392 dX7_together_1 rfl) <|
  am_kc (ak_iload_n dX7_together_4 rfl rfl) <|
  am_kc (ak_iload_n dX7_together_5 rfl rfl) <|
  am_kc (ak_callV (C := RX4) (F := TX4) (N := 19) metX4_beginE rfl ⟨rfl, by decide +kernel, by decide +kernel, by decide +kernel⟩ (am_w5 wd_546 wd_547 wd_548 wd_60 wd_549) (by decide) dX7_together_6 rfl) <|
  am_kc (ak_aload_n dX7_together_9 rfl rfl) <|
  am_kc (ak_getR (C := RX7) (T := TX7) (N := 4) rfl inX7w (by decide) rfl rfl rfl wd_392 dX7_together_10 rfl) <|
  am_kc (ak_iload_n dX7_together_13 rfl rfl) <|
  am_kc (ak_callV (C := RX4) (F := TX4) (N := 19) metX4_goE rfl ⟨rfl, by decide +kernel, by decide +kernel, by decide +kernel⟩ (am_w5 wd_559 wd_560 wd_561 wd_60 wd_562) (by decide) dX7_together_14 rfl) <|
  am_kc (ak_aload_n dX7_together_17 rfl rfl) <|
  am_kc (ak_getR (C := RX7) (T := TX7) (N := 4) rfl inX7w (by decide) rfl rfl rfl wd_392 dX7_together_18 rfl) <|
  am_kc (ak_iload dX7_together_21 rfl) <|
  am_kc (ak_callV (C := RX4) (F := TX4) (N := 19) metX4_togetherE rfl ⟨rfl, by decide +kernel, by decide +kernel, by decide +kernel⟩ (am_w5 wd_649 wd_650 wd_651 wd_60 wd_652) (by decide) dX7_together_23 rfl) <|
  am_kc (ak_retL dX7_together_26) <| am_kn
def TE7_together : am_T := fun live as M R => match as with
  | [.ref n, .int p, .int y, .int k, .int w] => am_mn live ∧ n = 0 ∧ am_in p 12 ∧ p.toInt < (M.1 201 0).toInt ∧ (am_in y 40 ∧ am_in k 40) ∧ am_in w 6 ∧ (∃ i1 i2, LX i1 i2 M) ∧ ∀ M', g_sc M M' → g_rI M' → R (some (.long (z_tog (r_R M p k (y.toNatClampNeg + 1)).1 (30 * w.toNatClampNeg) (r_mine M p (r_n M))))) M'
  | _ => False
set_option maxRecDepth 100000 in
set_option maxHeartbeats 4000000 in
theorem metX7_togetherE : am_Met yX7_together cX7_together 5 (some .long) (5) (124) TE7_together := by
  refine am_met (own := RX7) (by decide +kernel) rfl kX7_togetherE koX7_togetherE 100 (fun _ _ _ _ _ => none) (fun live as M Ret h => ?_) (fun _ _ _ _ _ _ _ _ hI => by cases hI)
  unfold TE7_together at h
  split at h
  · next n p y k w =>
    refine ⟨Nat.le_of_ble_eq_true rfl, ?_⟩
    change am_wp _ _ _ _ [(0, Value.ref n), (1, Value.int p), (2, Value.int y), (3, Value.int k), (4, Value.int w)] _ _
    obtain ⟨hmn, rfl, hp, hp2, ⟨hy, hk⟩, hw, ⟨j1, j2, hX⟩, h⟩ := h
    have hmn2 := hmn
    obtain ⟨i1, i2, rfl⟩ := hmn2
    have hR := hX.li.g
    have hA := hX.li.cA
    have hn : 0 ≤ (M.1 33 2).toInt ∧ (M.1 33 2).toInt ≤ 30 := by rw [hX.li.e1]; exact hX.li.n1
    have cy := i_clamp hy.1
    have y39 : -1 ≤ y.toInt ∧ y.toInt ≤ 39 := ⟨by have := hy.1; omega, by have := hy.2; omega⟩
    repeat' (first | (with_reducible exact hmn) | (with_reducible exact hp) | (with_reducible exact hw) | (with_reducible exact hR) | (with_reducible exact hA) | (with_reducible exact hn) | apply And.intro | exact rfl | ((with_reducible change g_rI _); (with_reducible assumption)) | intro hx | (refine Exists.intro _ (And.intro rfl ?_)))
    all_goals try first | (with_reducible change am_tI _ _) | (change Ret _ _) | (change Ret _ _ _) | (change Exists _)
    all_goals try dsimp only at *
    all_goals try exact absurd ‹(1000 : Int64) = 0› (by decide)
    all_goals first
      | exact hX.t0.g (c_bg.sc (by with_reducible assumption))
      | exact hX.coa hp hp2 hk (by with_reducible assumption) (by with_reducible assumption)
      | (rw [(c_bg.f (by with_reducible assumption)).2.1]; decide)
      | skip
    rename_i N b1 r1 N2 g2 r2 s2
    refine am_rL (h N2 ((c_bg.sc b1).tr (c_gn.sc g2)) r2) ?_
    rw [hX.tg hp hp2 hk b1 y39 g2 s2 (g_cl hw), show (y.toInt + 1).toNat = y.toNatClampNeg + 1 by omega]
  · exact h.elim
def r_owesV (M : am_M) (l y k w : Int32) : Int64 := if 0 ≤ l ∧ l < M.1 201 1 then (if 0 ≤ y ∧ y < 40 then (if 0 ≤ k ∧ k < 40 then (if 0 ≤ w ∧ w ≤ 4 then (r_R M (r_lo M l 0) k (y.toNatClampNeg + 1)).1 (30 * w.toNatClampNeg + l.toNatClampNeg) else -2) else -2) else -2) else -2
def kX7_owesE (live : am_E) (Ret : am_R) : am_code := [(0, am_aload 0 1), (1, am_iload 1 2), (2, am_callV live 7 1 TX7_isLoan 5), (5, am_if1 (fun x => x = 0) 32 8), (8, am_iload 2 9), (9, am_callS live 1 TX7_isYear 12), (12, am_if1 (fun x => x = 0) 32 15), (15, am_iload 3 16), (16, am_callS live 1 TX7_isYear 19), (19, am_if1 (fun x => x = 0) 32 22), (22, am_iload 4 24), (24, am_const (.int 0) 25), (25, am_const (.int 4) 26), (26, am_callS live 3 TX7_within 29), (29, am_if1 (fun x => x = 0) 32 36), (32, am_const (.long (-2)) 35), (35, am_retL Ret), (36, am_aload 0 37), (37, am_getR live 7 2 40), (40, am_aload 0 41), (41, am_getR live 7 0 44), (44, am_getR live 0 4 47), (47, am_iload 1 48), (48, am_const (.int 0) 49), (49, am_callV live 3 2 TX3_at 52), (52, am_iload 3 53), (53, am_callV live 4 2 TE4_begin 56), (56, am_aload 0 57), (57, am_getR live 7 2 60), (60, am_iload 2 61), (61, am_callV live 4 1 TE4_go 64), (64, am_aload 0 65), (65, am_getR live 7 2 68), (68, am_getR live 4 2 71), (71, am_iload 4 73), (73, am_const (.int 30) 75), (75, am_i2 (fun x y => x * y) 76), (76, am_iload 1 77), (77, am_i2 (fun x y => x + y) 78), (78, am_lald live 1 79), (79, am_retL Ret)]
theorem koX7_owesE (live : am_E) (Ret : am_R) : ∀ q ∈ kX7_owesE live Ret, am_ok RX7 cX7_owes 5 (some .long) 5 124 live Ret q.1 q.2 :=
  am_kc (ak_aload_n dX7_owes_0 rfl rfl) <|
  am_kc (ak_iload_n dX7_owes_1 rfl rfl) <|
  am_kc (ak_callV (C := RX7) (F := TX7) (N := 4) metX7_isLoan rfl ⟨rfl, by decide +kernel, by decide +kernel, by decide +kernel⟩ (am_w5 wd_520 wd_522 wd_2 wd_58 wd_523) (by decide) dX7_owes_2 rfl) <|
  am_kc (ak_if_eq dX7_owes_5 (by decide +kernel) rfl) <|
  am_kc (ak_iload_n dX7_owes_8 rfl rfl) <|
  am_kc (ak_callS metX7_isYear ⟨rfl, by decide +kernel, by decide +kernel, by decide +kernel⟩ (am_w4 wd_407 wd_408 wd_58 wd_409) (by decide) dX7_owes_9 rfl) <|
  am_kc (ak_if_eq dX7_owes_12 (by decide +kernel) rfl) <|
  am_kc (ak_iload_n dX7_owes_15 rfl rfl) <|
  am_kc (ak_callS metX7_isYear ⟨rfl, by decide +kernel, by decide +kernel, by decide +kernel⟩ (am_w4 wd_407 wd_408 wd_58 wd_409) (by decide) dX7_owes_16 rfl) <|
  am_kc (ak_if_eq dX7_owes_19 (by decide +kernel) rfl) <|
  am_kc (ak_iload dX7_owes_22 rfl) <|
  am_kc (ak_iconst dX7_owes_24 (by decide +kernel) rfl) <|
  am_kc (ak_iconst dX7_owes_25 (by decide +kernel) rfl) <|
  am_kc (ak_callS metX7_within ⟨rfl, by decide +kernel, by decide +kernel, by decide +kernel⟩ (am_w4 wd_418 wd_419 wd_58 wd_420) (by decide) dX7_owes_26 rfl) <|
  am_kc (ak_if_ne dX7_owes_29 (by decide +kernel) rfl) <|
  am_kc (ak_ldc2 wd_545 dX7_owes_32 rfl) <|
  am_kc (ak_retL dX7_owes_35) <|
  am_kc (ak_aload_n dX7_owes_36 rfl rfl) <|
  am_kc (ak_getR (C := RX7) (T := TX7) (N := 4) rfl inX7w (by decide) rfl rfl rfl wd_392 dX7_owes_37 rfl) <|
  am_kc (ak_aload_n dX7_owes_40 rfl rfl) <|
  am_kc (ak_getR (C := RX7) (T := TX7) (N := 4) rfl inX7w (by decide) rfl rfl rfl wd_390 dX7_owes_41 rfl) <|
  am_kc (ak_getR (C := RX0) (T := TX0) (N := 13) rfl inX0w (by decide) rfl rfl rfl wd_207 dX7_owes_44 rfl) <|
  am_kc (ak_iload_n dX7_owes_47 rfl rfl) <|
  am_kc (ak_iconst dX7_owes_48 (by decide +kernel) rfl) <|
  am_kc (ak_callV (C := RX3) (F := TX3) (N := 3) metX3_at rfl ⟨rfl, by decide +kernel, by decide +kernel, by decide +kernel⟩ (am_w5 wd_524 wd_503 wd_504 wd_64 wd_505) (by decide) dX7_owes_49 rfl) <|
  am_kc (ak_iload_n dX7_owes_52 rfl rfl) <|
  am_kc (ak_callV (C := RX4) (F := TX4) (N := 19) metX4_beginE rfl ⟨rfl, by decide +kernel, by decide +kernel, by decide +kernel⟩ (am_w5 wd_546 wd_547 wd_548 wd_60 wd_549) (by decide) dX7_owes_53 rfl) <|
  am_kc (ak_aload_n dX7_owes_56 rfl rfl) <|
  am_kc (ak_getR (C := RX7) (T := TX7) (N := 4) rfl inX7w (by decide) rfl rfl rfl wd_392 dX7_owes_57 rfl) <|
  am_kc (ak_iload_n dX7_owes_60 rfl rfl) <|
  am_kc (ak_callV (C := RX4) (F := TX4) (N := 19) metX4_goE rfl ⟨rfl, by decide +kernel, by decide +kernel, by decide +kernel⟩ (am_w5 wd_559 wd_560 wd_561 wd_60 wd_562) (by decide) dX7_owes_61 rfl) <|
  am_kc (ak_aload_n dX7_owes_64 rfl rfl) <|
  am_kc (ak_getR (C := RX7) (T := TX7) (N := 4) rfl inX7w (by decide) rfl rfl rfl wd_392 dX7_owes_65 rfl) <|
  am_kc (ak_getR (C := RX4) (T := TX4) (N := 19) rfl inX4w (by decide) rfl rfl rfl wd_298 dX7_owes_68 rfl) <|
  am_kc (ak_iload dX7_owes_71 rfl) <|
  am_kc (ak_bipush dX7_owes_73 (by decide +kernel) rfl) <|
  am_kc (ak_imul dX7_owes_75 rfl) <|
  am_kc (ak_iload_n dX7_owes_76 rfl rfl) <|
  am_kc (ak_iadd dX7_owes_77 rfl) <|
  am_kc (ak_lald (t := 1) (fun _ => rfl) rfl dX7_owes_78 rfl) <|
  am_kc (ak_retL dX7_owes_79) <| am_kn
def TE7_owes : am_T := fun live as M R => match as with
  | [.ref n, .int l, .int y, .int k, .int w] => am_mn live ∧ n = 0 ∧ (∃ i1 i2, LX i1 i2 M) ∧ ∀ M', g_sc M M' → g_rI M' → R (some (.long (r_owesV M l y k w))) M'
  | _ => False
set_option maxRecDepth 100000 in
set_option maxHeartbeats 4000000 in
theorem metX7_owesE : am_Met yX7_owes cX7_owes 5 (some .long) (5) (124) TE7_owes := by
  refine am_met (own := RX7) (by decide +kernel) rfl kX7_owesE koX7_owesE 200 (fun _ _ _ _ _ => none) (fun live as M Ret h => ?_) (fun _ _ _ _ _ _ _ _ hI => by cases hI)
  unfold TE7_owes at h
  split at h
  · next n l y k w =>
    refine ⟨Nat.le_of_ble_eq_true rfl, ?_⟩
    change am_wp _ _ _ _ [(0, Value.ref n), (1, Value.int l), (2, Value.int y), (3, Value.int k), (4, Value.int w)] _ _
    obtain ⟨hmn, rfl, ⟨j1, j2, hX⟩, h⟩ := h
    have hmn2 := hmn
    obtain ⟨i1, i2, rfl⟩ := hmn2
    have hH := hX.li.h
    have hR := hX.li.g
    have hA := hX.li.cA
    have le1 := hX.li.e1
    have le0 := hX.li.e0
    have n1 := hX.li.n1
    have n0 := hX.li.n0
    have hn : 0 ≤ (M.1 33 2).toInt ∧ (M.1 33 2).toInt ≤ 30 := by rw [le1]; exact n1
    have htb := hX.t0
    by_cases z0 : 0 ≤ l ∧ l < M.1 33 2
    rotate_left
    · skip
      have q0 : (if 0 ≤ l ∧ l < M.1 33 2 then (1 : Int32) else 0) = 0 := if_neg z0
      have e : r_owesV M l y k w = -2 := by unfold r_owesV; rw [if_neg (fun q => z0 (by first | exact q | (rw [le1]; exact q) | (rw [le0]; exact q)))]
      rw [e] at h
      repeat' (first | (with_reducible exact hmn) | apply And.intro | exact rfl | (intro hx; with_reducible exact absurd q0 hx) | (intro hx; exact absurd hx (by decide)) | (intro hx; exact absurd (by decide) hx) | decide | intro hx | (refine Exists.intro _ (And.intro rfl ?_)))
      all_goals try first | (with_reducible change am_tI _ _) | (change Ret _ _) | (change Ret _ _ _) | (change Exists _)
      all_goals try dsimp only at *
      all_goals try exact absurd ‹(1000 : Int64) = 0› (by decide)
      all_goals exact h _ g_sc.rf hR
    · skip
      have q0 : ¬ ((if 0 ≤ l ∧ l < M.1 33 2 then (1 : Int32) else 0) = 0) := by rw [if_pos z0]; decide
      have y0 : 0 ≤ l ∧ l < M.1 201 1 := by first | exact z0 | (rw [← le1]; exact z0) | (rw [← le0]; exact z0)
      by_cases z1 : 0 ≤ y ∧ y < 40
      rotate_left
      · skip
        have q1 : (if 0 ≤ y ∧ y < 40 then (1 : Int32) else 0) = 0 := if_neg z1
        have e : r_owesV M l y k w = -2 := by unfold r_owesV; rw [if_pos y0, if_neg (fun q => z1 (by first | exact q | (rw [le1]; exact q) | (rw [le0]; exact q)))]
        rw [e] at h
        repeat' (first | (with_reducible exact hmn) | apply And.intro | exact rfl | (intro hx; with_reducible exact absurd hx q0) | (intro hx; with_reducible exact absurd q1 hx) | (intro hx; exact absurd hx (by decide)) | (intro hx; exact absurd (by decide) hx) | decide | intro hx | (refine Exists.intro _ (And.intro rfl ?_)))
        all_goals try first | (with_reducible change am_tI _ _) | (change Ret _ _) | (change Ret _ _ _) | (change Exists _)
        all_goals try dsimp only at *
        all_goals try exact absurd ‹(1000 : Int64) = 0› (by decide)
        all_goals exact h _ g_sc.rf hR
      · skip
        have q1 : ¬ ((if 0 ≤ y ∧ y < 40 then (1 : Int32) else 0) = 0) := by rw [if_pos z1]; decide
        have y1 : 0 ≤ y ∧ y < 40 := by first | exact z1 | (rw [← le1]; exact z1) | (rw [← le0]; exact z1)
        by_cases z2 : 0 ≤ k ∧ k < 40
        rotate_left
        · skip
          have q2 : (if 0 ≤ k ∧ k < 40 then (1 : Int32) else 0) = 0 := if_neg z2
          have e : r_owesV M l y k w = -2 := by unfold r_owesV; rw [if_pos y0, if_pos y1, if_neg (fun q => z2 (by first | exact q | (rw [le1]; exact q) | (rw [le0]; exact q)))]
          rw [e] at h
          repeat' (first | (with_reducible exact hmn) | apply And.intro | exact rfl | (intro hx; with_reducible exact absurd hx q0) | (intro hx; with_reducible exact absurd hx q1) | (intro hx; with_reducible exact absurd q2 hx) | (intro hx; exact absurd hx (by decide)) | (intro hx; exact absurd (by decide) hx) | decide | intro hx | (refine Exists.intro _ (And.intro rfl ?_)))
          all_goals try first | (with_reducible change am_tI _ _) | (change Ret _ _) | (change Ret _ _ _) | (change Exists _)
          all_goals try dsimp only at *
          all_goals try exact absurd ‹(1000 : Int64) = 0› (by decide)
          all_goals exact h _ g_sc.rf hR
        · skip
          have q2 : ¬ ((if 0 ≤ k ∧ k < 40 then (1 : Int32) else 0) = 0) := by rw [if_pos z2]; decide
          have y2 : 0 ≤ k ∧ k < 40 := by first | exact z2 | (rw [← le1]; exact z2) | (rw [← le0]; exact z2)
          by_cases z3 : 0 ≤ w ∧ w ≤ 4
          rotate_left
          · skip
            have q3 : (if 0 ≤ w ∧ w ≤ 4 then (1 : Int32) else 0) = 0 := if_neg z3
            have e : r_owesV M l y k w = -2 := by unfold r_owesV; rw [if_pos y0, if_pos y1, if_pos y2, if_neg (fun q => z3 (by first | exact q | (rw [le1]; exact q) | (rw [le0]; exact q)))]
            rw [e] at h
            repeat' (first | (with_reducible exact hmn) | apply And.intro | exact rfl | (intro hx; with_reducible exact absurd hx q0) | (intro hx; with_reducible exact absurd hx q1) | (intro hx; with_reducible exact absurd hx q2) | (intro hx; with_reducible exact absurd q3 hx) | (intro hx; exact absurd hx (by decide)) | (intro hx; exact absurd (by decide) hx) | decide | intro hx | (refine Exists.intro _ (And.intro rfl ?_)))
            all_goals try first | (with_reducible change am_tI _ _) | (change Ret _ _) | (change Ret _ _ _) | (change Exists _)
            all_goals try dsimp only at *
            all_goals try exact absurd ‹(1000 : Int64) = 0› (by decide)
            all_goals exact h _ g_sc.rf hR
          · skip
            have q3 : ¬ ((if 0 ≤ w ∧ w ≤ 4 then (1 : Int32) else 0) = 0) := by rw [if_pos z3]; decide
            have y3 : 0 ≤ w ∧ w ≤ 4 := by first | exact z3 | (rw [← le1]; exact z3) | (rw [← le0]; exact z3)
            have e : r_owesV M l y k w = (r_R M (r_lo M l 0) k (y.toNatClampNeg + 1)).1 (30 * w.toNatClampNeg + l.toNatClampNeg) := by unfold r_owesV; rw [if_pos y0, if_pos y1, if_pos y2, if_pos y3]
            rw [e] at h
            have hl : am_in l 30 := ⟨by have q := y0.1; simp only [i_le, Int32.reduceToInt, Int32.toInt_zero] at q; omega, by have q := y0.2; simp only [i_lt] at q; omega⟩
            have hy : am_in y 40 := ⟨by have q := y1.1; simp only [i_le, Int32.reduceToInt, Int32.toInt_zero] at q; omega, by have q := y1.2; simp only [i_lt, Int32.reduceToInt] at q; omega⟩
            have hk : am_in k 40 := ⟨by have q := y2.1; simp only [i_le, Int32.reduceToInt, Int32.toInt_zero] at q; omega, by have q := y2.2; simp only [i_lt, Int32.reduceToInt] at q; omega⟩
            have hw : am_in w 5 := ⟨by have q := y3.1; simp only [i_le, Int32.reduceToInt, Int32.toInt_zero] at q; omega, by have q := y3.2; simp only [i_le, Int32.reduceToInt] at q; omega⟩
            have l6 : am_len 6 = 180 := rfl
            have cy := i_clamp hy.1
            have cw := i_clamp hw.1
            have cl := i_clamp hl.1
            obtain ⟨hp, hp2, hm⟩ := hX.li.pe hl (by have q := y0.2; rw [i_lt] at q; exact q)
            have ep : am_at (M.1 34) (am_len 34) (l * M.1 33 1 + 0) = r_lo M l 0 := hX.li.lo hl (w := 0) (n := 0) rfl (by decide)
            have hpc := hp
            rw [← ep] at hpc
            have a1 := hl.1
            have a2 := hl.2
            have c1 := hw.1
            have c2 := hw.2
            have y39 : -1 ≤ y.toInt ∧ y.toInt ≤ 39 := ⟨by have := hy.1; omega, by have := hy.2; omega⟩
            have e30 := i_mul (x := w) (y := 30) (by simp only [Int32.reduceToInt]; omega) (by simp only [Int32.reduceToInt]; omega)
            simp only [Int32.reduceToInt] at e30
            have ew := i_add (x := w * 30) (y := l) (by rw [e30]; omega) (by rw [e30]; omega)
            have cwl := i_clamp (x := w * 30 + l) (by omega)
            repeat' (first | (with_reducible exact hmn) | (with_reducible exact hpc) | (with_reducible exact hR) | (with_reducible exact hA) | (with_reducible exact hn) | apply And.intro | exact rfl | (intro hx; with_reducible exact absurd hx q0) | (intro hx; with_reducible exact absurd hx q1) | (intro hx; with_reducible exact absurd hx q2) | (intro hx; with_reducible exact absurd hx q3) | ((with_reducible change g_rI _); (with_reducible assumption)) | (intro hx; exact absurd hx (by decide)) | (intro hx; exact absurd (by decide) hx) | decide | intro hx | (refine Exists.intro _ (And.intro rfl ?_)))
            all_goals try first | (with_reducible change am_tI _ _) | (change Ret _ _) | (change Ret _ _ _) | (change Exists _)
            all_goals try dsimp only at *
            all_goals try exact absurd ‹(1000 : Int64) = 0› (by decide)
            all_goals first
              | omega
              | (rw [l6]; omega)
              | exact htb.g (c_bg.sc (by with_reducible assumption))
              | (rw [ep] at *; exact hX.coa hp hp2 hk (by with_reducible assumption) (by with_reducible assumption))
              | (rw [(c_bg.f (by with_reducible assumption)).2.1]; decide)
              | skip
            rename_i N b1 r1 N2 g2 r2 s2
            rw [ep] at b1
            refine am_rL (h N2 ((c_bg.sc b1).tr (c_gn.sc g2)) r2) ?_
            rw [show (w * 30 + l).toNatClampNeg = 30 * w.toNatClampNeg + l.toNatClampNeg by omega, hX.at hp hp2 hk b1 y39 s2 hm (w := w.toNatClampNeg) (by omega), show (y.toInt + 1).toNat = y.toNatClampNeg + 1 by omega]
  · exact h.elim
def kX8_owesE (live : am_E) (Ret : am_R) : am_code := [(0, am_aload 0 1), (1, am_iload 1 2), (2, am_callV live 8 1 TX8_isLoan 5), (5, am_if1 (fun x => x = 0) 35 8), (8, am_iload 2 9), (9, am_callS live 1 TX8_isYear 12), (12, am_if1 (fun x => x = 0) 35 15), (15, am_iload 3 16), (16, am_callS live 1 TX8_isYear 19), (19, am_if1 (fun x => x = 0) 35 22), (22, am_iload 4 24), (24, am_i2l 25), (25, am_const (.long 0) 26), (26, am_const (.long 4) 29), (29, am_callS live 3 TX8_in 32), (32, am_if1 (fun x => x = 0) 35 39), (35, am_const (.long (-2)) 38), (38, am_retL Ret), (39, am_aload 0 40), (40, am_aload 0 41), (41, am_iload 1 42), (42, am_const (.int 0) 43), (43, am_callV live 8 2 TX8_ofLoan 46), (46, am_iload 2 47), (47, am_iload 3 48), (48, am_callV live 8 3 TE8_run 51), (51, am_aload 0 52), (52, am_iload 1 53), (53, am_iload 4 55), (55, am_callV live 8 2 TE8_runOf 58), (58, am_retL Ret)]
theorem koX8_owesE (live : am_E) (Ret : am_R) : ∀ q ∈ kX8_owesE live Ret, am_ok RX8 cX8_owes 5 (some .long) 10 253 live Ret q.1 q.2 :=
  am_kc (ak_aload_n dX8_owes_0 rfl rfl) <|
  am_kc (ak_iload_n dX8_owes_1 rfl rfl) <|
  am_kc (ak_callV (C := RX8) (F := TX8) (N := 27) metX8_isLoan rfl ⟨rfl, by decide +kernel, by decide +kernel, by decide +kernel⟩ (am_w5 wd_1069 wd_1071 wd_30 wd_67 wd_1072) (by decide) dX8_owes_2 rfl) <|
  am_kc (ak_if_eq dX8_owes_5 (by decide +kernel) rfl) <|
  am_kc (ak_iload_n dX8_owes_8 rfl rfl) <|
  am_kc (ak_callS metX8_isYear ⟨rfl, by decide +kernel, by decide +kernel, by decide +kernel⟩ (am_w4 wd_982 wd_983 wd_67 wd_984) (by decide) dX8_owes_9 rfl) <|
  am_kc (ak_if_eq dX8_owes_12 (by decide +kernel) rfl) <|
  am_kc (ak_iload_n dX8_owes_15 rfl rfl) <|
  am_kc (ak_callS metX8_isYear ⟨rfl, by decide +kernel, by decide +kernel, by decide +kernel⟩ (am_w4 wd_982 wd_983 wd_67 wd_984) (by decide) dX8_owes_16 rfl) <|
  am_kc (ak_if_eq dX8_owes_19 (by decide +kernel) rfl) <|
  am_kc (ak_iload dX8_owes_22 rfl) <|
  am_kc (ak_i2l dX8_owes_24 rfl) <|
  am_kc (ak_lconst dX8_owes_25 (by decide +kernel) rfl) <|
  am_kc (ak_ldc2 wd_1037 dX8_owes_26 rfl) <|
  am_kc (ak_callS metX8_in ⟨rfl, by decide +kernel, by decide +kernel, by decide +kernel⟩ (am_w4 wd_986 wd_987 wd_67 wd_988) (by decide) dX8_owes_29 rfl) <|
  am_kc (ak_if_ne dX8_owes_32 (by decide +kernel) rfl) <|
  am_kc (ak_ldc2 wd_1153 dX8_owes_35 rfl) <|
  am_kc (ak_retL dX8_owes_38) <|
  am_kc (ak_aload_n dX8_owes_39 rfl rfl) <|
  am_kc (ak_aload_n dX8_owes_40 rfl rfl) <|
  am_kc (ak_iload_n dX8_owes_41 rfl rfl) <|
  am_kc (ak_iconst dX8_owes_42 (by decide +kernel) rfl) <|
  am_kc (ak_callV (C := RX8) (F := TX8) (N := 27) metX8_ofLoan rfl ⟨rfl, by decide +kernel, by decide +kernel, by decide +kernel⟩ (am_w5 wd_1154 wd_1156 wd_41 wd_67 wd_1157) (by decide) dX8_owes_43 rfl) <|
  am_kc (ak_iload_n dX8_owes_46 rfl rfl) <|
  am_kc (ak_iload_n dX8_owes_47 rfl rfl) <|
  am_kc (ak_callV (C := RX8) (F := TX8) (N := 27) metX8_runE rfl ⟨rfl, by decide +kernel, by decide +kernel, by decide +kernel⟩ (am_w5 wd_1158 wd_1160 wd_42 wd_67 wd_1161) (by decide) dX8_owes_48 rfl) <|
  am_kc (ak_aload_n dX8_owes_51 rfl rfl) <|
  am_kc (ak_iload_n dX8_owes_52 rfl rfl) <|
  am_kc (ak_iload dX8_owes_53 rfl) <|
  am_kc (ak_callV (C := RX8) (F := TX8) (N := 27) metX8_runOfE rfl ⟨rfl, by decide +kernel, by decide +kernel, by decide +kernel⟩ (am_w5 wd_1187 wd_1189 wd_49 wd_67 wd_1190) (by decide) dX8_owes_55 rfl) <|
  am_kc (ak_retL dX8_owes_58) <| am_kn
def TE8_owes : am_T := fun live as M R => match as with
  | [.ref n, .int l, .int y, .int k, .int w] => am_mn live ∧ n = 200 ∧ (∃ i1 i2, LX i1 i2 M) ∧ ∀ M', r_sc M M' → r_I M' → R (some (.long (r_owesV M l y k w))) M'
  | _ => False
set_option maxRecDepth 100000 in
set_option maxHeartbeats 4000000 in
theorem metX8_owesE : am_Met yX8_owes cX8_owes 5 (some .long) (10) (253) TE8_owes := by
  refine am_met (own := RX8) (by decide +kernel) rfl kX8_owesE koX8_owesE 200 (fun _ _ _ _ _ => none) (fun live as M Ret h => ?_) (fun _ _ _ _ _ _ _ _ hI => by cases hI)
  unfold TE8_owes at h
  split at h
  · next n l y k w =>
    refine ⟨Nat.le_of_ble_eq_true rfl, ?_⟩
    change am_wp _ _ _ _ [(0, Value.ref n), (1, Value.int l), (2, Value.int y), (3, Value.int k), (4, Value.int w)] _ _
    obtain ⟨hmn, rfl, ⟨j1, j2, hX⟩, h⟩ := h
    have hmn2 := hmn
    obtain ⟨i1, i2, rfl⟩ := hmn2
    have l201 : am_len 201 = 3760 := rfl
    have hR := hX.li.i
    have le1 := hX.li.e1
    have le0 := hX.li.e0
    have n0 := hR.n0
    have n1 := hR.n1
    have n030 : 0 ≤ (M.1 201 0).toInt ∧ (M.1 201 0).toInt ≤ 30 := ⟨n0.1, by omega⟩
    by_cases z0 : 0 ≤ l ∧ l < M.1 201 1
    rotate_left
    · skip
      have q0 : (if 0 ≤ l ∧ l < M.1 201 1 then (1 : Int32) else 0) = 0 := if_neg z0
      have e : r_owesV M l y k w = -2 := by unfold r_owesV; rw [if_neg (fun q => z0 (by first | exact q | (rw [le1]; exact q) | (rw [le0]; exact q)))]
      rw [e] at h
      repeat' (first | (with_reducible exact hmn) | (with_reducible exact n030) | (with_reducible exact n1) | apply And.intro | exact rfl | (intro hx; with_reducible exact absurd q0 hx) | (intro hx; exact absurd hx (by decide)) | (intro hx; exact absurd (by decide) hx) | decide | intro hx | (refine Exists.intro _ (And.intro rfl ?_)))
      all_goals try first | (with_reducible change am_tI _ _) | (change Ret _ _) | (change Ret _ _ _) | (change Exists _)
      all_goals try dsimp only at *
      all_goals try exact absurd ‹(1000 : Int64) = 0› (by decide)
      all_goals exact h _ r_sc.rf hR
    · skip
      have q0 : ¬ ((if 0 ≤ l ∧ l < M.1 201 1 then (1 : Int32) else 0) = 0) := by rw [if_pos z0]; decide
      have y0 : 0 ≤ l ∧ l < M.1 201 1 := by first | exact z0 | (rw [← le1]; exact z0) | (rw [← le0]; exact z0)
      by_cases z1 : 0 ≤ y ∧ y < 40
      rotate_left
      · skip
        have q1 : (if 0 ≤ y ∧ y < 40 then (1 : Int32) else 0) = 0 := if_neg z1
        have e : r_owesV M l y k w = -2 := by unfold r_owesV; rw [if_pos y0, if_neg (fun q => z1 (by first | exact q | (rw [le1]; exact q) | (rw [le0]; exact q)))]
        rw [e] at h
        repeat' (first | (with_reducible exact hmn) | (with_reducible exact n030) | (with_reducible exact n1) | apply And.intro | exact rfl | (intro hx; with_reducible exact absurd hx q0) | (intro hx; with_reducible exact absurd q1 hx) | (intro hx; exact absurd hx (by decide)) | (intro hx; exact absurd (by decide) hx) | decide | intro hx | (refine Exists.intro _ (And.intro rfl ?_)))
        all_goals try first | (with_reducible change am_tI _ _) | (change Ret _ _) | (change Ret _ _ _) | (change Exists _)
        all_goals try dsimp only at *
        all_goals try exact absurd ‹(1000 : Int64) = 0› (by decide)
        all_goals exact h _ r_sc.rf hR
      · skip
        have q1 : ¬ ((if 0 ≤ y ∧ y < 40 then (1 : Int32) else 0) = 0) := by rw [if_pos z1]; decide
        have y1 : 0 ≤ y ∧ y < 40 := by first | exact z1 | (rw [← le1]; exact z1) | (rw [← le0]; exact z1)
        by_cases z2 : 0 ≤ k ∧ k < 40
        rotate_left
        · skip
          have q2 : (if 0 ≤ k ∧ k < 40 then (1 : Int32) else 0) = 0 := if_neg z2
          have e : r_owesV M l y k w = -2 := by unfold r_owesV; rw [if_pos y0, if_pos y1, if_neg (fun q => z2 (by first | exact q | (rw [le1]; exact q) | (rw [le0]; exact q)))]
          rw [e] at h
          repeat' (first | (with_reducible exact hmn) | (with_reducible exact n030) | (with_reducible exact n1) | apply And.intro | exact rfl | (intro hx; with_reducible exact absurd hx q0) | (intro hx; with_reducible exact absurd hx q1) | (intro hx; with_reducible exact absurd q2 hx) | (intro hx; exact absurd hx (by decide)) | (intro hx; exact absurd (by decide) hx) | decide | intro hx | (refine Exists.intro _ (And.intro rfl ?_)))
          all_goals try first | (with_reducible change am_tI _ _) | (change Ret _ _) | (change Ret _ _ _) | (change Exists _)
          all_goals try dsimp only at *
          all_goals try exact absurd ‹(1000 : Int64) = 0› (by decide)
          all_goals exact h _ r_sc.rf hR
        · skip
          have q2 : ¬ ((if 0 ≤ k ∧ k < 40 then (1 : Int32) else 0) = 0) := by rw [if_pos z2]; decide
          have y2 : 0 ≤ k ∧ k < 40 := by first | exact z2 | (rw [← le1]; exact z2) | (rw [← le0]; exact z2)
          by_cases z3 : 0 ≤ w ∧ w ≤ 4
          rotate_left
          · skip
            have q3 : (if (0 : Int64) ≤ w.toInt64 ∧ w.toInt64 ≤ (4 : Int64) then (1 : Int32) else 0) = 0 := if_neg (fun r => z3 (by simp only [i_le, i_lt, j_le, Int32.toInt_toInt64, Int32.reduceToInt, Int64.reduceToInt, Int32.toInt_zero] at r ⊢; omega))
            have e : r_owesV M l y k w = -2 := by unfold r_owesV; rw [if_pos y0, if_pos y1, if_pos y2, if_neg (fun q => z3 (by first | exact q | (rw [le1]; exact q) | (rw [le0]; exact q)))]
            rw [e] at h
            repeat' (first | (with_reducible exact hmn) | (with_reducible exact n030) | (with_reducible exact n1) | apply And.intro | exact rfl | (intro hx; with_reducible exact absurd hx q0) | (intro hx; with_reducible exact absurd hx q1) | (intro hx; with_reducible exact absurd hx q2) | (intro hx; with_reducible exact absurd q3 hx) | (intro hx; exact absurd hx (by decide)) | (intro hx; exact absurd (by decide) hx) | decide | intro hx | (refine Exists.intro _ (And.intro rfl ?_)))
            all_goals try first | (with_reducible change am_tI _ _) | (change Ret _ _) | (change Ret _ _ _) | (change Exists _)
            all_goals try dsimp only at *
            all_goals try exact absurd ‹(1000 : Int64) = 0› (by decide)
            all_goals exact h _ r_sc.rf hR
          · skip
            have q3 : ¬ ((if (0 : Int64) ≤ w.toInt64 ∧ w.toInt64 ≤ (4 : Int64) then (1 : Int32) else 0) = 0) := by rw [if_pos (by have q := z3; simp only [i_le, i_lt, j_le, Int32.toInt_toInt64, Int32.reduceToInt, Int64.reduceToInt, Int32.toInt_zero] at q ⊢; omega)]; decide
            have y3 : 0 ≤ w ∧ w ≤ 4 := by first | exact z3 | (rw [← le1]; exact z3) | (rw [← le0]; exact z3)
            have e : r_owesV M l y k w = (r_R M (r_lo M l 0) k (y.toNatClampNeg + 1)).1 (30 * w.toNatClampNeg + l.toNatClampNeg) := by unfold r_owesV; rw [if_pos y0, if_pos y1, if_pos y2, if_pos y3]
            rw [e] at h
            have hl : am_in l 30 := ⟨by have q := y0.1; simp only [i_le, Int32.reduceToInt, Int32.toInt_zero] at q; omega, by have q := y0.2; simp only [i_lt] at q; omega⟩
            have hy : am_in y 40 := ⟨by have q := y1.1; simp only [i_le, Int32.reduceToInt, Int32.toInt_zero] at q; omega, by have q := y1.2; simp only [i_lt, Int32.reduceToInt] at q; omega⟩
            have hk : am_in k 40 := ⟨by have q := y2.1; simp only [i_le, Int32.reduceToInt, Int32.toInt_zero] at q; omega, by have q := y2.2; simp only [i_lt, Int32.reduceToInt] at q; omega⟩
            have hw : am_in w 5 := ⟨by have q := y3.1; simp only [i_le, Int32.reduceToInt, Int32.toInt_zero] at q; omega, by have q := y3.2; simp only [i_le, Int32.reduceToInt] at q; omega⟩
            have hp := r_pers hR hl
            have w0 : 0 ≤ (0 : Int32).toInt ∧ (0 : Int32).toInt ≤ 7 := ⟨by decide, by decide⟩
            have hoa := hX.roa (p := M.1 201 (2838 + 8 * l + 0).toNatClampNeg)
            have cy := i_clamp hy.1
            have cw := i_clamp hw.1
            have gl := g_cl hl
            have gw := g_cl hw
            have y39 : -1 ≤ y.toInt ∧ y.toInt ≤ 39 := ⟨by have := hy.1; omega, by have := hy.2; omega⟩
            repeat' (first | (with_reducible exact hmn) | (with_reducible exact n030) | (with_reducible exact n1) | (with_reducible exact hl) | (with_reducible exact hp) | (with_reducible exact hw) | (with_reducible exact w0) | (with_reducible exact y39) | (with_reducible exact hR) | (with_reducible exact hoa) | apply And.intro | exact rfl | (intro hx; with_reducible exact absurd hx q0) | (intro hx; with_reducible exact absurd hx q1) | (intro hx; with_reducible exact absurd hx q2) | (intro hx; with_reducible exact absurd hx q3) | ((with_reducible change r_I _); (with_reducible assumption)) | (intro hx; exact absurd hx (by decide)) | (intro hx; exact absurd (by decide) hx) | decide | intro hx | (refine Exists.intro _ (And.intro rfl ?_)))
            all_goals try first | (with_reducible change am_tI _ _) | (change Ret _ _) | (change Ret _ _ _) | (change Exists _)
            all_goals try dsimp only at *
            all_goals try exact absurd ‹(1000 : Int64) = 0› (by decide)
            all_goals
              rename_i N s0 ky rN z0
              have e0 := hx
              refine am_rL (h N ky.sc rN) ?_
              have q := (r_R_of n1 e0 z0).1 (30 * w.toNatClampNeg + l.toNatClampNeg) (by omega)
              rw [q, show (y.toInt + 1).toNat = y.toNatClampNeg + 1 by omega]
  · exact h.elim
def r_allV (M : am_M) (p y k w : Int32) : Int64 := if 0 ≤ p ∧ p < M.1 201 0 then (if 0 ≤ y ∧ y < 40 then (if 0 ≤ k ∧ k < 40 then (if 0 ≤ w ∧ w ≤ 4 then z_tog (r_R M p k (y.toNatClampNeg + 1)).1 (30 * w.toNatClampNeg) (r_mine M p (r_n M)) else -2) else -2) else -2) else -2
def kX7_allE (live : am_E) (Ret : am_R) : am_code := [(0, am_aload 0 1), (1, am_iload 1 2), (2, am_callV live 7 1 TX7_isPerson 5), (5, am_if1 (fun x => x = 0) 32 8), (8, am_iload 2 9), (9, am_callS live 1 TX7_isYear 12), (12, am_if1 (fun x => x = 0) 32 15), (15, am_iload 3 16), (16, am_callS live 1 TX7_isYear 19), (19, am_if1 (fun x => x = 0) 32 22), (22, am_iload 4 24), (24, am_const (.int 0) 25), (25, am_const (.int 4) 26), (26, am_callS live 3 TX7_within 29), (29, am_if1 (fun x => x = 0) 32 36), (32, am_const (.long (-2)) 35), (35, am_retL Ret), (36, am_aload 0 37), (37, am_iload 1 38), (38, am_iload 2 39), (39, am_iload 3 40), (40, am_iload 4 42), (42, am_callV live 7 4 TE7_together 45), (45, am_retL Ret)]
theorem koX7_allE (live : am_E) (Ret : am_R) : ∀ q ∈ kX7_allE live Ret, am_ok RX7 cX7_all 5 (some .long) 6 148 live Ret q.1 q.2 :=
  am_kc (ak_aload_n dX7_all_0 rfl rfl) <|
  am_kc (ak_iload_n dX7_all_1 rfl rfl) <|
  am_kc (ak_callV (C := RX7) (F := TX7) (N := 4) metX7_isPerson rfl ⟨rfl, by decide +kernel, by decide +kernel, by decide +kernel⟩ (am_w5 wd_414 wd_416 wd_0 wd_58 wd_417) (by decide) dX7_all_2 rfl) <|
  am_kc (ak_if_eq dX7_all_5 (by decide +kernel) rfl) <|
  am_kc (ak_iload_n dX7_all_8 rfl rfl) <|
  am_kc (ak_callS metX7_isYear ⟨rfl, by decide +kernel, by decide +kernel, by decide +kernel⟩ (am_w4 wd_407 wd_408 wd_58 wd_409) (by decide) dX7_all_9 rfl) <|
  am_kc (ak_if_eq dX7_all_12 (by decide +kernel) rfl) <|
  am_kc (ak_iload_n dX7_all_15 rfl rfl) <|
  am_kc (ak_callS metX7_isYear ⟨rfl, by decide +kernel, by decide +kernel, by decide +kernel⟩ (am_w4 wd_407 wd_408 wd_58 wd_409) (by decide) dX7_all_16 rfl) <|
  am_kc (ak_if_eq dX7_all_19 (by decide +kernel) rfl) <|
  am_kc (ak_iload dX7_all_22 rfl) <|
  am_kc (ak_iconst dX7_all_24 (by decide +kernel) rfl) <|
  am_kc (ak_iconst dX7_all_25 (by decide +kernel) rfl) <|
  am_kc (ak_callS metX7_within ⟨rfl, by decide +kernel, by decide +kernel, by decide +kernel⟩ (am_w4 wd_418 wd_419 wd_58 wd_420) (by decide) dX7_all_26 rfl) <|
  am_kc (ak_if_ne dX7_all_29 (by decide +kernel) rfl) <|
  am_kc (ak_ldc2 wd_545 dX7_all_32 rfl) <|
  am_kc (ak_retL dX7_all_35) <|
  am_kc (ak_aload_n dX7_all_36 rfl rfl) <|
  am_kc (ak_iload_n dX7_all_37 rfl rfl) <|
  am_kc (ak_iload_n dX7_all_38 rfl rfl) <|
  am_kc (ak_iload_n dX7_all_39 rfl rfl) <|
  am_kc (ak_iload dX7_all_40 rfl) <|
  am_kc (ak_callV (C := RX7) (F := TX7) (N := 4) metX7_togetherE rfl ⟨rfl, by decide +kernel, by decide +kernel, by decide +kernel⟩ (am_w5 wd_645 wd_647 wd_12 wd_58 wd_648) (by decide) dX7_all_42 rfl) <|
  am_kc (ak_retL dX7_all_45) <| am_kn
def TE7_all : am_T := fun live as M R => match as with
  | [.ref n, .int p, .int y, .int k, .int w] => am_mn live ∧ n = 0 ∧ (∃ i1 i2, LX i1 i2 M) ∧ ∀ M', g_sc M M' → g_rI M' → R (some (.long (r_allV M p y k w))) M'
  | _ => False
set_option maxRecDepth 100000 in
set_option maxHeartbeats 4000000 in
theorem metX7_allE : am_Met yX7_all cX7_all 5 (some .long) (6) (148) TE7_all := by
  refine am_met (own := RX7) (by decide +kernel) rfl kX7_allE koX7_allE 200 (fun _ _ _ _ _ => none) (fun live as M Ret h => ?_) (fun _ _ _ _ _ _ _ _ hI => by cases hI)
  unfold TE7_all at h
  split at h
  · next n p y k w =>
    refine ⟨Nat.le_of_ble_eq_true rfl, ?_⟩
    change am_wp _ _ _ _ [(0, Value.ref n), (1, Value.int p), (2, Value.int y), (3, Value.int k), (4, Value.int w)] _ _
    obtain ⟨hmn, rfl, ⟨j1, j2, hX⟩, h⟩ := h
    have hmn2 := hmn
    obtain ⟨i1, i2, rfl⟩ := hmn2
    have hH := hX.li.h
    have hR := hX.li.g
    have hA := hX.li.cA
    have le1 := hX.li.e1
    have le0 := hX.li.e0
    have n1 := hX.li.n1
    have n0 := hX.li.n0
    have hn : 0 ≤ (M.1 33 2).toInt ∧ (M.1 33 2).toInt ≤ 30 := by rw [le1]; exact n1
    have htb := hX.t0
    by_cases z0 : 0 ≤ p ∧ p < M.1 21 7
    rotate_left
    · skip
      have q0 : (if 0 ≤ p ∧ p < M.1 21 7 then (1 : Int32) else 0) = 0 := if_neg z0
      have e : r_allV M p y k w = -2 := by unfold r_allV; rw [if_neg (fun q => z0 (by first | exact q | (rw [le1]; exact q) | (rw [le0]; exact q)))]
      rw [e] at h
      repeat' (first | (with_reducible exact hmn) | apply And.intro | exact rfl | (intro hx; with_reducible exact absurd q0 hx) | (intro hx; exact absurd hx (by decide)) | (intro hx; exact absurd (by decide) hx) | decide | intro hx | (refine Exists.intro _ (And.intro rfl ?_)))
      all_goals try first | (with_reducible change am_tI _ _) | (change Ret _ _) | (change Ret _ _ _) | (change Exists _)
      all_goals try dsimp only at *
      all_goals try exact absurd ‹(1000 : Int64) = 0› (by decide)
      all_goals exact h _ g_sc.rf hR
    · skip
      have q0 : ¬ ((if 0 ≤ p ∧ p < M.1 21 7 then (1 : Int32) else 0) = 0) := by rw [if_pos z0]; decide
      have y0 : 0 ≤ p ∧ p < M.1 201 0 := by first | exact z0 | (rw [← le1]; exact z0) | (rw [← le0]; exact z0)
      by_cases z1 : 0 ≤ y ∧ y < 40
      rotate_left
      · skip
        have q1 : (if 0 ≤ y ∧ y < 40 then (1 : Int32) else 0) = 0 := if_neg z1
        have e : r_allV M p y k w = -2 := by unfold r_allV; rw [if_pos y0, if_neg (fun q => z1 (by first | exact q | (rw [le1]; exact q) | (rw [le0]; exact q)))]
        rw [e] at h
        repeat' (first | (with_reducible exact hmn) | apply And.intro | exact rfl | (intro hx; with_reducible exact absurd hx q0) | (intro hx; with_reducible exact absurd q1 hx) | (intro hx; exact absurd hx (by decide)) | (intro hx; exact absurd (by decide) hx) | decide | intro hx | (refine Exists.intro _ (And.intro rfl ?_)))
        all_goals try first | (with_reducible change am_tI _ _) | (change Ret _ _) | (change Ret _ _ _) | (change Exists _)
        all_goals try dsimp only at *
        all_goals try exact absurd ‹(1000 : Int64) = 0› (by decide)
        all_goals exact h _ g_sc.rf hR
      · skip
        have q1 : ¬ ((if 0 ≤ y ∧ y < 40 then (1 : Int32) else 0) = 0) := by rw [if_pos z1]; decide
        have y1 : 0 ≤ y ∧ y < 40 := by first | exact z1 | (rw [← le1]; exact z1) | (rw [← le0]; exact z1)
        by_cases z2 : 0 ≤ k ∧ k < 40
        rotate_left
        · skip
          have q2 : (if 0 ≤ k ∧ k < 40 then (1 : Int32) else 0) = 0 := if_neg z2
          have e : r_allV M p y k w = -2 := by unfold r_allV; rw [if_pos y0, if_pos y1, if_neg (fun q => z2 (by first | exact q | (rw [le1]; exact q) | (rw [le0]; exact q)))]
          rw [e] at h
          repeat' (first | (with_reducible exact hmn) | apply And.intro | exact rfl | (intro hx; with_reducible exact absurd hx q0) | (intro hx; with_reducible exact absurd hx q1) | (intro hx; with_reducible exact absurd q2 hx) | (intro hx; exact absurd hx (by decide)) | (intro hx; exact absurd (by decide) hx) | decide | intro hx | (refine Exists.intro _ (And.intro rfl ?_)))
          all_goals try first | (with_reducible change am_tI _ _) | (change Ret _ _) | (change Ret _ _ _) | (change Exists _)
          all_goals try dsimp only at *
          all_goals try exact absurd ‹(1000 : Int64) = 0› (by decide)
          all_goals exact h _ g_sc.rf hR
        · skip
          have q2 : ¬ ((if 0 ≤ k ∧ k < 40 then (1 : Int32) else 0) = 0) := by rw [if_pos z2]; decide
          have y2 : 0 ≤ k ∧ k < 40 := by first | exact z2 | (rw [← le1]; exact z2) | (rw [← le0]; exact z2)
          by_cases z3 : 0 ≤ w ∧ w ≤ 4
          rotate_left
          · skip
            have q3 : (if 0 ≤ w ∧ w ≤ 4 then (1 : Int32) else 0) = 0 := if_neg z3
            have e : r_allV M p y k w = -2 := by unfold r_allV; rw [if_pos y0, if_pos y1, if_pos y2, if_neg (fun q => z3 (by first | exact q | (rw [le1]; exact q) | (rw [le0]; exact q)))]
            rw [e] at h
            repeat' (first | (with_reducible exact hmn) | apply And.intro | exact rfl | (intro hx; with_reducible exact absurd hx q0) | (intro hx; with_reducible exact absurd hx q1) | (intro hx; with_reducible exact absurd hx q2) | (intro hx; with_reducible exact absurd q3 hx) | (intro hx; exact absurd hx (by decide)) | (intro hx; exact absurd (by decide) hx) | decide | intro hx | (refine Exists.intro _ (And.intro rfl ?_)))
            all_goals try first | (with_reducible change am_tI _ _) | (change Ret _ _) | (change Ret _ _ _) | (change Exists _)
            all_goals try dsimp only at *
            all_goals try exact absurd ‹(1000 : Int64) = 0› (by decide)
            all_goals exact h _ g_sc.rf hR
          · skip
            have q3 : ¬ ((if 0 ≤ w ∧ w ≤ 4 then (1 : Int32) else 0) = 0) := by rw [if_pos z3]; decide
            have y3 : 0 ≤ w ∧ w ≤ 4 := by first | exact z3 | (rw [← le1]; exact z3) | (rw [← le0]; exact z3)
            have e : r_allV M p y k w = z_tog (r_R M p k (y.toNatClampNeg + 1)).1 (30 * w.toNatClampNeg) (r_mine M p (r_n M)) := by unfold r_allV; rw [if_pos y0, if_pos y1, if_pos y2, if_pos y3]
            rw [e] at h
            have hp : am_in p 12 := ⟨by have q := y0.1; simp only [i_le, Int32.reduceToInt, Int32.toInt_zero] at q; omega, by have q := y0.2; simp only [i_lt] at q; omega⟩
            have hy : am_in y 40 := ⟨by have q := y1.1; simp only [i_le, Int32.reduceToInt, Int32.toInt_zero] at q; omega, by have q := y1.2; simp only [i_lt, Int32.reduceToInt] at q; omega⟩
            have hk : am_in k 40 := ⟨by have q := y2.1; simp only [i_le, Int32.reduceToInt, Int32.toInt_zero] at q; omega, by have q := y2.2; simp only [i_lt, Int32.reduceToInt] at q; omega⟩
            have hw : am_in w 5 := ⟨by have q := y3.1; simp only [i_le, Int32.reduceToInt, Int32.toInt_zero] at q; omega, by have q := y3.2; simp only [i_le, Int32.reduceToInt] at q; omega⟩
            have hw6 : am_in w 6 := ⟨hw.1, by have := hw.2; omega⟩
            have hp2 : p.toInt < (M.1 201 0).toInt := by have q := y0.2; rw [i_lt] at q; exact q
            repeat' (first | (with_reducible exact hmn) | (with_reducible exact hp) | (with_reducible exact hp2) | (with_reducible exact hy) | (with_reducible exact hk) | (with_reducible exact hw6) | apply And.intro | exact rfl | (intro hx; with_reducible exact absurd hx q0) | (intro hx; with_reducible exact absurd hx q1) | (intro hx; with_reducible exact absurd hx q2) | (intro hx; with_reducible exact absurd hx q3) | (intro hx; exact absurd hx (by decide)) | (intro hx; exact absurd (by decide) hx) | decide | intro hx | (refine Exists.intro _ (And.intro rfl ?_)))
            all_goals try first | (with_reducible change am_tI _ _) | (change Ret _ _) | (change Ret _ _ _) | (change Exists _)
            all_goals try dsimp only at *
            all_goals try exact absurd ‹(1000 : Int64) = 0› (by decide)
            all_goals first
              | exact ⟨_, _, hX⟩
              | exact h _ (by with_reducible assumption) (by with_reducible assumption)
              | skip
  · exact h.elim
def kX8_allE (live : am_E) (Ret : am_R) : am_code := [(0, am_aload 0 1), (1, am_iload 1 2), (2, am_callV live 8 1 TX8_isPerson 5), (5, am_if1 (fun x => x = 0) 35 8), (8, am_iload 2 9), (9, am_callS live 1 TX8_isYear 12), (12, am_if1 (fun x => x = 0) 35 15), (15, am_iload 3 16), (16, am_callS live 1 TX8_isYear 19), (19, am_if1 (fun x => x = 0) 35 22), (22, am_iload 4 24), (24, am_i2l 25), (25, am_const (.long 0) 26), (26, am_const (.long 4) 29), (29, am_callS live 3 TX8_in 32), (32, am_if1 (fun x => x = 0) 35 39), (35, am_const (.long (-2)) 38), (38, am_retL Ret), (39, am_aload 0 40), (40, am_iload 1 41), (41, am_iload 2 42), (42, am_iload 3 43), (43, am_callV live 8 3 TE8_run 46), (46, am_aload 0 47), (47, am_iload 1 48), (48, am_iload 4 50), (50, am_callV live 8 2 TE8_allOf 53), (53, am_retL Ret)]
theorem koX8_allE (live : am_E) (Ret : am_R) : ∀ q ∈ kX8_allE live Ret, am_ok RX8 cX8_all 5 (some .long) 10 253 live Ret q.1 q.2 :=
  am_kc (ak_aload_n dX8_all_0 rfl rfl) <|
  am_kc (ak_iload_n dX8_all_1 rfl rfl) <|
  am_kc (ak_callV (C := RX8) (F := TX8) (N := 27) metX8_isPerson rfl ⟨rfl, by decide +kernel, by decide +kernel, by decide +kernel⟩ (am_w5 wd_993 wd_995 wd_27 wd_67 wd_996) (by decide) dX8_all_2 rfl) <|
  am_kc (ak_if_eq dX8_all_5 (by decide +kernel) rfl) <|
  am_kc (ak_iload_n dX8_all_8 rfl rfl) <|
  am_kc (ak_callS metX8_isYear ⟨rfl, by decide +kernel, by decide +kernel, by decide +kernel⟩ (am_w4 wd_982 wd_983 wd_67 wd_984) (by decide) dX8_all_9 rfl) <|
  am_kc (ak_if_eq dX8_all_12 (by decide +kernel) rfl) <|
  am_kc (ak_iload_n dX8_all_15 rfl rfl) <|
  am_kc (ak_callS metX8_isYear ⟨rfl, by decide +kernel, by decide +kernel, by decide +kernel⟩ (am_w4 wd_982 wd_983 wd_67 wd_984) (by decide) dX8_all_16 rfl) <|
  am_kc (ak_if_eq dX8_all_19 (by decide +kernel) rfl) <|
  am_kc (ak_iload dX8_all_22 rfl) <|
  am_kc (ak_i2l dX8_all_24 rfl) <|
  am_kc (ak_lconst dX8_all_25 (by decide +kernel) rfl) <|
  am_kc (ak_ldc2 wd_1037 dX8_all_26 rfl) <|
  am_kc (ak_callS metX8_in ⟨rfl, by decide +kernel, by decide +kernel, by decide +kernel⟩ (am_w4 wd_986 wd_987 wd_67 wd_988) (by decide) dX8_all_29 rfl) <|
  am_kc (ak_if_ne dX8_all_32 (by decide +kernel) rfl) <|
  am_kc (ak_ldc2 wd_1153 dX8_all_35 rfl) <|
  am_kc (ak_retL dX8_all_38) <|
  am_kc (ak_aload_n dX8_all_39 rfl rfl) <|
  am_kc (ak_iload_n dX8_all_40 rfl rfl) <|
  am_kc (ak_iload_n dX8_all_41 rfl rfl) <|
  am_kc (ak_iload_n dX8_all_42 rfl rfl) <|
  am_kc (ak_callV (C := RX8) (F := TX8) (N := 27) metX8_runE rfl ⟨rfl, by decide +kernel, by decide +kernel, by decide +kernel⟩ (am_w5 wd_1158 wd_1160 wd_42 wd_67 wd_1161) (by decide) dX8_all_43 rfl) <|
  am_kc (ak_aload_n dX8_all_46 rfl rfl) <|
  am_kc (ak_iload_n dX8_all_47 rfl rfl) <|
  am_kc (ak_iload dX8_all_48 rfl) <|
  am_kc (ak_callV (C := RX8) (F := TX8) (N := 27) metX8_allOfE rfl ⟨rfl, by decide +kernel, by decide +kernel, by decide +kernel⟩ (am_w5 wd_1195 wd_1197 wd_50 wd_67 wd_1198) (by decide) dX8_all_50 rfl) <|
  am_kc (ak_retL dX8_all_53) <| am_kn
def TE8_all : am_T := fun live as M R => match as with
  | [.ref n, .int p, .int y, .int k, .int w] => am_mn live ∧ n = 200 ∧ (∃ i1 i2, LX i1 i2 M) ∧ ∀ M', r_sc M M' → r_I M' → R (some (.long (r_allV M p y k w))) M'
  | _ => False
set_option maxRecDepth 100000 in
set_option maxHeartbeats 4000000 in
theorem metX8_allE : am_Met yX8_all cX8_all 5 (some .long) (10) (253) TE8_all := by
  refine am_met (own := RX8) (by decide +kernel) rfl kX8_allE koX8_allE 200 (fun _ _ _ _ _ => none) (fun live as M Ret h => ?_) (fun _ _ _ _ _ _ _ _ hI => by cases hI)
  unfold TE8_all at h
  split at h
  · next n p y k w =>
    refine ⟨Nat.le_of_ble_eq_true rfl, ?_⟩
    change am_wp _ _ _ _ [(0, Value.ref n), (1, Value.int p), (2, Value.int y), (3, Value.int k), (4, Value.int w)] _ _
    obtain ⟨hmn, rfl, ⟨j1, j2, hX⟩, h⟩ := h
    have hmn2 := hmn
    obtain ⟨i1, i2, rfl⟩ := hmn2
    have l201 : am_len 201 = 3760 := rfl
    have hR := hX.li.i
    have le1 := hX.li.e1
    have le0 := hX.li.e0
    have n0 := hR.n0
    have n1 := hR.n1
    have n030 : 0 ≤ (M.1 201 0).toInt ∧ (M.1 201 0).toInt ≤ 30 := ⟨n0.1, by omega⟩
    by_cases z0 : 0 ≤ p ∧ p < M.1 201 0
    rotate_left
    · skip
      have q0 : (if 0 ≤ p ∧ p < M.1 201 0 then (1 : Int32) else 0) = 0 := if_neg z0
      have e : r_allV M p y k w = -2 := by unfold r_allV; rw [if_neg (fun q => z0 (by first | exact q | (rw [le1]; exact q) | (rw [le0]; exact q)))]
      rw [e] at h
      repeat' (first | (with_reducible exact hmn) | (with_reducible exact n030) | (with_reducible exact n1) | apply And.intro | exact rfl | (intro hx; with_reducible exact absurd q0 hx) | (intro hx; exact absurd hx (by decide)) | (intro hx; exact absurd (by decide) hx) | decide | intro hx | (refine Exists.intro _ (And.intro rfl ?_)))
      all_goals try first | (with_reducible change am_tI _ _) | (change Ret _ _) | (change Ret _ _ _) | (change Exists _)
      all_goals try dsimp only at *
      all_goals try exact absurd ‹(1000 : Int64) = 0› (by decide)
      all_goals exact h _ r_sc.rf hR
    · skip
      have q0 : ¬ ((if 0 ≤ p ∧ p < M.1 201 0 then (1 : Int32) else 0) = 0) := by rw [if_pos z0]; decide
      have y0 : 0 ≤ p ∧ p < M.1 201 0 := by first | exact z0 | (rw [← le1]; exact z0) | (rw [← le0]; exact z0)
      by_cases z1 : 0 ≤ y ∧ y < 40
      rotate_left
      · skip
        have q1 : (if 0 ≤ y ∧ y < 40 then (1 : Int32) else 0) = 0 := if_neg z1
        have e : r_allV M p y k w = -2 := by unfold r_allV; rw [if_pos y0, if_neg (fun q => z1 (by first | exact q | (rw [le1]; exact q) | (rw [le0]; exact q)))]
        rw [e] at h
        repeat' (first | (with_reducible exact hmn) | (with_reducible exact n030) | (with_reducible exact n1) | apply And.intro | exact rfl | (intro hx; with_reducible exact absurd hx q0) | (intro hx; with_reducible exact absurd q1 hx) | (intro hx; exact absurd hx (by decide)) | (intro hx; exact absurd (by decide) hx) | decide | intro hx | (refine Exists.intro _ (And.intro rfl ?_)))
        all_goals try first | (with_reducible change am_tI _ _) | (change Ret _ _) | (change Ret _ _ _) | (change Exists _)
        all_goals try dsimp only at *
        all_goals try exact absurd ‹(1000 : Int64) = 0› (by decide)
        all_goals exact h _ r_sc.rf hR
      · skip
        have q1 : ¬ ((if 0 ≤ y ∧ y < 40 then (1 : Int32) else 0) = 0) := by rw [if_pos z1]; decide
        have y1 : 0 ≤ y ∧ y < 40 := by first | exact z1 | (rw [← le1]; exact z1) | (rw [← le0]; exact z1)
        by_cases z2 : 0 ≤ k ∧ k < 40
        rotate_left
        · skip
          have q2 : (if 0 ≤ k ∧ k < 40 then (1 : Int32) else 0) = 0 := if_neg z2
          have e : r_allV M p y k w = -2 := by unfold r_allV; rw [if_pos y0, if_pos y1, if_neg (fun q => z2 (by first | exact q | (rw [le1]; exact q) | (rw [le0]; exact q)))]
          rw [e] at h
          repeat' (first | (with_reducible exact hmn) | (with_reducible exact n030) | (with_reducible exact n1) | apply And.intro | exact rfl | (intro hx; with_reducible exact absurd hx q0) | (intro hx; with_reducible exact absurd hx q1) | (intro hx; with_reducible exact absurd q2 hx) | (intro hx; exact absurd hx (by decide)) | (intro hx; exact absurd (by decide) hx) | decide | intro hx | (refine Exists.intro _ (And.intro rfl ?_)))
          all_goals try first | (with_reducible change am_tI _ _) | (change Ret _ _) | (change Ret _ _ _) | (change Exists _)
          all_goals try dsimp only at *
          all_goals try exact absurd ‹(1000 : Int64) = 0› (by decide)
          all_goals exact h _ r_sc.rf hR
        · skip
          have q2 : ¬ ((if 0 ≤ k ∧ k < 40 then (1 : Int32) else 0) = 0) := by rw [if_pos z2]; decide
          have y2 : 0 ≤ k ∧ k < 40 := by first | exact z2 | (rw [← le1]; exact z2) | (rw [← le0]; exact z2)
          by_cases z3 : 0 ≤ w ∧ w ≤ 4
          rotate_left
          · skip
            have q3 : (if (0 : Int64) ≤ w.toInt64 ∧ w.toInt64 ≤ (4 : Int64) then (1 : Int32) else 0) = 0 := if_neg (fun r => z3 (by simp only [i_le, i_lt, j_le, Int32.toInt_toInt64, Int32.reduceToInt, Int64.reduceToInt, Int32.toInt_zero] at r ⊢; omega))
            have e : r_allV M p y k w = -2 := by unfold r_allV; rw [if_pos y0, if_pos y1, if_pos y2, if_neg (fun q => z3 (by first | exact q | (rw [le1]; exact q) | (rw [le0]; exact q)))]
            rw [e] at h
            repeat' (first | (with_reducible exact hmn) | (with_reducible exact n030) | (with_reducible exact n1) | apply And.intro | exact rfl | (intro hx; with_reducible exact absurd hx q0) | (intro hx; with_reducible exact absurd hx q1) | (intro hx; with_reducible exact absurd hx q2) | (intro hx; with_reducible exact absurd q3 hx) | (intro hx; exact absurd hx (by decide)) | (intro hx; exact absurd (by decide) hx) | decide | intro hx | (refine Exists.intro _ (And.intro rfl ?_)))
            all_goals try first | (with_reducible change am_tI _ _) | (change Ret _ _) | (change Ret _ _ _) | (change Exists _)
            all_goals try dsimp only at *
            all_goals try exact absurd ‹(1000 : Int64) = 0› (by decide)
            all_goals exact h _ r_sc.rf hR
          · skip
            have q3 : ¬ ((if (0 : Int64) ≤ w.toInt64 ∧ w.toInt64 ≤ (4 : Int64) then (1 : Int32) else 0) = 0) := by rw [if_pos (by have q := z3; simp only [i_le, i_lt, j_le, Int32.toInt_toInt64, Int32.reduceToInt, Int64.reduceToInt, Int32.toInt_zero] at q ⊢; omega)]; decide
            have y3 : 0 ≤ w ∧ w ≤ 4 := by first | exact z3 | (rw [← le1]; exact z3) | (rw [← le0]; exact z3)
            have e : r_allV M p y k w = z_tog (r_R M p k (y.toNatClampNeg + 1)).1 (30 * w.toNatClampNeg) (r_mine M p (r_n M)) := by unfold r_allV; rw [if_pos y0, if_pos y1, if_pos y2, if_pos y3]
            rw [e] at h
            have hp : am_in p 12 := ⟨by have q := y0.1; simp only [i_le, Int32.reduceToInt, Int32.toInt_zero] at q; omega, by have q := y0.2; simp only [i_lt] at q; omega⟩
            have hy : am_in y 40 := ⟨by have q := y1.1; simp only [i_le, Int32.reduceToInt, Int32.toInt_zero] at q; omega, by have q := y1.2; simp only [i_lt, Int32.reduceToInt] at q; omega⟩
            have hk : am_in k 40 := ⟨by have q := y2.1; simp only [i_le, Int32.reduceToInt, Int32.toInt_zero] at q; omega, by have q := y2.2; simp only [i_lt, Int32.reduceToInt] at q; omega⟩
            have hw : am_in w 5 := ⟨by have q := y3.1; simp only [i_le, Int32.reduceToInt, Int32.toInt_zero] at q; omega, by have q := y3.2; simp only [i_le, Int32.reduceToInt] at q; omega⟩
            have hoa := hX.roa (p := p)
            have cy := i_clamp hy.1
            have cw := i_clamp hw.1
            have gw := g_cl hw
            have y39 : -1 ≤ y.toInt ∧ y.toInt ≤ 39 := ⟨by have := hy.1; omega, by have := hy.2; omega⟩
            repeat' (first | (with_reducible exact hmn) | (with_reducible exact n030) | (with_reducible exact n1) | (with_reducible exact hp) | (with_reducible exact hw) | (with_reducible exact y39) | (with_reducible exact hR) | (with_reducible exact hoa) | apply And.intro | exact rfl | (intro hx; with_reducible exact absurd hx q0) | (intro hx; with_reducible exact absurd hx q1) | (intro hx; with_reducible exact absurd hx q2) | (intro hx; with_reducible exact absurd hx q3) | ((with_reducible change r_I _); (with_reducible assumption)) | (intro hx; exact absurd hx (by decide)) | (intro hx; exact absurd (by decide) hx) | decide | intro hx | (refine Exists.intro _ (And.intro rfl ?_)))
            all_goals try first | (with_reducible change am_tI _ _) | (change Ret _ _) | (change Ret _ _ _) | (change Exists _)
            all_goals try dsimp only at *
            all_goals try exact absurd ‹(1000 : Int64) = 0› (by decide)
            all_goals
              rename_i N s0 ky rN z0
              have e0 := hx
              refine am_rL (h N ky.sc rN) ?_
              have c201 : N.1 201 = M.1 201 := funext fun b => ky.i (by decide) (by decide) (Or.inl (by decide))
              rw [r_mine_cg c201, show (y.toNatClampNeg + 1) = (y.toInt + 1).toNat by omega]
              unfold z_tog
              exact z_tog_cg (fun x hxm => ((r_R_of n1 e0 z0).1 _ (by have q := g_cl (r_mine_z n1 hxm).1; omega)).symm)
  · exact h.elim
def r_rateV (M : am_M) (l y k : Int32) : Int32 := if 0 ≤ l ∧ l < M.1 201 1 then (if 0 ≤ y ∧ y < 40 then (if 0 ≤ k ∧ k < 40 then r_rt M l y (r_known M (r_lo M l 0) y k) (r_la M (r_lo M l 0) y) ((r_R M (r_lo M l 0) k y.toNatClampNeg).1 l.toNatClampNeg) else -2) else -2) else -2
def kX7_rateE (live : am_E) (Ret : am_R) : am_code := [(0, am_aload 0 1), (1, am_iload 1 2), (2, am_callV live 7 1 TX7_isLoan 5), (5, am_if1 (fun x => x = 0) 22 8), (8, am_iload 2 9), (9, am_callS live 1 TX7_isYear 12), (12, am_if1 (fun x => x = 0) 22 15), (15, am_iload 3 16), (16, am_callS live 1 TX7_isYear 19), (19, am_if1 (fun x => x = 0) 22 25), (22, am_const (.int (-2)) 24), (24, am_retI Ret), (25, am_aload 0 26), (26, am_getR live 7 2 29), (29, am_aload 0 30), (30, am_getR live 7 0 33), (33, am_getR live 0 4 36), (36, am_iload 1 37), (37, am_const (.int 0) 38), (38, am_callV live 3 2 TX3_at 41), (41, am_iload 3 42), (42, am_callV live 4 2 TE4_begin 45), (45, am_aload 0 46), (46, am_getR live 7 2 49), (49, am_iload 2 50), (50, am_const (.int 1) 51), (51, am_i2 (fun x y => x - y) 52), (52, am_callV live 4 1 TE4_go 55), (55, am_aload 0 56), (56, am_getR live 7 2 59), (59, am_iload 2 60), (60, am_callV live 4 1 TE4_look 63), (63, am_aload 0 64), (64, am_getR live 7 2 67), (67, am_iload 1 68), (68, am_iload 2 69), (69, am_callV live 4 2 TE4_rateOf 72), (72, am_retI Ret)]
theorem koX7_rateE (live : am_E) (Ret : am_R) : ∀ q ∈ kX7_rateE live Ret, am_ok RX7 cX7_rate 4 (some .int) 5 124 live Ret q.1 q.2 :=
  am_kc (ak_aload_n dX7_rate_0 rfl rfl) <|
  am_kc (ak_iload_n dX7_rate_1 rfl rfl) <|
  am_kc (ak_callV (C := RX7) (F := TX7) (N := 4) metX7_isLoan rfl ⟨rfl, by decide +kernel, by decide +kernel, by decide +kernel⟩ (am_w5 wd_520 wd_522 wd_2 wd_58 wd_523) (by decide) dX7_rate_2 rfl) <|
  am_kc (ak_if_eq dX7_rate_5 (by decide +kernel) rfl) <|
  am_kc (ak_iload_n dX7_rate_8 rfl rfl) <|
  am_kc (ak_callS metX7_isYear ⟨rfl, by decide +kernel, by decide +kernel, by decide +kernel⟩ (am_w4 wd_407 wd_408 wd_58 wd_409) (by decide) dX7_rate_9 rfl) <|
  am_kc (ak_if_eq dX7_rate_12 (by decide +kernel) rfl) <|
  am_kc (ak_iload_n dX7_rate_15 rfl rfl) <|
  am_kc (ak_callS metX7_isYear ⟨rfl, by decide +kernel, by decide +kernel, by decide +kernel⟩ (am_w4 wd_407 wd_408 wd_58 wd_409) (by decide) dX7_rate_16 rfl) <|
  am_kc (ak_if_ne dX7_rate_19 (by decide +kernel) rfl) <|
  am_kc (ak_bipush dX7_rate_22 (by decide +kernel) rfl) <|
  am_kc (ak_retI dX7_rate_24) <|
  am_kc (ak_aload_n dX7_rate_25 rfl rfl) <|
  am_kc (ak_getR (C := RX7) (T := TX7) (N := 4) rfl inX7w (by decide) rfl rfl rfl wd_392 dX7_rate_26 rfl) <|
  am_kc (ak_aload_n dX7_rate_29 rfl rfl) <|
  am_kc (ak_getR (C := RX7) (T := TX7) (N := 4) rfl inX7w (by decide) rfl rfl rfl wd_390 dX7_rate_30 rfl) <|
  am_kc (ak_getR (C := RX0) (T := TX0) (N := 13) rfl inX0w (by decide) rfl rfl rfl wd_207 dX7_rate_33 rfl) <|
  am_kc (ak_iload_n dX7_rate_36 rfl rfl) <|
  am_kc (ak_iconst dX7_rate_37 (by decide +kernel) rfl) <|
  am_kc (ak_callV (C := RX3) (F := TX3) (N := 3) metX3_at rfl ⟨rfl, by decide +kernel, by decide +kernel, by decide +kernel⟩ (am_w5 wd_524 wd_503 wd_504 wd_64 wd_505) (by decide) dX7_rate_38 rfl) <|
  am_kc (ak_iload_n dX7_rate_41 rfl rfl) <|
  am_kc (ak_callV (C := RX4) (F := TX4) (N := 19) metX4_beginE rfl ⟨rfl, by decide +kernel, by decide +kernel, by decide +kernel⟩ (am_w5 wd_546 wd_547 wd_548 wd_60 wd_549) (by decide) dX7_rate_42 rfl) <|
  am_kc (ak_aload_n dX7_rate_45 rfl rfl) <|
  am_kc (ak_getR (C := RX7) (T := TX7) (N := 4) rfl inX7w (by decide) rfl rfl rfl wd_392 dX7_rate_46 rfl) <|
  am_kc (ak_iload_n dX7_rate_49 rfl rfl) <|
  am_kc (ak_iconst dX7_rate_50 (by decide +kernel) rfl) <|
  am_kc (ak_isub dX7_rate_51 rfl) <|
  am_kc (ak_callV (C := RX4) (F := TX4) (N := 19) metX4_goE rfl ⟨rfl, by decide +kernel, by decide +kernel, by decide +kernel⟩ (am_w5 wd_559 wd_560 wd_561 wd_60 wd_562) (by decide) dX7_rate_52 rfl) <|
  am_kc (ak_aload_n dX7_rate_55 rfl rfl) <|
  am_kc (ak_getR (C := RX7) (T := TX7) (N := 4) rfl inX7w (by decide) rfl rfl rfl wd_392 dX7_rate_56 rfl) <|
  am_kc (ak_iload_n dX7_rate_59 rfl rfl) <|
  am_kc (ak_callV (C := RX4) (F := TX4) (N := 19) metX4_lookE rfl ⟨rfl, by decide +kernel, by decide +kernel, by decide +kernel⟩ (am_w5 wd_657 wd_564 wd_565 wd_60 wd_566) (by decide) dX7_rate_60 rfl) <|
  am_kc (ak_aload_n dX7_rate_63 rfl rfl) <|
  am_kc (ak_getR (C := RX7) (T := TX7) (N := 4) rfl inX7w (by decide) rfl rfl rfl wd_392 dX7_rate_64 rfl) <|
  am_kc (ak_iload_n dX7_rate_67 rfl rfl) <|
  am_kc (ak_iload_n dX7_rate_68 rfl rfl) <|
  am_kc (ak_callV (C := RX4) (F := TX4) (N := 19) metX4_rateOfE rfl ⟨rfl, by decide +kernel, by decide +kernel, by decide +kernel⟩ (am_w5 wd_658 wd_589 wd_590 wd_60 wd_591) (by decide) dX7_rate_69 rfl) <|
  am_kc (ak_retI dX7_rate_72) <| am_kn
def TE7_rate : am_T := fun live as M R => match as with
  | [.ref n, .int l, .int y, .int k] => am_mn live ∧ n = 0 ∧ (∃ i1 i2, LX i1 i2 M) ∧ ∀ M', g_sc M M' → g_rI M' → R (some (.int (r_rateV M l y k))) M'
  | _ => False
set_option maxRecDepth 100000 in
set_option maxHeartbeats 4000000 in
theorem metX7_rateE : am_Met yX7_rate cX7_rate 4 (some .int) (5) (124) TE7_rate := by
  refine am_met (own := RX7) (by decide +kernel) rfl kX7_rateE koX7_rateE 200 (fun _ _ _ _ _ => none) (fun live as M Ret h => ?_) (fun _ _ _ _ _ _ _ _ hI => by cases hI)
  unfold TE7_rate at h
  split at h
  · next n l y k =>
    refine ⟨Nat.le_of_ble_eq_true rfl, ?_⟩
    change am_wp _ _ _ _ [(0, Value.ref n), (1, Value.int l), (2, Value.int y), (3, Value.int k)] _ _
    obtain ⟨hmn, rfl, ⟨j1, j2, hX⟩, h⟩ := h
    have hmn2 := hmn
    obtain ⟨i1, i2, rfl⟩ := hmn2
    have hH := hX.li.h
    have hR := hX.li.g
    have hA := hX.li.cA
    have le1 := hX.li.e1
    have le0 := hX.li.e0
    have n1 := hX.li.n1
    have n0 := hX.li.n0
    have hn : 0 ≤ (M.1 33 2).toInt ∧ (M.1 33 2).toInt ≤ 30 := by rw [le1]; exact n1
    have htb := hX.t0
    by_cases z0 : 0 ≤ l ∧ l < M.1 33 2
    rotate_left
    · skip
      have q0 : (if 0 ≤ l ∧ l < M.1 33 2 then (1 : Int32) else 0) = 0 := if_neg z0
      have e : r_rateV M l y k = -2 := by unfold r_rateV; rw [if_neg (fun q => z0 (by first | exact q | (rw [le1]; exact q) | (rw [le0]; exact q)))]
      rw [e] at h
      repeat' (first | (with_reducible exact hmn) | apply And.intro | exact rfl | (intro hx; with_reducible exact absurd q0 hx) | (intro hx; exact absurd hx (by decide)) | (intro hx; exact absurd (by decide) hx) | decide | intro hx | (refine Exists.intro _ (And.intro rfl ?_)))
      all_goals try first | (with_reducible change am_tI _ _) | (change Ret _ _) | (change Ret _ _ _) | (change Exists _)
      all_goals try dsimp only at *
      all_goals try exact absurd ‹(1000 : Int64) = 0› (by decide)
      all_goals exact h _ g_sc.rf hR
    · skip
      have q0 : ¬ ((if 0 ≤ l ∧ l < M.1 33 2 then (1 : Int32) else 0) = 0) := by rw [if_pos z0]; decide
      have y0 : 0 ≤ l ∧ l < M.1 201 1 := by first | exact z0 | (rw [← le1]; exact z0) | (rw [← le0]; exact z0)
      by_cases z1 : 0 ≤ y ∧ y < 40
      rotate_left
      · skip
        have q1 : (if 0 ≤ y ∧ y < 40 then (1 : Int32) else 0) = 0 := if_neg z1
        have e : r_rateV M l y k = -2 := by unfold r_rateV; rw [if_pos y0, if_neg (fun q => z1 (by first | exact q | (rw [le1]; exact q) | (rw [le0]; exact q)))]
        rw [e] at h
        repeat' (first | (with_reducible exact hmn) | apply And.intro | exact rfl | (intro hx; with_reducible exact absurd hx q0) | (intro hx; with_reducible exact absurd q1 hx) | (intro hx; exact absurd hx (by decide)) | (intro hx; exact absurd (by decide) hx) | decide | intro hx | (refine Exists.intro _ (And.intro rfl ?_)))
        all_goals try first | (with_reducible change am_tI _ _) | (change Ret _ _) | (change Ret _ _ _) | (change Exists _)
        all_goals try dsimp only at *
        all_goals try exact absurd ‹(1000 : Int64) = 0› (by decide)
        all_goals exact h _ g_sc.rf hR
      · skip
        have q1 : ¬ ((if 0 ≤ y ∧ y < 40 then (1 : Int32) else 0) = 0) := by rw [if_pos z1]; decide
        have y1 : 0 ≤ y ∧ y < 40 := by first | exact z1 | (rw [← le1]; exact z1) | (rw [← le0]; exact z1)
        by_cases z2 : 0 ≤ k ∧ k < 40
        rotate_left
        · skip
          have q2 : (if 0 ≤ k ∧ k < 40 then (1 : Int32) else 0) = 0 := if_neg z2
          have e : r_rateV M l y k = -2 := by unfold r_rateV; rw [if_pos y0, if_pos y1, if_neg (fun q => z2 (by first | exact q | (rw [le1]; exact q) | (rw [le0]; exact q)))]
          rw [e] at h
          repeat' (first | (with_reducible exact hmn) | apply And.intro | exact rfl | (intro hx; with_reducible exact absurd hx q0) | (intro hx; with_reducible exact absurd hx q1) | (intro hx; with_reducible exact absurd q2 hx) | (intro hx; exact absurd hx (by decide)) | (intro hx; exact absurd (by decide) hx) | decide | intro hx | (refine Exists.intro _ (And.intro rfl ?_)))
          all_goals try first | (with_reducible change am_tI _ _) | (change Ret _ _) | (change Ret _ _ _) | (change Exists _)
          all_goals try dsimp only at *
          all_goals try exact absurd ‹(1000 : Int64) = 0› (by decide)
          all_goals exact h _ g_sc.rf hR
        · skip
          have q2 : ¬ ((if 0 ≤ k ∧ k < 40 then (1 : Int32) else 0) = 0) := by rw [if_pos z2]; decide
          have y2 : 0 ≤ k ∧ k < 40 := by first | exact z2 | (rw [← le1]; exact z2) | (rw [← le0]; exact z2)
          have e : r_rateV M l y k = r_rt M l y (r_known M (r_lo M l 0) y k) (r_la M (r_lo M l 0) y) ((r_R M (r_lo M l 0) k y.toNatClampNeg).1 l.toNatClampNeg) := by unfold r_rateV; rw [if_pos y0, if_pos y1, if_pos y2]
          rw [e] at h
          have hl : am_in l 30 := ⟨by have q := y0.1; simp only [i_le, Int32.reduceToInt, Int32.toInt_zero] at q; omega, by have q := y0.2; simp only [i_lt] at q; omega⟩
          have hy : am_in y 40 := ⟨by have q := y1.1; simp only [i_le, Int32.reduceToInt, Int32.toInt_zero] at q; omega, by have q := y1.2; simp only [i_lt, Int32.reduceToInt] at q; omega⟩
          have hk : am_in k 40 := ⟨by have q := y2.1; simp only [i_le, Int32.reduceToInt, Int32.toInt_zero] at q; omega, by have q := y2.2; simp only [i_lt, Int32.reduceToInt] at q; omega⟩
          have cy := i_clamp hy.1
          obtain ⟨hp, hp2, hm⟩ := hX.li.pe hl (by have q := y0.2; rw [i_lt] at q; exact q)
          have ep : am_at (M.1 34) (am_len 34) (l * M.1 33 1 + 0) = r_lo M l 0 := hX.li.lo hl (w := 0) (n := 0) rfl (by decide)
          have hpc := hp
          rw [← ep] at hpc
          have eu := i_sub (x := y) (y := 1) (by simp only [Int32.reduceToInt]; have := hy.1; omega) (by simp only [Int32.reduceToInt]; have := hy.2; omega)
          simp only [Int32.reduceToInt] at eu
          have y39 : -1 ≤ (y - 1).toInt ∧ (y - 1).toInt ≤ 39 := ⟨by have := hy.1; omega, by have := hy.2; omega⟩
          repeat' (first | (with_reducible exact hmn) | (with_reducible exact hpc) | (with_reducible exact hl) | (with_reducible exact hy) | (with_reducible exact hR) | (with_reducible exact hA) | (with_reducible exact hn) | apply And.intro | exact rfl | (intro hx; with_reducible exact absurd hx q0) | (intro hx; with_reducible exact absurd hx q1) | (intro hx; with_reducible exact absurd hx q2) | ((with_reducible change g_rI _); (with_reducible assumption)) | (intro hx; exact absurd hx (by decide)) | (intro hx; exact absurd (by decide) hx) | decide | intro hx | (refine Exists.intro _ (And.intro rfl ?_)))
          all_goals try first | (with_reducible change am_tI _ _) | (change Ret _ _) | (change Ret _ _ _) | (change Exists _)
          all_goals try dsimp only at *
          all_goals try exact absurd ‹(1000 : Int64) = 0› (by decide)
          all_goals first
            | omega
            | exact htb.g (c_bg.sc (by with_reducible assumption))
            | (rw [ep] at *; exact hX.coa hp hp2 hk (by with_reducible assumption) (by with_reducible assumption))
            | (rw [(c_bg.f (by with_reducible assumption)).2.1]; decide)
            | exact ((htb.g (c_bg.sc (by with_reducible assumption))).g (c_gn.sc (by with_reducible assumption))).g c_gn.lk.sc
            | skip
          rename_i N b1 r1 N2 g2 r2 s2 t2 rl N3
          have lk3 := hx
          rw [ep] at b1
          have hne : c_mine M (r_lo M l 0) (M.1 33 2).toNatClampNeg ≠ [] := fun q => by rw [← hX.li.mine, q] at hm; exact absurd hm List.not_mem_nil
          obtain ⟨lk, -⟩ := hX.lk hp hp2 hk b1 hne hy
          have zi := r_mine_z n1 hm
          refine am_rI (h N3 ((((c_bg.sc b1).tr (c_gn.sc g2)).tr c_gn.lk.sc).tr lk3.sc) (rl.eI (fun a b => by rw [lk3.i]))) ?_
          have v0 := hX.at hp hp2 hk b1 y39 s2 hm (w := 0) (by decide)
          rw [Nat.mul_zero, Nat.zero_add, show ((y - 1).toInt + 1).toNat = y.toNatClampNeg by omega] at v0
          rw [c_look_2, v0, (g2.look y).rt y l, lk.rt zi]
  · exact h.elim
def kX8_rateE (live : am_E) (Ret : am_R) : am_code := [(0, am_aload 0 1), (1, am_iload 1 2), (2, am_callV live 8 1 TX8_isLoan 5), (5, am_if1 (fun x => x = 0) 22 8), (8, am_iload 2 9), (9, am_callS live 1 TX8_isYear 12), (12, am_if1 (fun x => x = 0) 22 15), (15, am_iload 3 16), (16, am_callS live 1 TX8_isYear 19), (19, am_if1 (fun x => x = 0) 22 25), (22, am_const (.int (-2)) 24), (24, am_retI Ret), (25, am_aload 0 26), (26, am_iload 1 27), (27, am_const (.int 0) 28), (28, am_callV live 8 2 TX8_ofLoan 31), (31, am_istore 4 5 33), (33, am_aload 0 34), (34, am_iload 4 36), (36, am_iload 2 37), (37, am_const (.int 1) 38), (38, am_i2 (fun x y => x - y) 39), (39, am_iload 3 40), (40, am_callV live 8 3 TE8_run 43), (43, am_aload 0 44), (44, am_iload 1 45), (45, am_iload 2 46), (46, am_aload 0 47), (47, am_iload 4 49), (49, am_iload 2 50), (50, am_iload 3 51), (51, am_callV live 8 3 TX8_earningsOf 54), (54, am_aload 0 55), (55, am_getR live 8 0 58), (58, am_const (.int 34) 60), (60, am_const (.int 40) 62), (62, am_iload 4 64), (64, am_i2 (fun x y => x * y) 65), (65, am_i2 (fun x y => x + y) 66), (66, am_iload 2 67), (67, am_i2 (fun x y => x + y) 68), (68, am_ald live 0 69), (69, am_callV live 8 4 TE8_rateOf 72), (72, am_retI Ret)]
theorem koX8_rateE (live : am_E) (Ret : am_R) : ∀ q ∈ kX8_rateE live Ret, am_ok RX8 cX8_rate 5 (some .int) 10 253 live Ret q.1 q.2 :=
  am_kc (ak_aload_n dX8_rate_0 rfl rfl) <|
  am_kc (ak_iload_n dX8_rate_1 rfl rfl) <|
  am_kc (ak_callV (C := RX8) (F := TX8) (N := 27) metX8_isLoan rfl ⟨rfl, by decide +kernel, by decide +kernel, by decide +kernel⟩ (am_w5 wd_1069 wd_1071 wd_30 wd_67 wd_1072) (by decide) dX8_rate_2 rfl) <|
  am_kc (ak_if_eq dX8_rate_5 (by decide +kernel) rfl) <|
  am_kc (ak_iload_n dX8_rate_8 rfl rfl) <|
  am_kc (ak_callS metX8_isYear ⟨rfl, by decide +kernel, by decide +kernel, by decide +kernel⟩ (am_w4 wd_982 wd_983 wd_67 wd_984) (by decide) dX8_rate_9 rfl) <|
  am_kc (ak_if_eq dX8_rate_12 (by decide +kernel) rfl) <|
  am_kc (ak_iload_n dX8_rate_15 rfl rfl) <|
  am_kc (ak_callS metX8_isYear ⟨rfl, by decide +kernel, by decide +kernel, by decide +kernel⟩ (am_w4 wd_982 wd_983 wd_67 wd_984) (by decide) dX8_rate_16 rfl) <|
  am_kc (ak_if_ne dX8_rate_19 (by decide +kernel) rfl) <|
  am_kc (ak_bipush dX8_rate_22 (by decide +kernel) rfl) <|
  am_kc (ak_retI dX8_rate_24) <|
  am_kc (ak_aload_n dX8_rate_25 rfl rfl) <|
  am_kc (ak_iload_n dX8_rate_26 rfl rfl) <|
  am_kc (ak_iconst dX8_rate_27 (by decide +kernel) rfl) <|
  am_kc (ak_callV (C := RX8) (F := TX8) (N := 27) metX8_ofLoan rfl ⟨rfl, by decide +kernel, by decide +kernel, by decide +kernel⟩ (am_w5 wd_1154 wd_1156 wd_41 wd_67 wd_1157) (by decide) dX8_rate_28 rfl) <|
  am_kc (ak_istore dX8_rate_31 rfl) <|
  am_kc (ak_aload_n dX8_rate_33 rfl rfl) <|
  am_kc (ak_iload dX8_rate_34 rfl) <|
  am_kc (ak_iload_n dX8_rate_36 rfl rfl) <|
  am_kc (ak_iconst dX8_rate_37 (by decide +kernel) rfl) <|
  am_kc (ak_isub dX8_rate_38 rfl) <|
  am_kc (ak_iload_n dX8_rate_39 rfl rfl) <|
  am_kc (ak_callV (C := RX8) (F := TX8) (N := 27) metX8_runE rfl ⟨rfl, by decide +kernel, by decide +kernel, by decide +kernel⟩ (am_w5 wd_1158 wd_1160 wd_42 wd_67 wd_1161) (by decide) dX8_rate_40 rfl) <|
  am_kc (ak_aload_n dX8_rate_43 rfl rfl) <|
  am_kc (ak_iload_n dX8_rate_44 rfl rfl) <|
  am_kc (ak_iload_n dX8_rate_45 rfl rfl) <|
  am_kc (ak_aload_n dX8_rate_46 rfl rfl) <|
  am_kc (ak_iload dX8_rate_47 rfl) <|
  am_kc (ak_iload_n dX8_rate_49 rfl rfl) <|
  am_kc (ak_iload_n dX8_rate_50 rfl rfl) <|
  am_kc (ak_callV (C := RX8) (F := TX8) (N := 27) metX8_earningsOf rfl ⟨rfl, by decide +kernel, by decide +kernel, by decide +kernel⟩ (am_w5 wd_1026 wd_1028 wd_28 wd_67 wd_1029) (by decide) dX8_rate_51 rfl) <|
  am_kc (ak_aload_n dX8_rate_54 rfl rfl) <|
  am_kc (ak_getR (C := RX8) (T := TX8) (N := 27) rfl inX8w (by decide) rfl rfl rfl wd_895 dX8_rate_55 rfl) <|
  am_kc (ak_bipush dX8_rate_58 (by decide +kernel) rfl) <|
  am_kc (ak_bipush dX8_rate_60 (by decide +kernel) rfl) <|
  am_kc (ak_iload dX8_rate_62 rfl) <|
  am_kc (ak_imul dX8_rate_64 rfl) <|
  am_kc (ak_iadd dX8_rate_65 rfl) <|
  am_kc (ak_iload_n dX8_rate_66 rfl rfl) <|
  am_kc (ak_iadd dX8_rate_67 rfl) <|
  am_kc (ak_iald (t := 0) (fun _ => rfl) rfl dX8_rate_68 rfl) <|
  am_kc (ak_callV (C := RX8) (F := TX8) (N := 27) metX8_rateOfE rfl ⟨rfl, by decide +kernel, by decide +kernel, by decide +kernel⟩ (am_w5 wd_1174 wd_1176 wd_46 wd_67 wd_1177) (by decide) dX8_rate_69 rfl) <|
  am_kc (ak_retI dX8_rate_72) <| am_kn
def TE8_rate : am_T := fun live as M R => match as with
  | [.ref n, .int l, .int y, .int k] => am_mn live ∧ n = 200 ∧ (∃ i1 i2, LX i1 i2 M) ∧ ∀ M', r_sc M M' → r_I M' → R (some (.int (r_rateV M l y k))) M'
  | _ => False
set_option maxRecDepth 100000 in
set_option maxHeartbeats 4000000 in
theorem metX8_rateE : am_Met yX8_rate cX8_rate 5 (some .int) (10) (253) TE8_rate := by
  refine am_met (own := RX8) (by decide +kernel) rfl kX8_rateE koX8_rateE 200 (fun _ _ _ _ _ => none) (fun live as M Ret h => ?_) (fun _ _ _ _ _ _ _ _ hI => by cases hI)
  unfold TE8_rate at h
  split at h
  · next n l y k =>
    refine ⟨Nat.le_of_ble_eq_true rfl, ?_⟩
    change am_wp _ _ _ _ [(0, Value.ref n), (1, Value.int l), (2, Value.int y), (3, Value.int k)] _ _
    obtain ⟨hmn, rfl, ⟨j1, j2, hX⟩, h⟩ := h
    have hmn2 := hmn
    obtain ⟨i1, i2, rfl⟩ := hmn2
    have l201 : am_len 201 = 3760 := rfl
    have hR := hX.li.i
    have le1 := hX.li.e1
    have le0 := hX.li.e0
    have n0 := hR.n0
    have n1 := hR.n1
    have n030 : 0 ≤ (M.1 201 0).toInt ∧ (M.1 201 0).toInt ≤ 30 := ⟨n0.1, by omega⟩
    by_cases z0 : 0 ≤ l ∧ l < M.1 201 1
    rotate_left
    · skip
      have q0 : (if 0 ≤ l ∧ l < M.1 201 1 then (1 : Int32) else 0) = 0 := if_neg z0
      have e : r_rateV M l y k = -2 := by unfold r_rateV; rw [if_neg (fun q => z0 (by first | exact q | (rw [le1]; exact q) | (rw [le0]; exact q)))]
      rw [e] at h
      repeat' (first | (with_reducible exact hmn) | (with_reducible exact n030) | (with_reducible exact n1) | apply And.intro | exact rfl | (intro hx; with_reducible exact absurd q0 hx) | (intro hx; exact absurd hx (by decide)) | (intro hx; exact absurd (by decide) hx) | decide | intro hx | (refine Exists.intro _ (And.intro rfl ?_)))
      all_goals try first | (with_reducible change am_tI _ _) | (change Ret _ _) | (change Ret _ _ _) | (change Exists _)
      all_goals try dsimp only at *
      all_goals try exact absurd ‹(1000 : Int64) = 0› (by decide)
      all_goals exact h _ r_sc.rf hR
    · skip
      have q0 : ¬ ((if 0 ≤ l ∧ l < M.1 201 1 then (1 : Int32) else 0) = 0) := by rw [if_pos z0]; decide
      have y0 : 0 ≤ l ∧ l < M.1 201 1 := by first | exact z0 | (rw [← le1]; exact z0) | (rw [← le0]; exact z0)
      by_cases z1 : 0 ≤ y ∧ y < 40
      rotate_left
      · skip
        have q1 : (if 0 ≤ y ∧ y < 40 then (1 : Int32) else 0) = 0 := if_neg z1
        have e : r_rateV M l y k = -2 := by unfold r_rateV; rw [if_pos y0, if_neg (fun q => z1 (by first | exact q | (rw [le1]; exact q) | (rw [le0]; exact q)))]
        rw [e] at h
        repeat' (first | (with_reducible exact hmn) | (with_reducible exact n030) | (with_reducible exact n1) | apply And.intro | exact rfl | (intro hx; with_reducible exact absurd hx q0) | (intro hx; with_reducible exact absurd q1 hx) | (intro hx; exact absurd hx (by decide)) | (intro hx; exact absurd (by decide) hx) | decide | intro hx | (refine Exists.intro _ (And.intro rfl ?_)))
        all_goals try first | (with_reducible change am_tI _ _) | (change Ret _ _) | (change Ret _ _ _) | (change Exists _)
        all_goals try dsimp only at *
        all_goals try exact absurd ‹(1000 : Int64) = 0› (by decide)
        all_goals exact h _ r_sc.rf hR
      · skip
        have q1 : ¬ ((if 0 ≤ y ∧ y < 40 then (1 : Int32) else 0) = 0) := by rw [if_pos z1]; decide
        have y1 : 0 ≤ y ∧ y < 40 := by first | exact z1 | (rw [← le1]; exact z1) | (rw [← le0]; exact z1)
        by_cases z2 : 0 ≤ k ∧ k < 40
        rotate_left
        · skip
          have q2 : (if 0 ≤ k ∧ k < 40 then (1 : Int32) else 0) = 0 := if_neg z2
          have e : r_rateV M l y k = -2 := by unfold r_rateV; rw [if_pos y0, if_pos y1, if_neg (fun q => z2 (by first | exact q | (rw [le1]; exact q) | (rw [le0]; exact q)))]
          rw [e] at h
          repeat' (first | (with_reducible exact hmn) | (with_reducible exact n030) | (with_reducible exact n1) | apply And.intro | exact rfl | (intro hx; with_reducible exact absurd hx q0) | (intro hx; with_reducible exact absurd hx q1) | (intro hx; with_reducible exact absurd q2 hx) | (intro hx; exact absurd hx (by decide)) | (intro hx; exact absurd (by decide) hx) | decide | intro hx | (refine Exists.intro _ (And.intro rfl ?_)))
          all_goals try first | (with_reducible change am_tI _ _) | (change Ret _ _) | (change Ret _ _ _) | (change Exists _)
          all_goals try dsimp only at *
          all_goals try exact absurd ‹(1000 : Int64) = 0› (by decide)
          all_goals exact h _ r_sc.rf hR
        · skip
          have q2 : ¬ ((if 0 ≤ k ∧ k < 40 then (1 : Int32) else 0) = 0) := by rw [if_pos z2]; decide
          have y2 : 0 ≤ k ∧ k < 40 := by first | exact z2 | (rw [← le1]; exact z2) | (rw [← le0]; exact z2)
          have e : r_rateV M l y k = r_rt M l y (r_known M (r_lo M l 0) y k) (r_la M (r_lo M l 0) y) ((r_R M (r_lo M l 0) k y.toNatClampNeg).1 l.toNatClampNeg) := by unfold r_rateV; rw [if_pos y0, if_pos y1, if_pos y2]
          rw [e] at h
          have hl : am_in l 30 := ⟨by have q := y0.1; simp only [i_le, Int32.reduceToInt, Int32.toInt_zero] at q; omega, by have q := y0.2; simp only [i_lt] at q; omega⟩
          have hy : am_in y 40 := ⟨by have q := y1.1; simp only [i_le, Int32.reduceToInt, Int32.toInt_zero] at q; omega, by have q := y1.2; simp only [i_lt, Int32.reduceToInt] at q; omega⟩
          have hk : am_in k 40 := ⟨by have q := y2.1; simp only [i_le, Int32.reduceToInt, Int32.toInt_zero] at q; omega, by have q := y2.2; simp only [i_lt, Int32.reduceToInt] at q; omega⟩
          have cy := i_clamp hy.1
          have gl := g_cl hl
          have hp := r_pers hR hl
          have w0 : 0 ≤ (0 : Int32).toInt ∧ (0 : Int32).toInt ≤ 7 := ⟨by decide, by decide⟩
          have hoa := hX.roa (p := M.1 201 (2838 + 8 * l + 0).toNatClampNeg)
          have eu := i_sub (x := y) (y := 1) (by simp only [Int32.reduceToInt]; have := hy.1; omega) (by simp only [Int32.reduceToInt]; have := hy.2; omega)
          simp only [Int32.reduceToInt] at eu
          have y39 : -1 ≤ (y - 1).toInt ∧ (y - 1).toInt ≤ 39 := ⟨by have := hy.1; omega, by have := hy.2; omega⟩
          have p1 := hp.1
          have p2 := hp.2
          have y1 := hy.1
          have y2 := hy.2
          have e40 := r_mul (c := 40) (x := M.1 201 (2838 + 8 * l + 0).toNatClampNeg) ⟨by decide, by decide⟩ ⟨by omega, by omega⟩
          simp only [Int32.reduceToInt] at e40
          have ea := r_off (c := 34) (x := 40 * M.1 201 (2838 + 8 * l + 0).toNatClampNeg) ⟨by decide, by decide⟩ ⟨by omega, by omega⟩
          simp only [e40, Int32.reduceToInt] at ea
          have eb := r_off (c := 34 + 40 * M.1 201 (2838 + 8 * l + 0).toNatClampNeg) (x := y) ⟨by omega, by omega⟩ ⟨by omega, by omega⟩
          rw [ea] at eb
          have x1 : 0 ≤ (34 + 40 * M.1 201 (2838 + 8 * l + 0).toNatClampNeg + y).toInt := by omega
          have x2 : (34 + 40 * M.1 201 (2838 + 8 * l + 0).toNatClampNeg + y).toInt < (am_len 201 : Int) := by rw [l201]; omega
          repeat' (first | (with_reducible exact hmn) | (with_reducible exact n030) | (with_reducible exact n1) | (with_reducible exact hl) | (with_reducible exact hp) | (with_reducible exact hy) | (with_reducible exact w0) | (with_reducible exact y39) | (with_reducible exact x1) | (with_reducible exact x2) | (with_reducible exact hR) | (with_reducible exact hoa) | apply And.intro | exact rfl | (intro hx; with_reducible exact absurd hx q0) | (intro hx; with_reducible exact absurd hx q1) | (intro hx; with_reducible exact absurd hx q2) | ((with_reducible change r_I _); (with_reducible assumption)) | (intro hx; exact absurd hx (by decide)) | (intro hx; exact absurd (by decide) hx) | decide | intro hx | (refine Exists.intro _ (And.intro rfl ?_)))
          all_goals try first | (with_reducible change am_tI _ _) | (change Ret _ _) | (change Ret _ _ _) | (change Exists _)
          all_goals try dsimp only at *
          all_goals try exact absurd ‹(1000 : Int64) = 0› (by decide)
          all_goals
            rename_i N s0 ky rN z0 e0 N2 kr
            have rN2 := hx
            refine am_rI (h N2 (ky.sc.tr (r_ky.rf.kr kr).sc) rN2) ?_
            have q := (r_R_of n1 e0 z0).1 l.toNatClampNeg (by omega)
            rw [r_fl_v gl, show ((y - 1).toInt + 1).toNat = y.toNatClampNeg by omega] at q
            rw [q]
            exact (ky.f (fun K => r_rt K l y (r_known K (r_lo M l 0) y k) (r_la K (r_lo M l 0) y) ((r_R M (r_lo M l 0) k y.toNatClampNeg).1 l.toNatClampNeg)) (fun _ _ _ => rfl) (fun _ _ _ _ _ _ => rfl)).symm
  · exact h.elim
def r_overV (M : am_M) (p y k : Int32) : Int64 := if 0 ≤ p ∧ p < M.1 201 0 then (if 0 ≤ y ∧ y < 40 then (if 0 ≤ k ∧ k < 40 then z_tog (r_R M p y (y.toNatClampNeg + 1)).1 30 (r_mine M p (r_n M)) - z_tog (r_R M p k (y.toNatClampNeg + 1)).1 30 (r_mine M p (r_n M)) else -1000000000000000) else -1000000000000000) else -1000000000000000
def kX7_overE (live : am_E) (Ret : am_R) : am_code := [(0, am_aload 0 1), (1, am_iload 1 2), (2, am_callV live 7 1 TX7_isPerson 5), (5, am_if1 (fun x => x = 0) 22 8), (8, am_iload 2 9), (9, am_callS live 1 TX7_isYear 12), (12, am_if1 (fun x => x = 0) 22 15), (15, am_iload 3 16), (16, am_callS live 1 TX7_isYear 19), (19, am_if1 (fun x => x = 0) 22 26), (22, am_const (.long (-1000000000000000)) 25), (25, am_retL Ret), (26, am_aload 0 27), (27, am_iload 1 28), (28, am_iload 2 29), (29, am_iload 2 30), (30, am_const (.int 1) 31), (31, am_callV live 7 4 TE7_together 34), (34, am_aload 0 35), (35, am_iload 1 36), (36, am_iload 2 37), (37, am_iload 3 38), (38, am_const (.int 1) 39), (39, am_callV live 7 4 TE7_together 42), (42, am_l2 (fun x y => x - y) 43), (43, am_retL Ret)]
theorem koX7_overE (live : am_E) (Ret : am_R) : ∀ q ∈ kX7_overE live Ret, am_ok RX7 cX7_over 4 (some .long) 6 148 live Ret q.1 q.2 :=
  am_kc (ak_aload_n dX7_over_0 rfl rfl) <|
  am_kc (ak_iload_n dX7_over_1 rfl rfl) <|
  am_kc (ak_callV (C := RX7) (F := TX7) (N := 4) metX7_isPerson rfl ⟨rfl, by decide +kernel, by decide +kernel, by decide +kernel⟩ (am_w5 wd_414 wd_416 wd_0 wd_58 wd_417) (by decide) dX7_over_2 rfl) <|
  am_kc (ak_if_eq dX7_over_5 (by decide +kernel) rfl) <|
  am_kc (ak_iload_n dX7_over_8 rfl rfl) <|
  am_kc (ak_callS metX7_isYear ⟨rfl, by decide +kernel, by decide +kernel, by decide +kernel⟩ (am_w4 wd_407 wd_408 wd_58 wd_409) (by decide) dX7_over_9 rfl) <|
  am_kc (ak_if_eq dX7_over_12 (by decide +kernel) rfl) <|
  am_kc (ak_iload_n dX7_over_15 rfl rfl) <|
  am_kc (ak_callS metX7_isYear ⟨rfl, by decide +kernel, by decide +kernel, by decide +kernel⟩ (am_w4 wd_407 wd_408 wd_58 wd_409) (by decide) dX7_over_16 rfl) <|
  am_kc (ak_if_ne dX7_over_19 (by decide +kernel) rfl) <|
  am_kc (ak_ldc2 wd_663 dX7_over_22 rfl) <|
  am_kc (ak_retL dX7_over_25) <|
  am_kc (ak_aload_n dX7_over_26 rfl rfl) <|
  am_kc (ak_iload_n dX7_over_27 rfl rfl) <|
  am_kc (ak_iload_n dX7_over_28 rfl rfl) <|
  am_kc (ak_iload_n dX7_over_29 rfl rfl) <|
  am_kc (ak_iconst dX7_over_30 (by decide +kernel) rfl) <|
  am_kc (ak_callV (C := RX7) (F := TX7) (N := 4) metX7_togetherE rfl ⟨rfl, by decide +kernel, by decide +kernel, by decide +kernel⟩ (am_w5 wd_645 wd_647 wd_12 wd_58 wd_648) (by decide) dX7_over_31 rfl) <|
  am_kc (ak_aload_n dX7_over_34 rfl rfl) <|
  am_kc (ak_iload_n dX7_over_35 rfl rfl) <|
  am_kc (ak_iload_n dX7_over_36 rfl rfl) <|
  am_kc (ak_iload_n dX7_over_37 rfl rfl) <|
  am_kc (ak_iconst dX7_over_38 (by decide +kernel) rfl) <|
  am_kc (ak_callV (C := RX7) (F := TX7) (N := 4) metX7_togetherE rfl ⟨rfl, by decide +kernel, by decide +kernel, by decide +kernel⟩ (am_w5 wd_645 wd_647 wd_12 wd_58 wd_648) (by decide) dX7_over_39 rfl) <|
  am_kc (ak_lsub dX7_over_42 rfl) <|
  am_kc (ak_retL dX7_over_43) <| am_kn
def TE7_over : am_T := fun live as M R => match as with
  | [.ref n, .int p, .int y, .int k] => am_mn live ∧ n = 0 ∧ (∃ i1 i2, LX i1 i2 M) ∧ ∀ M', g_sc M M' → g_rI M' → R (some (.long (r_overV M p y k))) M'
  | _ => False
set_option maxRecDepth 100000 in
set_option maxHeartbeats 4000000 in
theorem metX7_overE : am_Met yX7_over cX7_over 4 (some .long) (6) (148) TE7_over := by
  refine am_met (own := RX7) (by decide +kernel) rfl kX7_overE koX7_overE 200 (fun _ _ _ _ _ => none) (fun live as M Ret h => ?_) (fun _ _ _ _ _ _ _ _ hI => by cases hI)
  unfold TE7_over at h
  split at h
  · next n p y k =>
    refine ⟨Nat.le_of_ble_eq_true rfl, ?_⟩
    change am_wp _ _ _ _ [(0, Value.ref n), (1, Value.int p), (2, Value.int y), (3, Value.int k)] _ _
    obtain ⟨hmn, rfl, ⟨j1, j2, hX⟩, h⟩ := h
    have hmn2 := hmn
    obtain ⟨i1, i2, rfl⟩ := hmn2
    have hH := hX.li.h
    have hR := hX.li.g
    have hA := hX.li.cA
    have le1 := hX.li.e1
    have le0 := hX.li.e0
    have n1 := hX.li.n1
    have n0 := hX.li.n0
    have hn : 0 ≤ (M.1 33 2).toInt ∧ (M.1 33 2).toInt ≤ 30 := by rw [le1]; exact n1
    have htb := hX.t0
    by_cases z0 : 0 ≤ p ∧ p < M.1 21 7
    rotate_left
    · skip
      have q0 : (if 0 ≤ p ∧ p < M.1 21 7 then (1 : Int32) else 0) = 0 := if_neg z0
      have e : r_overV M p y k = -1000000000000000 := by unfold r_overV; rw [if_neg (fun q => z0 (by first | exact q | (rw [le1]; exact q) | (rw [le0]; exact q)))]
      rw [e] at h
      repeat' (first | (with_reducible exact hmn) | apply And.intro | exact rfl | (intro hx; with_reducible exact absurd q0 hx) | (intro hx; exact absurd hx (by decide)) | (intro hx; exact absurd (by decide) hx) | decide | intro hx | (refine Exists.intro _ (And.intro rfl ?_)))
      all_goals try first | (with_reducible change am_tI _ _) | (change Ret _ _) | (change Ret _ _ _) | (change Exists _)
      all_goals try dsimp only at *
      all_goals try exact absurd ‹(1000 : Int64) = 0› (by decide)
      all_goals exact h _ g_sc.rf hR
    · skip
      have q0 : ¬ ((if 0 ≤ p ∧ p < M.1 21 7 then (1 : Int32) else 0) = 0) := by rw [if_pos z0]; decide
      have y0 : 0 ≤ p ∧ p < M.1 201 0 := by first | exact z0 | (rw [← le1]; exact z0) | (rw [← le0]; exact z0)
      by_cases z1 : 0 ≤ y ∧ y < 40
      rotate_left
      · skip
        have q1 : (if 0 ≤ y ∧ y < 40 then (1 : Int32) else 0) = 0 := if_neg z1
        have e : r_overV M p y k = -1000000000000000 := by unfold r_overV; rw [if_pos y0, if_neg (fun q => z1 (by first | exact q | (rw [le1]; exact q) | (rw [le0]; exact q)))]
        rw [e] at h
        repeat' (first | (with_reducible exact hmn) | apply And.intro | exact rfl | (intro hx; with_reducible exact absurd hx q0) | (intro hx; with_reducible exact absurd q1 hx) | (intro hx; exact absurd hx (by decide)) | (intro hx; exact absurd (by decide) hx) | decide | intro hx | (refine Exists.intro _ (And.intro rfl ?_)))
        all_goals try first | (with_reducible change am_tI _ _) | (change Ret _ _) | (change Ret _ _ _) | (change Exists _)
        all_goals try dsimp only at *
        all_goals try exact absurd ‹(1000 : Int64) = 0› (by decide)
        all_goals exact h _ g_sc.rf hR
      · skip
        have q1 : ¬ ((if 0 ≤ y ∧ y < 40 then (1 : Int32) else 0) = 0) := by rw [if_pos z1]; decide
        have y1 : 0 ≤ y ∧ y < 40 := by first | exact z1 | (rw [← le1]; exact z1) | (rw [← le0]; exact z1)
        by_cases z2 : 0 ≤ k ∧ k < 40
        rotate_left
        · skip
          have q2 : (if 0 ≤ k ∧ k < 40 then (1 : Int32) else 0) = 0 := if_neg z2
          have e : r_overV M p y k = -1000000000000000 := by unfold r_overV; rw [if_pos y0, if_pos y1, if_neg (fun q => z2 (by first | exact q | (rw [le1]; exact q) | (rw [le0]; exact q)))]
          rw [e] at h
          repeat' (first | (with_reducible exact hmn) | apply And.intro | exact rfl | (intro hx; with_reducible exact absurd hx q0) | (intro hx; with_reducible exact absurd hx q1) | (intro hx; with_reducible exact absurd q2 hx) | (intro hx; exact absurd hx (by decide)) | (intro hx; exact absurd (by decide) hx) | decide | intro hx | (refine Exists.intro _ (And.intro rfl ?_)))
          all_goals try first | (with_reducible change am_tI _ _) | (change Ret _ _) | (change Ret _ _ _) | (change Exists _)
          all_goals try dsimp only at *
          all_goals try exact absurd ‹(1000 : Int64) = 0› (by decide)
          all_goals exact h _ g_sc.rf hR
        · skip
          have q2 : ¬ ((if 0 ≤ k ∧ k < 40 then (1 : Int32) else 0) = 0) := by rw [if_pos z2]; decide
          have y2 : 0 ≤ k ∧ k < 40 := by first | exact z2 | (rw [← le1]; exact z2) | (rw [← le0]; exact z2)
          have e : r_overV M p y k = z_tog (r_R M p y (y.toNatClampNeg + 1)).1 30 (r_mine M p (r_n M)) - z_tog (r_R M p k (y.toNatClampNeg + 1)).1 30 (r_mine M p (r_n M)) := by unfold r_overV; rw [if_pos y0, if_pos y1, if_pos y2]
          rw [e] at h
          have hp : am_in p 12 := ⟨by have q := y0.1; simp only [i_le, Int32.reduceToInt, Int32.toInt_zero] at q; omega, by have q := y0.2; simp only [i_lt] at q; omega⟩
          have hy : am_in y 40 := ⟨by have q := y1.1; simp only [i_le, Int32.reduceToInt, Int32.toInt_zero] at q; omega, by have q := y1.2; simp only [i_lt, Int32.reduceToInt] at q; omega⟩
          have hk : am_in k 40 := ⟨by have q := y2.1; simp only [i_le, Int32.reduceToInt, Int32.toInt_zero] at q; omega, by have q := y2.2; simp only [i_lt, Int32.reduceToInt] at q; omega⟩
          have w1 : am_in (1 : Int32) 6 := ⟨by decide, by decide⟩
          have hp2 : p.toInt < (M.1 201 0).toInt := by have q := y0.2; rw [i_lt] at q; exact q
          repeat' (first | (with_reducible exact hmn) | (with_reducible exact hp) | (with_reducible exact hp2) | (with_reducible exact hy) | (with_reducible exact hk) | (with_reducible exact w1) | apply And.intro | exact rfl | (intro hx; with_reducible exact absurd hx q0) | (intro hx; with_reducible exact absurd hx q1) | (intro hx; with_reducible exact absurd hx q2) | (intro hx; exact absurd hx (by decide)) | (intro hx; exact absurd (by decide) hx) | decide | intro hx | (refine Exists.intro _ (And.intro rfl ?_)))
          all_goals try first | (with_reducible change am_tI _ _) | (change Ret _ _) | (change Ret _ _ _) | (change Exists _)
          all_goals try dsimp only at *
          all_goals try exact absurd ‹(1000 : Int64) = 0› (by decide)
          all_goals first
            | exact ⟨_, _, hX⟩
            | exact ⟨_, _, hX.sc (by with_reducible assumption) (by with_reducible assumption)⟩
            | (rw [g_sc.r1 (by with_reducible assumption) (show 11 ≤ 201 by decide)]; exact hp2)
            | skip
          rename_i N c1 r1 N2 c2
          have r2 := hx
          refine am_rL (h N2 (c1.tr c2) r2) ?_
          rw [r_R_cg (c1.r1 (by decide)) (c1.r1 (by decide)) p k, r_mine_cg (c1.r1 (by decide))]
          rfl
  · exact h.elim
def kX8_overE (live : am_E) (Ret : am_R) : am_code := [(0, am_aload 0 1), (1, am_iload 1 2), (2, am_callV live 8 1 TX8_isPerson 5), (5, am_if1 (fun x => x = 0) 22 8), (8, am_iload 2 9), (9, am_callS live 1 TX8_isYear 12), (12, am_if1 (fun x => x = 0) 22 15), (15, am_iload 3 16), (16, am_callS live 1 TX8_isYear 19), (19, am_if1 (fun x => x = 0) 22 26), (22, am_const (.long (-1000000000000000)) 25), (25, am_retL Ret), (26, am_aload 0 27), (27, am_iload 1 28), (28, am_iload 2 29), (29, am_iload 2 30), (30, am_callV live 8 3 TE8_run 33), (33, am_aload 0 34), (34, am_iload 1 35), (35, am_const (.int 1) 36), (36, am_callV live 8 2 TE8_allOf 39), (39, am_lstore 4 6 41), (41, am_aload 0 42), (42, am_iload 1 43), (43, am_iload 2 44), (44, am_iload 3 45), (45, am_callV live 8 3 TE8_run 48), (48, am_lload 4 50), (50, am_aload 0 51), (51, am_iload 1 52), (52, am_const (.int 1) 53), (53, am_callV live 8 2 TE8_allOf 56), (56, am_l2 (fun x y => x - y) 57), (57, am_retL Ret)]
theorem koX8_overE (live : am_E) (Ret : am_R) : ∀ q ∈ kX8_overE live Ret, am_ok RX8 cX8_over 6 (some .long) 10 253 live Ret q.1 q.2 :=
  am_kc (ak_aload_n dX8_over_0 rfl rfl) <|
  am_kc (ak_iload_n dX8_over_1 rfl rfl) <|
  am_kc (ak_callV (C := RX8) (F := TX8) (N := 27) metX8_isPerson rfl ⟨rfl, by decide +kernel, by decide +kernel, by decide +kernel⟩ (am_w5 wd_993 wd_995 wd_27 wd_67 wd_996) (by decide) dX8_over_2 rfl) <|
  am_kc (ak_if_eq dX8_over_5 (by decide +kernel) rfl) <|
  am_kc (ak_iload_n dX8_over_8 rfl rfl) <|
  am_kc (ak_callS metX8_isYear ⟨rfl, by decide +kernel, by decide +kernel, by decide +kernel⟩ (am_w4 wd_982 wd_983 wd_67 wd_984) (by decide) dX8_over_9 rfl) <|
  am_kc (ak_if_eq dX8_over_12 (by decide +kernel) rfl) <|
  am_kc (ak_iload_n dX8_over_15 rfl rfl) <|
  am_kc (ak_callS metX8_isYear ⟨rfl, by decide +kernel, by decide +kernel, by decide +kernel⟩ (am_w4 wd_982 wd_983 wd_67 wd_984) (by decide) dX8_over_16 rfl) <|
  am_kc (ak_if_ne dX8_over_19 (by decide +kernel) rfl) <|
  am_kc (ak_ldc2 wd_1207 dX8_over_22 rfl) <|
  am_kc (ak_retL dX8_over_25) <|
  am_kc (ak_aload_n dX8_over_26 rfl rfl) <|
  am_kc (ak_iload_n dX8_over_27 rfl rfl) <|
  am_kc (ak_iload_n dX8_over_28 rfl rfl) <|
  am_kc (ak_iload_n dX8_over_29 rfl rfl) <|
  am_kc (ak_callV (C := RX8) (F := TX8) (N := 27) metX8_runE rfl ⟨rfl, by decide +kernel, by decide +kernel, by decide +kernel⟩ (am_w5 wd_1158 wd_1160 wd_42 wd_67 wd_1161) (by decide) dX8_over_30 rfl) <|
  am_kc (ak_aload_n dX8_over_33 rfl rfl) <|
  am_kc (ak_iload_n dX8_over_34 rfl rfl) <|
  am_kc (ak_iconst dX8_over_35 (by decide +kernel) rfl) <|
  am_kc (ak_callV (C := RX8) (F := TX8) (N := 27) metX8_allOfE rfl ⟨rfl, by decide +kernel, by decide +kernel, by decide +kernel⟩ (am_w5 wd_1195 wd_1197 wd_50 wd_67 wd_1198) (by decide) dX8_over_36 rfl) <|
  am_kc (ak_lstore dX8_over_39 rfl) <|
  am_kc (ak_aload_n dX8_over_41 rfl rfl) <|
  am_kc (ak_iload_n dX8_over_42 rfl rfl) <|
  am_kc (ak_iload_n dX8_over_43 rfl rfl) <|
  am_kc (ak_iload_n dX8_over_44 rfl rfl) <|
  am_kc (ak_callV (C := RX8) (F := TX8) (N := 27) metX8_runE rfl ⟨rfl, by decide +kernel, by decide +kernel, by decide +kernel⟩ (am_w5 wd_1158 wd_1160 wd_42 wd_67 wd_1161) (by decide) dX8_over_45 rfl) <|
  am_kc (ak_lload dX8_over_48 rfl) <|
  am_kc (ak_aload_n dX8_over_50 rfl rfl) <|
  am_kc (ak_iload_n dX8_over_51 rfl rfl) <|
  am_kc (ak_iconst dX8_over_52 (by decide +kernel) rfl) <|
  am_kc (ak_callV (C := RX8) (F := TX8) (N := 27) metX8_allOfE rfl ⟨rfl, by decide +kernel, by decide +kernel, by decide +kernel⟩ (am_w5 wd_1195 wd_1197 wd_50 wd_67 wd_1198) (by decide) dX8_over_53 rfl) <|
  am_kc (ak_lsub dX8_over_56 rfl) <|
  am_kc (ak_retL dX8_over_57) <| am_kn
def TE8_over : am_T := fun live as M R => match as with
  | [.ref n, .int p, .int y, .int k] => am_mn live ∧ n = 200 ∧ (∃ i1 i2, LX i1 i2 M) ∧ ∀ M', r_sc M M' → r_I M' → R (some (.long (r_overV M p y k))) M'
  | _ => False
set_option maxRecDepth 100000 in
set_option maxHeartbeats 4000000 in
theorem metX8_overE : am_Met yX8_over cX8_over 6 (some .long) (10) (253) TE8_over := by
  refine am_met (own := RX8) (by decide +kernel) rfl kX8_overE koX8_overE 200 (fun _ _ _ _ _ => none) (fun live as M Ret h => ?_) (fun _ _ _ _ _ _ _ _ hI => by cases hI)
  unfold TE8_over at h
  split at h
  · next n p y k =>
    refine ⟨Nat.le_of_ble_eq_true rfl, ?_⟩
    change am_wp _ _ _ _ [(0, Value.ref n), (1, Value.int p), (2, Value.int y), (3, Value.int k)] _ _
    obtain ⟨hmn, rfl, ⟨j1, j2, hX⟩, h⟩ := h
    have hmn2 := hmn
    obtain ⟨i1, i2, rfl⟩ := hmn2
    have l201 : am_len 201 = 3760 := rfl
    have hR := hX.li.i
    have le1 := hX.li.e1
    have le0 := hX.li.e0
    have n0 := hR.n0
    have n1 := hR.n1
    have n030 : 0 ≤ (M.1 201 0).toInt ∧ (M.1 201 0).toInt ≤ 30 := ⟨n0.1, by omega⟩
    by_cases z0 : 0 ≤ p ∧ p < M.1 201 0
    rotate_left
    · skip
      have q0 : (if 0 ≤ p ∧ p < M.1 201 0 then (1 : Int32) else 0) = 0 := if_neg z0
      have e : r_overV M p y k = -1000000000000000 := by unfold r_overV; rw [if_neg (fun q => z0 (by first | exact q | (rw [le1]; exact q) | (rw [le0]; exact q)))]
      rw [e] at h
      repeat' (first | (with_reducible exact hmn) | (with_reducible exact n030) | (with_reducible exact n1) | apply And.intro | exact rfl | (intro hx; with_reducible exact absurd q0 hx) | (intro hx; exact absurd hx (by decide)) | (intro hx; exact absurd (by decide) hx) | decide | intro hx | (refine Exists.intro _ (And.intro rfl ?_)))
      all_goals try first | (with_reducible change am_tI _ _) | (change Ret _ _) | (change Ret _ _ _) | (change Exists _)
      all_goals try dsimp only at *
      all_goals try exact absurd ‹(1000 : Int64) = 0› (by decide)
      all_goals exact h _ r_sc.rf hR
    · skip
      have q0 : ¬ ((if 0 ≤ p ∧ p < M.1 201 0 then (1 : Int32) else 0) = 0) := by rw [if_pos z0]; decide
      have y0 : 0 ≤ p ∧ p < M.1 201 0 := by first | exact z0 | (rw [← le1]; exact z0) | (rw [← le0]; exact z0)
      by_cases z1 : 0 ≤ y ∧ y < 40
      rotate_left
      · skip
        have q1 : (if 0 ≤ y ∧ y < 40 then (1 : Int32) else 0) = 0 := if_neg z1
        have e : r_overV M p y k = -1000000000000000 := by unfold r_overV; rw [if_pos y0, if_neg (fun q => z1 (by first | exact q | (rw [le1]; exact q) | (rw [le0]; exact q)))]
        rw [e] at h
        repeat' (first | (with_reducible exact hmn) | (with_reducible exact n030) | (with_reducible exact n1) | apply And.intro | exact rfl | (intro hx; with_reducible exact absurd hx q0) | (intro hx; with_reducible exact absurd q1 hx) | (intro hx; exact absurd hx (by decide)) | (intro hx; exact absurd (by decide) hx) | decide | intro hx | (refine Exists.intro _ (And.intro rfl ?_)))
        all_goals try first | (with_reducible change am_tI _ _) | (change Ret _ _) | (change Ret _ _ _) | (change Exists _)
        all_goals try dsimp only at *
        all_goals try exact absurd ‹(1000 : Int64) = 0› (by decide)
        all_goals exact h _ r_sc.rf hR
      · skip
        have q1 : ¬ ((if 0 ≤ y ∧ y < 40 then (1 : Int32) else 0) = 0) := by rw [if_pos z1]; decide
        have y1 : 0 ≤ y ∧ y < 40 := by first | exact z1 | (rw [← le1]; exact z1) | (rw [← le0]; exact z1)
        by_cases z2 : 0 ≤ k ∧ k < 40
        rotate_left
        · skip
          have q2 : (if 0 ≤ k ∧ k < 40 then (1 : Int32) else 0) = 0 := if_neg z2
          have e : r_overV M p y k = -1000000000000000 := by unfold r_overV; rw [if_pos y0, if_pos y1, if_neg (fun q => z2 (by first | exact q | (rw [le1]; exact q) | (rw [le0]; exact q)))]
          rw [e] at h
          repeat' (first | (with_reducible exact hmn) | (with_reducible exact n030) | (with_reducible exact n1) | apply And.intro | exact rfl | (intro hx; with_reducible exact absurd hx q0) | (intro hx; with_reducible exact absurd hx q1) | (intro hx; with_reducible exact absurd q2 hx) | (intro hx; exact absurd hx (by decide)) | (intro hx; exact absurd (by decide) hx) | decide | intro hx | (refine Exists.intro _ (And.intro rfl ?_)))
          all_goals try first | (with_reducible change am_tI _ _) | (change Ret _ _) | (change Ret _ _ _) | (change Exists _)
          all_goals try dsimp only at *
          all_goals try exact absurd ‹(1000 : Int64) = 0› (by decide)
          all_goals exact h _ r_sc.rf hR
        · skip
          have q2 : ¬ ((if 0 ≤ k ∧ k < 40 then (1 : Int32) else 0) = 0) := by rw [if_pos z2]; decide
          have y2 : 0 ≤ k ∧ k < 40 := by first | exact z2 | (rw [← le1]; exact z2) | (rw [← le0]; exact z2)
          have e : r_overV M p y k = z_tog (r_R M p y (y.toNatClampNeg + 1)).1 30 (r_mine M p (r_n M)) - z_tog (r_R M p k (y.toNatClampNeg + 1)).1 30 (r_mine M p (r_n M)) := by unfold r_overV; rw [if_pos y0, if_pos y1, if_pos y2]
          rw [e] at h
          have hp : am_in p 12 := ⟨by have q := y0.1; simp only [i_le, Int32.reduceToInt, Int32.toInt_zero] at q; omega, by have q := y0.2; simp only [i_lt] at q; omega⟩
          have hy : am_in y 40 := ⟨by have q := y1.1; simp only [i_le, Int32.reduceToInt, Int32.toInt_zero] at q; omega, by have q := y1.2; simp only [i_lt, Int32.reduceToInt] at q; omega⟩
          have hk : am_in k 40 := ⟨by have q := y2.1; simp only [i_le, Int32.reduceToInt, Int32.toInt_zero] at q; omega, by have q := y2.2; simp only [i_lt, Int32.reduceToInt] at q; omega⟩
          have w1 : am_in (1 : Int32) 5 := ⟨by decide, by decide⟩
          have hoa := hX.roa (p := p)
          have cy := i_clamp hy.1
          have y39 : -1 ≤ y.toInt ∧ y.toInt ≤ 39 := ⟨by have := hy.1; omega, by have := hy.2; omega⟩
          repeat' (first | (with_reducible exact hmn) | (with_reducible exact n030) | (with_reducible exact n1) | (with_reducible exact hp) | (with_reducible exact w1) | (with_reducible exact y39) | (with_reducible exact hR) | (with_reducible exact hoa) | apply And.intro | exact rfl | (intro hx; with_reducible exact absurd hx q0) | (intro hx; with_reducible exact absurd hx q1) | (intro hx; with_reducible exact absurd hx q2) | ((with_reducible change r_I _); (with_reducible assumption)) | (intro hx; exact absurd hx (by decide)) | (intro hx; exact absurd (by decide) hx) | decide | intro hx | (refine Exists.intro _ (And.intro rfl ?_)))
          all_goals try first | (with_reducible change am_tI _ _) | (change Ret _ _) | (change Ret _ _ _) | (change Exists _)
          all_goals try dsimp only at *
          all_goals try exact absurd ‹(1000 : Int64) = 0› (by decide)
          all_goals first
            | exact ⟨(), fun z hz => (show r_ky M _ by with_reducible assumption).oo (hoa.v hz)⟩
            | skip
          rename_i N s0 ky rN z0 e0 N2 s2 ky2 rN2 z2
          have e2 := hx
          refine am_rL (h N2 (ky.sc.tr ky2.sc) rN2) ?_
          have c1 : N.1 201 = M.1 201 := funext fun b => ky.i (by decide) (by decide) (Or.inl (by decide))
          have c2 : N2.1 201 = M.1 201 := (funext fun b => ky2.i (by decide) (by decide) (Or.inl (by decide))).trans c1
          have ey : r_yr N p k = r_yr M p k := funext fun z => ky.f (fun K => r_yr K p k z) (fun _ _ _ => rfl) (fun _ _ _ _ _ _ => rfl)
          rw [ey] at e2
          have f1 : z_tog (r_fl N) 30 (r_mine M p (r_n M)) = z_tog (r_R M p y (y.toInt + 1).toNat).1 30 (r_mine M p (r_n M)) := z_tog_cg (fun x hxm => (r_R_of n1 e0 z0).1 _ (by have q := g_cl (r_mine_z n1 hxm).1; omega))
          have f2 : z_tog (r_fl N2) 30 (r_mine M p (r_n M)) = z_tog (r_R M p k (y.toInt + 1).toNat).1 30 (r_mine M p (r_n M)) := z_tog_cg (fun x hxm => (r_R_of n1 e2 z2).1 _ (by have q := g_cl (r_mine_z n1 hxm).1; omega))
          rw [r_mine_cg c1, r_mine_cg c2, show 30 * (1 : Int32).toNatClampNeg = 30 from rfl, f1, f2, show (y.toInt + 1).toNat = y.toNatClampNeg + 1 by omega]
  · exact h.elim
