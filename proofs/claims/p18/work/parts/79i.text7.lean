/-! texts: a character behind: what the text is then -/
def kX5_addE (live : am_E) (Ret : am_R) : am_code := [(0, am_aload 0 1), (1, am_getI live 5 5 4), (4, am_const (.int 50) 6), (6, am_if2 (fun x y => x < y) 10 9), (9, am_retV Ret), (10, am_aload 0 11), (11, am_getR live 5 0 14), (14, am_aload 0 15), (15, am_getI live 5 5 18), (18, am_iload 1 19), (19, am_ast live 0 20), (20, am_aload 0 21), (21, am_dup 22), (22, am_getI live 5 5 25), (25, am_const (.int 1) 26), (26, am_i2 (fun x y => x + y) 27), (27, am_putI live 5 5 30), (30, am_aload 0 31), (31, am_const (.int 0) 32), (32, am_putI live 5 2 35), (35, am_aload 0 36), (36, am_const (.int 0) 37), (37, am_putI live 5 3 40), (40, am_aload 0 41), (41, am_const (.int 0) 42), (42, am_putI live 5 4 45), (45, am_aload 0 46), (46, am_const (.int (-1)) 47), (47, am_putI live 5 6 50), (50, am_aload 0 51), (51, am_const (.int 0) 52), (52, am_callV live 5 1 (TE5_readValue 41) 55), (55, am_aload 0 56), (56, am_callV live 5 0 TX5_next 59), (59, am_const (.int (-1)) 60), (60, am_if2 (fun x y => x = y) 72 63), (63, am_aload 0 64), (64, am_aload 0 65), (65, am_getI live 5 3 68), (68, am_const (.int 1) 69), (69, am_callV live 5 2 TX5_blame 72), (72, am_retV Ret)]
theorem koX5_addE (live : am_E) (Ret : am_R) : ∀ q ∈ kX5_addE live Ret, am_ok RX5 cX5_add 2 none 333 8421 live Ret q.1 q.2 :=
  am_kc (ak_aload_n dX5_add_0 rfl rfl) <|
  am_kc (ak_getI (C := RX5) (T := TX5) (N := 7) rfl inX5w (by decide) rfl rfl rfl wd_173 dX5_add_1 rfl) <|
  am_kc (ak_bipush dX5_add_4 (by decide +kernel) rfl) <|
  am_kc (ak_icmp_lt dX5_add_6 (by decide +kernel) rfl) <|
  am_kc (ak_retV dX5_add_9) <|
  am_kc (ak_aload_n dX5_add_10 rfl rfl) <|
  am_kc (ak_getR (C := RX5) (T := TX5) (N := 7) rfl inX5w (by decide) rfl rfl rfl wd_168 dX5_add_11 rfl) <|
  am_kc (ak_aload_n dX5_add_14 rfl rfl) <|
  am_kc (ak_getI (C := RX5) (T := TX5) (N := 7) rfl inX5w (by decide) rfl rfl rfl wd_173 dX5_add_15 rfl) <|
  am_kc (ak_iload_n dX5_add_18 rfl rfl) <|
  am_kc (ak_iast (t := 0) (fun _ => rfl) rfl dX5_add_19 rfl) <|
  am_kc (ak_aload_n dX5_add_20 rfl rfl) <|
  am_kc (ak_dup dX5_add_21 rfl) <|
  am_kc (ak_getI (C := RX5) (T := TX5) (N := 7) rfl inX5w (by decide) rfl rfl rfl wd_173 dX5_add_22 rfl) <|
  am_kc (ak_iconst dX5_add_25 (by decide +kernel) rfl) <|
  am_kc (ak_iadd dX5_add_26 rfl) <|
  am_kc (ak_putI (C := RX5) (T := TX5) (N := 7) rfl inX5w tyX5_ok nmX5 (by decide) rfl rfl rfl rfl (by decide +kernel) wd_173 dX5_add_27 rfl) <|
  am_kc (ak_aload_n dX5_add_30 rfl rfl) <|
  am_kc (ak_iconst dX5_add_31 (by decide +kernel) rfl) <|
  am_kc (ak_putI (C := RX5) (T := TX5) (N := 7) rfl inX5w tyX5_ok nmX5 (by decide) rfl rfl rfl rfl (by decide +kernel) wd_170 dX5_add_32 rfl) <|
  am_kc (ak_aload_n dX5_add_35 rfl rfl) <|
  am_kc (ak_iconst dX5_add_36 (by decide +kernel) rfl) <|
  am_kc (ak_putI (C := RX5) (T := TX5) (N := 7) rfl inX5w tyX5_ok nmX5 (by decide) rfl rfl rfl rfl (by decide +kernel) wd_171 dX5_add_37 rfl) <|
  am_kc (ak_aload_n dX5_add_40 rfl rfl) <|
  am_kc (ak_iconst dX5_add_41 (by decide +kernel) rfl) <|
  am_kc (ak_putI (C := RX5) (T := TX5) (N := 7) rfl inX5w tyX5_ok nmX5 (by decide) rfl rfl rfl rfl (by decide +kernel) wd_172 dX5_add_42 rfl) <|
  am_kc (ak_aload_n dX5_add_45 rfl rfl) <|
  am_kc (ak_iconst dX5_add_46 (by decide +kernel) rfl) <|
  am_kc (ak_putI (C := RX5) (T := TX5) (N := 7) rfl inX5w tyX5_ok nmX5 (by decide) rfl rfl rfl rfl (by decide +kernel) wd_175 dX5_add_47 rfl) <|
  am_kc (ak_aload_n dX5_add_50 rfl rfl) <|
  am_kc (ak_iconst dX5_add_51 (by decide +kernel) rfl) <|
  am_kc (ak_callV (C := RX5) (F := TX5) (N := 7) (metX5_readValueE 41) rfl ⟨rfl, by decide +kernel, by decide +kernel, by decide +kernel⟩ (am_w5 wd_672 wd_674 wd_13 wd_65 wd_675) (by omega) dX5_add_52 rfl) <|
  am_kc (ak_aload_n dX5_add_55 rfl rfl) <|
  am_kc (ak_callV (C := RX5) (F := TX5) (N := 7) metX5_next rfl ⟨rfl, by decide +kernel, by decide +kernel, by decide +kernel⟩ (am_w5 wd_688 wd_690 wd_17 wd_65 wd_691) (by decide) dX5_add_56 rfl) <|
  am_kc (ak_iconst dX5_add_59 (by decide +kernel) rfl) <|
  am_kc (ak_icmp_eq dX5_add_60 (by decide +kernel) rfl) <|
  am_kc (ak_aload_n dX5_add_63 rfl rfl) <|
  am_kc (ak_aload_n dX5_add_64 rfl rfl) <|
  am_kc (ak_getI (C := RX5) (T := TX5) (N := 7) rfl inX5w (by decide) rfl rfl rfl wd_171 dX5_add_65 rfl) <|
  am_kc (ak_iconst dX5_add_68 (by decide +kernel) rfl) <|
  am_kc (ak_callV (C := RX5) (F := TX5) (N := 7) metX5_blame rfl ⟨rfl, by decide +kernel, by decide +kernel, by decide +kernel⟩ (am_w5 wd_676 wd_678 wd_14 wd_65 wd_679) (by decide) dX5_add_69 rfl) <|
  am_kc (ak_retV dX5_add_72) <| am_kn
/-- a text's code is what its signs mean -/
def tx_ok (t s c : Nat) (M : am_M) : Prop := ∃ _ : Unit, (M.1 t 6 = -1 → ∀ fa, ∃ v, w_res fa (M.1 s) (t_n M t) 0 true [] [] = .inl v ∧ ∀ st, w_ev fa (M.1 c) 0 (t_c M t) st = v :: st) ∧ (¬ M.1 t 6 = -1 → ∀ fa, w_res fa (M.1 s) (t_n M t) 0 true [] [] = .inr (M.1 t 6).toInt)
theorem w_res_cg {fa : Int32 → Int64} {σ σ' : Nat → Int32} {n : Nat} (h : ∀ j, j < n → σ' j = σ j) : w_res fa σ' n 0 true [] [] = w_res fa σ n 0 true [] [] := by
  have hd : ∀ (u i k : Nat) (v : Int), w_dig σ' n u i k v = w_dig σ n u i k v := by
    intro u
    induction u with
    | zero => intro i k v; rfl
    | succ u ih =>
      intro i k v
      unfold w_dig
      by_cases z : i < n
      · rw [h i z, ih]
      · rw [if_neg (fun q => z q.1), if_neg (fun q => z q.1)]
  have hs : ∀ (i : Nat) (due : Bool) (W : List Int32) (V : List Int64), i < n → w_stp fa σ' n i due W V = w_stp fa σ n i due W V := by
    intro i due W V z
    unfold w_stp
    rw [h i z, hd]
  have hr : ∀ (u i : Nat) (due : Bool) (W : List Int32) (V : List Int64), w_run fa σ' n u i due W V = w_run fa σ n u i due W V := by
    intro u
    induction u with
    | zero => intro i due W V; rfl
    | succ u ih =>
      intro i due W V
      unfold w_run
      by_cases z : i < n
      · rw [if_pos z, if_pos z, hs i due W V z]
        cases w_stp fa σ n i due W V with
        | inl S => exact ih _ _ _ _
        | inr f => rfl
      · rw [if_neg z, if_neg z]
  exact hr _ _ _ _ _
theorem tx_ok.cg {t s c t' s' c' : Nat} {M N : am_M} (h : tx_ok t s c M) (e5 : N.1 t' 5 = M.1 t 5) (e6 : N.1 t' 6 = M.1 t 6) (e2 : N.1 t' 2 = M.1 t 2) (es : ∀ j : Nat, j < t_n M t → N.1 s' j = M.1 s j) (ec : ∀ j : Nat, j < t_c M t → N.1 c' j = M.1 c j) : tx_ok t' s' c' N := by
  obtain ⟨-, h1, h2⟩ := h
  have en : t_n N t' = t_n M t := by unfold t_n; rw [e5]
  have ek : t_c N t' = t_c M t := by unfold t_c; rw [e2]
  refine ⟨(), fun w fa => ?_, fun w fa => ?_⟩
  · rw [e6] at w
    obtain ⟨v, a, b⟩ := h1 w fa
    rw [en, ek, w_res_cg es]
    exact ⟨v, a, fun st => by
      rw [w_ev_cg (cd := M.1 c) (fun j _ z => ec j (by omega))]
      exact b st⟩
  · rw [e6] at w ⊢
    rw [en, w_res_cg es]
    exact h2 w fa
theorem tx_ok.no {t s c : Nat} {M : am_M} (h5 : M.1 t 5 = 0) (h6 : M.1 t 6 = 1) : tx_ok t s c M := by
  refine ⟨(), fun w => ?_, fun _ fa => ?_⟩
  · rw [h6] at w
    exact absurd w (by decide)
  · rw [h6, show t_n M t = 0 by unfold t_n; rw [h5]; rfl, w_res_e (Nat.le_refl _)]
    rfl
def t_Mz (M : am_M) (t s : Nat) (g : Int32) : am_M := am_wI (am_wI (am_wI (am_wI (am_wI (am_wI M s (M.1 t 5).toNatClampNeg g) t 5 (M.1 t 5 + 1)) t 2 0) t 3 0) t 4 0) t 6 (-1)
def TE5_add : am_T := fun live as M R => match as with
  | [.ref t, .int g] => am_tP live t (fun s c => am_t0 M t ∧ (0 ≤ g.toInt ∧ x_sg t s M) ∧ ((M.1 t 5).toInt < 50 → ∀ M', am_ch (am_tS t c) (am_wI (am_wI M s (M.1 t 5).toNatClampNeg g) t 5 (M.1 t 5 + 1)) M' → am_t0 M' t → tx_ok t s c M' → R none M') ∧ (50 ≤ (M.1 t 5).toInt → R none M))
  | _ => False
def JE5_add : am_E → List Value → am_M → am_R → am_inv := fun live as M0 _ pc => match as with
  | [.ref t, .int g] => (match pc with
    | 55 => some ([0], fun k L st M => L = [(0, .ref t)] ∧ st = [] ∧ k = (9, 0) ∧ (M0.1 t 5).toInt < 50 ∧ am_ch (am_tS t ((live.2 t 1).getD 0)) (t_Mz M0 t ((live.2 t 0).getD 0) g) M ∧ am_tI M t ∧ x_va t ((live.2 t 0).getD 0) ((live.2 t 1).getD 0) (t_Mz M0 t ((live.2 t 0).getD 0) g) M)
    | 59 => some ([0], fun k L st M => ∃ (q : Int32) (Mb : am_M), L = [(0, .ref t)] ∧ st = [.int (am_sign Mb t ((live.2 t 0).getD 0) q)] ∧ k = (8, 0) ∧ (M0.1 t 5).toInt < 50 ∧ am_ch (am_tS t ((live.2 t 1).getD 0)) (t_Mz M0 t ((live.2 t 0).getD 0) g) Mb ∧ am_tI Mb t ∧ x_va t ((live.2 t 0).getD 0) ((live.2 t 1).getD 0) (t_Mz M0 t ((live.2 t 0).getD 0) g) Mb ∧ am_skip Mb t ((live.2 t 0).getD 0) q ∧ M = am_wI Mb t 3 q)
    | _ => none)
  | _ => none
theorem t_Mz_f {M : am_M} {t s c : Nat} {g : Int32} (h9 : s ≠ c) (h5 : t ≠ s) (h10 : t ≠ c) (hT : am_t0 M t) (hl : (M.1 t 5).toInt < 50) (hg : 0 ≤ g.toInt) (hs : x_sg t s M) : ((t_Mz M t s g).1 t 2 = 0 ∧ (t_Mz M t s g).1 t 3 = 0 ∧ (t_Mz M t s g).1 t 4 = 0 ∧ (t_Mz M t s g).1 t 6 = -1) ∧ am_tI (t_Mz M t s g) t ∧ x_sg t s (t_Mz M t s g) := by
  obtain ⟨-, q1, q2⟩ := hT
  have hi := i_inc (x := M.1 t 5) (by omega) (by omega)
  have c5 := i_clamp q2.1
  have f5 : (t_Mz M t s g).1 t 5 = M.1 t 5 + 1 := by simp [t_Mz, am_wI_1]
  have f2 : (t_Mz M t s g).1 t 2 = 0 := by simp [t_Mz, am_wI_1]
  have f3 : (t_Mz M t s g).1 t 3 = 0 := by simp [t_Mz, am_wI_1]
  have f4 : (t_Mz M t s g).1 t 4 = 0 := by simp [t_Mz, am_wI_1]
  have f6 : (t_Mz M t s g).1 t 6 = -1 := by simp [t_Mz, am_wI_1]
  have fs : ∀ j, (t_Mz M t s g).1 s j = if j = (M.1 t 5).toNatClampNeg then g else M.1 s j := fun j => by
    unfold t_Mz
    rw [am_wI_1, if_neg (fun z => h5 z.1.symm), am_wI_1, if_neg (fun z => h5 z.1.symm), am_wI_1, if_neg (fun z => h5 z.1.symm), am_wI_1, if_neg (fun z => h5 z.1.symm), am_wI_1, if_neg (fun z => h5 z.1.symm), am_wI_1]
    by_cases z : j = (M.1 t 5).toNatClampNeg
    · rw [if_pos ⟨rfl, z⟩, if_pos z]
    · rw [if_neg (fun q => z q.2), if_neg z]
  refine ⟨⟨f2, f3, f4, f6⟩, am_tI_of (by rw [f2]; decide) (by rw [f2]; decide) (by rw [f3]; decide) (by rw [f3, f5]; simp only [Int32.reduceToInt]; omega) (by rw [f5]; omega), ⟨(), fun j hj => ?_⟩⟩
  rw [f5] at hj
  rw [fs]
  split
  · exact hg
  · next z => exact hs.v (by omega)
theorem tx_fin {M M2 : am_M} {t s c : Nat} {q : Int32} (h9 : s ≠ c) (h5 : t ≠ s) (h10 : t ≠ c) (hz : M.1 t 2 = 0 ∧ M.1 t 3 = 0 ∧ M.1 t 4 = 0 ∧ M.1 t 6 = -1) (hs : x_sg t s M) (c2 : am_ch (am_tS t c) M M2) (hT2 : am_tI M2 t) (x : x_va t s c M M2) (hp : am_skip M2 t s q) :
    (am_sign M2 t s q = -1 → tx_ok t s c (am_wI M2 t 3 q)) ∧ (¬ am_sign M2 t s q = -1 → tx_ok t s c (am_blame (am_wI M2 t 3 q) t q 1)) := by
  obtain ⟨z2, z3, z4, z6⟩ := hz
  obtain ⟨f3, fk, fs, fc⟩ := w3_f M2 t s c q h5 h10
  have s2 : M2.1 s = M.1 s := funext fun j => am_ch_s c2 h9 h5 j
  have n2 : M2.1 t 5 = M.1 t 5 := am_ch_t5 c2 h10
  have en : t_n M2 t = t_n M t := by unfold t_n; rw [n2]
  have ep : t_p M t = 0 := by unfold t_p; rw [z3]; rfl
  have eo : t_o M t = 0 := by unfold t_o; rw [z4]; rfl
  have ec : t_c M t = 0 := by unfold t_c; rw [z2]; rfl
  obtain ⟨nx, cq⟩ := x_nx hT2 (s := s) ⟨(), fun j hj => by rw [s2]; rw [n2] at hj; exact hs.v hj⟩ hp
  rw [s2, en] at nx
  have a2 := hT2.p
  have p1 := hp.1
  have p2 := hp.2.1
  by_cases w2 : M2.1 t 6 = -1
  · obtain ⟨-, -, -, -, -, y⟩ := x.y z6 w2
    rw [ec, ep, eo] at y
    have key : ∀ fa, ∃ v, (∀ st, w_ev fa (M2.1 c) 0 (t_c M2 t) st = v :: st) ∧ w_res fa (M.1 s) (t_n M t) 0 true [] [] = (if am_sign M2 t s q = -1 then .inl v else .inr (10 * (q.toNatClampNeg : Int) + 1)) := fun fa => by
      obtain ⟨v, u, k⟩ := y fa
      have u0 : ∀ st, w_ev fa (M2.1 c) 0 (t_c M2 t) st = v :: st := fun st => by
        have u1 := u st
        rwa [Nat.sub_zero] at u1
      exact ⟨v, u0, s_all k nx⟩
    refine ⟨fun hg => ⟨(), fun _ fa => ?_, fun w => absurd ((fk 6 (by decide)).trans w2) w⟩, fun hg => ?_⟩
    · obtain ⟨v, k1, k2⟩ := key fa
      rw [if_pos hg] at k2
      rw [fs, fc, s2, show t_n (am_wI M2 t 3 q) t = t_n M t by unfold t_n; rw [fk 5 (by decide), n2], show t_c (am_wI M2 t 3 q) t = t_c M2 t by unfold t_c; rw [fk 2 (by decide)]]
      exact ⟨v, k2, k1⟩
    · have w3' : (am_wI M2 t 3 q).1 t 6 = -1 := (fk 6 (by decide)).trans w2
      have bl := t_bl (M := am_wI M2 t 3 q) (t := t) (a := q) (k := 1) w3' ⟨by omega, by omega⟩ ⟨by decide, by decide⟩
      have bk : ∀ a k, ¬ (a = t ∧ k = 6) → (am_blame (am_wI M2 t 3 q) t q 1).1 a k = (am_wI M2 t 3 q).1 a k := fun a k z => by
        unfold am_blame
        rw [am_wIc_1, if_neg (fun y => z ⟨y.2.1, y.2.2⟩)]
      refine ⟨(), fun w => absurd w bl.1, fun _ fa => ?_⟩
      obtain ⟨v, k1, k2⟩ := key fa
      rw [if_neg hg] at k2
      rw [bl.2, show (am_blame (am_wI M2 t 3 q) t q 1).1 s = M.1 s from (funext fun j => bk s j (fun z => h5 z.1.symm)).trans (fs.trans s2), show t_n (am_blame (am_wI M2 t 3 q) t q 1) t = t_n M t by unfold t_n; rw [bk t 5 (fun z => absurd z.2 (by decide)), fk 5 (by decide), n2]]
      exact k2
  · have key : ∀ fa, w_res fa (M.1 s) (t_n M t) 0 true [] [] = .inr (M2.1 t 6).toInt := fun fa => by
      have k := x.f z6 w2 fa
      rw [ep, eo] at k
      exact s_allb k
    have w3 : ¬ (am_wI M2 t 3 q).1 t 6 = -1 := fun z => w2 ((fk 6 (by decide)).symm.trans z)
    have ok : tx_ok t s c (am_wI M2 t 3 q) := ⟨(), fun w => absurd w w3, fun _ fa => by
      rw [fs, s2, fk 6 (by decide), show t_n (am_wI M2 t 3 q) t = t_n M t by unfold t_n; rw [fk 5 (by decide), n2]]
      exact key fa⟩
    exact ⟨fun _ => ok, fun _ => by rw [t_bln w3]; exact ok⟩
set_option maxRecDepth 100000 in
set_option maxHeartbeats 4000000 in
theorem metX5_addE : am_Met yX5_add cX5_add 2 none (333) (8421) TE5_add := by
  refine am_met (own := RX5) (by decide +kernel) rfl kX5_addE koX5_addE 120 JE5_add ?_ ?_
  · intro live as M Ret h
    unfold TE5_add at h
    split at h
    · next t g =>
      refine ⟨Nat.le_of_ble_eq_true rfl, ?_⟩
      change am_wp _ _ _ _ [(0, Value.ref t), (1, Value.int g)] _ _
      have hh := am_tP_mp h
      clear h
      obtain ⟨s, c, h2, h6, hb, h1, h3, h7, h4, h8, h9, h5, h10, hT, ⟨hg, hs⟩, h, hn⟩ := hh
      have e0 : (live.2 t 0).getD 0 = s := by rw [h2]; rfl
      have ec : (live.2 t 1).getD 0 = c := by rw [h6]; rfl
      have q5 : 0 ≤ (M.1 t 5).toInt ∧ (M.1 t 5).toInt ≤ 50 := by obtain ⟨-, q1, q2⟩ := hT; exact q2
      by_cases z : M.1 t 5 < 50
      · have z2 := z
        simp only [i_lt, Int32.reduceToInt] at z2
        obtain ⟨hz, hTz, hsz⟩ := t_Mz_f (M := M) (t := t) (s := s) (c := c) (g := g) h9 h5 h10 hT z2 hg hs
        have e5 : ∀ k v, (am_wI M s k v).1 t 5 = M.1 t 5 := fun k v => by rw [am_wI_1, if_neg (fun y => h5 y.1)]
        have ez : am_wI (am_wI (am_wI (am_wI (am_wI (am_wI M s (M.1 t 5).toNatClampNeg g) t 5 ((am_wI M s (M.1 t 5).toNatClampNeg g).1 t 5 + 1)) t 2 0) t 3 0) t 4 0) t 6 (-1) = t_Mz M t s g := by rw [e5]; rfl
        have hPz : x_pre t s (t_Mz M t s g) (0 : Int32).toInt := ⟨(), hsz, fun _ => by rw [hz.1, hz.2.1, hz.2.2.1]; exact ⟨⟨by decide, by decide⟩, by decide, by decide⟩⟩
        have x1 : 0 ≤ (M.1 t 5).toInt := q5.1
        have x2 : (M.1 t 5).toInt < (am_len s : Int) := by rw [h4]; omega
        rw [← ez] at hTz hPz
        repeat' (first | (with_reducible exact x1) | (with_reducible exact x2) | (with_reducible exact hTz) | (with_reducible exact hPz) | (with_reducible exact h1) | (with_reducible exact h2) | (with_reducible exact h3) | (with_reducible exact hb) | (with_reducible exact h6) | (with_reducible exact h7) | (refine Exists.intro _ (Exists.intro _ (And.intro h2 (And.intro h6 ?_)))) | (refine Exists.intro _ (And.intro h2 ?_)) | (refine Exists.intro _ (And.intro h6 ?_)) | apply And.intro | exact rfl | (intro hx; with_reducible exact absurd z hx) | (intro hx; exact absurd hx (by decide)) | (intro hx; exact absurd (by decide) hx) | decide | intro hx | (refine Exists.intro _ (And.intro rfl ?_)) | ((with_reducible change _ = true); simp only [h1, h2, h3, hb, h6, h7, Bool.true_and]; rfl))
        all_goals try first | (with_reducible change am_tI _ _) | (change Ret _ _) | (change Ret _ _ _) | (change Exists _)
        all_goals try dsimp only at *
        all_goals try exact absurd ‹(1000 : Int64) = 0› (by decide)
        all_goals first
          | decide
          | skip
        all_goals
          rename_i M2 d1 d2
          rw [ez] at d1 hx
          rw [e0, ec]
          exact ⟨_, rfl, rfl, rfl, z2, d1, d2, hx⟩
      · have z2 := z
        simp only [i_lt, Int32.reduceToInt] at z2
        have hh := hn (by omega)
        repeat' (first | (with_reducible exact h1) | (with_reducible exact h2) | (with_reducible exact h3) | (with_reducible exact hb) | (with_reducible exact h6) | (with_reducible exact h7) | (refine Exists.intro _ (Exists.intro _ (And.intro h2 (And.intro h6 ?_)))) | (refine Exists.intro _ (And.intro h2 ?_)) | (refine Exists.intro _ (And.intro h6 ?_)) | apply And.intro | exact rfl | (intro hx; with_reducible exact absurd hx z) | intro hx | (refine Exists.intro _ (And.intro rfl ?_)) | ((with_reducible change _ = true); simp only [h1, h2, h3, hb, h6, h7, Bool.true_and]; rfl))
        all_goals try first | (with_reducible change am_tI _ _) | (change Ret _ _) | (change Ret _ _ _) | (change Exists _)
        all_goals try dsimp only at *
        all_goals try exact absurd ‹(1000 : Int64) = 0› (by decide)
        all_goals exact hh
    · exact h.elim
  · intro live as M0 Ret h k pc I hI L st M hi
    unfold TE5_add at h
    split at h
    · next t g =>
      have hh := am_tP_mp h
      clear h
      obtain ⟨s, c, h2, h6, hb, h1, h3, h7, h4, h8, h9, h5, h10, hT, ⟨hg, hs⟩, h, hn⟩ := hh
      have e0 : (live.2 t 0).getD 0 = s := by rw [h2]; rfl
      have ec : (live.2 t 1).getD 0 = c := by rw [h6]; rfl
      change (match pc with | 55 => _ | 59 => _ | _ => none) = _ at hI
      split at hI
      · cases hI
        obtain ⟨rfl, rfl, rfl, z2, d1, d2, x⟩ := hi
        rw [e0] at d1 x
        rw [ec] at d1 x
        repeat' (first | (with_reducible exact d2) | (with_reducible exact h1) | (with_reducible exact h2) | (with_reducible exact h3) | (with_reducible exact hb) | (with_reducible exact h6) | (with_reducible exact h7) | (refine Exists.intro _ (Exists.intro _ (And.intro h2 (And.intro h6 ?_)))) | (refine Exists.intro _ (And.intro h2 ?_)) | (refine Exists.intro _ (And.intro h6 ?_)) | apply And.intro | exact rfl | intro hx | (refine Exists.intro _ (And.intro rfl ?_)) | ((with_reducible change _ = true); simp only [h1, h2, h3, hb, h6, h7, Bool.true_and]; rfl))
        all_goals try first | (with_reducible change am_tI _ _) | (change Ret _ _) | (change Ret _ _ _) | (change Exists _)
        all_goals try dsimp only at *
        all_goals try exact absurd ‹(1000 : Int64) = 0› (by decide)
        all_goals
          rename_i q
          rw [e0, ec]
          exact ⟨_, am_lt_l (by decide), q, M, rfl, rfl, rfl, z2, d1, d2, x, hx, rfl⟩
      · cases hI
        obtain ⟨q, Mb, rfl, rfl, rfl, z2, d1, d2, x, hp, rfl⟩ := hi
        rw [e0] at d1 x hp ⊢
        rw [ec] at d1 x
        obtain ⟨hz, hTz, hsz⟩ := t_Mz_f (M := M0) (t := t) (s := s) (c := c) (g := g) h9 h5 h10 hT z2 hg hs
        obtain ⟨r1, r2⟩ := tx_fin h9 h5 h10 hz hsz d1 d2 x hp
        have cm : am_ch (am_tS t c) (am_wI (am_wI M0 s (M0.1 t 5).toNatClampNeg g) t 5 (M0.1 t 5 + 1)) Mb := ((((am_ch.rf.wI am_tS_2).wI am_tS_3).wI am_tS_4).wI am_tS_6).tr d1
        have h := h z2
        have hT3 := am_tI_w3 d2 hp
        have f3 : (am_wI Mb t 3 q).1 t 3 = q := by rw [am_wI_1, if_pos ⟨rfl, rfl⟩]
        by_cases zg : am_sign Mb t s q = -1
        · have hh := h _ (cm.wI am_tS_3) (am_t0_I hT3) (r1 zg)
          repeat' (first | (with_reducible exact h1) | (with_reducible exact h2) | (with_reducible exact h3) | (with_reducible exact hb) | (with_reducible exact h6) | (with_reducible exact h7) | (refine Exists.intro _ (Exists.intro _ (And.intro h2 (And.intro h6 ?_)))) | (refine Exists.intro _ (And.intro h2 ?_)) | (refine Exists.intro _ (And.intro h6 ?_)) | apply And.intro | exact rfl | (intro hx; with_reducible exact absurd zg hx) | intro hx | (refine Exists.intro _ (And.intro rfl ?_)) | ((with_reducible change _ = true); simp only [h1, h2, h3, hb, h6, h7, Bool.true_and]; rfl))
          all_goals try first | (with_reducible change am_tI _ _) | (change Ret _ _) | (change Ret _ _ _) | (change Exists _)
          all_goals try dsimp only at *
          all_goals try exact absurd ‹(1000 : Int64) = 0› (by decide)
          all_goals exact hh
        · have hh := h _ (am_ch_blame (a := q) (k := 1) (cm.wI am_tS_3)) (am_t0_I (am_tI_blame hT3)) (r2 zg)
          have hh : Ret none (am_blame (am_wI Mb t 3 q) t ((am_wI Mb t 3 q).1 t 3) 1) := by rw [f3]; exact hh
          repeat' (first | (with_reducible exact h1) | (with_reducible exact h2) | (with_reducible exact h3) | (with_reducible exact hb) | (with_reducible exact h6) | (with_reducible exact h7) | (refine Exists.intro _ (Exists.intro _ (And.intro h2 (And.intro h6 ?_)))) | (refine Exists.intro _ (And.intro h2 ?_)) | (refine Exists.intro _ (And.intro h6 ?_)) | apply And.intro | exact rfl | (intro hx; with_reducible exact absurd hx zg) | intro hx | (refine Exists.intro _ (And.intro rfl ?_)) | ((with_reducible change _ = true); simp only [h1, h2, h3, hb, h6, h7, Bool.true_and]; rfl))
          all_goals try first | (with_reducible change am_tI _ _) | (change Ret _ _) | (change Ret _ _ _) | (change Exists _)
          all_goals try dsimp only at *
          all_goals try exact absurd ‹(1000 : Int64) = 0› (by decide)
          all_goals exact hh
      · cases hI
    · exact h.elim
