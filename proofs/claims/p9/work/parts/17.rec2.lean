/-! Text: the recursion closed -/
def rwX5_readValue : List dz_r := [(0, .iload_n 1, 1), (1, .bipush 40, 2), (3, .if_icmp .le 13, 3), (6, .aload_n 0, 1), (7, .aload_n 0, 1), (8, .getfield 28, 3), (11, .iconst 1, 1), (12, .invokevirtual 42, 3), (15, .return_, 1), (16, .aload_n 0, 1), (17, .iconst 0, 1), (18, .iload_n 1, 1), (19, .invokevirtual 54, 3), (22, .aload_n 0, 1), (23, .getfield 18, 3), (26, .iconst (-1), 1), (27, .if_icmp .ne 48, 3), (30, .aload_n 0, 1), (31, .invokevirtual 38, 3), (34, .bipush 63, 2), (36, .if_icmp .ne 39, 3), (39, .aload_n 0, 1), (40, .dup, 1), (41, .getfield 28, 3), (44, .iconst 1, 1), (45, .iadd, 1), (46, .putfield 28, 3), (49, .aload_n 0, 1), (50, .iload_n 1, 1), (51, .iconst 1, 1), (52, .iadd, 1), (53, .invokevirtual 34, 3), (56, .aload_n 0, 1), (57, .bipush 58, 2), (59, .invokevirtual 57, 3), (62, .aload_n 0, 1), (63, .iload_n 1, 1), (64, .iconst 1, 1), (65, .iadd, 1), (66, .invokevirtual 34, 3), (69, .aload_n 0, 1), (70, .bipush (-63), 2), (72, .invokevirtual 60, 3), (75, .return_, 1)]
theorem dzX5_readValue : dz cX5_readValue rwX5_readValue := dz_all 0 (by decide +kernel)
def kX5_readValue (n rc lc rv lv : Nat) (Tc Tv : am_T) (live : am_E) (Ret : am_R) : am_code := [(0, am_iload 1 1), (1, am_const (.int 40) 3), (3, am_if2 (fun x y => x ≤ y) 16 6), (6, am_aload 0 7), (7, am_aload 0 8), (8, am_getI live 5 3 11), (11, am_const (.int 1) 12), (12, am_callV live 5 2 TX5_blame 15), (15, am_retV Ret), (16, am_aload 0 17), (17, am_const (.int 0) 18), (18, am_iload 1 19), (19, am_callV live 5 2 Tc 22), (22, am_aload 0 23), (23, am_getI live 5 6 26), (26, am_const (.int (-1)) 27), (27, am_if2 (fun x y => x = y) 30 75), (30, am_aload 0 31), (31, am_callV live 5 0 TX5_next 34), (34, am_const (.int 63) 36), (36, am_if2 (fun x y => x = y) 39 75), (39, am_aload 0 40), (40, am_dup 41), (41, am_getI live 5 3 44), (44, am_const (.int 1) 45), (45, am_i2 (fun x y => x + y) 46), (46, am_putI live 5 3 49), (49, am_aload 0 50), (50, am_iload 1 51), (51, am_const (.int 1) 52), (52, am_i2 (fun x y => x + y) 53), (53, am_callV live 5 1 Tv 56), (56, am_aload 0 57), (57, am_const (.int 58) 59), (59, am_callV live 5 1 TX5_pass 62), (62, am_aload 0 63), (63, am_iload 1 64), (64, am_const (.int 1) 65), (65, am_i2 (fun x y => x + y) 66), (66, am_callV live 5 1 Tv 69), (69, am_aload 0 70), (70, am_const (.int (-63)) 72), (72, am_callV live 5 1 TX5_emit 75), (75, am_retV Ret)]
theorem koX5_readValue (n rc lc rv lv : Nat) (Tc Tv : am_T) (hC : am_Met yX5_readChain cX5_readChain 6 none rc lc Tc) (hV : am_Met yX5_readValue cX5_readValue 2 none rv lv Tv) (hrc : rc + 1 ≤ 4 + 8 * n ∧ lc + 25 ≤ 200 + 200 * n ∧ rv + 1 ≤ 4 + 8 * n ∧ lv + 25 ≤ 200 + 200 * n) (live : am_E) (Ret : am_R) : ∀ q ∈ kX5_readValue n rc lc rv lv Tc Tv live Ret, am_ok RX5 cX5_readValue 2 none (4 + 8 * n) (200 + 200 * n) live Ret q.1 q.2 :=
  am_kz dzX5_readValue <|
  am_kd (fun d => ak_iload_n d rfl rfl) <|
  am_kd (fun d => ak_bipush d (by decide +kernel) rfl) <|
  am_kd (fun d => ak_icmp_le d (by decide +kernel) rfl) <|
  am_kd (fun d => ak_aload_n d rfl rfl) <|
  am_kd (fun d => ak_aload_n d rfl rfl) <|
  am_kd (fun d => ak_getI (C := RX5) (T := TX5) (N := 7) rfl inX5w (by decide) rfl rfl rfl wd_171 d rfl) <|
  am_kd (fun d => ak_iconst d (by decide +kernel) rfl) <|
  am_kd (fun d => ak_callV (C := RX5) (F := TX5) (N := 7) metX5_blame rfl ⟨rfl, hy_X5_blame⟩ (am_w5 wd_676 wd_678 wd_14 wd_65 wd_679) (by omega) d rfl) <|
  am_kd (fun d => ak_retV d) <|
  am_kd (fun d => ak_aload_n d rfl rfl) <|
  am_kd (fun d => ak_iconst d (by decide +kernel) rfl) <|
  am_kd (fun d => ak_iload_n d rfl rfl) <|
  am_kd (fun d => ak_callV (C := RX5) (F := TX5) (N := 7) hC rfl ⟨rfl, hy_X5_readChain⟩ (am_w5 wd_680 wd_682 wd_15 wd_65 wd_683) (by omega) d rfl) <|
  am_kd (fun d => ak_aload_n d rfl rfl) <|
  am_kd (fun d => ak_getI (C := RX5) (T := TX5) (N := 7) rfl inX5w (by decide) rfl rfl rfl wd_175 d rfl) <|
  am_kd (fun d => ak_iconst d (by decide +kernel) rfl) <|
  am_kd (fun d => ak_icmp_ne d (by decide +kernel) rfl) <|
  am_kd (fun d => ak_aload_n d rfl rfl) <|
  am_kd (fun d => ak_callV (C := RX5) (F := TX5) (N := 7) metX5_next rfl ⟨rfl, hy_X5_next⟩ (am_w5 wd_688 wd_690 wd_17 wd_65 wd_691) (by omega) d rfl) <|
  am_kd (fun d => ak_bipush d (by decide +kernel) rfl) <|
  am_kd (fun d => ak_icmp_ne d (by decide +kernel) rfl) <|
  am_kd (fun d => ak_aload_n d rfl rfl) <|
  am_kd (fun d => ak_dup d rfl) <|
  am_kd (fun d => ak_getI (C := RX5) (T := TX5) (N := 7) rfl inX5w (by decide) rfl rfl rfl wd_171 d rfl) <|
  am_kd (fun d => ak_iconst d (by decide +kernel) rfl) <|
  am_kd (fun d => ak_iadd d rfl) <|
  am_kd (fun d => ak_putI (C := RX5) (T := TX5) (N := 7) rfl inX5w tyX5_ok nmX5 (by decide) rfl rfl rfl rfl (by decide +kernel) wd_171 d rfl) <|
  am_kd (fun d => ak_aload_n d rfl rfl) <|
  am_kd (fun d => ak_iload_n d rfl rfl) <|
  am_kd (fun d => ak_iconst d (by decide +kernel) rfl) <|
  am_kd (fun d => ak_iadd d rfl) <|
  am_kd (fun d => ak_callV (C := RX5) (F := TX5) (N := 7) hV rfl ⟨rfl, hy_X5_readValue⟩ (am_w5 wd_672 wd_674 wd_13 wd_65 wd_675) (by omega) d rfl) <|
  am_kd (fun d => ak_aload_n d rfl rfl) <|
  am_kd (fun d => ak_bipush d (by decide +kernel) rfl) <|
  am_kd (fun d => ak_callV (C := RX5) (F := TX5) (N := 7) metX5_pass rfl ⟨rfl, hy_X5_pass⟩ (am_w5 wd_707 wd_709 wd_21 wd_65 wd_710) (by omega) d rfl) <|
  am_kd (fun d => ak_aload_n d rfl rfl) <|
  am_kd (fun d => ak_iload_n d rfl rfl) <|
  am_kd (fun d => ak_iconst d (by decide +kernel) rfl) <|
  am_kd (fun d => ak_iadd d rfl) <|
  am_kd (fun d => ak_callV (C := RX5) (F := TX5) (N := 7) hV rfl ⟨rfl, hy_X5_readValue⟩ (am_w5 wd_672 wd_674 wd_13 wd_65 wd_675) (by omega) d rfl) <|
  am_kd (fun d => ak_aload_n d rfl rfl) <|
  am_kd (fun d => ak_bipush d (by decide +kernel) rfl) <|
  am_kd (fun d => ak_callV (C := RX5) (F := TX5) (N := 7) metX5_emit rfl ⟨rfl, hy_X5_emit⟩ (am_w5 wd_703 wd_705 wd_20 wd_65 wd_706) (by omega) d rfl) <|
  am_kd (fun d => ak_retV d) <| am_kdn
theorem am_ne63 {x : Int32} (h : x = 63) : ¬ x = -1 := fun e => by rw [h] at e; exact absurd e (by decide)
set_option maxRecDepth 100000 in
set_option maxHeartbeats 4000000 in
theorem metX5_readValueG (n rc lc rv lv : Nat) (Tc Tv : am_T) (hC : am_Met yX5_readChain cX5_readChain 6 none rc lc Tc) (hV : am_Met yX5_readValue cX5_readValue 2 none rv lv Tv) (hrc : rc + 1 ≤ 4 + 8 * n ∧ lc + 25 ≤ 200 + 200 * n ∧ rv + 1 ≤ 4 + 8 * n ∧ lv + 25 ≤ 200 + 200 * n)
    (hT1 : ∀ (live : am_E) (t s c : Nat) (e : Int32) (M : am_M) (R : am_R), live.2 t 0 = some s → live.2 t 1 = some c → am_tc live t s c = true → am_tI M t → 0 ≤ e.toInt → e.toInt ≤ 40 → 41 ≤ e.toInt + (n : Int) → (∀ M', am_ch (am_tS t c) M M' → am_tI M' t → R none M') → Tc live [.ref t, .int 0, .int e] M R)
    (hT2 : ∀ (live : am_E) (t s c : Nat) (e : Int32) (M : am_M) (R : am_R), live.2 t 0 = some s → live.2 t 1 = some c → am_tc live t s c = true → am_tI M t → 0 ≤ e.toInt → e.toInt ≤ 40 → 41 ≤ e.toInt + (n : Int) → (∀ M', am_ch (am_tS t c) M M' → am_tI M' t → R none M') → Tv live [.ref t, .int (e + 1)] M R) :
    am_Met yX5_readValue cX5_readValue 2 none (4 + 8 * n) (200 + 200 * n) (TX5_readValue n) := by
  refine am_met (own := RX5) (by decide +kernel) rfl (kX5_readValue n rc lc rv lv Tc Tv) (koX5_readValue n rc lc rv lv Tc Tv hC hV hrc) 120 (fun _ _ _ _ _ => none) ?_ (fun _ _ _ _ _ _ _ _ hI => by cases hI)
  intro live as M Ret h
  unfold TX5_readValue at h
  split at h
  · next t e =>
    refine ⟨Nat.le_of_ble_eq_true rfl, ?_⟩
    change am_wp _ _ _ _ [(0, Value.ref t), (1, Value.int e)] _ _
    have hh := am_tP_mp h
    clear h
    obtain ⟨s, c, h2, h6, hb, h1, h3, h7, h4, h8, h9, h5, h10, hT, he1, he2, he3, h⟩ := hh
    repeat' (first | (with_reducible exact hT) | (with_reducible exact h1) | (with_reducible exact h2) | (with_reducible exact h3) | (with_reducible exact hb) | (with_reducible exact h6) | (with_reducible exact h7) | (refine Exists.intro _ (Exists.intro _ (And.intro h2 (And.intro h6 ?_)))) | (refine Exists.intro _ (And.intro h2 ?_)) | (refine Exists.intro _ (And.intro h6 ?_)) | apply And.intro | exact rfl | intro hx | (refine Exists.intro _ (And.intro rfl ?_)) | (refine hT1 _ _ s c _ _ _ h2 h6 hb ?_ ?_ ?_ ?_ (fun M1 c1 i1 => ?_)) | (refine hT2 _ _ s c _ _ _ h2 h6 hb ?_ ?_ ?_ ?_ (fun M2 c2 i2 => ?_)) | ((with_reducible change _ = true); simp only [h1, h2, h3, hb, h6, h7, Bool.true_and]; rfl))
    all_goals try first | (with_reducible change am_tI _ _) | (change Ret _ _) | (change Ret _ _ _) | (change Exists _)
    all_goals try dsimp only at *
    all_goals try (with_reducible exact absurd ‹(1000 : Int64) = 0› am_z1000)
    all_goals try simp only [am_wI_self]
    all_goals first
      | (with_reducible assumption)
      | omega
      | (have q := hx; simp only [i_le, Int32.reduceToInt] at q; omega)
      | (have q : e ≤ 40 := (by with_reducible assumption); simp only [i_le, Int32.reduceToInt] at q; omega)
      | (with_reducible exact am_tI_cd (by with_reducible assumption))
      | (with_reducible exact am_tI_3p i1 (by with_reducible assumption) (am_sign_lt (am_ne63 (by with_reducible assumption))))
      | exact absurd (show (58 : Int32) = -1 by with_reducible assumption) (by decide)
      | skip
    · rename_i w p hp sg M2a c2a i2a M3 c3
      exact h _ (am_ch_emit (((((c1.wI am_tS_3).wI am_tS_3).tr c2a).tr c3).tr c2)) (am_tI_emit i2 h10)
    · exact h _ (c1.wI am_tS_3) (am_tI_w3 i1 ‹am_skip M1 t s _›)
    · exact h _ c1 i1
    · exact h _ (am_ch_blame am_ch.rf) (am_tI_blame hT)
  · exact h.elim
theorem metX5_readValue (n : Nat) : am_Met yX5_readValue cX5_readValue 2 none (4 + 8 * n) (200 + 200 * n) (TX5_readValue n) := by
  induction n with
  | zero =>
    refine metX5_readValueG 0 0 0 0 0 (fun _ _ _ _ => False) (fun _ _ _ _ => False) (am_MetF _ _ _ _ _ _) (am_MetF _ _ _ _ _ _) (by omega) ?_ ?_
    · intro live t s c e M R a1 a2 a3 a4 a5 a6 a7 hh
      omega
    · intro live t s c e M R a1 a2 a3 a4 a5 a6 a7 hh
      omega
  | succ n ih =>
    have hP := metX5_readPlain n ih
    have hC := metX5_readChain n hP 5
    refine metX5_readValueG (n + 1) (4 + 8 * n + 2 + 5) (200 + 200 * n + 50 + 25 * 5) (4 + 8 * n) (200 + 200 * n) (TX5_readChain n 5) (TX5_readValue n) hC ih (by omega) ?_ ?_
    · intro live t s c e M R a1 a2 a3 a4 a5 a6 a7 hh
      exact am_tP_in a1 a2 a3 ⟨a4, ⟨by decide, by decide, by decide⟩, a5, a6, by omega, hh⟩
    · intro live t s c e M R a1 a2 a3 a4 a5 a6 a7 hh
      have hi := i_add (x := e) (y := 1) (by simp only [Int32.reduceToInt]; omega) (by simp only [Int32.reduceToInt]; omega)
      simp only [Int32.reduceToInt] at hi
      exact am_tP_in a1 a2 a3 ⟨a4, by omega, by omega, by omega, hh⟩
