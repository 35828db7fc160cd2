/-! Text: the recursion closed -/
theorem dX5_readValue_0 : decode cX5_readValue 0 = .ok (.iload_n 1, 1) := by decide +kernel
theorem dX5_readValue_1 : decode cX5_readValue 1 = .ok (.bipush 40, 2) := by decide +kernel
theorem dX5_readValue_3 : decode cX5_readValue 3 = .ok (.if_icmp .le 13, 3) := by decide +kernel
theorem dX5_readValue_6 : decode cX5_readValue 6 = .ok (.aload_n 0, 1) := by decide +kernel
theorem dX5_readValue_7 : decode cX5_readValue 7 = .ok (.aload_n 0, 1) := by decide +kernel
theorem dX5_readValue_8 : decode cX5_readValue 8 = .ok (.getfield 28, 3) := by decide +kernel
theorem dX5_readValue_11 : decode cX5_readValue 11 = .ok (.iconst 1, 1) := by decide +kernel
theorem dX5_readValue_12 : decode cX5_readValue 12 = .ok (.invokevirtual 42, 3) := by decide +kernel
theorem dX5_readValue_15 : decode cX5_readValue 15 = .ok (.return_, 1) := by decide +kernel
theorem dX5_readValue_16 : decode cX5_readValue 16 = .ok (.aload_n 0, 1) := by decide +kernel
theorem dX5_readValue_17 : decode cX5_readValue 17 = .ok (.iconst 0, 1) := by decide +kernel
theorem dX5_readValue_18 : decode cX5_readValue 18 = .ok (.iload_n 1, 1) := by decide +kernel
theorem dX5_readValue_19 : decode cX5_readValue 19 = .ok (.invokevirtual 54, 3) := by decide +kernel
theorem dX5_readValue_22 : decode cX5_readValue 22 = .ok (.aload_n 0, 1) := by decide +kernel
theorem dX5_readValue_23 : decode cX5_readValue 23 = .ok (.getfield 18, 3) := by decide +kernel
theorem dX5_readValue_26 : decode cX5_readValue 26 = .ok (.iconst (-1), 1) := by decide +kernel
theorem dX5_readValue_27 : decode cX5_readValue 27 = .ok (.if_icmp .ne 48, 3) := by decide +kernel
theorem dX5_readValue_30 : decode cX5_readValue 30 = .ok (.aload_n 0, 1) := by decide +kernel
theorem dX5_readValue_31 : decode cX5_readValue 31 = .ok (.invokevirtual 38, 3) := by decide +kernel
theorem dX5_readValue_34 : decode cX5_readValue 34 = .ok (.bipush 63, 2) := by decide +kernel
theorem dX5_readValue_36 : decode cX5_readValue 36 = .ok (.if_icmp .ne 39, 3) := by decide +kernel
theorem dX5_readValue_39 : decode cX5_readValue 39 = .ok (.aload_n 0, 1) := by decide +kernel
theorem dX5_readValue_40 : decode cX5_readValue 40 = .ok (.dup, 1) := by decide +kernel
theorem dX5_readValue_41 : decode cX5_readValue 41 = .ok (.getfield 28, 3) := by decide +kernel
theorem dX5_readValue_44 : decode cX5_readValue 44 = .ok (.iconst 1, 1) := by decide +kernel
theorem dX5_readValue_45 : decode cX5_readValue 45 = .ok (.iadd, 1) := by decide +kernel
theorem dX5_readValue_46 : decode cX5_readValue 46 = .ok (.putfield 28, 3) := by decide +kernel
theorem dX5_readValue_49 : decode cX5_readValue 49 = .ok (.aload_n 0, 1) := by decide +kernel
theorem dX5_readValue_50 : decode cX5_readValue 50 = .ok (.iload_n 1, 1) := by decide +kernel
theorem dX5_readValue_51 : decode cX5_readValue 51 = .ok (.iconst 1, 1) := by decide +kernel
theorem dX5_readValue_52 : decode cX5_readValue 52 = .ok (.iadd, 1) := by decide +kernel
theorem dX5_readValue_53 : decode cX5_readValue 53 = .ok (.invokevirtual 34, 3) := by decide +kernel
theorem dX5_readValue_56 : decode cX5_readValue 56 = .ok (.aload_n 0, 1) := by decide +kernel
theorem dX5_readValue_57 : decode cX5_readValue 57 = .ok (.bipush 58, 2) := by decide +kernel
theorem dX5_readValue_59 : decode cX5_readValue 59 = .ok (.invokevirtual 57, 3) := by decide +kernel
theorem dX5_readValue_62 : decode cX5_readValue 62 = .ok (.aload_n 0, 1) := by decide +kernel
theorem dX5_readValue_63 : decode cX5_readValue 63 = .ok (.iload_n 1, 1) := by decide +kernel
theorem dX5_readValue_64 : decode cX5_readValue 64 = .ok (.iconst 1, 1) := by decide +kernel
theorem dX5_readValue_65 : decode cX5_readValue 65 = .ok (.iadd, 1) := by decide +kernel
theorem dX5_readValue_66 : decode cX5_readValue 66 = .ok (.invokevirtual 34, 3) := by decide +kernel
theorem dX5_readValue_69 : decode cX5_readValue 69 = .ok (.aload_n 0, 1) := by decide +kernel
theorem dX5_readValue_70 : decode cX5_readValue 70 = .ok (.bipush (-63), 2) := by decide +kernel
theorem dX5_readValue_72 : decode cX5_readValue 72 = .ok (.invokevirtual 60, 3) := by decide +kernel
theorem dX5_readValue_75 : decode cX5_readValue 75 = .ok (.return_, 1) := by decide +kernel
def kX5_readValue (n rc lc rv lv : Nat) (Tc Tv : am_T) (live : am_E) (Ret : am_R) : am_code := [(0, am_iload 1 1), (1, am_const (.int 40) 3), (3, am_if2 (fun x y => x ≤ y) 16 6), (6, am_aload 0 7), (7, am_aload 0 8), (8, am_getI live 5 3 11), (11, am_const (.int 1) 12), (12, am_callV live 5 2 TX5_blame 15), (15, am_retV Ret), (16, am_aload 0 17), (17, am_const (.int 0) 18), (18, am_iload 1 19), (19, am_callV live 5 2 Tc 22), (22, am_aload 0 23), (23, am_getI live 5 6 26), (26, am_const (.int (-1)) 27), (27, am_if2 (fun x y => x = y) 30 75), (30, am_aload 0 31), (31, am_callV live 5 0 TX5_next 34), (34, am_const (.int 63) 36), (36, am_if2 (fun x y => x = y) 39 75), (39, am_aload 0 40), (40, am_dup 41), (41, am_getI live 5 3 44), (44, am_const (.int 1) 45), (45, am_i2 (fun x y => x + y) 46), (46, am_putI live 5 3 49), (49, am_aload 0 50), (50, am_iload 1 51), (51, am_const (.int 1) 52), (52, am_i2 (fun x y => x + y) 53), (53, am_callV live 5 1 Tv 56), (56, am_aload 0 57), (57, am_const (.int 58) 59), (59, am_callV live 5 1 TX5_pass 62), (62, am_aload 0 63), (63, am_iload 1 64), (64, am_const (.int 1) 65), (65, am_i2 (fun x y => x + y) 66), (66, am_callV live 5 1 Tv 69), (69, am_aload 0 70), (70, am_const (.int (-63)) 72), (72, am_callV live 5 1 TX5_emit 75), (75, am_retV Ret)]
theorem koX5_readValue (n rc lc rv lv : Nat) (Tc Tv : am_T) (hC : am_Met yX5_readChain cX5_readChain 6 none rc lc Tc) (hV : am_Met yX5_readValue cX5_readValue 2 none rv lv Tv) (hrc : rc + 1 ≤ 4 + 8 * n ∧ lc + 25 ≤ 200 + 200 * n ∧ rv + 1 ≤ 4 + 8 * n ∧ lv + 25 ≤ 200 + 200 * n) (live : am_E) (Ret : am_R) : ∀ q ∈ kX5_readValue n rc lc rv lv Tc Tv live Ret, am_ok RX5 cX5_readValue 2 none (4 + 8 * n) (200 + 200 * n) live Ret q.1 q.2 :=
  am_kc (ak_iload_n dX5_readValue_0 rfl rfl) <|
  am_kc (ak_bipush dX5_readValue_1 (by decide +kernel) rfl) <|
  am_kc (ak_icmp_le dX5_readValue_3 (by decide +kernel) rfl) <|
  am_kc (ak_aload_n dX5_readValue_6 rfl rfl) <|
  am_kc (ak_aload_n dX5_readValue_7 rfl rfl) <|
  am_kc (ak_getI (C := RX5) (T := TX5) (N := 7) rfl inX5w (by decide) rfl rfl rfl wd_171 dX5_readValue_8 rfl) <|
  am_kc (ak_iconst dX5_readValue_11 (by decide +kernel) rfl) <|
  am_kc (ak_callV (C := RX5) (F := TX5) (N := 7) metX5_blame rfl ⟨rfl, by decide +kernel, by decide +kernel, by decide +kernel⟩ (am_w5 wd_676 wd_678 wd_14 wd_65 wd_679) (by omega) dX5_readValue_12 rfl) <|
  am_kc (ak_retV dX5_readValue_15) <|
  am_kc (ak_aload_n dX5_readValue_16 rfl rfl) <|
  am_kc (ak_iconst dX5_readValue_17 (by decide +kernel) rfl) <|
  am_kc (ak_iload_n dX5_readValue_18 rfl rfl) <|
  am_kc (ak_callV (C := RX5) (F := TX5) (N := 7) hC rfl ⟨rfl, by decide +kernel, by decide +kernel, by decide +kernel⟩ (am_w5 wd_680 wd_682 wd_15 wd_65 wd_683) (by omega) dX5_readValue_19 rfl) <|
  am_kc (ak_aload_n dX5_readValue_22 rfl rfl) <|
  am_kc (ak_getI (C := RX5) (T := TX5) (N := 7) rfl inX5w (by decide) rfl rfl rfl wd_175 dX5_readValue_23 rfl) <|
  am_kc (ak_iconst dX5_readValue_26 (by decide +kernel) rfl) <|
  am_kc (ak_icmp_ne dX5_readValue_27 (by decide +kernel) rfl) <|
  am_kc (ak_aload_n dX5_readValue_30 rfl rfl) <|
  am_kc (ak_callV (C := RX5) (F := TX5) (N := 7) metX5_next rfl ⟨rfl, by decide +kernel, by decide +kernel, by decide +kernel⟩ (am_w5 wd_688 wd_690 wd_17 wd_65 wd_691) (by omega) dX5_readValue_31 rfl) <|
  am_kc (ak_bipush dX5_readValue_34 (by decide +kernel) rfl) <|
  am_kc (ak_icmp_ne dX5_readValue_36 (by decide +kernel) rfl) <|
  am_kc (ak_aload_n dX5_readValue_39 rfl rfl) <|
  am_kc (ak_dup dX5_readValue_40 rfl) <|
  am_kc (ak_getI (C := RX5) (T := TX5) (N := 7) rfl inX5w (by decide) rfl rfl rfl wd_171 dX5_readValue_41 rfl) <|
  am_kc (ak_iconst dX5_readValue_44 (by decide +kernel) rfl) <|
  am_kc (ak_iadd dX5_readValue_45 rfl) <|
  am_kc (ak_putI (C := RX5) (T := TX5) (N := 7) rfl inX5w tyX5_ok nmX5 (by decide) rfl rfl rfl rfl (by decide +kernel) wd_171 dX5_readValue_46 rfl) <|
  am_kc (ak_aload_n dX5_readValue_49 rfl rfl) <|
  am_kc (ak_iload_n dX5_readValue_50 rfl rfl) <|
  am_kc (ak_iconst dX5_readValue_51 (by decide +kernel) rfl) <|
  am_kc (ak_iadd dX5_readValue_52 rfl) <|
  am_kc (ak_callV (C := RX5) (F := TX5) (N := 7) hV rfl ⟨rfl, by decide +kernel, by decide +kernel, by decide +kernel⟩ (am_w5 wd_672 wd_674 wd_13 wd_65 wd_675) (by omega) dX5_readValue_53 rfl) <|
  am_kc (ak_aload_n dX5_readValue_56 rfl rfl) <|
  am_kc (ak_bipush dX5_readValue_57 (by decide +kernel) rfl) <|
  am_kc (ak_callV (C := RX5) (F := TX5) (N := 7) metX5_pass rfl ⟨rfl, by decide +kernel, by decide +kernel, by decide +kernel⟩ (am_w5 wd_707 wd_709 wd_21 wd_65 wd_710) (by omega) dX5_readValue_59 rfl) <|
  am_kc (ak_aload_n dX5_readValue_62 rfl rfl) <|
  am_kc (ak_iload_n dX5_readValue_63 rfl rfl) <|
  am_kc (ak_iconst dX5_readValue_64 (by decide +kernel) rfl) <|
  am_kc (ak_iadd dX5_readValue_65 rfl) <|
  am_kc (ak_callV (C := RX5) (F := TX5) (N := 7) hV rfl ⟨rfl, by decide +kernel, by decide +kernel, by decide +kernel⟩ (am_w5 wd_672 wd_674 wd_13 wd_65 wd_675) (by omega) dX5_readValue_66 rfl) <|
  am_kc (ak_aload_n dX5_readValue_69 rfl rfl) <|
  am_kc (ak_bipush dX5_readValue_70 (by decide +kernel) rfl) <|
  am_kc (ak_callV (C := RX5) (F := TX5) (N := 7) metX5_emit rfl ⟨rfl, by decide +kernel, by decide +kernel, by decide +kernel⟩ (am_w5 wd_703 wd_705 wd_20 wd_65 wd_706) (by omega) dX5_readValue_72 rfl) <|
  am_kc (ak_retV dX5_readValue_75) <| am_kn
theorem am_ne63 {x : Int32} (h : x = 63) : ¬ x = -1 := fun e => by rw [h] at e; exact absurd e (by decide)
set_option maxRecDepth 100000 in
set_option maxHeartbeats 4000000 in
theorem metX5_readValueG (n rc lc rv lv : Nat) (Tc Tv : am_T) (hC : am_Met yX5_readChain cX5_readChain 6 none rc lc Tc) (hV : am_Met yX5_readValue cX5_readValue 2 none rv lv Tv) (hrc : rc + 1 ≤ 4 + 8 * n ∧ lc + 25 ≤ 200 + 200 * n ∧ rv + 1 ≤ 4 + 8 * n ∧ lv + 25 ≤ 200 + 200 * n)
    (hT1 : ∀ (live : am_E) (t s c : Nat) (e : Int32) (M : am_M) (R : am_R), live.2 t 0 = some s → live.2 t 1 = some c → am_tc live t s c = true → am_tI M t → 0 ≤ e.toInt → e.toInt ≤ 40 → 41 ≤ e.toInt + (n : Int) → (∀ M', am_ch (am_tS t c) M M' → am_tI M' t → R none M') → Tc live [.ref t, .int 0, .int e] M R)
    (hT2 : ∀ (live : am_E) (t s c : Nat) (e : Int32) (M : am_M) (R : am_R), live.2 t 0 = some s → live.2 t 1 = some c → am_tc live t s c = true → am_tI M t → 0 ≤ e.toInt → e.toInt ≤ 40 → 41 ≤ e.toInt + (n : Int) → (∀ M', am_ch (am_tS t c) M M' → am_tI M' t → R none M') → Tv live [.ref t, .int (e + 1)] M R) :
    am_Met yX5_readValue cX5_readValue 2 none (4 + 8 * n) (200 + 200 * n) (TX5_readValue n) := by
  refine am_met (own := RX5) (by decide +kernel) rfl (kX5_readValue n rc lc rv lv Tc Tv) (koX5_readValue n rc lc rv lv Tc Tv hC hV hrc) 120 (fun _ _ _ _ _ => none) ?_ (fun _ _ _ _ _ _ _ _ hI => by cases hI)
  intro live as M Ret h
  unfold TX5_readValue at h
  split at h
  · next t e =>
    refine ⟨Nat.le_of_ble_eq_true rfl, ?_⟩
    change am_wp _ _ _ _ [(0, Value.ref t), (1, Value.int e)] _ _
    have hh := am_tP_mp h
    clear h
    obtain ⟨s, c, h2, h6, hb, h1, h3, h7, h4, h8, h9, h5, h10, hT, he1, he2, he3, h⟩ := hh
    repeat' (first | (with_reducible exact hT) | (with_reducible exact h1) | (with_reducible exact h2) | (with_reducible exact h3) | (with_reducible exact hb) | (with_reducible exact h6) | (with_reducible exact h7) | (refine Exists.intro _ (Exists.intro _ (And.intro h2 (And.intro h6 ?_)))) | (refine Exists.intro _ (And.intro h2 ?_)) | (refine Exists.intro _ (And.intro h6 ?_)) | apply And.intro | exact rfl | intro hx | (refine Exists.intro _ (And.intro rfl ?_)) | (refine hT1 _ _ s c _ _ _ h2 h6 hb ?_ ?_ ?_ ?_ (fun M1 c1 i1 => ?_)) | (refine hT2 _ _ s c _ _ _ h2 h6 hb ?_ ?_ ?_ ?_ (fun M2 c2 i2 => ?_)) | ((with_reducible change _ = true); simp only [h1, h2, h3, hb, h6, h7, Bool.true_and]; rfl))
    all_goals try first | (with_reducible change am_tI _ _) | (change Ret _ _) | (change Ret _ _ _) | (change Exists _)
    all_goals try dsimp only at *
    all_goals try exact absurd ‹(1000 : Int64) = 0› (by decide)
    all_goals try simp only [am_wI_self]
    all_goals first
      | (with_reducible assumption)
      | omega
      | (have q := hx; simp only [i_le, Int32.reduceToInt] at q; omega)
      | (have q : e ≤ 40 := (by with_reducible assumption); simp only [i_le, Int32.reduceToInt] at q; omega)
      | (with_reducible exact am_tI_cd (by with_reducible assumption))
      | (with_reducible exact am_tI_3p i1 (by with_reducible assumption) (am_sign_lt (am_ne63 (by with_reducible assumption))))
      | exact absurd (show (58 : Int32) = -1 by with_reducible assumption) (by decide)
      | skip
    · rename_i w p hp sg M2a c2a i2a M3 c3
      exact h _ (am_ch_emit (((((c1.wI am_tS_3).wI am_tS_3).tr c2a).tr c3).tr c2)) (am_tI_emit i2 h10)
    · exact h _ (c1.wI am_tS_3) (am_tI_w3 i1 ‹am_skip M1 t s _›)
    · exact h _ c1 i1
    · exact h _ (am_ch_blame am_ch.rf) (am_tI_blame hT)
  · exact h.elim
theorem metX5_readValue (n : Nat) : am_Met yX5_readValue cX5_readValue 2 none (4 + 8 * n) (200 + 200 * n) (TX5_readValue n) := by
  induction n with
  | zero =>
    refine metX5_readValueG 0 0 0 0 0 (fun _ _ _ _ => False) (fun _ _ _ _ => False) (am_MetF _ _ _ _ _ _) (am_MetF _ _ _ _ _ _) (by omega) ?_ ?_
    · intro live t s c e M R a1 a2 a3 a4 a5 a6 a7 hh
      omega
    · intro live t s c e M R a1 a2 a3 a4 a5 a6 a7 hh
      omega
  | succ n ih =>
    have hP := metX5_readPlain n ih
    have hC := metX5_readChain n hP 5
    refine metX5_readValueG (n + 1) (4 + 8 * n + 2 + 5) (200 + 200 * n + 50 + 25 * 5) (4 + 8 * n) (200 + 200 * n) (TX5_readChain n 5) (TX5_readValue n) hC ih (by omega) ?_ ?_
    · intro live t s c e M R a1 a2 a3 a4 a5 a6 a7 hh
      exact am_tP_in a1 a2 a3 ⟨a4, ⟨by decide, by decide, by decide⟩, a5, a6, by omega, hh⟩
    · intro live t s c e M R a1 a2 a3 a4 a5 a6 a7 hh
      have hi := i_add (x := e) (y := 1) (by simp only [Int32.reduceToInt]; omega) (by simp only [Int32.reduceToInt]; omega)
      simp only [Int32.reduceToInt] at hi
      exact am_tP_in a1 a2 a3 ⟨a4, by omega, by omega, by omega, hh⟩
