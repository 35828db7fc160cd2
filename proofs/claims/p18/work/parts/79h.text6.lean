/-! texts: the class's reader, exact, V: values, all of it -/
def kX5_readValueE (n rc lc rv lv : Nat) (Tc Tv : am_T) (live : am_E) (Ret : am_R) : am_code := [(0, am_iload 1 1), (1, am_const (.int 40) 3), (3, am_if2 (fun x y => x ≤ y) 16 6), (6, am_aload 0 7), (7, am_aload 0 8), (8, am_getI live 5 3 11), (11, am_const (.int 1) 12), (12, am_callV live 5 2 TX5_blame 15), (15, am_retV Ret), (16, am_aload 0 17), (17, am_const (.int 0) 18), (18, am_iload 1 19), (19, am_callV live 5 2 Tc 22), (22, am_aload 0 23), (23, am_getI live 5 6 26), (26, am_const (.int (-1)) 27), (27, am_if2 (fun x y => x = y) 30 75), (30, am_aload 0 31), (31, am_callV live 5 0 TX5_next 34), (34, am_const (.int 63) 36), (36, am_if2 (fun x y => x = y) 39 75), (39, am_aload 0 40), (40, am_dup 41), (41, am_getI live 5 3 44), (44, am_const (.int 1) 45), (45, am_i2 (fun x y => x + y) 46), (46, am_putI live 5 3 49), (49, am_aload 0 50), (50, am_iload 1 51), (51, am_const (.int 1) 52), (52, am_i2 (fun x y => x + y) 53), (53, am_callV live 5 1 Tv 56), (56, am_aload 0 57), (57, am_const (.int 58) 59), (59, am_callV live 5 1 TE5_pass 62), (62, am_aload 0 63), (63, am_iload 1 64), (64, am_const (.int 1) 65), (65, am_i2 (fun x y => x + y) 66), (66, am_callV live 5 1 Tv 69), (69, am_aload 0 70), (70, am_const (.int (-63)) 72), (72, am_callV live 5 1 TX5_emit 75), (75, am_retV Ret)]
theorem koX5_readValueE (n rc lc rv lv : Nat) (Tc Tv : am_T) (hC : am_Met yX5_readChain cX5_readChain 6 none rc lc Tc) (hV : am_Met yX5_readValue cX5_readValue 2 none rv lv Tv) (hrc : rc + 1 ≤ 4 + 8 * n ∧ lc + 25 ≤ 200 + 200 * n ∧ rv + 1 ≤ 4 + 8 * n ∧ lv + 25 ≤ 200 + 200 * n) (live : am_E) (Ret : am_R) : ∀ q ∈ kX5_readValueE n rc lc rv lv Tc Tv live Ret, am_ok RX5 cX5_readValue 2 none (4 + 8 * n) (200 + 200 * n) live Ret q.1 q.2 :=
  am_kc (ak_iload_n dX5_readValue_0 rfl rfl) <|
  am_kc (ak_bipush dX5_readValue_1 (by decide +kernel) rfl) <|
  am_kc (ak_icmp_le dX5_readValue_3 (by decide +kernel) rfl) <|
  am_kc (ak_aload_n dX5_readValue_6 rfl rfl) <|
  am_kc (ak_aload_n dX5_readValue_7 rfl rfl) <|
  am_kc (ak_getI (C := RX5) (T := TX5) (N := 7) rfl inX5w (by decide) rfl rfl rfl wd_171 dX5_readValue_8 rfl) <|
  am_kc (ak_iconst dX5_readValue_11 (by decide +kernel) rfl) <|
  am_kc (ak_callV (C := RX5) (F := TX5) (N := 7) metX5_blame rfl ⟨rfl, by decide +kernel, by decide +kernel, by decide +kernel⟩ (am_w5 wd_676 wd_678 wd_14 wd_65 wd_679) (by omega) dX5_readValue_12 rfl) <|
  am_kc (ak_retV dX5_readValue_15) <|
  am_kc (ak_aload_n dX5_readValue_16 rfl rfl) <|
  am_kc (ak_iconst dX5_readValue_17 (by decide +kernel) rfl) <|
  am_kc (ak_iload_n dX5_readValue_18 rfl rfl) <|
  am_kc (ak_callV (C := RX5) (F := TX5) (N := 7) hC rfl ⟨rfl, by decide +kernel, by decide +kernel, by decide +kernel⟩ (am_w5 wd_680 wd_682 wd_15 wd_65 wd_683) (by omega) dX5_readValue_19 rfl) <|
  am_kc (ak_aload_n dX5_readValue_22 rfl rfl) <|
  am_kc (ak_getI (C := RX5) (T := TX5) (N := 7) rfl inX5w (by decide) rfl rfl rfl wd_175 dX5_readValue_23 rfl) <|
  am_kc (ak_iconst dX5_readValue_26 (by decide +kernel) rfl) <|
  am_kc (ak_icmp_ne dX5_readValue_27 (by decide +kernel) rfl) <|
  am_kc (ak_aload_n dX5_readValue_30 rfl rfl) <|
  am_kc (ak_callV (C := RX5) (F := TX5) (N := 7) metX5_next rfl ⟨rfl, by decide +kernel, by decide +kernel, by decide +kernel⟩ (am_w5 wd_688 wd_690 wd_17 wd_65 wd_691) (by omega) dX5_readValue_31 rfl) <|
  am_kc (ak_bipush dX5_readValue_34 (by decide +kernel) rfl) <|
  am_kc (ak_icmp_ne dX5_readValue_36 (by decide +kernel) rfl) <|
  am_kc (ak_aload_n dX5_readValue_39 rfl rfl) <|
  am_kc (ak_dup dX5_readValue_40 rfl) <|
  am_kc (ak_getI (C := RX5) (T := TX5) (N := 7) rfl inX5w (by decide) rfl rfl rfl wd_171 dX5_readValue_41 rfl) <|
  am_kc (ak_iconst dX5_readValue_44 (by decide +kernel) rfl) <|
  am_kc (ak_iadd dX5_readValue_45 rfl) <|
  am_kc (ak_putI (C := RX5) (T := TX5) (N := 7) rfl inX5w tyX5_ok nmX5 (by decide) rfl rfl rfl rfl (by decide +kernel) wd_171 dX5_readValue_46 rfl) <|
  am_kc (ak_aload_n dX5_readValue_49 rfl rfl) <|
  am_kc (ak_iload_n dX5_readValue_50 rfl rfl) <|
  am_kc (ak_iconst dX5_readValue_51 (by decide +kernel) rfl) <|
  am_kc (ak_iadd dX5_readValue_52 rfl) <|
  am_kc (ak_callV (C := RX5) (F := TX5) (N := 7) hV rfl ⟨rfl, by decide +kernel, by decide +kernel, by decide +kernel⟩ (am_w5 wd_672 wd_674 wd_13 wd_65 wd_675) (by omega) dX5_readValue_53 rfl) <|
  am_kc (ak_aload_n dX5_readValue_56 rfl rfl) <|
  am_kc (ak_bipush dX5_readValue_57 (by decide +kernel) rfl) <|
  am_kc (ak_callV (C := RX5) (F := TX5) (N := 7) metX5_passE rfl ⟨rfl, by decide +kernel, by decide +kernel, by decide +kernel⟩ (am_w5 wd_707 wd_709 wd_21 wd_65 wd_710) (by omega) dX5_readValue_59 rfl) <|
  am_kc (ak_aload_n dX5_readValue_62 rfl rfl) <|
  am_kc (ak_iload_n dX5_readValue_63 rfl rfl) <|
  am_kc (ak_iconst dX5_readValue_64 (by decide +kernel) rfl) <|
  am_kc (ak_iadd dX5_readValue_65 rfl) <|
  am_kc (ak_callV (C := RX5) (F := TX5) (N := 7) hV rfl ⟨rfl, by decide +kernel, by decide +kernel, by decide +kernel⟩ (am_w5 wd_672 wd_674 wd_13 wd_65 wd_675) (by omega) dX5_readValue_66 rfl) <|
  am_kc (ak_aload_n dX5_readValue_69 rfl rfl) <|
  am_kc (ak_bipush dX5_readValue_70 (by decide +kernel) rfl) <|
  am_kc (ak_callV (C := RX5) (F := TX5) (N := 7) metX5_emit rfl ⟨rfl, by decide +kernel, by decide +kernel, by decide +kernel⟩ (am_w5 wd_703 wd_705 wd_20 wd_65 wd_706) (by omega) dX5_readValue_72 rfl) <|
  am_kc (ak_retV dX5_readValue_75) <| am_kn
section VAL
variable {M M1 M2 M3 : am_M} {t s c : Nat} {q : Int32}
/-- no question: the chain is all -/
theorem x_va.of (h9 : s ≠ c) (h5 : t ≠ s) (h10 : t ≠ c) (hT : am_tI M t) (hT1 : am_tI M1 t) (hs : x_sg t s M) (c1 : am_ch (am_tS t c) M M1) (x : x_ch 2 t s c M M1) (hp : am_skip M1 t s q) (w1 : M1.1 t 6 = -1) (hk : ¬ am_sign M1 t s q = 63) : x_va t s c M (am_wI M1 t 3 q) := by
  obtain ⟨f3, fk, fs, fc⟩ := w3_f M1 t s c q h5 h10
  have s1 : M1.1 s = M.1 s := funext fun j => am_ch_s c1 h9 h5 j
  have n1 : M1.1 t 5 = M.1 t 5 := am_ch_t5 c1 h10
  obtain ⟨nx, cq⟩ := x_nx hT1 (s := s) ⟨(), fun j hj => by rw [s1]; rw [n1] at hj; exact hs.v hj⟩ hp
  rw [s1, show t_n M1 t = t_n M t by unfold t_n; rw [n1]] at nx
  by_cases w : M.1 t 6 = -1
  · obtain ⟨y4, b1, b2, b3, b4, b5⟩ := x.y w w1
    refine x_io.ok w (by rw [fk 6 (by decide)]; exact w1) (by rw [fk 4 (by decide)]; exact y4) ?_
    rw [show t_p (am_wI M1 t 3 q) t = q.toNatClampNeg by unfold t_p; rw [f3], show t_c (am_wI M1 t 3 q) t = t_c M1 t by unfold t_c; rw [fk 2 (by decide)], fc]
    have hq := nx.1
    exact ⟨by omega, b2, by omega, b4, fun fa => by
      obtain ⟨v, u, z⟩ := b5 fa
      exact ⟨v, u, s_va.of z nx hk⟩⟩
  · exact absurd (x.n w) (fun z => w (z ▸ w1))
theorem x_va.b (x : x_ch 2 t s c M M1) (w1 : ¬ M1.1 t 6 = -1) : x_va t s c M M1 := by
  by_cases w : M.1 t 6 = -1
  · exact x_io.bad w w1 (fun fa => (x.f w w1 fa).up (by decide))
  · exact x_io.no w (x.n w)
/-- behind the colon -/
def x_62 (t s c : Nat) (M M2 : am_M) : Prop := ∃ _ : Unit, M.1 t 6 = -1 ∧ (¬ M2.1 t 6 = -1 → ∀ fa, s_bd fa (M.1 s) (t_n M t) (t_p M t) (t_o M t) 1 (M2.1 t 6).toInt) ∧ (M2.1 t 6 = -1 → M2.1 t 4 = M.1 t 4 ∧ ∃ (p1 q1 p2 n1 : Nat) (cd1 : Nat → Int32), y_io (t_p M t) (t_c M t) p1 n1 (M.1 c) cd1 (fun fa p' v => s_ch fa (M.1 s) (t_n M t) (t_p M t) p' (t_o M t) 2 v) ∧ w_nx (M.1 s) (t_n M t) p1 q1 63 ∧ y_io (q1 + 1) n1 p2 (t_c M2 t) cd1 (M2.1 c) (fun fa p' v => s_va fa (M.1 s) (t_n M t) (q1 + 1) p' (t_o M t) v) ∧ ∃ q2, w_nx (M.1 s) (t_n M t) p2 q2 58 ∧ t_p M2 t = q2 + 1)
/-- the second value read, then the colon -/
theorem x_col (h9 : s ≠ c) (h5 : t ≠ s) (h10 : t ≠ c) (hT : am_tI M t) (hT1 : am_tI M1 t) (hT2 : am_tI M2 t) (hs : x_sg t s M) (w : M.1 t 6 = -1) (c1 : am_ch (am_tS t c) M M1) (x : x_ch 2 t s c M M1) (hp : am_skip M1 t s q) (w1 : M1.1 t 6 = -1) (hk : am_sign M1 t s q = 63) (c2 : am_ch (am_tS t c) (am_wI M1 t 3 (q + 1)) M2) (x2 : x_va t s c (am_wI M1 t 3 (q + 1)) M2) :
    (¬ M2.1 t 6 = -1 → x_62 t s c M M2) ∧ (M2.1 t 6 = -1 → ∀ p', am_skip M2 t s p' → (am_sign M2 t s p' = 58 → x_62 t s c M (am_wI M2 t 3 (p' + 1)) ∧ am_tI (am_wI M2 t 3 (p' + 1)) t) ∧ (¬ am_sign M2 t s p' = 58 → x_62 t s c M (am_blame (am_wI M2 t 3 p') t p' 1))) := by
  obtain ⟨f3, fk, fs, fc⟩ := w3_f M1 t s c (q + 1) h5 h10
  have s1 : M1.1 s = M.1 s := funext fun j => am_ch_s c1 h9 h5 j
  have n1 : M1.1 t 5 = M.1 t 5 := am_ch_t5 c1 h10
  obtain ⟨nx, cq⟩ := x_nx hT1 (s := s) ⟨(), fun j hj => by rw [s1]; rw [n1] at hj; exact hs.v hj⟩ hp
  rw [s1, show t_n M1 t = t_n M t by unfold t_n; rw [n1], hk] at nx
  have ha := nx.at (by decide)
  have a1 := hT1.p
  have p1 := hp.1
  have p2 := hp.2.1
  have n1' : (M1.1 t 5).toInt = (M.1 t 5).toInt := by rw [n1]
  have a := hT.p
  have hi := i_inc (x := q) (by omega) (by omega)
  have cq1 := i_clamp (x := q + 1) (by omega)
  have en : t_n (am_wI M1 t 3 (q + 1)) t = t_n M t := by unfold t_n; rw [fk 5 (by decide), n1]
  have ep : t_p (am_wI M1 t 3 (q + 1)) t = q.toNatClampNeg + 1 := by unfold t_p; rw [f3]; omega
  have eo : t_o (am_wI M1 t 3 (q + 1)) t = t_o M1 t := by unfold t_o; rw [fk 4 (by decide)]
  have ec : t_c (am_wI M1 t 3 (q + 1)) t = t_c M1 t := by unfold t_c; rw [fk 2 (by decide)]
  have wq : (am_wI M1 t 3 (q + 1)).1 t 6 = -1 := by rw [fk 6 (by decide)]; exact w1
  obtain ⟨y4, y⟩ := x.y w w1
  have eo2 : t_o M1 t = t_o M t := by unfold t_o; rw [y4]
  have s2 : M2.1 s = M.1 s := (funext fun j => am_ch_s c2 h9 h5 j).trans (fs.trans s1)
  have n2 : M2.1 t 5 = M.1 t 5 := (am_ch_t5 c2 h10).trans ((fk 5 (by decide)).trans n1)
  refine ⟨fun w2 => ⟨(), w, fun _ fa => ?_, fun z => absurd z w2⟩, fun w2 p' hp' => ?_⟩
  · have z := x2.f wq w2 fa
    rw [fs, s1, en, ep, eo, eo2] at z
    obtain ⟨-, -, -, -, u5⟩ := y
    obtain ⟨v, -, h⟩ := u5 fa
    exact s_bd.v h nx z
  · obtain ⟨z4, z⟩ := x2.y wq w2
    rw [ec, ep, fs, fc, s1, en, eo, eo2] at z
    rw [fk 4 (by decide)] at z4
    obtain ⟨nx3, cp'⟩ := x_nx hT2 (s := s) ⟨(), fun j hj => by rw [s2]; rw [n2] at hj; exact hs.v hj⟩ hp'
    rw [s2, show t_n M2 t = t_n M t by unfold t_n; rw [n2]] at nx3
    have a2 := hT2.p
    have r1 := hp'.1
    have r2 := hp'.2.1
    have hi' := i_inc (x := p') (by omega) (by omega)
    have cp1' := i_clamp (x := p' + 1) (by omega)
    have n2' : (M2.1 t 5).toInt = (M.1 t 5).toInt := by rw [n2]
    refine ⟨fun hg' => ?_, fun hg' => ?_⟩
    · rw [hg'] at nx3
      have ha3 := nx3.at (by decide)
      obtain ⟨g3, gk, gs, gc⟩ := w3_f M2 t s c (p' + 1) h5 h10
      refine ⟨⟨(), w, fun z => absurd ((gk 6 (by decide)).trans w2) z, fun _ => ⟨(gk 4 (by decide)).trans (z4.trans y4), t_p M1 t, q.toNatClampNeg, t_p M2 t, t_c M1 t, M1.1 c, y, nx, ?_, p'.toNatClampNeg, nx3, ?_⟩⟩, hT2.m (by omega) (by omega)⟩
      · rw [show t_c (am_wI M2 t 3 (p' + 1)) t = t_c M2 t by unfold t_c; rw [gk 2 (by decide)], gc]
        exact z
      · show ((am_wI M2 t 3 (p' + 1)).1 t 3).toNatClampNeg = p'.toNatClampNeg + 1
        rw [g3]
        omega
    · have w3' : (am_wI M2 t 3 p').1 t 6 = -1 := by rw [am_wI_1, if_neg (fun z => absurd z.2 (by decide))]; exact w2
      have bl := t_bl (M := am_wI M2 t 3 p') (t := t) (a := p') (k := 1) w3' ⟨by omega, by omega⟩ ⟨by decide, by decide⟩
      refine ⟨(), w, fun _ fa => ?_, fun z => absurd z bl.1⟩
      rw [bl.2]
      obtain ⟨-, -, -, -, u5⟩ := y
      obtain ⟨v, -, h⟩ := u5 fa
      obtain ⟨-, -, -, -, v5⟩ := z
      obtain ⟨v2, -, h2⟩ := v5 fa
      exact s_bd.m h nx h2 nx3 hg'
/-- the third value read -/
theorem x_thi (h9 : s ≠ c) (h5 : t ≠ s) (h10 : t ≠ c) (hT : am_tI M t) (hT3 : am_tI M3 t) (hcap : (M.1 t 2).toInt ≤ (M.1 t 3).toInt) (c2 : am_ch (am_tS t c) M M2) (x : x_62 t s c M M2) (c3 : am_ch (am_tS t c) M2 M3) (x3 : x_va t s c M2 M3) : x_va t s c M (am_emit M3 t c (-63)) := by
  obtain ⟨-, w, xb, xg⟩ := x
  have s2 : M2.1 s = M.1 s := funext fun j => am_ch_s c2 h9 h5 j
  have n2 : M2.1 t 5 = M.1 t 5 := am_ch_t5 c2 h10
  have en : t_n M2 t = t_n M t := by unfold t_n; rw [n2]
  have g : ∀ k, k ≠ 2 → (am_emit M3 t c (-63)).1 t k = M3.1 t k := fun k hk => am_emit_f h10 hk
  have n3 : (M3.1 t 5).toInt = (M.1 t 5).toInt := by rw [am_ch_t5 c3 h10, n2]
  have a := hT.p
  have a3 := hT3.p
  by_cases w2 : M2.1 t 6 = -1
  · obtain ⟨o4, p1, q1, p2, m1, cd1, y1, nx1, y2, q2, nx2, eq2⟩ := xg w2
    have eo : t_o M2 t = t_o M t := by unfold t_o; rw [o4]
    by_cases w3 : M3.1 t 6 = -1
    · obtain ⟨z4, z⟩ := x3.y w2 w3
      rw [s2, en, eo, eq2] at z
      have b1 := y1.1
      have b2 := y1.2.1
      have b3 := y1.2.2.1
      have d1 := y2.1
      have d2 := y2.2.1
      have d3 := y2.2.2.1
      have f1 := z.1
      have f2 := z.2.1
      have f3 := z.2.2.1
      have l1 := nx1.1
      have l2 := nx2.1
      obtain ⟨r1, r2, r3⟩ := am_emit_y (v := -63) h10 hT3 (by omega)
      refine x_io.ok w (by rw [g 6 (by decide)]; exact w3) (by rw [g 4 (by decide), z4, o4]) ?_
      rw [show t_p (am_emit M3 t c (-63)) t = t_p M3 t by unfold t_p; rw [g 3 (by decide)], r1]
      exact y_io.ask (G := fun fa p' v => s_va fa (M.1 s) (t_n M t) (t_p M t) p' (t_o M t) v) y1 l1 y2 l2 z r3 r2 (fun fa v1 v2 v3 k1 k2 k3 => s_va.c k1 nx1 k2 nx2 k3)
    · refine x_io.bad w (by rw [g 6 (by decide)]; exact w3) (fun fa => ?_)
      rw [g 6 (by decide)]
      have z := x3.f w2 w3 fa
      rw [s2, en, eo, eq2] at z
      obtain ⟨-, -, -, -, u5⟩ := y1
      obtain ⟨v, -, h⟩ := u5 fa
      obtain ⟨-, -, -, -, v5⟩ := y2
      obtain ⟨v2, -, h2⟩ := v5 fa
      exact s_bd.e h nx1 h2 nx2 z
  · have e3 := x3.n w2
    refine x_io.bad w (by rw [g 6 (by decide), e3]; exact w2) (fun fa => ?_)
    rw [g 6 (by decide), e3]
    exact xb w2 fa
end VAL
def JE5_readValue : am_E → List Value → am_M → am_R → am_inv := fun live as M0 _ pc => match as with
  | [.ref t, .int e] => (match pc with
    | 22 => some ([0, 1], fun k L st M => L = [(0, .ref t), (1, .int e)] ∧ st = [] ∧ k = (9, 0) ∧ e.toInt ≤ 40 ∧ am_ch (am_tS t ((live.2 t 1).getD 0)) M0 M ∧ am_tI M t ∧ x_ch 2 t ((live.2 t 0).getD 0) ((live.2 t 1).getD 0) M0 M)
    | 34 => some ([0, 1], fun k L st M => ∃ (q : Int32) (Mb : am_M), L = [(0, .ref t), (1, .int e)] ∧ st = [.int (am_sign Mb t ((live.2 t 0).getD 0) q)] ∧ k = (8, 0) ∧ e.toInt ≤ 40 ∧ (am_ch (am_tS t ((live.2 t 1).getD 0)) M0 Mb ∧ am_tI Mb t ∧ x_ch 2 t ((live.2 t 0).getD 0) ((live.2 t 1).getD 0) M0 Mb ∧ Mb.1 t 6 = -1) ∧ am_skip Mb t ((live.2 t 0).getD 0) q ∧ M = am_wI Mb t 3 q)
    | 56 => some ([0, 1], fun k L st M => ∃ (q : Int32) (Mb : am_M), L = [(0, .ref t), (1, .int e)] ∧ st = [] ∧ k = (7, 0) ∧ e.toInt ≤ 40 ∧ (am_ch (am_tS t ((live.2 t 1).getD 0)) M0 Mb ∧ am_tI Mb t ∧ x_ch 2 t ((live.2 t 0).getD 0) ((live.2 t 1).getD 0) M0 Mb ∧ Mb.1 t 6 = -1) ∧ (am_skip Mb t ((live.2 t 0).getD 0) q ∧ am_sign Mb t ((live.2 t 0).getD 0) q = 63) ∧ am_ch (am_tS t ((live.2 t 1).getD 0)) (am_wI Mb t 3 (q + 1)) M ∧ am_tI M t ∧ x_va t ((live.2 t 0).getD 0) ((live.2 t 1).getD 0) (am_wI Mb t 3 (q + 1)) M)
    | 62 => some ([0, 1], fun k L st M => L = [(0, .ref t), (1, .int e)] ∧ st = [] ∧ k = (6, 0) ∧ e.toInt ≤ 40 ∧ am_ch (am_tS t ((live.2 t 1).getD 0)) M0 M ∧ am_tI M t ∧ x_62 t ((live.2 t 0).getD 0) ((live.2 t 1).getD 0) M0 M)
    | _ => none)
  | _ => none
theorem x_62.pre {t s c : Nat} {M M2 : am_M} {e : Int32} (h9 : s ≠ c) (h5 : t ≠ s) (h10 : t ≠ c) (hT : am_tI M t) (hT2 : am_tI M2 t) (c2 : am_ch (am_tS t c) M M2) (h : x_pre t s M e.toInt) (x : x_62 t s c M M2) (he : (e + 1).toInt = e.toInt + 1) : x_pre t s M2 (e + 1).toInt := by
  have s2 : M2.1 s = M.1 s := funext fun j => am_ch_s c2 h9 h5 j
  have n2 : M2.1 t 5 = M.1 t 5 := am_ch_t5 c2 h10
  refine ⟨(), ⟨(), fun j hj => ?_⟩, fun w2 => ?_⟩
  · rw [s2]
    rw [n2] at hj
    exact h.s.v hj
  · obtain ⟨-, w, -, xg⟩ := x
    obtain ⟨o4, p1, q1, p2, m1, cd1, y1, nx1, y2, q2, nx2, eq2⟩ := xg w2
    have p := h.w w
    have a := hT.p
    have a2 := hT2.p
    have b1 := y1.1
    have b2 := y1.2.1
    have b3 := y1.2.2.1
    have d1 := y2.1
    have d2 := y2.2.1
    have d3 := y2.2.2.1
    have l1 := nx1.1
    have l2 := nx2.1
    rw [o4, he]
    exact ⟨p.1, by omega, by omega⟩
set_option maxRecDepth 100000 in
set_option maxHeartbeats 4000000 in
theorem metX5_readValueGE (n rc lc rv lv : Nat) (Tc Tv : am_T) (hC : am_Met yX5_readChain cX5_readChain 6 none rc lc Tc) (hV : am_Met yX5_readValue cX5_readValue 2 none rv lv Tv) (hrc : rc + 1 ≤ 4 + 8 * n ∧ lc + 25 ≤ 200 + 200 * n ∧ rv + 1 ≤ 4 + 8 * n ∧ lv + 25 ≤ 200 + 200 * n)
    (hT1 : ∀ (live : am_E) (t s c : Nat) (e : Int32) (M : am_M) (R : am_R), live.2 t 0 = some s → live.2 t 1 = some c → am_tc live t s c = true → am_tI M t → x_pre t s M e.toInt → 0 ≤ e.toInt → e.toInt ≤ 40 → 41 ≤ e.toInt + (n : Int) → (∀ M', am_ch (am_tS t c) M M' → am_tI M' t → x_ch 2 t s c M M' → R none M') → Tc live [.ref t, .int 0, .int e] M R)
    (hT2 : ∀ (live : am_E) (t s c : Nat) (e : Int32) (M : am_M) (R : am_R), live.2 t 0 = some s → live.2 t 1 = some c → am_tc live t s c = true → am_tI M t → x_pre t s M (e + 1).toInt → 0 ≤ e.toInt → e.toInt ≤ 40 → 41 ≤ e.toInt + (n : Int) → (∀ M', am_ch (am_tS t c) M M' → am_tI M' t → x_va t s c M M' → R none M') → Tv live [.ref t, .int (e + 1)] M R) :
    am_Met yX5_readValue cX5_readValue 2 none (4 + 8 * n) (200 + 200 * n) (TE5_readValue n) := by
  refine am_met (own := RX5) (by decide +kernel) rfl (kX5_readValueE n rc lc rv lv Tc Tv) (koX5_readValueE n rc lc rv lv Tc Tv hC hV hrc) 120 JE5_readValue ?_ ?_
  · intro live as M Ret h
    unfold TE5_readValue at h
    split at h
    · next t e =>
      refine ⟨Nat.le_of_ble_eq_true rfl, ?_⟩
      change am_wp _ _ _ _ [(0, Value.ref t), (1, Value.int e)] _ _
      have hh := am_tP_mp h
      clear h
      obtain ⟨s, c, h2, h6, hb, h1, h3, h7, h4, h8, h9, h5, h10, hT, hPr, he1, he2, he3, h⟩ := hh
      have e0 : (live.2 t 0).getD 0 = s := by rw [h2]; rfl
      have ec : (live.2 t 1).getD 0 = c := by rw [h6]; rfl
      by_cases z4 : e ≤ 40
      · have z5 := z4
        simp only [i_le, Int32.reduceToInt] at z5
        repeat' (first | (with_reducible exact hT) | (with_reducible exact h1) | (with_reducible exact h2) | (with_reducible exact h3) | (with_reducible exact hb) | (with_reducible exact h6) | (with_reducible exact h7) | (refine Exists.intro _ (Exists.intro _ (And.intro h2 (And.intro h6 ?_)))) | (refine Exists.intro _ (And.intro h2 ?_)) | (refine Exists.intro _ (And.intro h6 ?_)) | apply And.intro | exact rfl | (intro hx; with_reducible exact absurd z4 hx) | intro hx | (refine Exists.intro _ (And.intro rfl ?_)) | (refine hT1 _ _ s c _ _ _ h2 h6 hb hT hPr he1 z5 he3 (fun M' c' i' x' => ?_)) | ((with_reducible change _ = true); simp only [h1, h2, h3, hb, h6, h7, Bool.true_and]; rfl))
        all_goals try first | (with_reducible change am_tI _ _) | (change Ret _ _) | (change Ret _ _ _) | (change Exists _)
        all_goals try dsimp only at *
        all_goals try exact absurd ‹(1000 : Int64) = 0› (by decide)
        all_goals
          rw [e0, ec]
          exact ⟨_, rfl, rfl, rfl, z5, c', i', x'⟩
      · have z5 := z4
        simp only [i_le, Int32.reduceToInt] at z5
        have w : ¬ M.1 t 6 = -1 := fun w => by
          have p := hPr.w w
          have a := hT.p
          omega
        have e6 : am_blame M t (M.1 t 3) 1 = M := t_bln w
        have hh : Ret none (am_blame M t (M.1 t 3) 1) := by rw [e6]; exact h _ am_ch.rf hT (x_io.no w rfl)
        repeat' (first | (with_reducible exact hT) | (with_reducible exact h1) | (with_reducible exact h2) | (with_reducible exact h3) | (with_reducible exact hb) | (with_reducible exact h6) | (with_reducible exact h7) | (refine Exists.intro _ (Exists.intro _ (And.intro h2 (And.intro h6 ?_)))) | (refine Exists.intro _ (And.intro h2 ?_)) | (refine Exists.intro _ (And.intro h6 ?_)) | apply And.intro | exact rfl | (intro hx; with_reducible exact absurd hx z4) | intro hx | (refine Exists.intro _ (And.intro rfl ?_)) | ((with_reducible change _ = true); simp only [h1, h2, h3, hb, h6, h7, Bool.true_and]; rfl))
        all_goals try first | (with_reducible change am_tI _ _) | (change Ret _ _) | (change Ret _ _ _) | (change Exists _)
        all_goals try dsimp only at *
        all_goals try exact absurd ‹(1000 : Int64) = 0› (by decide)
        all_goals exact hh
    · exact h.elim
  · intro live as M0 Ret h k pc I hI L st M hi
    unfold TE5_readValue at h
    split at h
    · next t e =>
      have hh := am_tP_mp h
      clear h
      obtain ⟨s, c, h2, h6, hb, h1, h3, h7, h4, h8, h9, h5, h10, hT, hPr, he1, he2, he3, h⟩ := hh
      have e0 : (live.2 t 0).getD 0 = s := by rw [h2]; rfl
      have ec : (live.2 t 1).getD 0 = c := by rw [h6]; rfl
      have a := hT.p
      change (match pc with | 22 => _ | 34 => _ | 56 => _ | 62 => _ | _ => none) = _ at hI
      split at hI
      · cases hI
        obtain ⟨rfl, rfl, rfl, z5, d1, d2, x⟩ := hi
        rw [e0] at x
        rw [ec] at d1 x
        by_cases w1 : M.1 t 6 = -1
        · skip
          repeat' (first | (with_reducible exact d2) | (with_reducible exact h1) | (with_reducible exact h2) | (with_reducible exact h3) | (with_reducible exact hb) | (with_reducible exact h6) | (with_reducible exact h7) | (refine Exists.intro _ (Exists.intro _ (And.intro h2 (And.intro h6 ?_)))) | (refine Exists.intro _ (And.intro h2 ?_)) | (refine Exists.intro _ (And.intro h6 ?_)) | apply And.intro | exact rfl | (intro hx; with_reducible exact absurd w1 hx) | intro hx | (refine Exists.intro _ (And.intro rfl ?_)) | ((with_reducible change _ = true); simp only [h1, h2, h3, hb, h6, h7, Bool.true_and]; rfl))
          all_goals try first | (with_reducible change am_tI _ _) | (change Ret _ _) | (change Ret _ _ _) | (change Exists _)
          all_goals try dsimp only at *
          all_goals try exact absurd ‹(1000 : Int64) = 0› (by decide)
          all_goals
            rename_i q
            rw [e0, ec]
            exact ⟨_, am_lt_l (by decide), q, M, rfl, rfl, rfl, z5, ⟨d1, d2, x, w1⟩, hx, rfl⟩
        · skip
          repeat' (first | (with_reducible exact h1) | (with_reducible exact h2) | (with_reducible exact h3) | (with_reducible exact hb) | (with_reducible exact h6) | (with_reducible exact h7) | (refine Exists.intro _ (Exists.intro _ (And.intro h2 (And.intro h6 ?_)))) | (refine Exists.intro _ (And.intro h2 ?_)) | (refine Exists.intro _ (And.intro h6 ?_)) | apply And.intro | exact rfl | (intro hx; with_reducible exact absurd hx w1) | intro hx | (refine Exists.intro _ (And.intro rfl ?_)) | ((with_reducible change _ = true); simp only [h1, h2, h3, hb, h6, h7, Bool.true_and]; rfl))
          all_goals try first | (with_reducible change am_tI _ _) | (change Ret _ _) | (change Ret _ _ _) | (change Exists _)
          all_goals try dsimp only at *
          all_goals try exact absurd ‹(1000 : Int64) = 0› (by decide)
          all_goals exact h _ d1 d2 (x_va.b x w1)
      · cases hI
        obtain ⟨q, Mb, rfl, rfl, rfl, z5, ⟨d1, d2, x, w1⟩, hp, rfl⟩ := hi
        rw [e0] at x hp ⊢
        rw [ec] at d1 x
        have p1 := hp.1
        have p2 := hp.2.1
        obtain ⟨f3, fk, fs, fc⟩ := w3_f Mb t s c q h5 h10
        by_cases zg : am_sign Mb t s q = 63
        · have hlt : q.toInt < (Mb.1 t 5).toInt := am_sign_lt (s := s) (fun z => by rw [zg] at z; exact absurd z (by decide))
          have b50 := d2.p.2.2.1
          have hi := i_inc (x := q) (by have := d2.p.1; omega) (by omega)
          have hie := i_inc (x := e) (by omega) (by omega)
          have e1 : am_wI (am_wI Mb t 3 q) t 3 ((am_wI Mb t 3 q).1 t 3 + 1) = am_wI Mb t 3 (q + 1) := by rw [f3, am_wI_wI]
          have hT2' := d2.m (q := q + 1) (by omega) (by omega)
          have w : M0.1 t 6 = -1 := by
            by_cases z : M0.1 t 6 = -1
            · exact z
            · exact absurd (x.n z) (fun y => z (y ▸ w1))
          have hP2 : x_pre t s (am_wI Mb t 3 (q + 1)) (e + 1).toInt := by
            have pm := (hPr.io h9 h5 h10 hT d2 d1 x).m (c := c) (q := q + 1) h5 h10 (by omega)
            obtain ⟨g3, gk, gs, gc⟩ := w3_f Mb t s c (q + 1) h5 h10
            refine ⟨(), pm.s, fun wz => ?_⟩
            have pw := pm.w wz
            have p0 := hPr.w w
            obtain ⟨y4, b1, b2, b3, -⟩ := x.y w w1
            have am := d2.p
            rw [gk 4 (by decide), gk 2 (by decide), g3] at pw ⊢
            rw [y4] at pw ⊢
            exact ⟨pw.1, by omega, pw.2.2⟩
          rw [← e1] at hT2' hP2
          repeat' (first | (with_reducible exact h1) | (with_reducible exact h2) | (with_reducible exact h3) | (with_reducible exact hb) | (with_reducible exact h6) | (with_reducible exact h7) | (refine Exists.intro _ (Exists.intro _ (And.intro h2 (And.intro h6 ?_)))) | (refine Exists.intro _ (And.intro h2 ?_)) | (refine Exists.intro _ (And.intro h6 ?_)) | apply And.intro | exact rfl | (intro hx; with_reducible exact absurd zg hx) | intro hx | (refine Exists.intro _ (And.intro rfl ?_)) | (refine hT2 _ _ s c _ _ _ h2 h6 hb hT2' hP2 he1 z5 he3 (fun M' c' j' x' => ?_)) | ((with_reducible change _ = true); simp only [h1, h2, h3, hb, h6, h7, Bool.true_and]; rfl))
          all_goals try first | (with_reducible change am_tI _ _) | (change Ret _ _) | (change Ret _ _ _) | (change Exists _)
          all_goals try dsimp only at *
          all_goals try exact absurd ‹(1000 : Int64) = 0› (by decide)
          all_goals
            rw [e0, ec]
            rw [e1] at c' x'
            exact ⟨_, am_lt_l (by decide), q, Mb, rfl, rfl, rfl, z5, ⟨d1, d2, x, w1⟩, ⟨hp, zg⟩, c', j', x'⟩
        · have res := x_va.of h9 h5 h10 hT d2 hPr.s d1 x hp w1 zg
          repeat' (first | (with_reducible exact h1) | (with_reducible exact h2) | (with_reducible exact h3) | (with_reducible exact hb) | (with_reducible exact h6) | (with_reducible exact h7) | (refine Exists.intro _ (Exists.intro _ (And.intro h2 (And.intro h6 ?_)))) | (refine Exists.intro _ (And.intro h2 ?_)) | (refine Exists.intro _ (And.intro h6 ?_)) | apply And.intro | exact rfl | (intro hx; with_reducible exact absurd hx zg) | intro hx | (refine Exists.intro _ (And.intro rfl ?_)) | ((with_reducible change _ = true); simp only [h1, h2, h3, hb, h6, h7, Bool.true_and]; rfl))
          all_goals try first | (with_reducible change am_tI _ _) | (change Ret _ _) | (change Ret _ _ _) | (change Exists _)
          all_goals try dsimp only at *
          all_goals try exact absurd ‹(1000 : Int64) = 0› (by decide)
          all_goals exact h _ (d1.wI am_tS_3) (d2.m p1 p2) res
      · cases hI
        obtain ⟨q, Mb, rfl, rfl, rfl, z5, ⟨d1, d2, x, w1⟩, ⟨hp, zg⟩, d3, d4, x2⟩ := hi
        rw [e0] at x hp zg x2
        rw [ec] at d1 x d3 x2
        have w : M0.1 t 6 = -1 := by
          by_cases z : M0.1 t 6 = -1
          · exact z
          · exact absurd (x.n z) (fun y => z (y ▸ w1))
        obtain ⟨r1, r2⟩ := x_col h9 h5 h10 hT d2 d4 hPr.s w d1 x hp w1 zg d3 x2
        have cm : am_ch (am_tS t c) M0 M := d1.tr ((am_ch.rf.wI am_tS_3).tr d3)
        have n58 : ¬ (58 : Int32) = -1 := by decide
        by_cases w2 : M.1 t 6 = -1
        · have r2 := r2 w2
          repeat' (first | (with_reducible exact d4) | (with_reducible exact n58) | (with_reducible exact h1) | (with_reducible exact h2) | (with_reducible exact h3) | (with_reducible exact hb) | (with_reducible exact h6) | (with_reducible exact h7) | (refine Exists.intro _ (Exists.intro _ (And.intro h2 (And.intro h6 ?_)))) | (refine Exists.intro _ (And.intro h2 ?_)) | (refine Exists.intro _ (And.intro h6 ?_)) | apply And.intro | exact rfl | (intro hx; with_reducible exact absurd w2 hx) | intro hx | (refine Exists.intro _ (And.intro rfl ?_)) | ((with_reducible change _ = true); simp only [h1, h2, h3, hb, h6, h7, Bool.true_and]; rfl))
          all_goals try first | (with_reducible change am_tI _ _) | (change Ret _ _) | (change Ret _ _ _) | (change Exists _)
          all_goals try dsimp only at *
          all_goals try exact absurd ‹(1000 : Int64) = 0› (by decide)
          all_goals
            rename_i p' hp'
            rw [e0, ec]
          · exact ⟨_, am_lt_l (by decide), rfl, rfl, rfl, z5, cm.wI am_tS_3, ((r2 p' hp').1 hx).2, ((r2 p' hp').1 hx).1⟩
          · exact ⟨_, am_lt_l (by decide), rfl, rfl, rfl, z5, am_ch_blame (cm.wI am_tS_3), am_tI_blame (am_tI_w3 d4 hp'), (r2 p' hp').2 hx⟩
        · have r1 := r1 w2
          repeat' (first | (with_reducible exact d4) | (with_reducible exact n58) | (with_reducible exact h1) | (with_reducible exact h2) | (with_reducible exact h3) | (with_reducible exact hb) | (with_reducible exact h6) | (with_reducible exact h7) | (refine Exists.intro _ (Exists.intro _ (And.intro h2 (And.intro h6 ?_)))) | (refine Exists.intro _ (And.intro h2 ?_)) | (refine Exists.intro _ (And.intro h6 ?_)) | apply And.intro | exact rfl | (intro hx; with_reducible exact absurd hx w2) | intro hx | (refine Exists.intro _ (And.intro rfl ?_)) | ((with_reducible change _ = true); simp only [h1, h2, h3, hb, h6, h7, Bool.true_and]; rfl))
          all_goals try first | (with_reducible change am_tI _ _) | (change Ret _ _) | (change Ret _ _ _) | (change Exists _)
          all_goals try dsimp only at *
          all_goals try exact absurd ‹(1000 : Int64) = 0› (by decide)
          all_goals
            rw [e0, ec]
            exact ⟨_, am_lt_l (by decide), rfl, rfl, rfl, z5, cm, d4, r1⟩
      · cases hI
        obtain ⟨rfl, rfl, rfl, z5, d1, d2, x⟩ := hi
        rw [e0] at x
        rw [ec] at d1 x
        have hie := i_inc (x := e) (by omega) (by omega)
        have hP2 := x_62.pre h9 h5 h10 hT d2 d1 hPr x hie
        have w : M0.1 t 6 = -1 := by obtain ⟨-, w, -⟩ := x; exact w
        have hcap := (hPr.w w).2.2
        repeat' (first | (with_reducible exact h1) | (with_reducible exact h2) | (with_reducible exact h3) | (with_reducible exact hb) | (with_reducible exact h6) | (with_reducible exact h7) | (refine Exists.intro _ (Exists.intro _ (And.intro h2 (And.intro h6 ?_)))) | (refine Exists.intro _ (And.intro h2 ?_)) | (refine Exists.intro _ (And.intro h6 ?_)) | apply And.intro | exact rfl | (intro hx; exact absurd hx (by decide)) | (intro hx; exact absurd (by decide) hx) | decide | intro hx | (refine Exists.intro _ (And.intro rfl ?_)) | (refine hT2 _ _ s c _ _ _ h2 h6 hb d2 hP2 he1 z5 he3 (fun M' c' j' x' => ?_)) | ((with_reducible change _ = true); simp only [h1, h2, h3, hb, h6, h7, Bool.true_and]; rfl))
        all_goals try first | (with_reducible change am_tI _ _) | (change Ret _ _) | (change Ret _ _ _) | (change Exists _)
        all_goals try dsimp only at *
        all_goals try exact absurd ‹(1000 : Int64) = 0› (by decide)
        all_goals first
          | exact am_tI_cd (by with_reducible assumption)
          | exact h _ (am_ch_emit (d1.tr (by with_reducible assumption))) (am_tI_emit (by with_reducible assumption) h10) (x_thi h9 h5 h10 hT (by with_reducible assumption) hcap d1 x (by with_reducible assumption) (by with_reducible assumption))
          | skip
      · cases hI
    · exact h.elim
theorem metX5_readValueE (n : Nat) : am_Met yX5_readValue cX5_readValue 2 none (4 + 8 * n) (200 + 200 * n) (TE5_readValue n) := by
  induction n with
  | zero =>
    refine metX5_readValueGE 0 0 0 0 0 (fun _ _ _ _ => False) (fun _ _ _ _ => False) (am_MetF _ _ _ _ _ _) (am_MetF _ _ _ _ _ _) (by omega) ?_ ?_
    · intro live t s c e M R a1 a2 a3 a4 a4b a5 a6 a7 hh
      omega
    · intro live t s c e M R a1 a2 a3 a4 a4b a5 a6 a7 hh
      omega
  | succ n ih =>
    have hP := metX5_readPlainE n ih
    have hC := metX5_readChainE n hP 5
    refine metX5_readValueGE (n + 1) (4 + 8 * n + 2 + 5) (200 + 200 * n + 50 + 25 * 5) (4 + 8 * n) (200 + 200 * n) (TE5_readChain n 5) (TE5_readValue n) hC ih (by omega) ?_ ?_
    · intro live t s c e M R a1 a2 a3 a4 a4b a5 a6 a7 hh
      exact am_tP_in a1 a2 a3 ⟨a4, a4b, ⟨by decide, by decide, by decide⟩, a5, a6, by omega, hh⟩
    · intro live t s c e M R a1 a2 a3 a4 a4b a5 a6 a7 hh
      have hi := i_add (x := e) (y := 1) (by simp only [Int32.reduceToInt]; omega) (by simp only [Int32.reduceToInt]; omega)
      simp only [Int32.reduceToInt] at hi
      exact am_tP_in a1 a2 a3 ⟨a4, a4b, by omega, by omega, by omega, hh⟩
