/-! texts: the class's reader, exact, III: the recursion -/
def x_pl (t s c : Nat) (M M' : am_M) : Prop := x_io t c M M' (fun fa p' v => s_pl fa (M.1 s) (t_n M t) (t_p M t) p' (t_o M t) v) (fun fa f => s_bp fa (M.1 s) (t_n M t) (t_p M t) (t_o M t) f)
def x_ch (k : Int32) (t s c : Nat) (M M' : am_M) : Prop := x_io t c M M' (fun fa p' v => s_ch fa (M.1 s) (t_n M t) (t_p M t) p' (t_o M t) k v) (fun fa f => s_bd fa (M.1 s) (t_n M t) (t_p M t) (t_o M t) k.toInt f)
def x_cl (k : Int32) (t s c : Nat) (M M' : am_M) : Prop := x_io t c M M' (fun fa p' v => s_cl fa (M.1 s) (t_n M t) (t_p M t) p' (t_o M t) k v) (fun fa f => s_bd fa (M.1 s) (t_n M t) (t_p M t) (t_o M t) k.toInt f)
def x_va (t s c : Nat) (M M' : am_M) : Prop := x_io t c M M' (fun fa p' v => s_va fa (M.1 s) (t_n M t) (t_p M t) p' (t_o M t) v) (fun fa f => s_bd fa (M.1 s) (t_n M t) (t_p M t) (t_o M t) 1 f)
def TE5_readValue (d : Nat) : am_T := fun live as M R => match as with
  | [.ref t, .int e] => am_tP live t (fun s c => am_tI M t ∧ x_pre t s M e.toInt ∧ 0 ≤ e.toInt ∧ e.toInt ≤ 41 ∧ 41 ≤ e.toInt + (d : Int) ∧ ∀ M', am_ch (am_tS t c) M M' → am_tI M' t → x_va t s c M M' → R none M')
  | _ => False
def TE5_readPlain (d : Nat) : am_T := fun live as M R => match as with
  | [.ref t, .int e] => am_tP live t (fun s c => am_tI M t ∧ x_pre t s M e.toInt ∧ 0 ≤ e.toInt ∧ e.toInt ≤ 40 ∧ 40 ≤ e.toInt + (d : Int) ∧ (∀ q g, w_nx (M.1 s) (t_n M t) (t_p M t) q g → g ≠ 33 ∧ g ≠ 45) ∧ ∀ M', am_ch (am_tS t c) M M' → am_tI M' t → x_pl t s c M M' → R none M')
  | _ => False
def TE5_readChain (d n : Nat) : am_T := fun live as M R => match as with
  | [.ref t, .int l, .int e] => am_tP live t (fun s c => am_tI M t ∧ x_pre t s M e.toInt ∧ (0 ≤ l.toInt ∧ l.toInt ≤ 5 ∧ 5 ≤ l.toInt + (n : Int)) ∧ 0 ≤ e.toInt ∧ e.toInt ≤ 40 ∧ 40 ≤ e.toInt + (d : Int) ∧ ∀ M', am_ch (am_tS t c) M M' → am_tI M' t → x_ch (l + 2) t s c M M' → R none M')
  | _ => False
/-- one code for what was read -/
theorem x_lit {M : am_M} {t c : Nat} {q v : Int32} {w : (Int32 → Int64) → Int64} {G : (Int32 → Int64) → Nat → Int64 → Prop} {F : (Int32 → Int64) → Int → Prop} (hn : t ≠ c) (hT : am_tI M t) (hT2 : am_tI (am_wI M t 3 q) t) (hw : M.1 t 6 = -1) (hq : (M.1 t 3).toInt < q.toInt) (hcap : (M.1 t 2).toInt ≤ (M.1 t 3).toInt) (hv : ∀ fa st, w_ex fa v st = w fa :: st) (hG : ∀ fa, G fa q.toNatClampNeg (w fa)) : x_io t c M (am_emit (am_wI M t 3 q) t c v) G F := by
  have f : ∀ k, k ≠ 3 → (am_wI M t 3 q).1 t k = M.1 t k := fun k hk => by rw [am_wI_1, if_neg (fun z => hk z.2)]
  have f3 : (am_wI M t 3 q).1 t 3 = q := by rw [am_wI_1, if_pos ⟨rfl, rfl⟩]
  have fc : (am_wI M t 3 q).1 c = M.1 c := funext fun j => by rw [am_wI_1, if_neg (fun z => hn z.1.symm)]
  have a := hT.p
  have a2 := hT2.p
  rw [f3, f 5 (by decide)] at a2
  have ec : t_c (am_wI M t 3 q) t = t_c M t := by show ((am_wI M t 3 q).1 t 2).toNatClampNeg = _; rw [f 2 (by decide)]
  have cq := i_clamp (x := q) (by omega)
  obtain ⟨y1, y2, y3⟩ := am_emit_y (v := v) hn hT2 (by rw [ec]; omega)
  rw [ec] at y1 y2 y3
  have g : ∀ k, k ≠ 2 → (am_emit (am_wI M t 3 q) t c v).1 t k = (am_wI M t 3 q).1 t k := fun k hk => am_emit_f hn hk
  refine x_io.ok hw (by rw [g 6 (by decide), f 6 (by decide)]; exact hw) (by rw [g 4 (by decide), f 4 (by decide)]) ?_
  rw [y1, show t_p (am_emit (am_wI M t 3 q) t c v) t = q.toNatClampNeg by show ((am_emit (am_wI M t 3 q) t c v).1 t 3).toNatClampNeg = _; rw [g 3 (by decide), f3]]
  exact y_io.one (v := v) (w := w) (by omega) (fun j hj => by rw [y3 j hj, fc]) y2 hv hG
theorem w_lets {g : Int32} (h : am_ops g = 0) : 0 < g.toInt := by
  unfold am_ops at h
  split at h
  · next z => rcases z with rfl | rfl | rfl | rfl | rfl | rfl | rfl <;> decide
  · split at h
    · exact absurd h (by decide)
    · split at h <;> exact absurd h (by decide)
/-- an opening, what stands in it, its end -/
def t_M2 (M : am_M) (t : Nat) (p : Int32) : am_M := am_wI (am_wI M t 3 (p + 1)) t 4 (M.1 t 4 + 1)
theorem t_M2_f {M : am_M} {t s c : Nat} {p : Int32} (h9 : t ≠ s) (h10 : t ≠ c) : (t_M2 M t p).1 t 3 = p + 1 ∧ (t_M2 M t p).1 t 4 = M.1 t 4 + 1 ∧ (∀ k, k ≠ 3 → k ≠ 4 → (t_M2 M t p).1 t k = M.1 t k) ∧ (t_M2 M t p).1 s = M.1 s ∧ (t_M2 M t p).1 c = M.1 c := by
  unfold t_M2
  refine ⟨?_, ?_, fun k h3 h4 => ?_, funext fun j => ?_, funext fun j => ?_⟩
  · rw [am_wI_1, if_neg (fun z => absurd z.2 (by decide)), am_wI_1, if_pos ⟨rfl, rfl⟩]
  · rw [am_wI_1, if_pos ⟨rfl, rfl⟩]
  · rw [am_wI_1, if_neg (fun z => h4 z.2), am_wI_1, if_neg (fun z => h3 z.2)]
  · rw [am_wI_1, if_neg (fun z => h9 z.1.symm), am_wI_1, if_neg (fun z => h9 z.1.symm)]
  · rw [am_wI_1, if_neg (fun z => h10 z.1.symm), am_wI_1, if_neg (fun z => h10 z.1.symm)]
section PAR
variable {M M3 : am_M} {t s c : Nat} {p : Int32}
theorem x_par (h9 : t ≠ s) (h10 : t ≠ c) (h5 : s ≠ c) (hT : am_tI M t) (hs : x_sg t s M) (hp : am_skip M t s p) (hg : am_sign M t s p = 40) (zw : M.1 t 6 = -1) (ho : 0 ≤ (M.1 t 4).toInt ∧ (M.1 t 4).toInt < 8) (hcap : (M.1 t 2).toInt ≤ (M.1 t 3).toInt) (hT3 : am_tI M3 t) (c3 : am_ch (am_tS t c) (t_M2 M t p) M3) (x : x_va t s c (t_M2 M t p) M3) :
    (¬ M3.1 t 6 = -1 → ∀ v, x_pl t s c M (am_wI M3 t 4 v)) ∧ (M3.1 t 6 = -1 → ∀ p', am_skip M3 t s p' → (am_sign M3 t s p' = 41 → x_pl t s c M (am_wI (am_wI M3 t 3 (p' + 1)) t 4 ((am_wI M3 t 3 (p' + 1)).1 t 4 - 1)) ∧ am_tI (am_wI M3 t 3 (p' + 1)) t) ∧ (¬ am_sign M3 t s p' = 41 → ∀ v, x_pl t s c M (am_wI (am_blame (am_wI M3 t 3 p') t p' 1) t 4 v))) := by
  obtain ⟨nx, cp⟩ := x_nx hT hs hp
  rw [hg] at nx
  have ha := nx.at (by decide)
  have a := hT.p
  have p1 := hp.1
  have p2 := hp.2.1
  have hi := i_inc (x := p) (by omega) (by omega)
  have cp1 := i_clamp (x := p + 1) (by omega)
  have ho1 := i_inc (x := M.1 t 4) (by omega) (by omega)
  have co := i_clamp ho.1
  have co1 := i_clamp (x := M.1 t 4 + 1) (by omega)
  obtain ⟨m3, m4, mk, ms, mc⟩ := t_M2_f (M := M) (p := p) h9 h10
  have e6 : (t_M2 M t p).1 t 6 = -1 := by rw [mk 6 (by decide) (by decide)]; exact zw
  have en : t_n (t_M2 M t p) t = t_n M t := by unfold t_n; rw [mk 5 (by decide) (by decide)]
  have ep : t_p (t_M2 M t p) t = p.toNatClampNeg + 1 := by unfold t_p; rw [m3]; omega
  have eo : t_o (t_M2 M t p) t = t_o M t + 1 := by unfold t_o; rw [m4]; omega
  have ec : t_c (t_M2 M t p) t = t_c M t := by unfold t_c; rw [mk 2 (by decide) (by decide)]
  have ho8 : t_o M t ≠ 8 := by unfold t_o; omega
  have s3 : M3.1 s = M.1 s := (funext fun j => am_ch_s c3 h5 h9 j).trans ms
  have n3 : M3.1 t 5 = M.1 t 5 := (am_ch_t5 c3 h10).trans (mk 5 (by decide) (by decide))
  have o4 : ∀ (N : am_M) v k, k ≠ 4 → (am_wI N t 4 v).1 t k = N.1 t k := fun N v k hk => by rw [am_wI_1, if_neg (fun z => hk z.2)]
  have oc : ∀ (N : am_M) k v, (am_wI N t k v).1 c = N.1 c := fun N k v => funext fun j => by rw [am_wI_1, if_neg (fun z => h10 z.1.symm)]
  refine ⟨fun w3 v => ?_, fun w3 p' hp' => ?_⟩
  · refine x_io.bad zw (by rw [o4 _ _ 6 (by decide)]; exact w3) (fun fa => ?_)
    rw [o4 _ _ 6 (by decide)]
    have q := x.f e6 w3 fa
    rw [ms, en, ep, eo] at q
    exact s_parb nx ho8 q
  · have nx3 := (x_nx hT3 (s := s) ⟨(), fun j hj => by rw [s3]; rw [n3] at hj; exact hs.v hj⟩ hp')
    rw [s3, show t_n M3 t = t_n M t by unfold t_n; rw [n3]] at nx3
    obtain ⟨nx3, cp'⟩ := nx3
    obtain ⟨y4, y⟩ := x.y e6 w3
    rw [ec, ep, ms, mc, en, eo] at y
    obtain ⟨b1, b2, b3, b4, b5⟩ := y
    have a3 := hT3.p
    have q1 := hp'.1
    have q2 := hp'.2.1
    have hi' := i_inc (x := p') (by omega) (by omega)
    have cp1' := i_clamp (x := p' + 1) (by omega)
    refine ⟨fun hg' => ?_, fun hg' v => ?_⟩
    · rw [hg'] at nx3
      have ha3 := nx3.at (by decide)
      have f3 : ∀ k, k ≠ 3 → (am_wI M3 t 3 (p' + 1)).1 t k = M3.1 t k := fun k hk => by rw [am_wI_1, if_neg (fun z => hk z.2)]
      have f33 : (am_wI M3 t 3 (p' + 1)).1 t 3 = p' + 1 := by rw [am_wI_1, if_pos ⟨rfl, rfl⟩]
      refine ⟨?_, ?_⟩
      · refine x_io.ok zw (by rw [o4 _ _ 6 (by decide), f3 6 (by decide)]; exact w3) (by rw [am_wI_self, f3 4 (by decide), y4, m4, Int32.add_sub_cancel]) ?_
        rw [oc, oc, show t_p (am_wI (am_wI M3 t 3 (p' + 1)) t 4 ((am_wI M3 t 3 (p' + 1)).1 t 4 - 1)) t = p'.toNatClampNeg + 1 by unfold t_p; rw [o4 _ _ 3 (by decide), f33]; omega, show t_c (am_wI (am_wI M3 t 3 (p' + 1)) t 4 ((am_wI M3 t 3 (p' + 1)).1 t 4 - 1)) t = t_c M3 t by unfold t_c; rw [o4 _ _ 2 (by decide), f3 2 (by decide)]]
        refine ⟨by omega, b2, by omega, b4, fun fa => ?_⟩
        obtain ⟨v, u, w⟩ := b5 fa
        exact ⟨v, u, s_par nx ho8 w nx3⟩
      · have n3' : (M3.1 t 5).toInt = (M.1 t 5).toInt := by rw [n3]
        refine am_tI_of ?_ ?_ ?_ ?_ ?_
        all_goals simp [am_wI_1, -Int32.toInt_add]
        all_goals omega
    · have w3' : (am_wI M3 t 3 p').1 t 6 = -1 := by rw [am_wI_1, if_neg (fun z => absurd z.2 (by decide))]; exact w3
      have bl := t_bl (M := am_wI M3 t 3 p') (t := t) (a := p') (k := 1) w3' ⟨by omega, by omega⟩ ⟨by decide, by decide⟩
      refine x_io.bad zw (by rw [o4 _ _ 6 (by decide)]; exact bl.1) (fun fa => ?_)
      rw [o4 _ _ 6 (by decide), bl.2]
      obtain ⟨v, u, w⟩ := b5 fa
      exact s_parm nx ho8 w nx3 hg'
end PAR
def kX5_readPlainE (d : Nat) (live : am_E) (Ret : am_R) : am_code := [(0, am_aload 0 1), (1, am_callV live 5 0 TX5_next 4), (4, am_istore 2 3 5), (5, am_aload 0 6), (6, am_getI live 5 6 9), (9, am_const (.int (-1)) 10), (10, am_if2 (fun x y => x = y) 14 13), (13, am_retV Ret), (14, am_iload 2 15), (15, am_callS live 1 TX5_isDigit 18), (18, am_if1 (fun x => x = 0) 28 21), (21, am_aload 0 22), (22, am_callV live 5 0 TE5_readDigits 25), (25, am_goto 136), (28, am_iload 2 29), (29, am_callS live 1 TX5_operands 32), (32, am_if1 (fun x => x = 0) 35 54), (35, am_aload 0 36), (36, am_dup 37), (37, am_getI live 5 3 40), (40, am_const (.int 1) 41), (41, am_i2 (fun x y => x + y) 42), (42, am_putI live 5 3 45), (45, am_aload 0 46), (46, am_iload 2 47), (47, am_i1 (fun x => -x) 48), (48, am_callV live 5 1 TX5_emit 51), (51, am_goto 136), (54, am_iload 2 55), (55, am_const (.int 40) 57), (57, am_if2 (fun x y => x = y) 72 60), (60, am_aload 0 61), (61, am_aload 0 62), (62, am_getI live 5 3 65), (65, am_const (.int 1) 66), (66, am_callV live 5 2 TX5_blame 69), (69, am_goto 136), (72, am_aload 0 73), (73, am_getI live 5 4 76), (76, am_const (.int 8) 78), (78, am_if2 (fun x y => x < y) 93 81), (81, am_aload 0 82), (82, am_aload 0 83), (83, am_getI live 5 3 86), (86, am_const (.int 3) 87), (87, am_callV live 5 2 TX5_blame 90), (90, am_goto 136), (93, am_aload 0 94), (94, am_dup 95), (95, am_getI live 5 3 98), (98, am_const (.int 1) 99), (99, am_i2 (fun x y => x + y) 100), (100, am_putI live 5 3 103), (103, am_aload 0 104), (104, am_dup 105), (105, am_getI live 5 4 108), (108, am_const (.int 1) 109), (109, am_i2 (fun x y => x + y) 110), (110, am_putI live 5 4 113), (113, am_aload 0 114), (114, am_iload 1 115), (115, am_const (.int 1) 116), (116, am_i2 (fun x y => x + y) 117), (117, am_callV live 5 1 (TE5_readValue d) 120), (120, am_aload 0 121), (121, am_const (.int 41) 123), (123, am_callV live 5 1 TE5_pass 126), (126, am_aload 0 127), (127, am_dup 128), (128, am_getI live 5 4 131), (131, am_const (.int 1) 132), (132, am_i2 (fun x y => x - y) 133), (133, am_putI live 5 4 136), (136, am_retV Ret)]
theorem koX5_readPlainE (d : Nat) (hV : am_Met yX5_readValue cX5_readValue 2 none (4 + 8 * d) (200 + 200 * d) (TE5_readValue d)) (live : am_E) (Ret : am_R) : ∀ q ∈ kX5_readPlainE d live Ret, am_ok RX5 cX5_readPlain 3 none (4 + 8 * d + 1) (200 + 200 * d + 25) live Ret q.1 q.2 :=
  am_kc (ak_aload_n dX5_readPlain_0 rfl rfl) <|
  am_kc (ak_callV (C := RX5) (F := TX5) (N := 7) metX5_next rfl ⟨rfl, by decide +kernel, by decide +kernel, by decide +kernel⟩ (am_w5 wd_688 wd_690 wd_17 wd_65 wd_691) (by omega) dX5_readPlain_1 rfl) <|
  am_kc (ak_istore_n dX5_readPlain_4 rfl rfl) <|
  am_kc (ak_aload_n dX5_readPlain_5 rfl rfl) <|
  am_kc (ak_getI (C := RX5) (T := TX5) (N := 7) rfl inX5w (by decide) rfl rfl rfl wd_175 dX5_readPlain_6 rfl) <|
  am_kc (ak_iconst dX5_readPlain_9 (by decide +kernel) rfl) <|
  am_kc (ak_icmp_eq dX5_readPlain_10 (by decide +kernel) rfl) <|
  am_kc (ak_retV dX5_readPlain_13) <|
  am_kc (ak_iload_n dX5_readPlain_14 rfl rfl) <|
  am_kc (ak_callS metX5_isDigit ⟨rfl, by decide +kernel, by decide +kernel, by decide +kernel⟩ (am_w4 wd_696 wd_697 wd_65 wd_698) (by omega) dX5_readPlain_15 rfl) <|
  am_kc (ak_if_eq dX5_readPlain_18 (by decide +kernel) rfl) <|
  am_kc (ak_aload_n dX5_readPlain_21 rfl rfl) <|
  am_kc (ak_callV (C := RX5) (F := TX5) (N := 7) metX5_readDigitsE rfl ⟨rfl, by decide +kernel, by decide +kernel, by decide +kernel⟩ (am_w5 wd_699 wd_701 wd_19 wd_65 wd_702) (by omega) dX5_readPlain_22 rfl) <|
  am_kc (ak_goto dX5_readPlain_25 (by decide +kernel)) <|
  am_kc (ak_iload_n dX5_readPlain_28 rfl rfl) <|
  am_kc (ak_callS metX5_operands ⟨rfl, by decide +kernel, by decide +kernel, by decide +kernel⟩ (am_w4 wd_596 wd_597 wd_65 wd_598) (by omega) dX5_readPlain_29 rfl) <|
  am_kc (ak_if_ne dX5_readPlain_32 (by decide +kernel) rfl) <|
  am_kc (ak_aload_n dX5_readPlain_35 rfl rfl) <|
  am_kc (ak_dup dX5_readPlain_36 rfl) <|
  am_kc (ak_getI (C := RX5) (T := TX5) (N := 7) rfl inX5w (by decide) rfl rfl rfl wd_171 dX5_readPlain_37 rfl) <|
  am_kc (ak_iconst dX5_readPlain_40 (by decide +kernel) rfl) <|
  am_kc (ak_iadd dX5_readPlain_41 rfl) <|
  am_kc (ak_putI (C := RX5) (T := TX5) (N := 7) rfl inX5w tyX5_ok nmX5 (by decide) rfl rfl rfl rfl (by decide +kernel) wd_171 dX5_readPlain_42 rfl) <|
  am_kc (ak_aload_n dX5_readPlain_45 rfl rfl) <|
  am_kc (ak_iload_n dX5_readPlain_46 rfl rfl) <|
  am_kc (ak_ineg dX5_readPlain_47 rfl) <|
  am_kc (ak_callV (C := RX5) (F := TX5) (N := 7) metX5_emit rfl ⟨rfl, by decide +kernel, by decide +kernel, by decide +kernel⟩ (am_w5 wd_703 wd_705 wd_20 wd_65 wd_706) (by omega) dX5_readPlain_48 rfl) <|
  am_kc (ak_goto dX5_readPlain_51 (by decide +kernel)) <|
  am_kc (ak_iload_n dX5_readPlain_54 rfl rfl) <|
  am_kc (ak_bipush dX5_readPlain_55 (by decide +kernel) rfl) <|
  am_kc (ak_icmp_eq dX5_readPlain_57 (by decide +kernel) rfl) <|
  am_kc (ak_aload_n dX5_readPlain_60 rfl rfl) <|
  am_kc (ak_aload_n dX5_readPlain_61 rfl rfl) <|
  am_kc (ak_getI (C := RX5) (T := TX5) (N := 7) rfl inX5w (by decide) rfl rfl rfl wd_171 dX5_readPlain_62 rfl) <|
  am_kc (ak_iconst dX5_readPlain_65 (by decide +kernel) rfl) <|
  am_kc (ak_callV (C := RX5) (F := TX5) (N := 7) metX5_blame rfl ⟨rfl, by decide +kernel, by decide +kernel, by decide +kernel⟩ (am_w5 wd_676 wd_678 wd_14 wd_65 wd_679) (by omega) dX5_readPlain_66 rfl) <|
  am_kc (ak_goto dX5_readPlain_69 (by decide +kernel)) <|
  am_kc (ak_aload_n dX5_readPlain_72 rfl rfl) <|
  am_kc (ak_getI (C := RX5) (T := TX5) (N := 7) rfl inX5w (by decide) rfl rfl rfl wd_172 dX5_readPlain_73 rfl) <|
  am_kc (ak_bipush dX5_readPlain_76 (by decide +kernel) rfl) <|
  am_kc (ak_icmp_lt dX5_readPlain_78 (by decide +kernel) rfl) <|
  am_kc (ak_aload_n dX5_readPlain_81 rfl rfl) <|
  am_kc (ak_aload_n dX5_readPlain_82 rfl rfl) <|
  am_kc (ak_getI (C := RX5) (T := TX5) (N := 7) rfl inX5w (by decide) rfl rfl rfl wd_171 dX5_readPlain_83 rfl) <|
  am_kc (ak_iconst dX5_readPlain_86 (by decide +kernel) rfl) <|
  am_kc (ak_callV (C := RX5) (F := TX5) (N := 7) metX5_blame rfl ⟨rfl, by decide +kernel, by decide +kernel, by decide +kernel⟩ (am_w5 wd_676 wd_678 wd_14 wd_65 wd_679) (by omega) dX5_readPlain_87 rfl) <|
  am_kc (ak_goto dX5_readPlain_90 (by decide +kernel)) <|
  am_kc (ak_aload_n dX5_readPlain_93 rfl rfl) <|
  am_kc (ak_dup dX5_readPlain_94 rfl) <|
  am_kc (ak_getI (C := RX5) (T := TX5) (N := 7) rfl inX5w (by decide) rfl rfl rfl wd_171 dX5_readPlain_95 rfl) <|
  am_kc (ak_iconst dX5_readPlain_98 (by decide +kernel) rfl) <|
  am_kc (ak_iadd dX5_readPlain_99 rfl) <|
  am_kc (ak_putI (C := RX5) (T := TX5) (N := 7) rfl inX5w tyX5_ok nmX5 (by decide) rfl rfl rfl rfl (by decide +kernel) wd_171 dX5_readPlain_100 rfl) <|
  am_kc (ak_aload_n dX5_readPlain_103 rfl rfl) <|
  am_kc (ak_dup dX5_readPlain_104 rfl) <|
  am_kc (ak_getI (C := RX5) (T := TX5) (N := 7) rfl inX5w (by decide) rfl rfl rfl wd_172 dX5_readPlain_105 rfl) <|
  am_kc (ak_iconst dX5_readPlain_108 (by decide +kernel) rfl) <|
  am_kc (ak_iadd dX5_readPlain_109 rfl) <|
  am_kc (ak_putI (C := RX5) (T := TX5) (N := 7) rfl inX5w tyX5_ok nmX5 (by decide) rfl rfl rfl rfl (by decide +kernel) wd_172 dX5_readPlain_110 rfl) <|
  am_kc (ak_aload_n dX5_readPlain_113 rfl rfl) <|
  am_kc (ak_iload_n dX5_readPlain_114 rfl rfl) <|
  am_kc (ak_iconst dX5_readPlain_115 (by decide +kernel) rfl) <|
  am_kc (ak_iadd dX5_readPlain_116 rfl) <|
  am_kc (ak_callV (C := RX5) (F := TX5) (N := 7) hV rfl ⟨rfl, by decide +kernel, by decide +kernel, by decide +kernel⟩ (am_w5 wd_672 wd_674 wd_13 wd_65 wd_675) (by omega) dX5_readPlain_117 rfl) <|
  am_kc (ak_aload_n dX5_readPlain_120 rfl rfl) <|
  am_kc (ak_bipush dX5_readPlain_121 (by decide +kernel) rfl) <|
  am_kc (ak_callV (C := RX5) (F := TX5) (N := 7) metX5_passE rfl ⟨rfl, by decide +kernel, by decide +kernel, by decide +kernel⟩ (am_w5 wd_707 wd_709 wd_21 wd_65 wd_710) (by omega) dX5_readPlain_123 rfl) <|
  am_kc (ak_aload_n dX5_readPlain_126 rfl rfl) <|
  am_kc (ak_dup dX5_readPlain_127 rfl) <|
  am_kc (ak_getI (C := RX5) (T := TX5) (N := 7) rfl inX5w (by decide) rfl rfl rfl wd_172 dX5_readPlain_128 rfl) <|
  am_kc (ak_iconst dX5_readPlain_131 (by decide +kernel) rfl) <|
  am_kc (ak_isub dX5_readPlain_132 rfl) <|
  am_kc (ak_putI (C := RX5) (T := TX5) (N := 7) rfl inX5w tyX5_ok nmX5 (by decide) rfl rfl rfl rfl (by decide +kernel) wd_172 dX5_readPlain_133 rfl) <|
  am_kc (ak_retV dX5_readPlain_136) <| am_kn
def JE5_readPlain : am_E → List Value → am_M → am_R → am_inv := fun live as M0 _ pc => match as with
  | [.ref t, .int e] => (match pc with
    | 5 => some ([0, 1, 2], fun k L st M => ∃ p : Int32, L = [(0, .ref t), (1, .int e), (2, .int (am_sign M0 t ((live.2 t 0).getD 0) p))] ∧ st = [] ∧ k = (9, 0) ∧ M = am_wI M0 t 3 p ∧ am_skip M0 t ((live.2 t 0).getD 0) p)
    | 120 => some ([0], fun k L st M => ∃ p : Int32, L = [(0, .ref t)] ∧ st = [] ∧ k = (8, 0) ∧ (am_skip M0 t ((live.2 t 0).getD 0) p ∧ am_sign M0 t ((live.2 t 0).getD 0) p = 40 ∧ M0.1 t 6 = -1 ∧ (M0.1 t 4).toInt < 8) ∧ am_ch (am_tS t ((live.2 t 1).getD 0)) (t_M2 M0 t p) M ∧ am_tI M t ∧ x_va t ((live.2 t 0).getD 0) ((live.2 t 1).getD 0) (t_M2 M0 t p) M)
    | 126 => some ([0], fun k L st M => L = [(0, .ref t)] ∧ st = [] ∧ k = (7, 0) ∧ am_ch (am_tS t ((live.2 t 1).getD 0)) M0 M ∧ am_tI M t ∧ x_pl t ((live.2 t 0).getD 0) ((live.2 t 1).getD 0) M0 (am_wI M t 4 (M.1 t 4 - 1)))
    | _ => none)
  | _ => none
set_option maxRecDepth 100000 in
set_option maxHeartbeats 4000000 in
theorem metX5_readPlainE (d : Nat) (hV : am_Met yX5_readValue cX5_readValue 2 none (4 + 8 * d) (200 + 200 * d) (TE5_readValue d)) : am_Met yX5_readPlain cX5_readPlain 3 none ((4 + 8 * d + 1)) ((200 + 200 * d + 25)) (TE5_readPlain d) := by
  refine am_met (own := RX5) (by decide +kernel) rfl (kX5_readPlainE d ) (koX5_readPlainE d  hV ) 120 JE5_readPlain ?_ ?_
  · intro live as M Ret h
    unfold TE5_readPlain at h
    split at h
    · next t e =>
      refine ⟨Nat.le_of_ble_eq_true rfl, ?_⟩
      change am_wp _ _ _ _ [(0, Value.ref t), (1, Value.int e)] _ _
      have hh := am_tP_mp h
      clear h
      obtain ⟨s, c, h2, h6, hb, h1, h3, h7, h4, h8, h9, h5, h10, hT, hP, he1, he2, he3, hun, h⟩ := hh
      have e0 : (live.2 t 0).getD 0 = s := by rw [h2]; rfl
      have ec : (live.2 t 1).getD 0 = c := by rw [h6]; rfl
      repeat' (first | (with_reducible exact hT) | (with_reducible exact h1) | (with_reducible exact h2) | (with_reducible exact h3) | (with_reducible exact hb) | (with_reducible exact h6) | (with_reducible exact h7) | (refine Exists.intro _ (Exists.intro _ (And.intro h2 (And.intro h6 ?_)))) | (refine Exists.intro _ (And.intro h2 ?_)) | (refine Exists.intro _ (And.intro h6 ?_)) | apply And.intro | exact rfl | intro hx | (refine Exists.intro _ (And.intro rfl ?_)) | ((with_reducible change _ = true); simp only [h1, h2, h3, hb, h6, h7, Bool.true_and]; rfl))
      all_goals try first | (with_reducible change am_tI _ _) | (change Ret _ _) | (change Ret _ _ _) | (change Exists _)
      all_goals try dsimp only at *
      all_goals try exact absurd ‹(1000 : Int64) = 0› (by decide)
      all_goals
        rw [e0]
        exact ⟨_, _, rfl, rfl, rfl, rfl, hx⟩
    · exact h.elim
  · intro live as M0 Ret h k pc I hI L st M hi
    unfold TE5_readPlain at h
    split at h
    · next t e =>
      have hh := am_tP_mp h
      clear h
      obtain ⟨s, c, h2, h6, hb, h1, h3, h7, h4, h8, h9, h5, h10, hT, hP, he1, he2, he3, hun, h⟩ := hh
      have e0 : (live.2 t 0).getD 0 = s := by rw [h2]; rfl
      have ec : (live.2 t 1).getD 0 = c := by rw [h6]; rfl
      change (match pc with | 5 => _ | 120 => _ | 126 => _ | _ => none) = _ at hI
      split at hI
      · cases hI
        obtain ⟨p, rfl, rfl, rfl, rfl, hp⟩ := hi
        rw [e0] at hp ⊢
        obtain ⟨nx, cp⟩ := x_nx hT hP.s hp
        have a := hT.p
        have hT1 := am_tI_w3 hT hp
        have f3 : (am_wI M0 t 3 p).1 t 3 = p := by rw [am_wI_1, if_pos ⟨rfl, rfl⟩]
        have f : ∀ k, k ≠ 3 → (am_wI M0 t 3 p).1 t k = M0.1 t k := fun k hk => by rw [am_wI_1, if_neg (fun z => hk z.2)]
        have fs : (am_wI M0 t 3 p).1 s = M0.1 s := funext fun j => by rw [am_wI_1, if_neg (fun z => h5 z.1.symm)]
        have f6 := f 6 (by decide)
        have f4 := f 4 (by decide)
        have f5 := f 5 (by decide)
        have f2 := f 2 (by decide)
        have c1 : am_ch (am_tS t c) M0 (am_wI M0 t 3 p) := am_ch.rf.wI am_tS_3
        have cd1 : 0 ≤ ((am_wI M0 t 3 p).1 t 2).toInt := by rw [f2]; exact a.2.2.2.1
        by_cases zw : M0.1 t 6 = -1
        rotate_left
        · have zw1 : ¬ (am_wI M0 t 3 p).1 t 6 = -1 := by rw [f6]; exact zw
          repeat' (first | (with_reducible exact h1) | (with_reducible exact h2) | (with_reducible exact h3) | (with_reducible exact hb) | (with_reducible exact h6) | (with_reducible exact h7) | (refine Exists.intro _ (Exists.intro _ (And.intro h2 (And.intro h6 ?_)))) | (refine Exists.intro _ (And.intro h2 ?_)) | (refine Exists.intro _ (And.intro h6 ?_)) | apply And.intro | exact rfl | (intro hx; with_reducible exact absurd hx zw1) | intro hx | (refine Exists.intro _ (And.intro rfl ?_)) | ((with_reducible change _ = true); simp only [h1, h2, h3, hb, h6, h7, Bool.true_and]; rfl))
          all_goals try first | (with_reducible change am_tI _ _) | (change Ret _ _) | (change Ret _ _ _) | (change Exists _)
          all_goals try dsimp only at *
          all_goals try exact absurd ‹(1000 : Int64) = 0› (by decide)
          all_goals exact h _ c1 hT1 (x_io.no zw f6)
        · skip
          have zw1 : (am_wI M0 t 3 p).1 t 6 = -1 := by rw [f6]; exact zw
          have pre := hP.w zw
          have p1 := hp.1
          have p2 := hp.2.1
          generalize hg : am_sign M0 t s p = g at nx ⊢
          by_cases zd : 48 ≤ g ∧ g ≤ 57
          · have q0 : ¬ ((if 48 ≤ g ∧ g ≤ 57 then (1 : Int32) else 0) = 0) := by rw [if_pos zd]; decide
            have dg : w_dgt g = true := w_dgt_i.mpr zd
            have ha := nx.at (w_dgt_clo dg).2
            have tn : t_n (am_wI M0 t 3 p) t = t_n M0 t := by show ((am_wI M0 t 3 p).1 t 5).toNatClampNeg = _; rw [f5]
            have tp : t_p (am_wI M0 t 3 p) t = p.toNatClampNeg := by show ((am_wI M0 t 3 p).1 t 3).toNatClampNeg = _; rw [f3]
            have x3 : (am_wI M0 t 3 p).1 t 6 = -1 ∧ ((am_wI M0 t 3 p).1 t 3).toInt < ((am_wI M0 t 3 p).1 t 5).toInt ∧ w_dgt ((am_wI M0 t 3 p).1 s (t_p (am_wI M0 t 3 p) t)) = true := by
              rw [f3, f5, fs, tp, ha.2.1]
              exact ⟨zw1, by omega, dg⟩
            have k1 : ∀ (q v : Int32), ((am_wI M0 t 3 p).1 t 3).toInt < q.toInt → q.toInt ≤ ((am_wI M0 t 3 p).1 t 5).toInt → 0 ≤ v.toInt → w_dig ((am_wI M0 t 3 p).1 s) (t_n (am_wI M0 t 3 p) t) 8 (t_p (am_wI M0 t 3 p) t) 0 0 = some (q.toNatClampNeg, v.toInt) → Ret none (am_emit (am_wI (am_wI M0 t 3 p) t 3 q) t c v) := fun q v b1 b2 b3 b4 => by
              rw [fs, tn, tp] at b4
              rw [f3] at b1
              rw [f5] at b2
              rw [am_wI_wI]
              have hT2 : am_tI (am_wI M0 t 3 q) t := by
                refine am_tI_of ?_ ?_ ?_ ?_ ?_
                all_goals simp [am_wI_1]
                all_goals omega
              exact h _ (am_ch_emit (am_ch.rf.wI am_tS_3)) (am_tI_emit hT2 h10) (x_lit h10 hT hT2 zw (by omega) (by omega) (fun fa st => w_ex_n b3) (fun fa => s_num nx dg b4))
            have k2 : ∀ q : Int32, ((am_wI M0 t 3 p).1 t 3).toInt ≤ q.toInt → q.toInt ≤ ((am_wI M0 t 3 p).1 t 5).toInt → w_dig ((am_wI M0 t 3 p).1 s) (t_n (am_wI M0 t 3 p) t) 8 (t_p (am_wI M0 t 3 p) t) 0 0 = none → Ret none (am_blame (am_wI (am_wI M0 t 3 p) t 3 q) t ((am_wI M0 t 3 p).1 t 3) 2) := fun q b1 b2 b4 => by
              rw [fs, tn, tp] at b4
              rw [f3] at b1
              rw [f5] at b2
              rw [f3, am_wI_wI]
              have hT2 : am_tI (am_wI M0 t 3 q) t := by
                refine am_tI_of ?_ ?_ ?_ ?_ ?_
                all_goals simp [am_wI_1]
                all_goals omega
              have bl := t_bl (M := am_wI M0 t 3 q) (t := t) (a := p) (k := 2) (by rw [am_wI_1, if_neg (fun z => absurd z.2 (by decide))]; exact zw) ⟨by omega, by omega⟩ ⟨by decide, by decide⟩
              exact h _ (am_ch_blame (am_ch.rf.wI am_tS_3)) (am_tI_blame hT2) (x_io.bad zw bl.1 (fun fa => by rw [bl.2]; exact s_numf nx dg b4))
            repeat' (first | (with_reducible exact hT1) | (with_reducible exact x3) | (with_reducible exact k1) | (with_reducible exact k2) | (with_reducible exact h1) | (with_reducible exact h2) | (with_reducible exact h3) | (with_reducible exact hb) | (with_reducible exact h6) | (with_reducible exact h7) | (refine Exists.intro _ (Exists.intro _ (And.intro h2 (And.intro h6 ?_)))) | (refine Exists.intro _ (And.intro h2 ?_)) | (refine Exists.intro _ (And.intro h6 ?_)) | apply And.intro | exact rfl | (intro hx; with_reducible exact absurd hx q0) | (intro hx; with_reducible exact absurd zw1 hx) | (intro hx; exact absurd hx (by decide)) | (intro hx; exact absurd (by decide) hx) | decide | intro hx | (refine Exists.intro _ (And.intro rfl ?_)) | ((with_reducible change _ = true); simp only [h1, h2, h3, hb, h6, h7, Bool.true_and]; rfl))
            all_goals try first | (with_reducible change am_tI _ _) | (change Ret _ _) | (change Ret _ _ _) | (change Exists _)
            all_goals try dsimp only at *
            all_goals try exact absurd ‹(1000 : Int64) = 0› (by decide)
            all_goals first
              | exact k1 _ _ (by with_reducible assumption) (by with_reducible assumption) (by with_reducible assumption) hx
              | exact k2 _ (by with_reducible assumption) (by with_reducible assumption) hx
          · have q0 : (if 48 ≤ g ∧ g ≤ 57 then (1 : Int32) else 0) = 0 := if_neg zd
            have dg : w_dgt g = false := by
              cases e : w_dgt g with
              | false => rfl
              | true => exact absurd (w_dgt_i.mp e) zd
            by_cases zl : am_ops g = 0
            · have ha := nx.at (am_ne1 zl)
              have hi := i_inc (x := p) (by omega) (by omega)
              have cp1 := i_clamp (x := p + 1) (by omega)
              have e1 : am_wI (am_wI M0 t 3 p) t 3 ((am_wI M0 t 3 p).1 t 3 + 1) = am_wI M0 t 3 (p + 1) := by rw [f3, am_wI_wI]
              have hT2 : am_tI (am_wI M0 t 3 (p + 1)) t := by
                refine am_tI_of ?_ ?_ ?_ ?_ ?_
                all_goals simp [am_wI_1, -Int32.toInt_add]
                all_goals omega
              have cd2 : 0 ≤ ((am_wI (am_wI M0 t 3 p) t 3 ((am_wI M0 t 3 p).1 t 3 + 1)).1 t 2).toInt := by rw [e1]; exact hT2.p.2.2.2.1
              have hh := h _ (am_ch_emit (v := -g) (am_ch.rf.wI am_tS_3)) (am_tI_emit hT2 h10) (x_lit (q := p + 1) (w := fun fa => fa g) h10 hT hT2 zw (by omega) (by omega) (fun fa st => w_ex_l zl (w_lets zl)) (fun fa => by rw [show (p + 1).toNatClampNeg = p.toNatClampNeg + 1 by omega]; exact s_let nx zl))
              rw [← e1] at hh
              repeat' (first | (with_reducible exact cd2) | (with_reducible exact h1) | (with_reducible exact h2) | (with_reducible exact h3) | (with_reducible exact hb) | (with_reducible exact h6) | (with_reducible exact h7) | (refine Exists.intro _ (Exists.intro _ (And.intro h2 (And.intro h6 ?_)))) | (refine Exists.intro _ (And.intro h2 ?_)) | (refine Exists.intro _ (And.intro h6 ?_)) | apply And.intro | exact rfl | (intro hx; with_reducible exact absurd zw1 hx) | (intro hx; with_reducible exact absurd q0 hx) | (intro hx; with_reducible exact absurd zl hx) | (intro hx; exact absurd hx (by decide)) | (intro hx; exact absurd (by decide) hx) | decide | intro hx | (refine Exists.intro _ (And.intro rfl ?_)) | ((with_reducible change _ = true); simp only [h1, h2, h3, hb, h6, h7, Bool.true_and]; rfl))
              all_goals try first | (with_reducible change am_tI _ _) | (change Ret _ _) | (change Ret _ _ _) | (change Exists _)
              all_goals try dsimp only at *
              all_goals try exact absurd ‹(1000 : Int64) = 0› (by decide)
              all_goals exact hh
            · by_cases zp : g = 40
              rotate_left
              · have hT2 := am_tI_blame (a := p) (k := 1) hT1
                have bl := t_bl (M := am_wI M0 t 3 p) (t := t) (a := p) (k := 1) zw1 ⟨by omega, by omega⟩ ⟨by decide, by decide⟩
                have hq := hun _ _ nx
                have hh := h _ (am_ch_blame c1) hT2 (x_io.bad zw bl.1 (fun fa => by rw [bl.2]; exact s_oth nx dg zl zp hq.1 hq.2))
                have hh : Ret none (am_blame (am_wI M0 t 3 p) t ((am_wI M0 t 3 p).1 t 3) 1) := by rw [f3]; exact hh
                repeat' (first | (with_reducible exact h1) | (with_reducible exact h2) | (with_reducible exact h3) | (with_reducible exact hb) | (with_reducible exact h6) | (with_reducible exact h7) | (refine Exists.intro _ (Exists.intro _ (And.intro h2 (And.intro h6 ?_)))) | (refine Exists.intro _ (And.intro h2 ?_)) | (refine Exists.intro _ (And.intro h6 ?_)) | apply And.intro | exact rfl | (intro hx; with_reducible exact absurd hx zl) | (intro hx; with_reducible exact absurd hx zp) | (intro hx; with_reducible exact absurd zw1 hx) | (intro hx; with_reducible exact absurd q0 hx) | (intro hx; exact absurd hx (by decide)) | (intro hx; exact absurd (by decide) hx) | decide | intro hx | (refine Exists.intro _ (And.intro rfl ?_)) | ((with_reducible change _ = true); simp only [h1, h2, h3, hb, h6, h7, Bool.true_and]; rfl))
                all_goals try first | (with_reducible change am_tI _ _) | (change Ret _ _) | (change Ret _ _ _) | (change Exists _)
                all_goals try dsimp only at *
                all_goals try exact absurd ‹(1000 : Int64) = 0› (by decide)
                all_goals exact hh
              · skip
                have ha := nx.at (by rw [zp]; decide)
                have hi := i_inc (x := p) (by omega) (by omega)
                have co := i_clamp pre.1.1
                by_cases z8 : (am_wI M0 t 3 p).1 t 4 < 8
                rotate_left
                · have hT2 := am_tI_blame (a := p) (k := 3) hT1
                  have bl := t_bl (M := am_wI M0 t 3 p) (t := t) (a := p) (k := 3) zw1 ⟨by omega, by omega⟩ ⟨by decide, by decide⟩
                  have o8 : t_o M0 t = 8 := by
                    have z := z8
                    rw [f4, i_lt] at z
                    simp only [Int32.reduceToInt] at z
                    unfold t_o
                    omega
                  have hh := h _ (am_ch_blame c1) hT2 (x_io.bad zw bl.1 (fun fa => by rw [bl.2, o8]; rw [zp] at nx; exact s_full nx))
                  have hh : Ret none (am_blame (am_wI M0 t 3 p) t ((am_wI M0 t 3 p).1 t 3) 3) := by rw [f3]; exact hh
                  repeat' (first | (with_reducible exact h1) | (with_reducible exact h2) | (with_reducible exact h3) | (with_reducible exact hb) | (with_reducible exact h6) | (with_reducible exact h7) | (refine Exists.intro _ (Exists.intro _ (And.intro h2 (And.intro h6 ?_)))) | (refine Exists.intro _ (And.intro h2 ?_)) | (refine Exists.intro _ (And.intro h6 ?_)) | apply And.intro | exact rfl | (intro hx; with_reducible exact absurd hx zl) | (intro hx; with_reducible exact absurd hx z8) | (intro hx; with_reducible exact absurd zw1 hx) | (intro hx; with_reducible exact absurd q0 hx) | (intro hx; with_reducible exact absurd zp hx) | (intro hx; exact absurd hx (by decide)) | (intro hx; exact absurd (by decide) hx) | decide | intro hx | (refine Exists.intro _ (And.intro rfl ?_)) | ((with_reducible change _ = true); simp only [h1, h2, h3, hb, h6, h7, Bool.true_and]; rfl))
                  all_goals try first | (with_reducible change am_tI _ _) | (change Ret _ _) | (change Ret _ _ _) | (change Exists _)
                  all_goals try dsimp only at *
                  all_goals try exact absurd ‹(1000 : Int64) = 0› (by decide)
                  all_goals exact hh
                · skip
                  have z := z8
                  rw [f4, i_lt] at z
                  simp only [Int32.reduceToInt] at z
                  have ho1 := i_inc (x := M0.1 t 4) (by omega) (by omega)
                  have he := i_inc (x := e) (by omega) (by omega)
                  have e2 : am_wI (am_wI (am_wI M0 t 3 p) t 3 ((am_wI M0 t 3 p).1 t 3 + 1)) t 4 ((am_wI (am_wI M0 t 3 p) t 3 ((am_wI M0 t 3 p).1 t 3 + 1)).1 t 4 + 1) = t_M2 M0 t p := by
                    unfold t_M2
                    rw [f3, am_wI_wI, show (am_wI M0 t 3 (p + 1)).1 t 4 = M0.1 t 4 by rw [am_wI_1, if_neg (fun z => absurd z.2 (by decide))]]
                  obtain ⟨m3, m4, mk, ms, mc⟩ := t_M2_f (M := M0) (p := p) h5 h10
                  have hT2 : am_tI (t_M2 M0 t p) t := am_tI_of (by rw [mk 2 (by decide) (by decide)]; omega) (by rw [mk 2 (by decide) (by decide)]; omega) (by rw [m3]; omega) (by rw [m3, mk 5 (by decide) (by decide)]; omega) (by rw [mk 5 (by decide) (by decide)]; omega)
                  have hP2 : x_pre t s (t_M2 M0 t p) (e + 1).toInt := ⟨(), ⟨(), fun j hj => by rw [ms]; rw [mk 5 (by decide) (by decide)] at hj; exact hP.s.v hj⟩, fun _ => by rw [m3, m4, mk 2 (by decide) (by decide)]; exact ⟨⟨by omega, by omega⟩, by omega, by omega⟩⟩
                  have hf1 : 0 ≤ (e + 1).toInt := by omega
                  have hf2 : (e + 1).toInt ≤ 41 := by omega
                  have hf3 : 41 ≤ (e + 1).toInt + (d : Int) := by omega
                  rw [← e2] at hT2 hP2
                  have n41 : ¬ (41 : Int32) = -1 := by decide
                  repeat' (first | (with_reducible exact hT2) | (with_reducible exact hP2) | (with_reducible exact hf1) | (with_reducible exact hf2) | (with_reducible exact hf3) | (with_reducible exact n41) | (with_reducible exact h1) | (with_reducible exact h2) | (with_reducible exact h3) | (with_reducible exact hb) | (with_reducible exact h6) | (with_reducible exact h7) | (refine Exists.intro _ (Exists.intro _ (And.intro h2 (And.intro h6 ?_)))) | (refine Exists.intro _ (And.intro h2 ?_)) | (refine Exists.intro _ (And.intro h6 ?_)) | apply And.intro | exact rfl | (intro hx; with_reducible exact absurd hx zl) | (intro hx; with_reducible exact absurd zw1 hx) | (intro hx; with_reducible exact absurd q0 hx) | (intro hx; with_reducible exact absurd zp hx) | (intro hx; with_reducible exact absurd z8 hx) | (intro hx; exact absurd hx (by decide)) | (intro hx; exact absurd (by decide) hx) | decide | intro hx | (refine Exists.intro _ (And.intro rfl ?_)) | ((with_reducible change _ = true); simp only [h1, h2, h3, hb, h6, h7, Bool.true_and]; rfl))
                  all_goals try first | (with_reducible change am_tI _ _) | (change Ret _ _) | (change Ret _ _ _) | (change Exists _)
                  all_goals try dsimp only at *
                  all_goals try exact absurd ‹(1000 : Int64) = 0› (by decide)
                  all_goals
                    rename_i M3 d1 d2
                    rw [e0, ec]
                    rw [e2] at d1 hx
                    exact ⟨_, am_lt_l (by decide), _, rfl, rfl, rfl, ⟨hp, hg.trans zp, zw, z⟩, d1, d2, hx⟩
      · cases hI
        obtain ⟨p, rfl, rfl, rfl, ⟨hp, hg, zw, z8⟩, d1, d2, x⟩ := hi
        rw [e0] at hp hg x
        rw [ec] at d1 x
        have pre := hP.w zw
        have w := x_par h5 h10 h9 hT hP.s hp hg zw ⟨pre.1.1, z8⟩ pre.2.2 d2 d1 x
        have c0 : am_ch (am_tS t c) M0 M := ((am_ch.rf.wI am_tS_3).wI am_tS_4).tr d1
        have n41 : ¬ (41 : Int32) = -1 := by decide
        by_cases w3 : M.1 t 6 = -1
        · have w2 := w.2 w3
          repeat' (first | (with_reducible exact d2) | (with_reducible exact n41) | (with_reducible exact h1) | (with_reducible exact h2) | (with_reducible exact h3) | (with_reducible exact hb) | (with_reducible exact h6) | (with_reducible exact h7) | (refine Exists.intro _ (Exists.intro _ (And.intro h2 (And.intro h6 ?_)))) | (refine Exists.intro _ (And.intro h2 ?_)) | (refine Exists.intro _ (And.intro h6 ?_)) | apply And.intro | exact rfl | (intro hx; with_reducible exact absurd w3 hx) | intro hx | (refine Exists.intro _ (And.intro rfl ?_)) | ((with_reducible change _ = true); simp only [h1, h2, h3, hb, h6, h7, Bool.true_and]; rfl))
          all_goals try first | (with_reducible change am_tI _ _) | (change Ret _ _) | (change Ret _ _ _) | (change Exists _)
          all_goals try dsimp only at *
          all_goals try exact absurd ‹(1000 : Int64) = 0› (by decide)
          all_goals
            rename_i p' hp'
            rw [e0, ec]
          · exact ⟨_, am_lt_l (by decide), rfl, rfl, rfl, c0.wI am_tS_3, ((w2 p' hp').1 hx).2, ((w2 p' hp').1 hx).1⟩
          · exact ⟨_, am_lt_l (by decide), rfl, rfl, rfl, am_ch_blame (c0.wI am_tS_3), am_tI_blame (am_tI_w3 d2 hp'), (w2 p' hp').2 hx _⟩
        · have w2 := w.1 w3
          repeat' (first | (with_reducible exact d2) | (with_reducible exact n41) | (with_reducible exact h1) | (with_reducible exact h2) | (with_reducible exact h3) | (with_reducible exact hb) | (with_reducible exact h6) | (with_reducible exact h7) | (refine Exists.intro _ (Exists.intro _ (And.intro h2 (And.intro h6 ?_)))) | (refine Exists.intro _ (And.intro h2 ?_)) | (refine Exists.intro _ (And.intro h6 ?_)) | apply And.intro | exact rfl | (intro hx; with_reducible exact absurd hx w3) | intro hx | (refine Exists.intro _ (And.intro rfl ?_)) | ((with_reducible change _ = true); simp only [h1, h2, h3, hb, h6, h7, Bool.true_and]; rfl))
          all_goals try first | (with_reducible change am_tI _ _) | (change Ret _ _) | (change Ret _ _ _) | (change Exists _)
          all_goals try dsimp only at *
          all_goals try exact absurd ‹(1000 : Int64) = 0› (by decide)
          all_goals
            rw [e0, ec]
            exact ⟨_, am_lt_l (by decide), rfl, rfl, rfl, c0, d2, w2 _⟩
      · cases hI
        obtain ⟨rfl, rfl, rfl, d1, d2, x⟩ := hi
        rw [e0, ec] at x
        rw [ec] at d1
        repeat' (first | (with_reducible exact h1) | (with_reducible exact h2) | (with_reducible exact h3) | (with_reducible exact hb) | (with_reducible exact h6) | (with_reducible exact h7) | (refine Exists.intro _ (Exists.intro _ (And.intro h2 (And.intro h6 ?_)))) | (refine Exists.intro _ (And.intro h2 ?_)) | (refine Exists.intro _ (And.intro h6 ?_)) | apply And.intro | exact rfl | intro hx | (refine Exists.intro _ (And.intro rfl ?_)) | ((with_reducible change _ = true); simp only [h1, h2, h3, hb, h6, h7, Bool.true_and]; rfl))
        all_goals try first | (with_reducible change am_tI _ _) | (change Ret _ _) | (change Ret _ _ _) | (change Exists _)
        all_goals try dsimp only at *
        all_goals try exact absurd ‹(1000 : Int64) = 0› (by decide)
        all_goals exact h _ (d1.wI am_tS_4) (am_tI_4 d2) x
      · cases hI
    · exact h.elim
def kX5_readChainE (d n rc lc : Nat) (Tc : am_T) (live : am_E) (Ret : am_R) : am_code := [(0, am_iload 1 1), (1, am_const (.int 5) 2), (2, am_if2 (fun x y => x < y) 29 5), (5, am_aload 0 6), (6, am_getI live 5 3 9), (9, am_istore 3 6 10), (10, am_aload 0 11), (11, am_callV live 5 0 TE5_passSigns 14), (14, am_istore 4 6 16), (16, am_aload 0 17), (17, am_iload 2 18), (18, am_callV live 5 1 (TE5_readPlain d) 21), (21, am_aload 0 22), (22, am_iload 3 23), (23, am_iload 4 25), (25, am_callV live 5 2 TE5_emitSigns 28), (28, am_retV Ret), (29, am_aload 0 30), (30, am_iload 1 31), (31, am_const (.int 1) 32), (32, am_i2 (fun x y => x + y) 33), (33, am_iload 2 34), (34, am_callV live 5 2 Tc 37), (37, am_iload 1 38), (38, am_const (.int 2) 39), (39, am_if2 (fun x y => x = y) 42 46), (42, am_const (.int 1) 43), (43, am_goto 48), (46, am_const (.int 50) 48), (48, am_istore 3 6 49), (49, am_const (.int 0) 50), (50, am_istore 4 6 52), (52, am_iload 4 54), (54, am_iload 3 55), (55, am_if2 (fun x y => y ≤ x) 119 58), (58, am_aload 0 59), (59, am_getI live 5 6 62), (62, am_const (.int (-1)) 63), (63, am_if2 (fun x y => x = y) 66 119), (66, am_aload 0 67), (67, am_callV live 5 0 TX5_next 70), (70, am_callS live 1 TX5_levelOf 73), (73, am_iload 1 74), (74, am_if2 (fun x y => x = y) 77 119), (77, am_aload 0 78), (78, am_getR live 5 0 81), (81, am_aload 0 82), (82, am_getI live 5 3 85), (85, am_ald live 0 86), (86, am_istore 5 6 88), (88, am_aload 0 89), (89, am_dup 90), (90, am_getI live 5 3 93), (93, am_const (.int 1) 94), (94, am_i2 (fun x y => x + y) 95), (95, am_putI live 5 3 98), (98, am_aload 0 99), (99, am_iload 1 100), (100, am_const (.int 1) 101), (101, am_i2 (fun x y => x + y) 102), (102, am_iload 2 103), (103, am_callV live 5 2 Tc 106), (106, am_aload 0 107), (107, am_iload 5 109), (109, am_i1 (fun x => -x) 110), (110, am_callV live 5 1 TX5_emit 113), (113, am_iinc 4 6 1 116), (116, am_goto 52), (119, am_retV Ret)]
theorem koX5_readChainE (d n rc lc : Nat) (Tc : am_T) (hP : am_Met yX5_readPlain cX5_readPlain 3 none (4 + 8 * d + 1) (200 + 200 * d + 25) (TE5_readPlain d)) (hC : am_Met yX5_readChain cX5_readChain 6 none rc lc Tc) (hrc : rc + 1 ≤ 4 + 8 * d + 2 + n ∧ lc + 25 ≤ 200 + 200 * d + 50 + 25 * n) (live : am_E) (Ret : am_R) : ∀ q ∈ kX5_readChainE d n rc lc Tc live Ret, am_ok RX5 cX5_readChain 6 none (4 + 8 * d + 2 + n) (200 + 200 * d + 50 + 25 * n) live Ret q.1 q.2 :=
  am_kc (ak_iload_n dX5_readChain_0 rfl rfl) <|
  am_kc (ak_iconst dX5_readChain_1 (by decide +kernel) rfl) <|
  am_kc (ak_icmp_lt dX5_readChain_2 (by decide +kernel) rfl) <|
  am_kc (ak_aload_n dX5_readChain_5 rfl rfl) <|
  am_kc (ak_getI (C := RX5) (T := TX5) (N := 7) rfl inX5w (by decide) rfl rfl rfl wd_171 dX5_readChain_6 rfl) <|
  am_kc (ak_istore_n dX5_readChain_9 rfl rfl) <|
  am_kc (ak_aload_n dX5_readChain_10 rfl rfl) <|
  am_kc (ak_callV (C := RX5) (F := TX5) (N := 7) metX5_passSignsE rfl ⟨rfl, by decide +kernel, by decide +kernel, by decide +kernel⟩ (am_w5 wd_684 wd_686 wd_16 wd_65 wd_687) (by omega) dX5_readChain_11 rfl) <|
  am_kc (ak_istore dX5_readChain_14 rfl) <|
  am_kc (ak_aload_n dX5_readChain_16 rfl rfl) <|
  am_kc (ak_iload_n dX5_readChain_17 rfl rfl) <|
  am_kc (ak_callV (C := RX5) (F := TX5) (N := 7) hP rfl ⟨rfl, by decide +kernel, by decide +kernel, by decide +kernel⟩ (am_w5 wd_692 wd_694 wd_18 wd_65 wd_695) (by omega) dX5_readChain_18 rfl) <|
  am_kc (ak_aload_n dX5_readChain_21 rfl rfl) <|
  am_kc (ak_iload_n dX5_readChain_22 rfl rfl) <|
  am_kc (ak_iload dX5_readChain_23 rfl) <|
  am_kc (ak_callV (C := RX5) (F := TX5) (N := 7) metX5_emitSignsE rfl ⟨rfl, by decide +kernel, by decide +kernel, by decide +kernel⟩ (am_w5 wd_711 wd_713 wd_22 wd_65 wd_714) (by omega) dX5_readChain_25 rfl) <|
  am_kc (ak_retV dX5_readChain_28) <|
  am_kc (ak_aload_n dX5_readChain_29 rfl rfl) <|
  am_kc (ak_iload_n dX5_readChain_30 rfl rfl) <|
  am_kc (ak_iconst dX5_readChain_31 (by decide +kernel) rfl) <|
  am_kc (ak_iadd dX5_readChain_32 rfl) <|
  am_kc (ak_iload_n dX5_readChain_33 rfl rfl) <|
  am_kc (ak_callV (C := RX5) (F := TX5) (N := 7) hC rfl ⟨rfl, by decide +kernel, by decide +kernel, by decide +kernel⟩ (am_w5 wd_680 wd_682 wd_15 wd_65 wd_683) (by omega) dX5_readChain_34 rfl) <|
  am_kc (ak_iload_n dX5_readChain_37 rfl rfl) <|
  am_kc (ak_iconst dX5_readChain_38 (by decide +kernel) rfl) <|
  am_kc (ak_icmp_ne dX5_readChain_39 (by decide +kernel) rfl) <|
  am_kc (ak_iconst dX5_readChain_42 (by decide +kernel) rfl) <|
  am_kc (ak_goto dX5_readChain_43 (by decide +kernel)) <|
  am_kc (ak_bipush dX5_readChain_46 (by decide +kernel) rfl) <|
  am_kc (ak_istore_n dX5_readChain_48 rfl rfl) <|
  am_kc (ak_iconst dX5_readChain_49 (by decide +kernel) rfl) <|
  am_kc (ak_istore dX5_readChain_50 rfl) <|
  am_kc (ak_iload dX5_readChain_52 rfl) <|
  am_kc (ak_iload_n dX5_readChain_54 rfl rfl) <|
  am_kc (ak_icmp_ge dX5_readChain_55 (by decide +kernel) rfl) <|
  am_kc (ak_aload_n dX5_readChain_58 rfl rfl) <|
  am_kc (ak_getI (C := RX5) (T := TX5) (N := 7) rfl inX5w (by decide) rfl rfl rfl wd_175 dX5_readChain_59 rfl) <|
  am_kc (ak_iconst dX5_readChain_62 (by decide +kernel) rfl) <|
  am_kc (ak_icmp_ne dX5_readChain_63 (by decide +kernel) rfl) <|
  am_kc (ak_aload_n dX5_readChain_66 rfl rfl) <|
  am_kc (ak_callV (C := RX5) (F := TX5) (N := 7) metX5_next rfl ⟨rfl, by decide +kernel, by decide +kernel, by decide +kernel⟩ (am_w5 wd_688 wd_690 wd_17 wd_65 wd_691) (by omega) dX5_readChain_67 rfl) <|
  am_kc (ak_callS metX5_levelOf ⟨rfl, by decide +kernel, by decide +kernel, by decide +kernel⟩ (am_w4 wd_715 wd_716 wd_65 wd_717) (by omega) dX5_readChain_70 rfl) <|
  am_kc (ak_iload_n dX5_readChain_73 rfl rfl) <|
  am_kc (ak_icmp_ne dX5_readChain_74 (by decide +kernel) rfl) <|
  am_kc (ak_aload_n dX5_readChain_77 rfl rfl) <|
  am_kc (ak_getR (C := RX5) (T := TX5) (N := 7) rfl inX5w (by decide) rfl rfl rfl wd_168 dX5_readChain_78 rfl) <|
  am_kc (ak_aload_n dX5_readChain_81 rfl rfl) <|
  am_kc (ak_getI (C := RX5) (T := TX5) (N := 7) rfl inX5w (by decide) rfl rfl rfl wd_171 dX5_readChain_82 rfl) <|
  am_kc (ak_iald (t := 0) (fun _ => rfl) rfl dX5_readChain_85 rfl) <|
  am_kc (ak_istore dX5_readChain_86 rfl) <|
  am_kc (ak_aload_n dX5_readChain_88 rfl rfl) <|
  am_kc (ak_dup dX5_readChain_89 rfl) <|
  am_kc (ak_getI (C := RX5) (T := TX5) (N := 7) rfl inX5w (by decide) rfl rfl rfl wd_171 dX5_readChain_90 rfl) <|
  am_kc (ak_iconst dX5_readChain_93 (by decide +kernel) rfl) <|
  am_kc (ak_iadd dX5_readChain_94 rfl) <|
  am_kc (ak_putI (C := RX5) (T := TX5) (N := 7) rfl inX5w tyX5_ok nmX5 (by decide) rfl rfl rfl rfl (by decide +kernel) wd_171 dX5_readChain_95 rfl) <|
  am_kc (ak_aload_n dX5_readChain_98 rfl rfl) <|
  am_kc (ak_iload_n dX5_readChain_99 rfl rfl) <|
  am_kc (ak_iconst dX5_readChain_100 (by decide +kernel) rfl) <|
  am_kc (ak_iadd dX5_readChain_101 rfl) <|
  am_kc (ak_iload_n dX5_readChain_102 rfl rfl) <|
  am_kc (ak_callV (C := RX5) (F := TX5) (N := 7) hC rfl ⟨rfl, by decide +kernel, by decide +kernel, by decide +kernel⟩ (am_w5 wd_680 wd_682 wd_15 wd_65 wd_683) (by omega) dX5_readChain_103 rfl) <|
  am_kc (ak_aload_n dX5_readChain_106 rfl rfl) <|
  am_kc (ak_iload dX5_readChain_107 rfl) <|
  am_kc (ak_ineg dX5_readChain_109 rfl) <|
  am_kc (ak_callV (C := RX5) (F := TX5) (N := 7) metX5_emit rfl ⟨rfl, by decide +kernel, by decide +kernel, by decide +kernel⟩ (am_w5 wd_703 wd_705 wd_20 wd_65 wd_706) (by omega) dX5_readChain_110 rfl) <|
  am_kc (ak_iinc dX5_readChain_113 (by decide +kernel) rfl) <|
  am_kc (ak_goto dX5_readChain_116 (by decide +kernel)) <|
  am_kc (ak_retV dX5_readChain_119) <| am_kn
/-- the state of a chain at its turn -/
def x_tu (t s c : Nat) (l i : Int32) (M0 M : am_M) : Prop := ∃ _ : Unit, am_ch (am_tS t c) M0 M ∧ am_tI M t ∧ (0 ≤ i.toInt ∧ i.toInt ≤ 50 ∧ 0 ≤ l.toInt ∧ l.toInt < 5) ∧ ((i = 0 ∨ ¬ l = 2) → x_cl (l + 2) t s c M0 M) ∧ (¬ (i = 0 ∨ ¬ l = 2) → x_ch (l + 2) t s c M0 M) ∧ (M0.1 t 6 = -1 → M.1 t 6 = -1 → i.toInt + (M0.1 t 3).toInt ≤ (M.1 t 3).toInt)
def x_mo (l : Int32) : Int32 := if l = 2 then 1 else 50
def JE5_readChain : am_E → List Value → am_M → am_R → am_inv := fun live as M0 _ pc => match as with
  | [.ref t, .int l, .int e] => (match pc with
    | 14 => some ([0, 1, 2, 3], fun k L st M => ∃ q : Int32, L = [(0, .ref t), (1, .int l), (2, .int e), (3, .int (M0.1 t 3))] ∧ st = [.int q] ∧ k = (60, 2) ∧ M = am_wI M0 t 3 q ∧ ((M0.1 t 3).toInt ≤ q.toInt ∧ q.toInt ≤ (M0.1 t 5).toInt ∧ 5 ≤ l.toInt) ∧ x_un (M0.1 ((live.2 t 0).getD 0)) (t_n M0 t) (t_p M0 t) q.toNatClampNeg ∧ (∀ q' g, w_nx (M0.1 ((live.2 t 0).getD 0)) (t_n M0 t) q.toNatClampNeg q' g → g ≠ 33 ∧ g ≠ 45))
    | 21 => some ([0, 3, 4], fun k L st M => ∃ q : Int32, L = [(0, .ref t), (3, .int (M0.1 t 3)), (4, .int q)] ∧ st = [] ∧ k = (60, 1) ∧ ((M0.1 t 3).toInt ≤ q.toInt ∧ q.toInt ≤ (M0.1 t 5).toInt ∧ 5 ≤ l.toInt) ∧ x_un (M0.1 ((live.2 t 0).getD 0)) (t_n M0 t) (t_p M0 t) q.toNatClampNeg ∧ am_ch (am_tS t ((live.2 t 1).getD 0)) (am_wI M0 t 3 q) M ∧ am_tI M t ∧ x_pl t ((live.2 t 0).getD 0) ((live.2 t 1).getD 0) (am_wI M0 t 3 q) M)
    | 37 => some ([0, 1, 2], fun k L st M => L = [(0, .ref t), (1, .int l), (2, .int e)] ∧ st = [] ∧ k = (60, 0) ∧ (0 ≤ l.toInt ∧ l.toInt < 5) ∧ am_ch (am_tS t ((live.2 t 1).getD 0)) M0 M ∧ am_tI M t ∧ x_ch (l + 1 + 2) t ((live.2 t 0).getD 0) ((live.2 t 1).getD 0) M0 M)
    | 52 => some ([0, 1, 2, 3, 4], fun k L st M => ∃ i : Int32, L = [(0, .ref t), (1, .int l), (2, .int e), (3, .int (x_mo l)), (4, .int i)] ∧ st = [] ∧ k = ((51 - i.toInt).toNat, 3) ∧ x_tu t ((live.2 t 0).getD 0) ((live.2 t 1).getD 0) l i M0 M)
    | 70 => some ([0, 1, 2, 3, 4], fun k L st M => ∃ (i q : Int32) (Mb : am_M), L = [(0, .ref t), (1, .int l), (2, .int e), (3, .int (x_mo l)), (4, .int i)] ∧ st = [.int (am_sign Mb t ((live.2 t 0).getD 0) q)] ∧ k = ((51 - i.toInt).toNat, 2) ∧ x_tu t ((live.2 t 0).getD 0) ((live.2 t 1).getD 0) l i M0 Mb ∧ (¬ x_mo l ≤ i ∧ Mb.1 t 6 = -1) ∧ am_skip Mb t ((live.2 t 0).getD 0) q ∧ M = am_wI Mb t 3 q)
    | 106 => some ([0, 1, 2, 3, 4, 5], fun k L st M => ∃ (i q : Int32) (Mb : am_M), L = [(0, .ref t), (1, .int l), (2, .int e), (3, .int (x_mo l)), (4, .int i), (5, .int (am_sign Mb t ((live.2 t 0).getD 0) q))] ∧ st = [] ∧ k = ((51 - i.toInt).toNat, 1) ∧ x_tu t ((live.2 t 0).getD 0) ((live.2 t 1).getD 0) l i M0 Mb ∧ (¬ x_mo l ≤ i ∧ Mb.1 t 6 = -1) ∧ (am_skip Mb t ((live.2 t 0).getD 0) q ∧ am_level (am_sign Mb t ((live.2 t 0).getD 0) q) = l) ∧ am_ch (am_tS t ((live.2 t 1).getD 0)) (am_wI Mb t 3 (q + 1)) M ∧ am_tI M t ∧ x_ch (l + 1 + 2) t ((live.2 t 0).getD 0) ((live.2 t 1).getD 0) (am_wI Mb t 3 (q + 1)) M)
    | _ => none)
  | _ => none
theorem w_lev {c l : Int32} (hl : 0 ≤ l.toInt ∧ l.toInt < 5) : (am_level c = l → r_clo c = l + 2 ∧ am_ops c = 2 ∧ 0 < c.toInt) ∧ (¬ am_level c = l → r_clo c ≠ l + 2) := by
  have h5 : l = 0 ∨ l = 1 ∨ l = 2 ∨ l = 3 ∨ l = 4 := by
    simp only [i_eq, Int32.reduceToInt]
    omega
  constructor
  · intro h
    unfold am_level at h
    split at h
    · next z => subst z; subst h; exact ⟨by decide, by decide, by decide⟩
    · split at h
      · next z => subst z; subst h; exact ⟨by decide, by decide, by decide⟩
      · split at h
        · next z => subst h; rcases z with rfl | rfl | rfl <;> exact ⟨by decide, by decide, by decide⟩
        · split at h
          · next z => subst h; rcases z with rfl | rfl <;> exact ⟨by decide, by decide, by decide⟩
          · split at h
            · next z => subst h; rcases z with rfl | rfl <;> exact ⟨by decide, by decide, by decide⟩
            · subst h; exact absurd hl.2 (by decide)
  · intro h e
    apply h
    unfold r_clo at e
    unfold am_level
    split at e
    · next z =>
      have e4 : l = 4 := by rcases h5 with rfl | rfl | rfl | rfl | rfl <;> first | rfl | exact absurd e (by decide)
      rcases z with rfl | rfl <;> (rw [e4]; decide)
    · split at e
      · next z =>
        have e4 : l = 3 := by rcases h5 with rfl | rfl | rfl | rfl | rfl <;> first | rfl | exact absurd e (by decide)
        rcases z with rfl | rfl <;> (rw [e4]; decide)
      · split at e
        · next z =>
          have e4 : l = 2 := by rcases h5 with rfl | rfl | rfl | rfl | rfl <;> first | rfl | exact absurd e (by decide)
          rcases z with rfl | rfl | rfl <;> (rw [e4]; decide)
        · split at e
          · next z =>
            have e4 : l = 1 := by rcases h5 with rfl | rfl | rfl | rfl | rfl <;> first | rfl | exact absurd e (by decide)
            rw [z, e4]; decide
          · split at e
            · next z =>
              have e4 : l = 0 := by rcases h5 with rfl | rfl | rfl | rfl | rfl <;> first | rfl | exact absurd e (by decide)
              rw [z, e4]; decide
            · rcases h5 with rfl | rfl | rfl | rfl | rfl <;> exact absurd e (by decide)
section CHN
variable {M M1 M2 M3 M4 : am_M} {t s c : Nat} {q l : Int32}
theorem w3_f (M : am_M) (t s c : Nat) (q : Int32) (h9 : t ≠ s) (h10 : t ≠ c) : (am_wI M t 3 q).1 t 3 = q ∧ (∀ k, k ≠ 3 → (am_wI M t 3 q).1 t k = M.1 t k) ∧ (am_wI M t 3 q).1 s = M.1 s ∧ (am_wI M t 3 q).1 c = M.1 c := by
  refine ⟨?_, fun k hk => ?_, funext fun j => ?_, funext fun j => ?_⟩
  · rw [am_wI_1, if_pos ⟨rfl, rfl⟩]
  · rw [am_wI_1, if_neg (fun z => hk z.2)]
  · rw [am_wI_1, if_neg (fun z => h9 z.1.symm)]
  · rw [am_wI_1, if_neg (fun z => h10 z.1.symm)]
theorem x_unitm (h9 : t ≠ s) (h10 : t ≠ c) (h5 : s ≠ c) (xu : x_un (M.1 s) (t_n M t) (t_p M t) q.toNatClampNeg) (c2 : am_ch (am_tS t c) (am_wI M t 3 q) M2) (x : x_pl t s c (am_wI M t 3 q) M2) (hcap : M.1 t 6 = -1 → (M.1 t 2).toInt ≤ (M.1 t 3).toInt) (hT : am_tI M t) (hT2 : am_tI M2 t) :
    (t_c M2 t + (w_un (M2.1 s) (M.1 t 3).toNatClampNeg (q.toNatClampNeg - (M.1 t 3).toNatClampNeg)).length ≤ 50 ∨ ¬ M2.1 t 6 = -1) ∧ ∀ M3 : am_M, (M3.1 t 3 = M2.1 t 3 ∧ M3.1 t 4 = M2.1 t 4 ∧ M3.1 t 6 = M2.1 t 6) → (M2.1 t 6 = -1 → x_em (M2.1 s) (M2.1 c) (M3.1 c) (t_c M2 t) (t_c M3 t) (M.1 t 3).toNatClampNeg q.toNatClampNeg) → x_ch 7 t s c M M3 := by
  obtain ⟨f3, fk, fs, fc⟩ := w3_f M t s c q h9 h10
  have s2 : M2.1 s = M.1 s := (funext fun j => am_ch_s c2 h5 h9 j).trans fs
  have en : t_n (am_wI M t 3 q) t = t_n M t := by unfold t_n; rw [fk 5 (by decide)]
  have ep : t_p (am_wI M t 3 q) t = q.toNatClampNeg := by unfold t_p; rw [f3]
  have eo : t_o (am_wI M t 3 q) t = t_o M t := by unfold t_o; rw [fk 4 (by decide)]
  have ec : t_c (am_wI M t 3 q) t = t_c M t := by unfold t_c; rw [fk 2 (by decide)]
  have a := hT.p
  have a2 := hT2.p
  have key : M.1 t 6 = -1 → M2.1 t 6 = -1 → M2.1 t 4 = M.1 t 4 ∧ y_io q.toNatClampNeg (t_c M t) (t_p M2 t) (t_c M2 t) (M.1 c) (M2.1 c) (fun fa p' v => s_pl fa (M.1 s) (t_n M t) q.toNatClampNeg p' (t_o M t) v) := fun w w2 => by
    obtain ⟨y4, y⟩ := x.y (by rw [fk 6 (by decide)]; exact w) w2
    rw [fk 4 (by decide)] at y4
    rw [ec, ep, fs, fc, en, eo] at y
    exact ⟨y4, y⟩
  have k6 : ¬ M.1 t 6 = -1 → M2.1 t 6 = M.1 t 6 := fun w => by
    have z := x.n (by rw [fk 6 (by decide)]; exact w)
    rwa [fk 6 (by decide)] at z
  have n2 : M2.1 t 5 = M.1 t 5 := (am_ch_t5 c2 h10).trans (fk 5 (by decide))
  refine ⟨?_, fun M3 e hem => ?_⟩
  · by_cases w2 : M2.1 t 6 = -1
    · left
      have w : M.1 t 6 = -1 := by
        by_cases z : M.1 t 6 = -1
        · exact z
        · rw [← k6 z]; exact w2
      obtain ⟨-, b1, b2, b3, -⟩ := key w w2
      have l := w_un_len (σ := M2.1 s) (b := (M.1 t 3).toNatClampNeg) (q.toNatClampNeg - (M.1 t 3).toNatClampNeg)
      have hp := xu.1
      have hc := hcap w
      have ek : t_p M t = (M.1 t 3).toNatClampNeg := rfl
      rw [n2] at a2
      omega
    · exact Or.inr w2
  · by_cases w : M.1 t 6 = -1
    · by_cases w2 : M2.1 t 6 = -1
      · obtain ⟨y4, y⟩ := key w w2
        have em := hem w2
        rw [s2] at em
        refine x_io.ok w (by rw [e.2.2]; exact w2) (by rw [e.2.1]; exact y4) ?_
        rw [show t_p M3 t = t_p M2 t by unfold t_p; rw [e.1]]
        exact y.unit xu em
      · refine x_io.bad w (by rw [e.2.2]; exact w2) (fun fa => ?_)
        rw [e.2.2]
        have z := x.f (by rw [fk 6 (by decide)]; exact w) w2 fa
        rw [fs, en, ep, eo] at z
        exact s_unitb (fun W V => xu.2.2 fa W V) z
    · exact x_io.no w (by rw [e.2.2]; exact k6 w)
theorem i_l2 (hl : 0 ≤ l.toInt ∧ l.toInt ≤ 5) : (l + 2).toInt = l.toInt + 2 ∧ (l + 1 + 2).toInt = l.toInt + 3 := by
  have a := i_add (x := l) (y := 2) (by simp only [Int32.reduceToInt]; omega) (by simp only [Int32.reduceToInt]; omega)
  have b := i_add (x := l) (y := 1) (by simp only [Int32.reduceToInt]; omega) (by simp only [Int32.reduceToInt]; omega)
  simp only [Int32.reduceToInt] at a b
  have d := i_add (x := l + 1) (y := 2) (by simp only [Int32.reduceToInt]; omega) (by simp only [Int32.reduceToInt]; omega)
  simp only [Int32.reduceToInt] at d
  exact ⟨a, by omega⟩
theorem x_first (hl : 0 ≤ l.toInt ∧ l.toInt < 5) (x : x_ch (l + 1 + 2) t s c M M1) : x_cl (l + 2) t s c M M1 := by
  have e := i_l2 (l := l) ⟨hl.1, by omega⟩
  by_cases w : M.1 t 6 = -1
  · by_cases w1 : M1.1 t 6 = -1
    · obtain ⟨y4, y⟩ := x.y w w1
      obtain ⟨b1, b2, b3, b4, b5⟩ := y
      exact x_io.ok w w1 y4 ⟨b1, b2, b3, b4, fun fa => by
        obtain ⟨v, u, z⟩ := b5 fa
        exact ⟨v, u, s_cl.of z (by omega)⟩⟩
    · exact x_io.bad w w1 (fun fa => (x.f w w1 fa).up (by omega))
  · exact x_io.no w (x.n w)
/-- the chain ends here: what follows isn't of it -/
theorem x_cl.end (h9 : t ≠ s) (h10 : t ≠ c) (h5 : s ≠ c) (hT : am_tI M t) (hT1 : am_tI M1 t) (hs : x_sg t s M) (c1 : am_ch (am_tS t c) M M1) (x : x_cl (l + 2) t s c M M1) (hp : am_skip M1 t s q) (w1 : M1.1 t 6 = -1) (hk : r_clo (am_sign M1 t s q) ≠ l + 2) : x_ch (l + 2) t s c M (am_wI M1 t 3 q) := by
  obtain ⟨f3, fk, fs, fc⟩ := w3_f M1 t s c q h9 h10
  have s1 : M1.1 s = M.1 s := funext fun j => am_ch_s c1 h5 h9 j
  have n1 : M1.1 t 5 = M.1 t 5 := am_ch_t5 c1 h10
  obtain ⟨nx, cq⟩ := x_nx hT1 (s := s) ⟨(), fun j hj => by rw [s1]; rw [n1] at hj; exact hs.v hj⟩ hp
  rw [s1, show t_n M1 t = t_n M t by unfold t_n; rw [n1]] at nx
  by_cases w : M.1 t 6 = -1
  · obtain ⟨y4, b1, b2, b3, b4, b5⟩ := x.y w w1
    refine x_io.ok w (by rw [fk 6 (by decide)]; exact w1) (by rw [fk 4 (by decide)]; exact y4) ?_
    rw [show t_p (am_wI M1 t 3 q) t = q.toNatClampNeg by unfold t_p; rw [f3], show t_c (am_wI M1 t 3 q) t = t_c M1 t by unfold t_c; rw [fk 2 (by decide)], fc]
    have hq := nx.1
    exact ⟨by omega, b2, by omega, b4, fun fa => by
      obtain ⟨v, u, z⟩ := b5 fa
      exact ⟨v, u, z.e nx hk⟩⟩
  · exact absurd (x.n w) (fun z => w (z ▸ w1))
/-- the text ends -/
theorem x_cl.fin (h9 : t ≠ s) (h10 : t ≠ c) (hT : am_tI M t) (hT1 : am_tI M1 t) (c1 : am_ch (am_tS t c) M M1) (x : x_cl (l + 2) t s c M M1) (hl : 0 ≤ l.toInt ∧ l.toInt < 5) (hn : M.1 t 6 = -1 → M1.1 t 6 = -1 → (M1.1 t 5).toInt ≤ (M1.1 t 3).toInt) : x_ch (l + 2) t s c M M1 := by
  have e := i_l2 (l := l) ⟨hl.1, by omega⟩
  by_cases w : M.1 t 6 = -1
  · by_cases w1 : M1.1 t 6 = -1
    · obtain ⟨y4, b1, b2, b3, b4, b5⟩ := x.y w w1
      have hn := hn w w1
      have a1 := hT1.p
      have n1 : M1.1 t 5 = M.1 t 5 := am_ch_t5 c1 h10
      have tn : t_n M1 t = t_n M t := by unfold t_n; rw [n1]
      have nx : w_nx (M.1 s) (t_n M t) (t_p M1 t) (t_p M1 t) (-1) := ⟨Nat.le_refl _, by omega, fun j z1 z2 => by omega, fun z => by omega, fun _ => rfl⟩
      refine x_io.ok w w1 y4 ⟨b1, b2, b3, b4, fun fa => ?_⟩
      obtain ⟨v, u, z⟩ := b5 fa
      exact ⟨v, u, z.e nx (fun y => by
        have y2 : (r_clo (-1)).toInt = (l + 2).toInt := by rw [y]
        rw [show r_clo (-1) = 0 by decide] at y2
        simp only [Int32.reduceToInt] at y2
        omega)⟩
    · exact x_io.bad w w1 (fun fa => x.f w w1 fa)
  · exact x_io.no w (x.n w)
/-- one more -/
theorem x_cl.step (h9 : t ≠ s) (h10 : t ≠ c) (h5 : s ≠ c) (hT : am_tI M t) (hT1 : am_tI M1 t) (hT3 : am_tI M3 t) (hs : x_sg t s M) (hcap : M.1 t 6 = -1 → (M.1 t 2).toInt ≤ (M.1 t 3).toInt) (hl : 0 ≤ l.toInt ∧ l.toInt < 5) (c1 : am_ch (am_tS t c) M M1) (x : x_cl (l + 2) t s c M M1) (hp : am_skip M1 t s q) (w1 : M1.1 t 6 = -1) (hk : am_level (am_sign M1 t s q) = l) (c3 : am_ch (am_tS t c) (am_wI M1 t 3 (q + 1)) M3) (x3 : x_ch (l + 1 + 2) t s c (am_wI M1 t 3 (q + 1)) M3) :
    (¬ l = 2 → x_cl (l + 2) t s c M (am_emit M3 t c (-(am_sign M1 t s q)))) ∧ (l = 2 → x_ch (l + 2) t s c M (am_emit M3 t c (-(am_sign M1 t s q)))) ∧ (M3.1 t 6 = -1 → (M1.1 t 3).toInt + 1 ≤ (M3.1 t 3).toInt) := by
  obtain ⟨e2, e3⟩ := i_l2 (l := l) ⟨hl.1, by omega⟩
  obtain ⟨f3, fk, fs, fc⟩ := w3_f M1 t s c (q + 1) h9 h10
  have s1 : M1.1 s = M.1 s := funext fun j => am_ch_s c1 h5 h9 j
  have n1 : M1.1 t 5 = M.1 t 5 := am_ch_t5 c1 h10
  obtain ⟨nx, cq⟩ := x_nx hT1 (s := s) ⟨(), fun j hj => by rw [s1]; rw [n1] at hj; exact hs.v hj⟩ hp
  rw [s1, show t_n M1 t = t_n M t by unfold t_n; rw [n1]] at nx
  obtain ⟨k1, k2, k3⟩ := (w_lev hl).1 hk
  generalize am_sign M1 t s q = g at *
  have ha := nx.at (fun z => by rw [z] at k3; exact absurd k3 (by decide))
  have a := hT.p
  have a1 := hT1.p
  have a3 := hT3.p
  have p1 := hp.1
  have p2 := hp.2.1
  have hi := i_inc (x := q) (by omega) (by omega)
  have cq1 := i_clamp (x := q + 1) (by omega)
  have n3 : M3.1 t 5 = M.1 t 5 := (am_ch_t5 c3 h10).trans ((fk 5 (by decide)).trans n1)
  have en : t_n (am_wI M1 t 3 (q + 1)) t = t_n M t := by unfold t_n; rw [fk 5 (by decide), n1]
  have ep : t_p (am_wI M1 t 3 (q + 1)) t = q.toNatClampNeg + 1 := by unfold t_p; rw [f3]; omega
  have eo : t_o (am_wI M1 t 3 (q + 1)) t = t_o M1 t := by unfold t_o; rw [fk 4 (by decide)]
  have ec : t_c (am_wI M1 t 3 (q + 1)) t = t_c M1 t := by unfold t_c; rw [fk 2 (by decide)]
  have w : M.1 t 6 = -1 := by
    by_cases z : M.1 t 6 = -1
    · exact z
    · exact absurd (x.n z) (fun y => z (y ▸ w1))
  have wq : (am_wI M1 t 3 (q + 1)).1 t 6 = -1 := by rw [fk 6 (by decide)]; exact w1
  obtain ⟨y4, y⟩ := x.y w w1
  have eo2 : t_o M1 t = t_o M t := by unfold t_o; rw [y4]
  have g6 : ∀ v, (am_emit M3 t c v).1 t 6 = M3.1 t 6 := fun v => am_emit_f h10 (by decide)
  have g4 : ∀ v, (am_emit M3 t c v).1 t 4 = M3.1 t 4 := fun v => am_emit_f h10 (by decide)
  have g3 : ∀ v, (am_emit M3 t c v).1 t 3 = M3.1 t 3 := fun v => am_emit_f h10 (by decide)
  have hc := hcap w
  by_cases w3 : M3.1 t 6 = -1
  · obtain ⟨z4, z⟩ := x3.y wq w3
    rw [ec, ep, fs, fc, s1, en, eo, eo2] at z
    rw [fk 4 (by decide)] at z4
    obtain ⟨u1, u2, u3, u4⟩ := y
    obtain ⟨v1, v2, v3, v4⟩ := z
    have cap : t_c M3 t < 50 := by rw [n3] at a3; omega
    obtain ⟨r1, r2, r3⟩ := am_emit_y (v := -g) h10 hT3 cap
    have hq := nx.1
    have res : ∀ (G3 : (Int32 → Int64) → Nat → Int64 → Prop), (∀ fa v1 v2, s_cl fa (M.1 s) (t_n M t) (t_p M t) (t_p M1 t) (t_o M t) (l + 2) v1 → s_ch fa (M.1 s) (t_n M t) (q.toNatClampNeg + 1) (t_p M3 t) (t_o M t) (l + 1 + 2) v2 → G3 fa (t_p M3 t) (am_join g v1 v2)) → M3.1 t 4 = M.1 t 4 ∧ y_io (t_p M t) (t_c M t) (t_p (am_emit M3 t c (-g)) t) (t_c (am_emit M3 t c (-g)) t) (M.1 c) ((am_emit M3 t c (-g)).1 c) G3 := fun G3 hG => by
      rw [show t_p (am_emit M3 t c (-g)) t = t_p M3 t by unfold t_p; rw [g3], r1]
      exact ⟨z4.trans y4, y_io.op (G := fun fa p' v => s_cl fa (M.1 s) (t_n M t) (t_p M t) p' (t_o M t) (l + 2) v) (G1 := fun fa p' v => s_ch fa (M.1 s) (t_n M t) (q.toNatClampNeg + 1) p' (t_o M t) (l + 1 + 2) v) (G3 := G3) ⟨u1, u2, u3, u4⟩ hq ⟨v1, v2, v3, v4⟩ r3 r2 ⟨k2, k3⟩ hG⟩
    refine ⟨fun hl2 => ?_, fun hl2 => ?_, fun _ => by omega⟩
    · have q := res (fun fa p' v => s_cl fa (M.1 s) (t_n M t) (t_p M t) p' (t_o M t) (l + 2) v) (fun fa v1 v2 b1 b2 => b1.s nx k1 (by omega) (by omega) b2 (fun y => hl2 (by rw [i_eq] at y ⊢; simp only [Int32.reduceToInt] at y ⊢; omega)))
      exact x_io.ok w (by rw [g6]; exact w3) (by rw [g4]; exact q.1) q.2
    · subst hl2
      have e22 : (2 : Int32) + 2 = 4 := by decide
      have e23 : (2 : Int32) + 1 + 2 = 5 := by decide
      have q := res (fun fa p' v => s_ch fa (M.1 s) (t_n M t) (t_p M t) p' (t_o M t) (2 + 2) v) (fun fa v1 v2 b1 b2 => by
        rw [e22] at b1 k1 ⊢
        rw [e23] at b2
        exact s_cl.h b1 nx k1 b2)
      exact x_io.ok w (by rw [g6]; exact w3) (by rw [g4]; exact q.1) q.2
  · have bad : ∀ fa, s_bd fa (M.1 s) (t_n M t) (t_p M t) (t_o M t) (l + 2).toInt ((am_emit M3 t c (-g)).1 t 6).toInt := fun fa => by
      rw [g6]
      have z := x3.f wq w3 fa
      rw [fs, s1, en, ep, eo, eo2] at z
      obtain ⟨u1, u2, u3, u4, u5⟩ := y
      obtain ⟨v, -, h⟩ := u5 fa
      exact h.b nx k1 (by omega) (show (l + 2).toInt < (l + 1 + 2).toInt by omega) z
    exact ⟨fun _ => x_io.bad w (by rw [g6]; exact w3) bad, fun _ => x_io.bad w (by rw [g6]; exact w3) bad, fun z => absurd z w3⟩
end CHN
