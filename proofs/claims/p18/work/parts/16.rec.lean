/-! Text: reading by recursion: what is safe of it -/
def TX5_readValue (d : Nat) : am_T := fun live as M R => match as with
  | [.ref t, .int e] => am_tP live t (fun s c => am_tI M t ∧ 0 ≤ e.toInt ∧ e.toInt ≤ 41 ∧ 41 ≤ e.toInt + (d : Int) ∧ ∀ M', am_ch (am_tS t c) M M' → am_tI M' t → R none M')
  | _ => False
def TX5_readPlain (d : Nat) : am_T := fun live as M R => match as with
  | [.ref t, .int e] => am_tP live t (fun s c => am_tI M t ∧ 0 ≤ e.toInt ∧ e.toInt ≤ 40 ∧ 40 ≤ e.toInt + (d : Int) ∧ ∀ M', am_ch (am_tS t c) M M' → am_tI M' t → R none M')
  | _ => False
def TX5_readChain (d n : Nat) : am_T := fun live as M R => match as with
  | [.ref t, .int l, .int e] => am_tP live t (fun s c => am_tI M t ∧ (0 ≤ l.toInt ∧ l.toInt ≤ 5 ∧ 5 ≤ l.toInt + (n : Int)) ∧ 0 ≤ e.toInt ∧ e.toInt ≤ 40 ∧ 40 ≤ e.toInt + (d : Int) ∧ ∀ M', am_ch (am_tS t c) M M' → am_tI M' t → R none M')
  | _ => False
theorem am_tI_4 {M : am_M} {t : Nat} {v : Int32} (h : am_tI M t) : am_tI (am_wI M t 4 v) t := by
  obtain ⟨-, q1, q2, q3⟩ := h
  refine am_tI_of ?_ ?_ ?_ ?_ ?_
  all_goals simp [am_wI_1]
  all_goals omega
theorem am_sign_lt {M : am_M} {t s : Nat} {p : Int32} (h : ¬ am_sign M t s p = -1) : p.toInt < (M.1 t 5).toInt := by
  rcases Int.lt_or_le p.toInt (M.1 t 5).toInt with z | z
  · exact z
  · exact absurd (by rw [am_sign, if_neg (by omega)]) h
theorem am_tI_3p {M : am_M} {t s : Nat} {p : Int32} (h : am_tI M t) (hp : am_skip M t s p) (hl : p.toInt < (M.1 t 5).toInt) : am_tI (am_wI (am_wI M t 3 p) t 3 (p + 1)) t := by
  have h1 := am_tI_w3 h hp
  have h2 := am_tI_inc h1 (by simp [am_wI_1]; exact hl)
  simp [am_wI_1] at h2
  exact h2.1
theorem am_wI_self {M : am_M} {n k : Nat} {v : Int32} : (am_wI M n k v).1 n k = v := by simp [am_wI_1]
theorem am_ne1 {x : Int32} (h : am_ops x = 0) : ¬ x = -1 := fun e => by rw [e] at h; exact absurd h (by decide)
theorem am_ne2 {x : Int32} (h : x = 40) : ¬ x = -1 := fun e => by rw [h] at e; exact absurd e (by decide)
theorem am_tI_cd {M : am_M} {t : Nat} (h : am_tI M t) : 0 ≤ (M.1 t 2).toInt := by obtain ⟨-, q1, q2, q3⟩ := h; exact q1.1
theorem am_tI_pl {M : am_M} {t : Nat} (h : am_tI M t) : 0 ≤ (M.1 t 3).toInt ∧ (M.1 t 3).toInt ≤ (M.1 t 5).toInt ∧ (M.1 t 5).toInt ≤ 50 := by obtain ⟨-, q1, q2, q3⟩ := h; exact ⟨q2.1, q2.2, q3⟩
set_option maxRecDepth 100000 in
theorem wd_699 : Cond.methodLink "LearnLoans$Text" 80 yX5_readDigits ∈ am_ws := am_wsi (List.mem_of_getElem? (i := 699) (by rfl)) (by decide +kernel)
set_option maxRecDepth 100000 in
theorem wd_701 : Cond.instanceMethod yX5_readDigits ∈ am_ws := am_wsi (List.mem_of_getElem? (i := 701) (by rfl)) (by decide +kernel)
set_option maxRecDepth 100000 in
theorem wd_19 : Cond.selects "LearnLoans$Text" yX5_readDigits yX5_readDigits ∈ am_ws := am_wsi (List.mem_of_getElem? (i := 19) (by rfl)) (by decide +kernel)
set_option maxRecDepth 100000 in
theorem wd_702 : Cond.code yX5_readDigits cX5_readDigits 3 none ∈ am_ws := am_wsi (List.mem_of_getElem? (i := 702) (by rfl)) (by decide +kernel)
set_option maxRecDepth 100000 in
theorem wd_596 : Cond.methodLink "LearnLoans$Text" 83 yX5_operands ∈ am_ws := am_wsi (List.mem_of_getElem? (i := 596) (by rfl)) (by decide +kernel)
set_option maxRecDepth 100000 in
theorem wd_597 : Cond.static yX5_operands ∈ am_ws := am_wsi (List.mem_of_getElem? (i := 597) (by rfl)) (by decide +kernel)
set_option maxRecDepth 100000 in
theorem wd_598 : Cond.code yX5_operands cX5_operands 1 (some .int) ∈ am_ws := am_wsi (List.mem_of_getElem? (i := 598) (by rfl)) (by decide +kernel)
set_option maxRecDepth 100000 in
theorem wd_172 : Cond.fieldLink "LearnLoans$Text" 31 "LearnLoans$Text" "open" "I" ∈ am_ws := am_wsi (List.mem_of_getElem? (i := 172) (by rfl)) (by decide +kernel)
set_option maxRecDepth 100000 in
theorem wd_672 : Cond.methodLink "LearnLoans$Text" 34 yX5_readValue ∈ am_ws := am_wsi (List.mem_of_getElem? (i := 672) (by rfl)) (by decide +kernel)
set_option maxRecDepth 100000 in
theorem wd_674 : Cond.instanceMethod yX5_readValue ∈ am_ws := am_wsi (List.mem_of_getElem? (i := 674) (by rfl)) (by decide +kernel)
set_option maxRecDepth 100000 in
theorem wd_13 : Cond.selects "LearnLoans$Text" yX5_readValue yX5_readValue ∈ am_ws := am_wsi (List.mem_of_getElem? (i := 13) (by rfl)) (by decide +kernel)
set_option maxRecDepth 100000 in
theorem wd_675 : Cond.code yX5_readValue cX5_readValue 2 none ∈ am_ws := am_wsi (List.mem_of_getElem? (i := 675) (by rfl)) (by decide +kernel)
set_option maxRecDepth 100000 in
theorem wd_707 : Cond.methodLink "LearnLoans$Text" 57 yX5_pass ∈ am_ws := am_wsi (List.mem_of_getElem? (i := 707) (by rfl)) (by decide +kernel)
set_option maxRecDepth 100000 in
theorem wd_709 : Cond.instanceMethod yX5_pass ∈ am_ws := am_wsi (List.mem_of_getElem? (i := 709) (by rfl)) (by decide +kernel)
set_option maxRecDepth 100000 in
theorem wd_21 : Cond.selects "LearnLoans$Text" yX5_pass yX5_pass ∈ am_ws := am_wsi (List.mem_of_getElem? (i := 21) (by rfl)) (by decide +kernel)
set_option maxRecDepth 100000 in
theorem wd_710 : Cond.code yX5_pass cX5_pass 2 none ∈ am_ws := am_wsi (List.mem_of_getElem? (i := 710) (by rfl)) (by decide +kernel)
theorem dX5_readPlain_0 : decode cX5_readPlain 0 = .ok (.aload_n 0, 1) := by decide +kernel
theorem dX5_readPlain_1 : decode cX5_readPlain 1 = .ok (.invokevirtual 38, 3) := by decide +kernel
theorem dX5_readPlain_4 : decode cX5_readPlain 4 = .ok (.istore_n 2, 1) := by decide +kernel
theorem dX5_readPlain_5 : decode cX5_readPlain 5 = .ok (.aload_n 0, 1) := by decide +kernel
theorem dX5_readPlain_6 : decode cX5_readPlain 6 = .ok (.getfield 18, 3) := by decide +kernel
theorem dX5_readPlain_9 : decode cX5_readPlain 9 = .ok (.iconst (-1), 1) := by decide +kernel
theorem dX5_readPlain_10 : decode cX5_readPlain 10 = .ok (.if_icmp .eq 4, 3) := by decide +kernel
theorem dX5_readPlain_13 : decode cX5_readPlain 13 = .ok (.return_, 1) := by decide +kernel
theorem dX5_readPlain_14 : decode cX5_readPlain 14 = .ok (.iload_n 2, 1) := by decide +kernel
theorem dX5_readPlain_15 : decode cX5_readPlain 15 = .ok (.invokestatic 76, 3) := by decide +kernel
theorem dX5_readPlain_18 : decode cX5_readPlain 18 = .ok (.ifCond .eq 10, 3) := by decide +kernel
theorem dX5_readPlain_21 : decode cX5_readPlain 21 = .ok (.aload_n 0, 1) := by decide +kernel
theorem dX5_readPlain_22 : decode cX5_readPlain 22 = .ok (.invokevirtual 80, 3) := by decide +kernel
theorem dX5_readPlain_25 : decode cX5_readPlain 25 = .ok (.goto 111, 3) := by decide +kernel
theorem dX5_readPlain_28 : decode cX5_readPlain 28 = .ok (.iload_n 2, 1) := by decide +kernel
theorem dX5_readPlain_29 : decode cX5_readPlain 29 = .ok (.invokestatic 83, 3) := by decide +kernel
theorem dX5_readPlain_32 : decode cX5_readPlain 32 = .ok (.ifCond .ne 22, 3) := by decide +kernel
theorem dX5_readPlain_35 : decode cX5_readPlain 35 = .ok (.aload_n 0, 1) := by decide +kernel
theorem dX5_readPlain_36 : decode cX5_readPlain 36 = .ok (.dup, 1) := by decide +kernel
theorem dX5_readPlain_37 : decode cX5_readPlain 37 = .ok (.getfield 28, 3) := by decide +kernel
theorem dX5_readPlain_40 : decode cX5_readPlain 40 = .ok (.iconst 1, 1) := by decide +kernel
theorem dX5_readPlain_41 : decode cX5_readPlain 41 = .ok (.iadd, 1) := by decide +kernel
theorem dX5_readPlain_42 : decode cX5_readPlain 42 = .ok (.putfield 28, 3) := by decide +kernel
theorem dX5_readPlain_45 : decode cX5_readPlain 45 = .ok (.aload_n 0, 1) := by decide +kernel
theorem dX5_readPlain_46 : decode cX5_readPlain 46 = .ok (.iload_n 2, 1) := by decide +kernel
theorem dX5_readPlain_47 : decode cX5_readPlain 47 = .ok (.ineg, 1) := by decide +kernel
theorem dX5_readPlain_48 : decode cX5_readPlain 48 = .ok (.invokevirtual 60, 3) := by decide +kernel
theorem dX5_readPlain_51 : decode cX5_readPlain 51 = .ok (.goto 85, 3) := by decide +kernel
theorem dX5_readPlain_54 : decode cX5_readPlain 54 = .ok (.iload_n 2, 1) := by decide +kernel
theorem dX5_readPlain_55 : decode cX5_readPlain 55 = .ok (.bipush 40, 2) := by decide +kernel
theorem dX5_readPlain_57 : decode cX5_readPlain 57 = .ok (.if_icmp .eq 15, 3) := by decide +kernel
theorem dX5_readPlain_60 : decode cX5_readPlain 60 = .ok (.aload_n 0, 1) := by decide +kernel
theorem dX5_readPlain_61 : decode cX5_readPlain 61 = .ok (.aload_n 0, 1) := by decide +kernel
theorem dX5_readPlain_62 : decode cX5_readPlain 62 = .ok (.getfield 28, 3) := by decide +kernel
theorem dX5_readPlain_65 : decode cX5_readPlain 65 = .ok (.iconst 1, 1) := by decide +kernel
theorem dX5_readPlain_66 : decode cX5_readPlain 66 = .ok (.invokevirtual 42, 3) := by decide +kernel
theorem dX5_readPlain_69 : decode cX5_readPlain 69 = .ok (.goto 67, 3) := by decide +kernel
theorem dX5_readPlain_72 : decode cX5_readPlain 72 = .ok (.aload_n 0, 1) := by decide +kernel
theorem dX5_readPlain_73 : decode cX5_readPlain 73 = .ok (.getfield 31, 3) := by decide +kernel
theorem dX5_readPlain_76 : decode cX5_readPlain 76 = .ok (.bipush 8, 2) := by decide +kernel
theorem dX5_readPlain_78 : decode cX5_readPlain 78 = .ok (.if_icmp .lt 15, 3) := by decide +kernel
theorem dX5_readPlain_81 : decode cX5_readPlain 81 = .ok (.aload_n 0, 1) := by decide +kernel
theorem dX5_readPlain_82 : decode cX5_readPlain 82 = .ok (.aload_n 0, 1) := by decide +kernel
theorem dX5_readPlain_83 : decode cX5_readPlain 83 = .ok (.getfield 28, 3) := by decide +kernel
theorem dX5_readPlain_86 : decode cX5_readPlain 86 = .ok (.iconst 3, 1) := by decide +kernel
theorem dX5_readPlain_87 : decode cX5_readPlain 87 = .ok (.invokevirtual 42, 3) := by decide +kernel
theorem dX5_readPlain_90 : decode cX5_readPlain 90 = .ok (.goto 46, 3) := by decide +kernel
theorem dX5_readPlain_93 : decode cX5_readPlain 93 = .ok (.aload_n 0, 1) := by decide +kernel
theorem dX5_readPlain_94 : decode cX5_readPlain 94 = .ok (.dup, 1) := by decide +kernel
theorem dX5_readPlain_95 : decode cX5_readPlain 95 = .ok (.getfield 28, 3) := by decide +kernel
theorem dX5_readPlain_98 : decode cX5_readPlain 98 = .ok (.iconst 1, 1) := by decide +kernel
theorem dX5_readPlain_99 : decode cX5_readPlain 99 = .ok (.iadd, 1) := by decide +kernel
theorem dX5_readPlain_100 : decode cX5_readPlain 100 = .ok (.putfield 28, 3) := by decide +kernel
theorem dX5_readPlain_103 : decode cX5_readPlain 103 = .ok (.aload_n 0, 1) := by decide +kernel
theorem dX5_readPlain_104 : decode cX5_readPlain 104 = .ok (.dup, 1) := by decide +kernel
theorem dX5_readPlain_105 : decode cX5_readPlain 105 = .ok (.getfield 31, 3) := by decide +kernel
theorem dX5_readPlain_108 : decode cX5_readPlain 108 = .ok (.iconst 1, 1) := by decide +kernel
theorem dX5_readPlain_109 : decode cX5_readPlain 109 = .ok (.iadd, 1) := by decide +kernel
theorem dX5_readPlain_110 : decode cX5_readPlain 110 = .ok (.putfield 31, 3) := by decide +kernel
theorem dX5_readPlain_113 : decode cX5_readPlain 113 = .ok (.aload_n 0, 1) := by decide +kernel
theorem dX5_readPlain_114 : decode cX5_readPlain 114 = .ok (.iload_n 1, 1) := by decide +kernel
theorem dX5_readPlain_115 : decode cX5_readPlain 115 = .ok (.iconst 1, 1) := by decide +kernel
theorem dX5_readPlain_116 : decode cX5_readPlain 116 = .ok (.iadd, 1) := by decide +kernel
theorem dX5_readPlain_117 : decode cX5_readPlain 117 = .ok (.invokevirtual 34, 3) := by decide +kernel
theorem dX5_readPlain_120 : decode cX5_readPlain 120 = .ok (.aload_n 0, 1) := by decide +kernel
theorem dX5_readPlain_121 : decode cX5_readPlain 121 = .ok (.bipush 41, 2) := by decide +kernel
theorem dX5_readPlain_123 : decode cX5_readPlain 123 = .ok (.invokevirtual 57, 3) := by decide +kernel
theorem dX5_readPlain_126 : decode cX5_readPlain 126 = .ok (.aload_n 0, 1) := by decide +kernel
theorem dX5_readPlain_127 : decode cX5_readPlain 127 = .ok (.dup, 1) := by decide +kernel
theorem dX5_readPlain_128 : decode cX5_readPlain 128 = .ok (.getfield 31, 3) := by decide +kernel
theorem dX5_readPlain_131 : decode cX5_readPlain 131 = .ok (.iconst 1, 1) := by decide +kernel
theorem dX5_readPlain_132 : decode cX5_readPlain 132 = .ok (.isub, 1) := by decide +kernel
theorem dX5_readPlain_133 : decode cX5_readPlain 133 = .ok (.putfield 31, 3) := by decide +kernel
theorem dX5_readPlain_136 : decode cX5_readPlain 136 = .ok (.return_, 1) := by decide +kernel
def kX5_readPlain (d : Nat) (live : am_E) (Ret : am_R) : am_code := [(0, am_aload 0 1), (1, am_callV live 5 0 TX5_next 4), (4, am_istore 2 3 5), (5, am_aload 0 6), (6, am_getI live 5 6 9), (9, am_const (.int (-1)) 10), (10, am_if2 (fun x y => x = y) 14 13), (13, am_retV Ret), (14, am_iload 2 15), (15, am_callS live 1 TX5_isDigit 18), (18, am_if1 (fun x => x = 0) 28 21), (21, am_aload 0 22), (22, am_callV live 5 0 TX5_readDigits 25), (25, am_goto 136), (28, am_iload 2 29), (29, am_callS live 1 TX5_operands 32), (32, am_if1 (fun x => x = 0) 35 54), (35, am_aload 0 36), (36, am_dup 37), (37, am_getI live 5 3 40), (40, am_const (.int 1) 41), (41, am_i2 (fun x y => x + y) 42), (42, am_putI live 5 3 45), (45, am_aload 0 46), (46, am_iload 2 47), (47, am_i1 (fun x => -x) 48), (48, am_callV live 5 1 TX5_emit 51), (51, am_goto 136), (54, am_iload 2 55), (55, am_const (.int 40) 57), (57, am_if2 (fun x y => x = y) 72 60), (60, am_aload 0 61), (61, am_aload 0 62), (62, am_getI live 5 3 65), (65, am_const (.int 1) 66), (66, am_callV live 5 2 TX5_blame 69), (69, am_goto 136), (72, am_aload 0 73), (73, am_getI live 5 4 76), (76, am_const (.int 8) 78), (78, am_if2 (fun x y => x < y) 93 81), (81, am_aload 0 82), (82, am_aload 0 83), (83, am_getI live 5 3 86), (86, am_const (.int 3) 87), (87, am_callV live 5 2 TX5_blame 90), (90, am_goto 136), (93, am_aload 0 94), (94, am_dup 95), (95, am_getI live 5 3 98), (98, am_const (.int 1) 99), (99, am_i2 (fun x y => x + y) 100), (100, am_putI live 5 3 103), (103, am_aload 0 104), (104, am_dup 105), (105, am_getI live 5 4 108), (108, am_const (.int 1) 109), (109, am_i2 (fun x y => x + y) 110), (110, am_putI live 5 4 113), (113, am_aload 0 114), (114, am_iload 1 115), (115, am_const (.int 1) 116), (116, am_i2 (fun x y => x + y) 117), (117, am_callV live 5 1 (TX5_readValue d) 120), (120, am_aload 0 121), (121, am_const (.int 41) 123), (123, am_callV live 5 1 TX5_pass 126), (126, am_aload 0 127), (127, am_dup 128), (128, am_getI live 5 4 131), (131, am_const (.int 1) 132), (132, am_i2 (fun x y => x - y) 133), (133, am_putI live 5 4 136), (136, am_retV Ret)]
theorem koX5_readPlain (d : Nat) (hV : am_Met yX5_readValue cX5_readValue 2 none (4 + 8 * d) (200 + 200 * d) (TX5_readValue d)) (live : am_E) (Ret : am_R) : ∀ q ∈ kX5_readPlain d live Ret, am_ok RX5 cX5_readPlain 3 none (4 + 8 * d + 1) (200 + 200 * d + 25) live Ret q.1 q.2 :=
  am_kc (ak_aload_n dX5_readPlain_0 rfl rfl) <|
  am_kc (ak_callV (C := RX5) (F := TX5) (N := 7) metX5_next rfl ⟨rfl, by decide +kernel, by decide +kernel, by decide +kernel⟩ (am_w5 wd_688 wd_690 wd_17 wd_65 wd_691) (by omega) dX5_readPlain_1 rfl) <|
  am_kc (ak_istore_n dX5_readPlain_4 rfl rfl) <|
  am_kc (ak_aload_n dX5_readPlain_5 rfl rfl) <|
  am_kc (ak_getI (C := RX5) (T := TX5) (N := 7) rfl inX5w (by decide) rfl rfl rfl wd_175 dX5_readPlain_6 rfl) <|
  am_kc (ak_iconst dX5_readPlain_9 (by decide +kernel) rfl) <|
  am_kc (ak_icmp_eq dX5_readPlain_10 (by decide +kernel) rfl) <|
  am_kc (ak_retV dX5_readPlain_13) <|
  am_kc (ak_iload_n dX5_readPlain_14 rfl rfl) <|
  am_kc (ak_callS metX5_isDigit ⟨rfl, by decide +kernel, by decide +kernel, by decide +kernel⟩ (am_w4 wd_696 wd_697 wd_65 wd_698) (by omega) dX5_readPlain_15 rfl) <|
  am_kc (ak_if_eq dX5_readPlain_18 (by decide +kernel) rfl) <|
  am_kc (ak_aload_n dX5_readPlain_21 rfl rfl) <|
  am_kc (ak_callV (C := RX5) (F := TX5) (N := 7) metX5_readDigits rfl ⟨rfl, by decide +kernel, by decide +kernel, by decide +kernel⟩ (am_w5 wd_699 wd_701 wd_19 wd_65 wd_702) (by omega) dX5_readPlain_22 rfl) <|
  am_kc (ak_goto dX5_readPlain_25 (by decide +kernel)) <|
  am_kc (ak_iload_n dX5_readPlain_28 rfl rfl) <|
  am_kc (ak_callS metX5_operands ⟨rfl, by decide +kernel, by decide +kernel, by decide +kernel⟩ (am_w4 wd_596 wd_597 wd_65 wd_598) (by omega) dX5_readPlain_29 rfl) <|
  am_kc (ak_if_ne dX5_readPlain_32 (by decide +kernel) rfl) <|
  am_kc (ak_aload_n dX5_readPlain_35 rfl rfl) <|
  am_kc (ak_dup dX5_readPlain_36 rfl) <|
  am_kc (ak_getI (C := RX5) (T := TX5) (N := 7) rfl inX5w (by decide) rfl rfl rfl wd_171 dX5_readPlain_37 rfl) <|
  am_kc (ak_iconst dX5_readPlain_40 (by decide +kernel) rfl) <|
  am_kc (ak_iadd dX5_readPlain_41 rfl) <|
  am_kc (ak_putI (C := RX5) (T := TX5) (N := 7) rfl inX5w tyX5_ok nmX5 (by decide) rfl rfl rfl rfl (by decide +kernel) wd_171 dX5_readPlain_42 rfl) <|
  am_kc (ak_aload_n dX5_readPlain_45 rfl rfl) <|
  am_kc (ak_iload_n dX5_readPlain_46 rfl rfl) <|
  am_kc (ak_ineg dX5_readPlain_47 rfl) <|
  am_kc (ak_callV (C := RX5) (F := TX5) (N := 7) metX5_emit rfl ⟨rfl, by decide +kernel, by decide +kernel, by decide +kernel⟩ (am_w5 wd_703 wd_705 wd_20 wd_65 wd_706) (by omega) dX5_readPlain_48 rfl) <|
  am_kc (ak_goto dX5_readPlain_51 (by decide +kernel)) <|
  am_kc (ak_iload_n dX5_readPlain_54 rfl rfl) <|
  am_kc (ak_bipush dX5_readPlain_55 (by decide +kernel) rfl) <|
  am_kc (ak_icmp_eq dX5_readPlain_57 (by decide +kernel) rfl) <|
  am_kc (ak_aload_n dX5_readPlain_60 rfl rfl) <|
  am_kc (ak_aload_n dX5_readPlain_61 rfl rfl) <|
  am_kc (ak_getI (C := RX5) (T := TX5) (N := 7) rfl inX5w (by decide) rfl rfl rfl wd_171 dX5_readPlain_62 rfl) <|
  am_kc (ak_iconst dX5_readPlain_65 (by decide +kernel) rfl) <|
  am_kc (ak_callV (C := RX5) (F := TX5) (N := 7) metX5_blame rfl ⟨rfl, by decide +kernel, by decide +kernel, by decide +kernel⟩ (am_w5 wd_676 wd_678 wd_14 wd_65 wd_679) (by omega) dX5_readPlain_66 rfl) <|
  am_kc (ak_goto dX5_readPlain_69 (by decide +kernel)) <|
  am_kc (ak_aload_n dX5_readPlain_72 rfl rfl) <|
  am_kc (ak_getI (C := RX5) (T := TX5) (N := 7) rfl inX5w (by decide) rfl rfl rfl wd_172 dX5_readPlain_73 rfl) <|
  am_kc (ak_bipush dX5_readPlain_76 (by decide +kernel) rfl) <|
  am_kc (ak_icmp_lt dX5_readPlain_78 (by decide +kernel) rfl) <|
  am_kc (ak_aload_n dX5_readPlain_81 rfl rfl) <|
  am_kc (ak_aload_n dX5_readPlain_82 rfl rfl) <|
  am_kc (ak_getI (C := RX5) (T := TX5) (N := 7) rfl inX5w (by decide) rfl rfl rfl wd_171 dX5_readPlain_83 rfl) <|
  am_kc (ak_iconst dX5_readPlain_86 (by decide +kernel) rfl) <|
  am_kc (ak_callV (C := RX5) (F := TX5) (N := 7) metX5_blame rfl ⟨rfl, by decide +kernel, by decide +kernel, by decide +kernel⟩ (am_w5 wd_676 wd_678 wd_14 wd_65 wd_679) (by omega) dX5_readPlain_87 rfl) <|
  am_kc (ak_goto dX5_readPlain_90 (by decide +kernel)) <|
  am_kc (ak_aload_n dX5_readPlain_93 rfl rfl) <|
  am_kc (ak_dup dX5_readPlain_94 rfl) <|
  am_kc (ak_getI (C := RX5) (T := TX5) (N := 7) rfl inX5w (by decide) rfl rfl rfl wd_171 dX5_readPlain_95 rfl) <|
  am_kc (ak_iconst dX5_readPlain_98 (by decide +kernel) rfl) <|
  am_kc (ak_iadd dX5_readPlain_99 rfl) <|
  am_kc (ak_putI (C := RX5) (T := TX5) (N := 7) rfl inX5w tyX5_ok nmX5 (by decide) rfl rfl rfl rfl (by decide +kernel) wd_171 dX5_readPlain_100 rfl) <|
  am_kc (ak_aload_n dX5_readPlain_103 rfl rfl) <|
  am_kc (ak_dup dX5_readPlain_104 rfl) <|
  am_kc (ak_getI (C := RX5) (T := TX5) (N := 7) rfl inX5w (by decide) rfl rfl rfl wd_172 dX5_readPlain_105 rfl) <|
  am_kc (ak_iconst dX5_readPlain_108 (by decide +kernel) rfl) <|
  am_kc (ak_iadd dX5_readPlain_109 rfl) <|
  am_kc (ak_putI (C := RX5) (T := TX5) (N := 7) rfl inX5w tyX5_ok nmX5 (by decide) rfl rfl rfl rfl (by decide +kernel) wd_172 dX5_readPlain_110 rfl) <|
  am_kc (ak_aload_n dX5_readPlain_113 rfl rfl) <|
  am_kc (ak_iload_n dX5_readPlain_114 rfl rfl) <|
  am_kc (ak_iconst dX5_readPlain_115 (by decide +kernel) rfl) <|
  am_kc (ak_iadd dX5_readPlain_116 rfl) <|
  am_kc (ak_callV (C := RX5) (F := TX5) (N := 7) hV rfl ⟨rfl, by decide +kernel, by decide +kernel, by decide +kernel⟩ (am_w5 wd_672 wd_674 wd_13 wd_65 wd_675) (by omega) dX5_readPlain_117 rfl) <|
  am_kc (ak_aload_n dX5_readPlain_120 rfl rfl) <|
  am_kc (ak_bipush dX5_readPlain_121 (by decide +kernel) rfl) <|
  am_kc (ak_callV (C := RX5) (F := TX5) (N := 7) metX5_pass rfl ⟨rfl, by decide +kernel, by decide +kernel, by decide +kernel⟩ (am_w5 wd_707 wd_709 wd_21 wd_65 wd_710) (by omega) dX5_readPlain_123 rfl) <|
  am_kc (ak_aload_n dX5_readPlain_126 rfl rfl) <|
  am_kc (ak_dup dX5_readPlain_127 rfl) <|
  am_kc (ak_getI (C := RX5) (T := TX5) (N := 7) rfl inX5w (by decide) rfl rfl rfl wd_172 dX5_readPlain_128 rfl) <|
  am_kc (ak_iconst dX5_readPlain_131 (by decide +kernel) rfl) <|
  am_kc (ak_isub dX5_readPlain_132 rfl) <|
  am_kc (ak_putI (C := RX5) (T := TX5) (N := 7) rfl inX5w tyX5_ok nmX5 (by decide) rfl rfl rfl rfl (by decide +kernel) wd_172 dX5_readPlain_133 rfl) <|
  am_kc (ak_retV dX5_readPlain_136) <| am_kn
set_option maxRecDepth 100000 in
set_option maxHeartbeats 4000000 in
theorem metX5_readPlain (d : Nat) (hV : am_Met yX5_readValue cX5_readValue 2 none (4 + 8 * d) (200 + 200 * d) (TX5_readValue d)) : am_Met yX5_readPlain cX5_readPlain 3 none ((4 + 8 * d + 1)) ((200 + 200 * d + 25)) (TX5_readPlain d) := by
  refine am_met (own := RX5) (by decide +kernel) rfl (kX5_readPlain d ) (koX5_readPlain d  hV ) 120 (fun _ _ _ _ _ => none) (fun live as M Ret h => ?_) (fun _ _ _ _ _ _ _ _ hI => by cases hI)
  unfold TX5_readPlain at h
  split at h
  · next t e =>
    refine ⟨Nat.le_of_ble_eq_true rfl, ?_⟩
    change am_wp _ _ _ _ [(0, Value.ref t), (1, Value.int e)] _ _
    have hh := am_tP_mp h
    clear h
    obtain ⟨s, c, h2, h6, hb, h1, h3, h7, h4, h8, h9, h5, h10, hT, he1, he2, he3, h⟩ := hh
    repeat' (first | (with_reducible exact hT) | (with_reducible exact h1) | (with_reducible exact h2) | (with_reducible exact h3) | (with_reducible exact hb) | (with_reducible exact h6) | (with_reducible exact h7) | (refine Exists.intro _ (Exists.intro _ (And.intro h2 (And.intro h6 ?_)))) | (refine Exists.intro _ (And.intro h2 ?_)) | (refine Exists.intro _ (And.intro h6 ?_)) | apply And.intro | exact rfl | intro hx | (refine Exists.intro _ (And.intro rfl ?_)) | ((with_reducible change _ = true); simp only [h1, h2, h3, hb, h6, h7, Bool.true_and]; rfl))
    all_goals try first | (with_reducible change am_tI _ _) | (change Ret _ _) | (change Ret _ _ _) | (change Exists _)
    all_goals try dsimp only at *
    all_goals try exact absurd ‹(1000 : Int64) = 0› (by decide)
    all_goals try simp only [am_wI_self]
    · simp [am_wI_1]; exact am_tI_cd hT
    · exact h _ (am_ch_emit ((am_ch.rf.wI am_tS_3).wI am_tS_3)) (am_tI_emit (am_tI_3p hT ‹am_skip M t s _› (am_sign_lt (am_ne1 hx))) h10)
    · exact am_tI_4 (am_tI_3p hT ‹am_skip M t s _› (am_sign_lt (am_ne2 ‹am_sign M t s _ = 40›)))
    · rw [i_add] <;> simp only [Int32.reduceToInt] <;> omega
    · rw [i_add] <;> simp only [Int32.reduceToInt] <;> omega
    · rw [i_add] <;> simp only [Int32.reduceToInt] <;> omega
    · exact hx
    · exact absurd hx (by decide)
    · rename_i M1 c1 i1 M2 c2
      exact h _ ((((((am_ch.rf.wI am_tS_3).wI am_tS_3).wI am_tS_4).tr c1).tr c2).wI am_tS_4) (am_tI_4 hx)
    · exact h _ (am_ch_blame (am_ch.rf.wI am_tS_3)) (am_tI_blame (am_tI_w3 hT ‹am_skip M t s _›))
    · exact h _ (am_ch_blame (am_ch.rf.wI am_tS_3)) (am_tI_blame (am_tI_w3 hT ‹am_skip M t s _›))
    · exact am_tI_w3 hT ‹am_skip M t s _›
    · rename_i M1 c1
      exact h _ ((am_ch.rf.wI am_tS_3).tr c1) hx
    · exact h _ (am_ch.rf.wI am_tS_3) (am_tI_w3 hT ‹am_skip M t s _›)
  · exact h.elim
set_option maxRecDepth 100000 in
theorem wd_684 : Cond.methodLink "LearnLoans$Text" 63 yX5_passSigns ∈ am_ws := am_wsi (List.mem_of_getElem? (i := 684) (by rfl)) (by decide +kernel)
set_option maxRecDepth 100000 in
theorem wd_686 : Cond.instanceMethod yX5_passSigns ∈ am_ws := am_wsi (List.mem_of_getElem? (i := 686) (by rfl)) (by decide +kernel)
set_option maxRecDepth 100000 in
theorem wd_16 : Cond.selects "LearnLoans$Text" yX5_passSigns yX5_passSigns ∈ am_ws := am_wsi (List.mem_of_getElem? (i := 16) (by rfl)) (by decide +kernel)
set_option maxRecDepth 100000 in
theorem wd_687 : Cond.code yX5_passSigns cX5_passSigns 2 (some .int) ∈ am_ws := am_wsi (List.mem_of_getElem? (i := 687) (by rfl)) (by decide +kernel)
set_option maxRecDepth 100000 in
theorem wd_692 : Cond.methodLink "LearnLoans$Text" 66 yX5_readPlain ∈ am_ws := am_wsi (List.mem_of_getElem? (i := 692) (by rfl)) (by decide +kernel)
set_option maxRecDepth 100000 in
theorem wd_694 : Cond.instanceMethod yX5_readPlain ∈ am_ws := am_wsi (List.mem_of_getElem? (i := 694) (by rfl)) (by decide +kernel)
set_option maxRecDepth 100000 in
theorem wd_18 : Cond.selects "LearnLoans$Text" yX5_readPlain yX5_readPlain ∈ am_ws := am_wsi (List.mem_of_getElem? (i := 18) (by rfl)) (by decide +kernel)
set_option maxRecDepth 100000 in
theorem wd_695 : Cond.code yX5_readPlain cX5_readPlain 3 none ∈ am_ws := am_wsi (List.mem_of_getElem? (i := 695) (by rfl)) (by decide +kernel)
set_option maxRecDepth 100000 in
theorem wd_711 : Cond.methodLink "LearnLoans$Text" 69 yX5_emitSigns ∈ am_ws := am_wsi (List.mem_of_getElem? (i := 711) (by rfl)) (by decide +kernel)
set_option maxRecDepth 100000 in
theorem wd_713 : Cond.instanceMethod yX5_emitSigns ∈ am_ws := am_wsi (List.mem_of_getElem? (i := 713) (by rfl)) (by decide +kernel)
set_option maxRecDepth 100000 in
theorem wd_22 : Cond.selects "LearnLoans$Text" yX5_emitSigns yX5_emitSigns ∈ am_ws := am_wsi (List.mem_of_getElem? (i := 22) (by rfl)) (by decide +kernel)
set_option maxRecDepth 100000 in
theorem wd_714 : Cond.code yX5_emitSigns cX5_emitSigns 4 none ∈ am_ws := am_wsi (List.mem_of_getElem? (i := 714) (by rfl)) (by decide +kernel)
set_option maxRecDepth 100000 in
theorem wd_680 : Cond.methodLink "LearnLoans$Text" 54 yX5_readChain ∈ am_ws := am_wsi (List.mem_of_getElem? (i := 680) (by rfl)) (by decide +kernel)
set_option maxRecDepth 100000 in
theorem wd_682 : Cond.instanceMethod yX5_readChain ∈ am_ws := am_wsi (List.mem_of_getElem? (i := 682) (by rfl)) (by decide +kernel)
set_option maxRecDepth 100000 in
theorem wd_15 : Cond.selects "LearnLoans$Text" yX5_readChain yX5_readChain ∈ am_ws := am_wsi (List.mem_of_getElem? (i := 15) (by rfl)) (by decide +kernel)
set_option maxRecDepth 100000 in
theorem wd_683 : Cond.code yX5_readChain cX5_readChain 6 none ∈ am_ws := am_wsi (List.mem_of_getElem? (i := 683) (by rfl)) (by decide +kernel)
set_option maxRecDepth 100000 in
theorem wd_715 : Cond.methodLink "LearnLoans$Text" 72 yX5_levelOf ∈ am_ws := am_wsi (List.mem_of_getElem? (i := 715) (by rfl)) (by decide +kernel)
set_option maxRecDepth 100000 in
theorem wd_716 : Cond.static yX5_levelOf ∈ am_ws := am_wsi (List.mem_of_getElem? (i := 716) (by rfl)) (by decide +kernel)
set_option maxRecDepth 100000 in
theorem wd_717 : Cond.code yX5_levelOf cX5_levelOf 1 (some .int) ∈ am_ws := am_wsi (List.mem_of_getElem? (i := 717) (by rfl)) (by decide +kernel)
theorem dX5_readChain_0 : decode cX5_readChain 0 = .ok (.iload_n 1, 1) := by decide +kernel
theorem dX5_readChain_1 : decode cX5_readChain 1 = .ok (.iconst 5, 1) := by decide +kernel
theorem dX5_readChain_2 : decode cX5_readChain 2 = .ok (.if_icmp .lt 27, 3) := by decide +kernel
theorem dX5_readChain_5 : decode cX5_readChain 5 = .ok (.aload_n 0, 1) := by decide +kernel
theorem dX5_readChain_6 : decode cX5_readChain 6 = .ok (.getfield 28, 3) := by decide +kernel
theorem dX5_readChain_9 : decode cX5_readChain 9 = .ok (.istore_n 3, 1) := by decide +kernel
theorem dX5_readChain_10 : decode cX5_readChain 10 = .ok (.aload_n 0, 1) := by decide +kernel
theorem dX5_readChain_11 : decode cX5_readChain 11 = .ok (.invokevirtual 63, 3) := by decide +kernel
theorem dX5_readChain_14 : decode cX5_readChain 14 = .ok (.istore 4, 2) := by decide +kernel
theorem dX5_readChain_16 : decode cX5_readChain 16 = .ok (.aload_n 0, 1) := by decide +kernel
theorem dX5_readChain_17 : decode cX5_readChain 17 = .ok (.iload_n 2, 1) := by decide +kernel
theorem dX5_readChain_18 : decode cX5_readChain 18 = .ok (.invokevirtual 66, 3) := by decide +kernel
theorem dX5_readChain_21 : decode cX5_readChain 21 = .ok (.aload_n 0, 1) := by decide +kernel
theorem dX5_readChain_22 : decode cX5_readChain 22 = .ok (.iload_n 3, 1) := by decide +kernel
theorem dX5_readChain_23 : decode cX5_readChain 23 = .ok (.iload 4, 2) := by decide +kernel
theorem dX5_readChain_25 : decode cX5_readChain 25 = .ok (.invokevirtual 69, 3) := by decide +kernel
theorem dX5_readChain_28 : decode cX5_readChain 28 = .ok (.return_, 1) := by decide +kernel
theorem dX5_readChain_29 : decode cX5_readChain 29 = .ok (.aload_n 0, 1) := by decide +kernel
theorem dX5_readChain_30 : decode cX5_readChain 30 = .ok (.iload_n 1, 1) := by decide +kernel
theorem dX5_readChain_31 : decode cX5_readChain 31 = .ok (.iconst 1, 1) := by decide +kernel
theorem dX5_readChain_32 : decode cX5_readChain 32 = .ok (.iadd, 1) := by decide +kernel
theorem dX5_readChain_33 : decode cX5_readChain 33 = .ok (.iload_n 2, 1) := by decide +kernel
theorem dX5_readChain_34 : decode cX5_readChain 34 = .ok (.invokevirtual 54, 3) := by decide +kernel
theorem dX5_readChain_37 : decode cX5_readChain 37 = .ok (.iload_n 1, 1) := by decide +kernel
theorem dX5_readChain_38 : decode cX5_readChain 38 = .ok (.iconst 2, 1) := by decide +kernel
theorem dX5_readChain_39 : decode cX5_readChain 39 = .ok (.if_icmp .ne 7, 3) := by decide +kernel
theorem dX5_readChain_42 : decode cX5_readChain 42 = .ok (.iconst 1, 1) := by decide +kernel
theorem dX5_readChain_43 : decode cX5_readChain 43 = .ok (.goto 5, 3) := by decide +kernel
theorem dX5_readChain_46 : decode cX5_readChain 46 = .ok (.bipush 50, 2) := by decide +kernel
theorem dX5_readChain_48 : decode cX5_readChain 48 = .ok (.istore_n 3, 1) := by decide +kernel
theorem dX5_readChain_49 : decode cX5_readChain 49 = .ok (.iconst 0, 1) := by decide +kernel
theorem dX5_readChain_50 : decode cX5_readChain 50 = .ok (.istore 4, 2) := by decide +kernel
theorem dX5_readChain_52 : decode cX5_readChain 52 = .ok (.iload 4, 2) := by decide +kernel
theorem dX5_readChain_54 : decode cX5_readChain 54 = .ok (.iload_n 3, 1) := by decide +kernel
theorem dX5_readChain_55 : decode cX5_readChain 55 = .ok (.if_icmp .ge 64, 3) := by decide +kernel
theorem dX5_readChain_58 : decode cX5_readChain 58 = .ok (.aload_n 0, 1) := by decide +kernel
theorem dX5_readChain_59 : decode cX5_readChain 59 = .ok (.getfield 18, 3) := by decide +kernel
theorem dX5_readChain_62 : decode cX5_readChain 62 = .ok (.iconst (-1), 1) := by decide +kernel
theorem dX5_readChain_63 : decode cX5_readChain 63 = .ok (.if_icmp .ne 56, 3) := by decide +kernel
theorem dX5_readChain_66 : decode cX5_readChain 66 = .ok (.aload_n 0, 1) := by decide +kernel
theorem dX5_readChain_67 : decode cX5_readChain 67 = .ok (.invokevirtual 38, 3) := by decide +kernel
theorem dX5_readChain_70 : decode cX5_readChain 70 = .ok (.invokestatic 72, 3) := by decide +kernel
theorem dX5_readChain_73 : decode cX5_readChain 73 = .ok (.iload_n 1, 1) := by decide +kernel
theorem dX5_readChain_74 : decode cX5_readChain 74 = .ok (.if_icmp .ne 45, 3) := by decide +kernel
theorem dX5_readChain_77 : decode cX5_readChain 77 = .ok (.aload_n 0, 1) := by decide +kernel
theorem dX5_readChain_78 : decode cX5_readChain 78 = .ok (.getfield 9, 3) := by decide +kernel
theorem dX5_readChain_81 : decode cX5_readChain 81 = .ok (.aload_n 0, 1) := by decide +kernel
theorem dX5_readChain_82 : decode cX5_readChain 82 = .ok (.getfield 28, 3) := by decide +kernel
theorem dX5_readChain_85 : decode cX5_readChain 85 = .ok (.iaload, 1) := by decide +kernel
theorem dX5_readChain_86 : decode cX5_readChain 86 = .ok (.istore 5, 2) := by decide +kernel
theorem dX5_readChain_88 : decode cX5_readChain 88 = .ok (.aload_n 0, 1) := by decide +kernel
theorem dX5_readChain_89 : decode cX5_readChain 89 = .ok (.dup, 1) := by decide +kernel
theorem dX5_readChain_90 : decode cX5_readChain 90 = .ok (.getfield 28, 3) := by decide +kernel
theorem dX5_readChain_93 : decode cX5_readChain 93 = .ok (.iconst 1, 1) := by decide +kernel
theorem dX5_readChain_94 : decode cX5_readChain 94 = .ok (.iadd, 1) := by decide +kernel
theorem dX5_readChain_95 : decode cX5_readChain 95 = .ok (.putfield 28, 3) := by decide +kernel
theorem dX5_readChain_98 : decode cX5_readChain 98 = .ok (.aload_n 0, 1) := by decide +kernel
theorem dX5_readChain_99 : decode cX5_readChain 99 = .ok (.iload_n 1, 1) := by decide +kernel
theorem dX5_readChain_100 : decode cX5_readChain 100 = .ok (.iconst 1, 1) := by decide +kernel
theorem dX5_readChain_101 : decode cX5_readChain 101 = .ok (.iadd, 1) := by decide +kernel
theorem dX5_readChain_102 : decode cX5_readChain 102 = .ok (.iload_n 2, 1) := by decide +kernel
theorem dX5_readChain_103 : decode cX5_readChain 103 = .ok (.invokevirtual 54, 3) := by decide +kernel
theorem dX5_readChain_106 : decode cX5_readChain 106 = .ok (.aload_n 0, 1) := by decide +kernel
theorem dX5_readChain_107 : decode cX5_readChain 107 = .ok (.iload 5, 2) := by decide +kernel
theorem dX5_readChain_109 : decode cX5_readChain 109 = .ok (.ineg, 1) := by decide +kernel
theorem dX5_readChain_110 : decode cX5_readChain 110 = .ok (.invokevirtual 60, 3) := by decide +kernel
theorem dX5_readChain_113 : decode cX5_readChain 113 = .ok (.iinc 4 1, 3) := by decide +kernel
theorem dX5_readChain_116 : decode cX5_readChain 116 = .ok (.goto (-64), 3) := by decide +kernel
theorem dX5_readChain_119 : decode cX5_readChain 119 = .ok (.return_, 1) := by decide +kernel
def kX5_readChain (d n rc lc : Nat) (Tc : am_T) (live : am_E) (Ret : am_R) : am_code := [(0, am_iload 1 1), (1, am_const (.int 5) 2), (2, am_if2 (fun x y => x < y) 29 5), (5, am_aload 0 6), (6, am_getI live 5 3 9), (9, am_istore 3 6 10), (10, am_aload 0 11), (11, am_callV live 5 0 TX5_passSigns 14), (14, am_istore 4 6 16), (16, am_aload 0 17), (17, am_iload 2 18), (18, am_callV live 5 1 (TX5_readPlain d) 21), (21, am_aload 0 22), (22, am_iload 3 23), (23, am_iload 4 25), (25, am_callV live 5 2 TX5_emitSigns 28), (28, am_retV Ret), (29, am_aload 0 30), (30, am_iload 1 31), (31, am_const (.int 1) 32), (32, am_i2 (fun x y => x + y) 33), (33, am_iload 2 34), (34, am_callV live 5 2 Tc 37), (37, am_iload 1 38), (38, am_const (.int 2) 39), (39, am_if2 (fun x y => x = y) 42 46), (42, am_const (.int 1) 43), (43, am_goto 48), (46, am_const (.int 50) 48), (48, am_istore 3 6 49), (49, am_const (.int 0) 50), (50, am_istore 4 6 52), (52, am_iload 4 54), (54, am_iload 3 55), (55, am_if2 (fun x y => y ≤ x) 119 58), (58, am_aload 0 59), (59, am_getI live 5 6 62), (62, am_const (.int (-1)) 63), (63, am_if2 (fun x y => x = y) 66 119), (66, am_aload 0 67), (67, am_callV live 5 0 TX5_next 70), (70, am_callS live 1 TX5_levelOf 73), (73, am_iload 1 74), (74, am_if2 (fun x y => x = y) 77 119), (77, am_aload 0 78), (78, am_getR live 5 0 81), (81, am_aload 0 82), (82, am_getI live 5 3 85), (85, am_ald live 0 86), (86, am_istore 5 6 88), (88, am_aload 0 89), (89, am_dup 90), (90, am_getI live 5 3 93), (93, am_const (.int 1) 94), (94, am_i2 (fun x y => x + y) 95), (95, am_putI live 5 3 98), (98, am_aload 0 99), (99, am_iload 1 100), (100, am_const (.int 1) 101), (101, am_i2 (fun x y => x + y) 102), (102, am_iload 2 103), (103, am_callV live 5 2 Tc 106), (106, am_aload 0 107), (107, am_iload 5 109), (109, am_i1 (fun x => -x) 110), (110, am_callV live 5 1 TX5_emit 113), (113, am_iinc 4 6 1 116), (116, am_goto 52), (119, am_retV Ret)]
theorem koX5_readChain (d n rc lc : Nat) (Tc : am_T) (hP : am_Met yX5_readPlain cX5_readPlain 3 none (4 + 8 * d + 1) (200 + 200 * d + 25) (TX5_readPlain d)) (hC : am_Met yX5_readChain cX5_readChain 6 none rc lc Tc) (hrc : rc + 1 ≤ 4 + 8 * d + 2 + n ∧ lc + 25 ≤ 200 + 200 * d + 50 + 25 * n) (live : am_E) (Ret : am_R) : ∀ q ∈ kX5_readChain d n rc lc Tc live Ret, am_ok RX5 cX5_readChain 6 none (4 + 8 * d + 2 + n) (200 + 200 * d + 50 + 25 * n) live Ret q.1 q.2 :=
  am_kc (ak_iload_n dX5_readChain_0 rfl rfl) <|
  am_kc (ak_iconst dX5_readChain_1 (by decide +kernel) rfl) <|
  am_kc (ak_icmp_lt dX5_readChain_2 (by decide +kernel) rfl) <|
  am_kc (ak_aload_n dX5_readChain_5 rfl rfl) <|
  am_kc (ak_getI (C := RX5) (T := TX5) (N := 7) rfl inX5w (by decide) rfl rfl rfl wd_171 dX5_readChain_6 rfl) <|
  am_kc (ak_istore_n dX5_readChain_9 rfl rfl) <|
  am_kc (ak_aload_n dX5_readChain_10 rfl rfl) <|
  am_kc (ak_callV (C := RX5) (F := TX5) (N := 7) metX5_passSigns rfl ⟨rfl, by decide +kernel, by decide +kernel, by decide +kernel⟩ (am_w5 wd_684 wd_686 wd_16 wd_65 wd_687) (by omega) dX5_readChain_11 rfl) <|
  am_kc (ak_istore dX5_readChain_14 rfl) <|
  am_kc (ak_aload_n dX5_readChain_16 rfl rfl) <|
  am_kc (ak_iload_n dX5_readChain_17 rfl rfl) <|
  am_kc (ak_callV (C := RX5) (F := TX5) (N := 7) hP rfl ⟨rfl, by decide +kernel, by decide +kernel, by decide +kernel⟩ (am_w5 wd_692 wd_694 wd_18 wd_65 wd_695) (by omega) dX5_readChain_18 rfl) <|
  am_kc (ak_aload_n dX5_readChain_21 rfl rfl) <|
  am_kc (ak_iload_n dX5_readChain_22 rfl rfl) <|
  am_kc (ak_iload dX5_readChain_23 rfl) <|
  am_kc (ak_callV (C := RX5) (F := TX5) (N := 7) metX5_emitSigns rfl ⟨rfl, by decide +kernel, by decide +kernel, by decide +kernel⟩ (am_w5 wd_711 wd_713 wd_22 wd_65 wd_714) (by omega) dX5_readChain_25 rfl) <|
  am_kc (ak_retV dX5_readChain_28) <|
  am_kc (ak_aload_n dX5_readChain_29 rfl rfl) <|
  am_kc (ak_iload_n dX5_readChain_30 rfl rfl) <|
  am_kc (ak_iconst dX5_readChain_31 (by decide +kernel) rfl) <|
  am_kc (ak_iadd dX5_readChain_32 rfl) <|
  am_kc (ak_iload_n dX5_readChain_33 rfl rfl) <|
  am_kc (ak_callV (C := RX5) (F := TX5) (N := 7) hC rfl ⟨rfl, by decide +kernel, by decide +kernel, by decide +kernel⟩ (am_w5 wd_680 wd_682 wd_15 wd_65 wd_683) (by omega) dX5_readChain_34 rfl) <|
  am_kc (ak_iload_n dX5_readChain_37 rfl rfl) <|
  am_kc (ak_iconst dX5_readChain_38 (by decide +kernel) rfl) <|
  am_kc (ak_icmp_ne dX5_readChain_39 (by decide +kernel) rfl) <|
  am_kc (ak_iconst dX5_readChain_42 (by decide +kernel) rfl) <|
  am_kc (ak_goto dX5_readChain_43 (by decide +kernel)) <|
  am_kc (ak_bipush dX5_readChain_46 (by decide +kernel) rfl) <|
  am_kc (ak_istore_n dX5_readChain_48 rfl rfl) <|
  am_kc (ak_iconst dX5_readChain_49 (by decide +kernel) rfl) <|
  am_kc (ak_istore dX5_readChain_50 rfl) <|
  am_kc (ak_iload dX5_readChain_52 rfl) <|
  am_kc (ak_iload_n dX5_readChain_54 rfl rfl) <|
  am_kc (ak_icmp_ge dX5_readChain_55 (by decide +kernel) rfl) <|
  am_kc (ak_aload_n dX5_readChain_58 rfl rfl) <|
  am_kc (ak_getI (C := RX5) (T := TX5) (N := 7) rfl inX5w (by decide) rfl rfl rfl wd_175 dX5_readChain_59 rfl) <|
  am_kc (ak_iconst dX5_readChain_62 (by decide +kernel) rfl) <|
  am_kc (ak_icmp_ne dX5_readChain_63 (by decide +kernel) rfl) <|
  am_kc (ak_aload_n dX5_readChain_66 rfl rfl) <|
  am_kc (ak_callV (C := RX5) (F := TX5) (N := 7) metX5_next rfl ⟨rfl, by decide +kernel, by decide +kernel, by decide +kernel⟩ (am_w5 wd_688 wd_690 wd_17 wd_65 wd_691) (by omega) dX5_readChain_67 rfl) <|
  am_kc (ak_callS metX5_levelOf ⟨rfl, by decide +kernel, by decide +kernel, by decide +kernel⟩ (am_w4 wd_715 wd_716 wd_65 wd_717) (by omega) dX5_readChain_70 rfl) <|
  am_kc (ak_iload_n dX5_readChain_73 rfl rfl) <|
  am_kc (ak_icmp_ne dX5_readChain_74 (by decide +kernel) rfl) <|
  am_kc (ak_aload_n dX5_readChain_77 rfl rfl) <|
  am_kc (ak_getR (C := RX5) (T := TX5) (N := 7) rfl inX5w (by decide) rfl rfl rfl wd_168 dX5_readChain_78 rfl) <|
  am_kc (ak_aload_n dX5_readChain_81 rfl rfl) <|
  am_kc (ak_getI (C := RX5) (T := TX5) (N := 7) rfl inX5w (by decide) rfl rfl rfl wd_171 dX5_readChain_82 rfl) <|
  am_kc (ak_iald (t := 0) (fun _ => rfl) rfl dX5_readChain_85 rfl) <|
  am_kc (ak_istore dX5_readChain_86 rfl) <|
  am_kc (ak_aload_n dX5_readChain_88 rfl rfl) <|
  am_kc (ak_dup dX5_readChain_89 rfl) <|
  am_kc (ak_getI (C := RX5) (T := TX5) (N := 7) rfl inX5w (by decide) rfl rfl rfl wd_171 dX5_readChain_90 rfl) <|
  am_kc (ak_iconst dX5_readChain_93 (by decide +kernel) rfl) <|
  am_kc (ak_iadd dX5_readChain_94 rfl) <|
  am_kc (ak_putI (C := RX5) (T := TX5) (N := 7) rfl inX5w tyX5_ok nmX5 (by decide) rfl rfl rfl rfl (by decide +kernel) wd_171 dX5_readChain_95 rfl) <|
  am_kc (ak_aload_n dX5_readChain_98 rfl rfl) <|
  am_kc (ak_iload_n dX5_readChain_99 rfl rfl) <|
  am_kc (ak_iconst dX5_readChain_100 (by decide +kernel) rfl) <|
  am_kc (ak_iadd dX5_readChain_101 rfl) <|
  am_kc (ak_iload_n dX5_readChain_102 rfl rfl) <|
  am_kc (ak_callV (C := RX5) (F := TX5) (N := 7) hC rfl ⟨rfl, by decide +kernel, by decide +kernel, by decide +kernel⟩ (am_w5 wd_680 wd_682 wd_15 wd_65 wd_683) (by omega) dX5_readChain_103 rfl) <|
  am_kc (ak_aload_n dX5_readChain_106 rfl rfl) <|
  am_kc (ak_iload dX5_readChain_107 rfl) <|
  am_kc (ak_ineg dX5_readChain_109 rfl) <|
  am_kc (ak_callV (C := RX5) (F := TX5) (N := 7) metX5_emit rfl ⟨rfl, by decide +kernel, by decide +kernel, by decide +kernel⟩ (am_w5 wd_703 wd_705 wd_20 wd_65 wd_706) (by omega) dX5_readChain_110 rfl) <|
  am_kc (ak_iinc dX5_readChain_113 (by decide +kernel) rfl) <|
  am_kc (ak_goto dX5_readChain_116 (by decide +kernel)) <|
  am_kc (ak_retV dX5_readChain_119) <| am_kn
def JX5_readChain : am_E → List Value → am_M → am_R → am_inv := fun live as M0 _ pc => match as with
  | [.ref t, .int l, .int e] => (match pc with
    | 52 => some ([0, 1, 2, 3, 4], fun k L st M => ∃ x i : Int32, L = [(0, .ref t), (1, .int l), (2, .int e), (3, .int x), (4, .int i)] ∧ st = [] ∧ k = ((51 - i.toInt).toNat, 0) ∧ x.toInt ≤ 50 ∧ 0 ≤ i.toInt ∧ l.toInt < 5 ∧ am_ch (am_tS t ((live.2 t 1).getD 0)) M0 M ∧ am_tI M t)
    | _ => none)
  | _ => none
theorem am_level_lt {x l : Int32} (h : am_level x = l) (hl : l.toInt < 5) : ¬ x = -1 := fun e => by
  rw [e] at h
  rw [← h] at hl
  exact absurd hl (by decide)
set_option maxRecDepth 100000 in
set_option maxHeartbeats 4000000 in
theorem metX5_readChainG (d n rc lc : Nat) (Tc : am_T) (hP : am_Met yX5_readPlain cX5_readPlain 3 none (4 + 8 * d + 1) (200 + 200 * d + 25) (TX5_readPlain d)) (hC : am_Met yX5_readChain cX5_readChain 6 none rc lc Tc) (hrc : rc + 1 ≤ 4 + 8 * d + 2 + n ∧ lc + 25 ≤ 200 + 200 * d + 50 + 25 * n)
    (hT0 : ∀ (live : am_E) (t s c : Nat) (l e : Int32) (M : am_M) (R : am_R), live.2 t 0 = some s → live.2 t 1 = some c → am_tc live t s c = true → am_tI M t → 0 ≤ l.toInt → l.toInt < 5 → 5 ≤ l.toInt + (n : Int) → 0 ≤ e.toInt → e.toInt ≤ 40 → 40 ≤ e.toInt + (d : Int) → (∀ M', am_ch (am_tS t c) M M' → am_tI M' t → R none M') → Tc live [.ref t, .int (l + 1), .int e] M R) :
    am_Met yX5_readChain cX5_readChain 6 none (4 + 8 * d + 2 + n) (200 + 200 * d + 50 + 25 * n) (TX5_readChain d n) := by
  refine am_met (own := RX5) (by decide +kernel) rfl (kX5_readChain d n rc lc Tc) (koX5_readChain d n rc lc Tc hP hC hrc) 120 JX5_readChain ?_ ?_
  · intro live as M Ret h
    unfold TX5_readChain at h
    split at h
    · next t l e =>
      refine ⟨Nat.le_of_ble_eq_true rfl, ?_⟩
      change am_wp _ _ _ _ [(0, Value.ref t), (1, Value.int l), (2, Value.int e)] _ _
      have hh := am_tP_mp h
      clear h
      obtain ⟨s, c, h2, h6, hb, h1, h3, h7, h4, h8, h9, h5, h10, hT, hl, he1, he2, he3, h⟩ := hh
      repeat' (first | (with_reducible exact hT) | (with_reducible exact h1) | (with_reducible exact h2) | (with_reducible exact h3) | (with_reducible exact hb) | (with_reducible exact h6) | (with_reducible exact h7) | (refine Exists.intro _ (Exists.intro _ (And.intro h2 (And.intro h6 ?_)))) | (refine Exists.intro _ (And.intro h2 ?_)) | (refine Exists.intro _ (And.intro h6 ?_)) | apply And.intro | exact rfl | intro hx | (refine Exists.intro _ (And.intro rfl ?_)) | (refine hT0 _ _ s c _ _ _ _ h2 h6 hb ?_ ?_ ?_ ?_ ?_ ?_ ?_ (fun M' c' i' => ?_)) | ((with_reducible change _ = true); simp only [h1, h2, h3, hb, h6, h7, Bool.true_and]; rfl))
      all_goals try first | (with_reducible change am_tI _ _) | (change Ret _ _) | (change Ret _ _ _) | (change Exists _)
      all_goals try dsimp only at *
      all_goals try exact absurd ‹(1000 : Int64) = 0› (by decide)
      all_goals obtain ⟨hl1, hl2, hl3⟩ := hl
      all_goals first
        | (simp only [i_le, i_lt, Int32.reduceToInt] at *; omega)
        | assumption
        | exact (am_tI_pl (by assumption)).1
        | skip
      · rename_i hq
        rw [h6]
        exact ⟨_, _, _, rfl, rfl, rfl, by decide, by decide, by simp only [i_le, i_lt, Int32.reduceToInt] at *; omega, c', i'⟩
      · rename_i hq
        rw [h6]
        exact ⟨_, _, _, rfl, rfl, rfl, by decide, by decide, by simp only [i_le, i_lt, Int32.reduceToInt] at *; omega, c', i'⟩
      · rename_i M1 c1 i1 M2 c2 i2 M3 c3 i3
        exact h _ ((c1.tr c2).tr c3) i3
    · exact h.elim
  · intro live as M0 Ret h k pc I hI L st M hi
    unfold TX5_readChain at h
    split at h
    · next t l e =>
      have hh := am_tP_mp h
      clear h
      obtain ⟨s, c, h2, h6, hb, h1, h3, h7, h4, h8, h9, h5, h10, hT, hl, he1, he2, he3, h⟩ := hh
      obtain ⟨hl1, hl2, hl3⟩ := hl
      change (match pc with | 52 => _ | _ => none) = _ at hI
      split at hI
      · cases hI
        obtain ⟨x, i, rfl, rfl, rfl, e0, e3, e4, e1, e2⟩ := hi
        have f1 := e1
        rw [h6] at f1
        repeat' (first | (with_reducible exact e2) | (with_reducible exact h1) | (with_reducible exact h2) | (with_reducible exact h3) | (with_reducible exact hb) | (with_reducible exact h6) | (with_reducible exact h7) | (refine Exists.intro _ (Exists.intro _ (And.intro h2 (And.intro h6 ?_)))) | (refine Exists.intro _ (And.intro h2 ?_)) | (refine Exists.intro _ (And.intro h6 ?_)) | apply And.intro | exact rfl | intro hx | (refine Exists.intro _ (And.intro rfl ?_)) | (refine hT0 _ _ s c _ _ _ _ h2 h6 hb ?_ ?_ ?_ ?_ ?_ ?_ ?_ (fun M' c' i' => ?_)) | ((with_reducible change _ = true); simp only [h1, h2, h3, hb, h6, h7, Bool.true_and]; rfl))
        all_goals try first | (with_reducible change am_tI _ _) | (change Ret _ _) | (change Ret _ _ _) | (change Exists _)
        all_goals try dsimp only at *
        all_goals try exact absurd ‹(1000 : Int64) = 0› (by decide)
        all_goals try simp only [am_wI_self]
        · exact h _ f1 e2
        · have q1 := (am_tI_pl e2).1
          have q2 := (‹am_skip M t s _›).1
          omega
        · have q1 := am_sign_lt (am_level_lt ‹am_level (am_sign M t s _) = l› e4)
          have q2 := (am_tI_pl e2).2.2
          rw [h4]
          omega
        · exact am_tI_3p e2 ‹am_skip M t s _› (am_sign_lt (am_level_lt ‹am_level (am_sign M t s _) = l› e4))
        · omega
        · omega
        · omega
        · omega
        · omega
        · omega
        · exact am_tI_cd i'
        · rw [h6]
          refine ⟨_, Or.inl ?_, x, i + 1, rfl, rfl, rfl, e0, ?_, e4, am_ch_emit (((f1.wI am_tS_3).wI am_tS_3).tr c'), am_tI_emit i' h10⟩
          all_goals simp only [i_le, i_lt] at *
          all_goals
            have hi := i_add (x := i) (y := 1) (by simp only [Int32.reduceToInt]; omega) (by simp only [Int32.reduceToInt]; omega)
            simp only [Int32.reduceToInt] at hi
            omega
        · exact h _ (f1.wI am_tS_3) (am_tI_w3 e2 ‹am_skip M t s _›)
        · exact h _ f1 e2
      · cases hI
    · exact h.elim
theorem am_tP_in {live : am_E} {t s c : Nat} {P : Nat → Nat → Prop} (h1 : live.2 t 0 = some s) (h2 : live.2 t 1 = some c) (h3 : am_tc live t s c = true) (h : P s c) : am_tP live t P := by
  exact ⟨s, c, h1, h2, h3, h⟩
theorem am_MetF (y : MethodName) (cc : ByteArray) (nL : Nat) (rt : Option FieldType) (rf rl : Nat) : am_Met y cc nL rt rf rl (fun _ _ _ _ => False) := fun _ _ _ _ _ _ _ _ _ h => h.elim
theorem metX5_readChain (d : Nat) (hP : am_Met yX5_readPlain cX5_readPlain 3 none (4 + 8 * d + 1) (200 + 200 * d + 25) (TX5_readPlain d)) : ∀ n : Nat, am_Met yX5_readChain cX5_readChain 6 none (4 + 8 * d + 2 + n) (200 + 200 * d + 50 + 25 * n) (TX5_readChain d n)
  | 0 => metX5_readChainG d 0 0 0 _ hP (am_MetF _ _ _ _ _ _) (by omega) (fun live t s c l e M R _ _ _ _ _ h1 h2 _ _ _ _ => by exfalso; omega)
  | n + 1 => metX5_readChainG d (n + 1) (4 + 8 * d + 2 + n) (200 + 200 * d + 50 + 25 * n) _ hP (metX5_readChain d hP n) (by omega) (fun live t s c l e M R a1 a2 a3 a4 a5 a6 a7 a8 a9 a10 hh => by
      have hi := i_add (x := l) (y := 1) (by simp only [Int32.reduceToInt]; omega) (by simp only [Int32.reduceToInt]; omega)
      simp only [Int32.reduceToInt] at hi
      exact am_tP_in a1 a2 a3 ⟨a4, ⟨by omega, by omega, by omega⟩, a8, a9, a10, hh⟩)
