/-! Text: reading by recursion: what is safe of it -/
def TX5_readValue (d : Nat) : am_T := fun live as M R => match as with
  | [.ref t, .int e] => am_tP live t (fun s c => am_tI M t ∧ 0 ≤ e.toInt ∧ e.toInt ≤ 41 ∧ 41 ≤ e.toInt + (d : Int) ∧ ∀ M', am_ch (am_tS t c) M M' → am_tI M' t → R none M')
  | _ => False
def TX5_readPlain (d : Nat) : am_T := fun live as M R => match as with
  | [.ref t, .int e] => am_tP live t (fun s c => am_tI M t ∧ 0 ≤ e.toInt ∧ e.toInt ≤ 40 ∧ 40 ≤ e.toInt + (d : Int) ∧ ∀ M', am_ch (am_tS t c) M M' → am_tI M' t → R none M')
  | _ => False
def TX5_readChain (d n : Nat) : am_T := fun live as M R => match as with
  | [.ref t, .int l, .int e] => am_tP live t (fun s c => am_tI M t ∧ (0 ≤ l.toInt ∧ l.toInt ≤ 5 ∧ 5 ≤ l.toInt + (n : Int)) ∧ 0 ≤ e.toInt ∧ e.toInt ≤ 40 ∧ 40 ≤ e.toInt + (d : Int) ∧ ∀ M', am_ch (am_tS t c) M M' → am_tI M' t → R none M')
  | _ => False
theorem am_tI_4 {M : am_M} {t : Nat} {v : Int32} (h : am_tI M t) : am_tI (am_wI M t 4 v) t := by
  obtain ⟨-, q1, q2, q3⟩ := h
  refine am_tI_of ?_ ?_ ?_ ?_ ?_
  all_goals simp [am_wI_1]
  all_goals omega
theorem am_sign_lt {M : am_M} {t s : Nat} {p : Int32} (h : ¬ am_sign M t s p = -1) : p.toInt < (M.1 t 5).toInt := by
  rcases Int.lt_or_le p.toInt (M.1 t 5).toInt with z | z
  · exact z
  · exact absurd (by rw [am_sign, if_neg (by omega)]) h
theorem am_tI_3p {M : am_M} {t s : Nat} {p : Int32} (h : am_tI M t) (hp : am_skip M t s p) (hl : p.toInt < (M.1 t 5).toInt) : am_tI (am_wI (am_wI M t 3 p) t 3 (p + 1)) t := by
  have h1 := am_tI_w3 h hp
  have h2 := am_tI_inc h1 (by simp [am_wI_1]; exact hl)
  simp [am_wI_1] at h2
  exact h2.1
theorem am_wI_self {M : am_M} {n k : Nat} {v : Int32} : (am_wI M n k v).1 n k = v := by simp [am_wI_1]
theorem am_ne1 {x : Int32} (h : am_ops x = 0) : ¬ x = -1 := fun e => by rw [e] at h; exact absurd h (by decide)
theorem am_ne2 {x : Int32} (h : x = 40) : ¬ x = -1 := fun e => by rw [h] at e; exact absurd e (by decide)
theorem am_tI_cd {M : am_M} {t : Nat} (h : am_tI M t) : 0 ≤ (M.1 t 2).toInt := by obtain ⟨-, q1, q2, q3⟩ := h; exact q1.1
theorem am_tI_pl {M : am_M} {t : Nat} (h : am_tI M t) : 0 ≤ (M.1 t 3).toInt ∧ (M.1 t 3).toInt ≤ (M.1 t 5).toInt ∧ (M.1 t 5).toInt ≤ 50 := by obtain ⟨-, q1, q2, q3⟩ := h; exact ⟨q2.1, q2.2, q3⟩
theorem hy_X5_readDigits : yX5_readDigits.cls ≠ "java/lang/invoke/MethodHandle" ∧ yX5_readDigits.cls ≠ "java/lang/invoke/VarHandle" ∧ (parseMethodDescriptor yX5_readDigits.desc).map (fun d => d.parameters.length) = some 0 := ⟨by decide +kernel, by decide +kernel, by decide +kernel⟩
set_option maxRecDepth 100000 in
theorem wd_699 : Cond.methodLink "LearnLoans$Text" 80 yX5_readDigits ∈ am_ws := am_wt3 (List.mem_of_getElem? (i := 162) (by rfl)) (by decide +kernel)
set_option maxRecDepth 100000 in
theorem wd_701 : Cond.instanceMethod yX5_readDigits ∈ am_ws := am_wt3 (List.mem_of_getElem? (i := 164) (by rfl)) (by decide +kernel)
set_option maxRecDepth 100000 in
theorem wd_19 : Cond.selects "LearnLoans$Text" yX5_readDigits yX5_readDigits ∈ am_ws := am_wsi (List.mem_of_getElem? (i := 19) (by rfl)) (by decide +kernel)
set_option maxRecDepth 100000 in
theorem wd_702 : Cond.code yX5_readDigits cX5_readDigits 3 none ∈ am_ws := am_wt3 (List.mem_of_getElem? (i := 165) (by rfl)) (by decide +kernel)
theorem hy_X5_operands : yX5_operands.cls ≠ "java/lang/invoke/MethodHandle" ∧ yX5_operands.cls ≠ "java/lang/invoke/VarHandle" ∧ (parseMethodDescriptor yX5_operands.desc).map (fun d => d.parameters.length) = some 1 := ⟨by decide +kernel, by decide +kernel, by decide +kernel⟩
set_option maxRecDepth 100000 in
theorem wd_596 : Cond.methodLink "LearnLoans$Text" 83 yX5_operands ∈ am_ws := am_wt3 (List.mem_of_getElem? (i := 59) (by rfl)) (by decide +kernel)
set_option maxRecDepth 100000 in
theorem wd_597 : Cond.static yX5_operands ∈ am_ws := am_wt3 (List.mem_of_getElem? (i := 60) (by rfl)) (by decide +kernel)
set_option maxRecDepth 100000 in
theorem wd_598 : Cond.code yX5_operands cX5_operands 1 (some .int) ∈ am_ws := am_wt3 (List.mem_of_getElem? (i := 61) (by rfl)) (by decide +kernel)
set_option maxRecDepth 100000 in
theorem wd_172 : Cond.fieldLink "LearnLoans$Text" 31 "LearnLoans$Text" "open" "I" ∈ am_ws := am_wt1 (List.mem_of_getElem? (i := 115) (by rfl)) (by decide +kernel)
theorem hy_X5_readValue : yX5_readValue.cls ≠ "java/lang/invoke/MethodHandle" ∧ yX5_readValue.cls ≠ "java/lang/invoke/VarHandle" ∧ (parseMethodDescriptor yX5_readValue.desc).map (fun d => d.parameters.length) = some 1 := ⟨by decide +kernel, by decide +kernel, by decide +kernel⟩
set_option maxRecDepth 100000 in
theorem wd_672 : Cond.methodLink "LearnLoans$Text" 34 yX5_readValue ∈ am_ws := am_wt3 (List.mem_of_getElem? (i := 135) (by rfl)) (by decide +kernel)
set_option maxRecDepth 100000 in
theorem wd_674 : Cond.instanceMethod yX5_readValue ∈ am_ws := am_wt3 (List.mem_of_getElem? (i := 137) (by rfl)) (by decide +kernel)
set_option maxRecDepth 100000 in
theorem wd_13 : Cond.selects "LearnLoans$Text" yX5_readValue yX5_readValue ∈ am_ws := am_wsi (List.mem_of_getElem? (i := 13) (by rfl)) (by decide +kernel)
set_option maxRecDepth 100000 in
theorem wd_675 : Cond.code yX5_readValue cX5_readValue 2 none ∈ am_ws := am_wt3 (List.mem_of_getElem? (i := 138) (by rfl)) (by decide +kernel)
theorem hy_X5_pass : yX5_pass.cls ≠ "java/lang/invoke/MethodHandle" ∧ yX5_pass.cls ≠ "java/lang/invoke/VarHandle" ∧ (parseMethodDescriptor yX5_pass.desc).map (fun d => d.parameters.length) = some 1 := ⟨by decide +kernel, by decide +kernel, by decide +kernel⟩
set_option maxRecDepth 100000 in
theorem wd_707 : Cond.methodLink "LearnLoans$Text" 57 yX5_pass ∈ am_ws := am_wt3 (List.mem_of_getElem? (i := 170) (by rfl)) (by decide +kernel)
set_option maxRecDepth 100000 in
theorem wd_709 : Cond.instanceMethod yX5_pass ∈ am_ws := am_wt3 (List.mem_of_getElem? (i := 172) (by rfl)) (by decide +kernel)
set_option maxRecDepth 100000 in
theorem wd_21 : Cond.selects "LearnLoans$Text" yX5_pass yX5_pass ∈ am_ws := am_wsi (List.mem_of_getElem? (i := 21) (by rfl)) (by decide +kernel)
set_option maxRecDepth 100000 in
theorem wd_710 : Cond.code yX5_pass cX5_pass 2 none ∈ am_ws := am_wt3 (List.mem_of_getElem? (i := 173) (by rfl)) (by decide +kernel)
def rwX5_readPlain : List dz_r := [(0, .aload_n 0, 1), (1, .invokevirtual 38, 3), (4, .istore_n 2, 1), (5, .aload_n 0, 1), (6, .getfield 18, 3), (9, .iconst (-1), 1), (10, .if_icmp .eq 4, 3), (13, .return_, 1), (14, .iload_n 2, 1), (15, .invokestatic 76, 3), (18, .ifCond .eq 10, 3), (21, .aload_n 0, 1), (22, .invokevirtual 80, 3), (25, .goto 111, 3), (28, .iload_n 2, 1), (29, .invokestatic 83, 3), (32, .ifCond .ne 22, 3), (35, .aload_n 0, 1), (36, .dup, 1), (37, .getfield 28, 3), (40, .iconst 1, 1), (41, .iadd, 1), (42, .putfield 28, 3), (45, .aload_n 0, 1), (46, .iload_n 2, 1), (47, .ineg, 1), (48, .invokevirtual 60, 3), (51, .goto 85, 3), (54, .iload_n 2, 1), (55, .bipush 40, 2), (57, .if_icmp .eq 15, 3), (60, .aload_n 0, 1), (61, .aload_n 0, 1), (62, .getfield 28, 3), (65, .iconst 1, 1), (66, .invokevirtual 42, 3), (69, .goto 67, 3), (72, .aload_n 0, 1), (73, .getfield 31, 3), (76, .bipush 8, 2), (78, .if_icmp .lt 15, 3), (81, .aload_n 0, 1), (82, .aload_n 0, 1), (83, .getfield 28, 3), (86, .iconst 3, 1), (87, .invokevirtual 42, 3), (90, .goto 46, 3), (93, .aload_n 0, 1), (94, .dup, 1), (95, .getfield 28, 3), (98, .iconst 1, 1), (99, .iadd, 1), (100, .putfield 28, 3), (103, .aload_n 0, 1), (104, .dup, 1), (105, .getfield 31, 3), (108, .iconst 1, 1), (109, .iadd, 1), (110, .putfield 31, 3), (113, .aload_n 0, 1), (114, .iload_n 1, 1), (115, .iconst 1, 1), (116, .iadd, 1), (117, .invokevirtual 34, 3), (120, .aload_n 0, 1), (121, .bipush 41, 2), (123, .invokevirtual 57, 3), (126, .aload_n 0, 1), (127, .dup, 1), (128, .getfield 31, 3), (131, .iconst 1, 1), (132, .isub, 1), (133, .putfield 31, 3), (136, .return_, 1)]
theorem dzX5_readPlain : dz cX5_readPlain rwX5_readPlain := dz_all 0 (by decide +kernel)
def kX5_readPlain (d : Nat) (live : am_E) (Ret : am_R) : am_code := [(0, am_aload 0 1), (1, am_callV live 5 0 TX5_next 4), (4, am_istore 2 3 5), (5, am_aload 0 6), (6, am_getI live 5 6 9), (9, am_const (.int (-1)) 10), (10, am_if2 (fun x y => x = y) 14 13), (13, am_retV Ret), (14, am_iload 2 15), (15, am_callS live 1 TX5_isDigit 18), (18, am_if1 (fun x => x = 0) 28 21), (21, am_aload 0 22), (22, am_callV live 5 0 TX5_readDigits 25), (25, am_goto 136), (28, am_iload 2 29), (29, am_callS live 1 TX5_operands 32), (32, am_if1 (fun x => x = 0) 35 54), (35, am_aload 0 36), (36, am_dup 37), (37, am_getI live 5 3 40), (40, am_const (.int 1) 41), (41, am_i2 (fun x y => x + y) 42), (42, am_putI live 5 3 45), (45, am_aload 0 46), (46, am_iload 2 47), (47, am_i1 (fun x => -x) 48), (48, am_callV live 5 1 TX5_emit 51), (51, am_goto 136), (54, am_iload 2 55), (55, am_const (.int 40) 57), (57, am_if2 (fun x y => x = y) 72 60), (60, am_aload 0 61), (61, am_aload 0 62), (62, am_getI live 5 3 65), (65, am_const (.int 1) 66), (66, am_callV live 5 2 TX5_blame 69), (69, am_goto 136), (72, am_aload 0 73), (73, am_getI live 5 4 76), (76, am_const (.int 8) 78), (78, am_if2 (fun x y => x < y) 93 81), (81, am_aload 0 82), (82, am_aload 0 83), (83, am_getI live 5 3 86), (86, am_const (.int 3) 87), (87, am_callV live 5 2 TX5_blame 90), (90, am_goto 136), (93, am_aload 0 94), (94, am_dup 95), (95, am_getI live 5 3 98), (98, am_const (.int 1) 99), (99, am_i2 (fun x y => x + y) 100), (100, am_putI live 5 3 103), (103, am_aload 0 104), (104, am_dup 105), (105, am_getI live 5 4 108), (108, am_const (.int 1) 109), (109, am_i2 (fun x y => x + y) 110), (110, am_putI live 5 4 113), (113, am_aload 0 114), (114, am_iload 1 115), (115, am_const (.int 1) 116), (116, am_i2 (fun x y => x + y) 117), (117, am_callV live 5 1 (TX5_readValue d) 120), (120, am_aload 0 121), (121, am_const (.int 41) 123), (123, am_callV live 5 1 TX5_pass 126), (126, am_aload 0 127), (127, am_dup 128), (128, am_getI live 5 4 131), (131, am_const (.int 1) 132), (132, am_i2 (fun x y => x - y) 133), (133, am_putI live 5 4 136), (136, am_retV Ret)]
theorem koX5_readPlain (d : Nat) (hV : am_Met yX5_readValue cX5_readValue 2 none (4 + 8 * d) (200 + 200 * d) (TX5_readValue d)) (live : am_E) (Ret : am_R) : ∀ q ∈ kX5_readPlain d live Ret, am_ok RX5 cX5_readPlain 3 none (4 + 8 * d + 1) (200 + 200 * d + 25) live Ret q.1 q.2 :=
  am_kz dzX5_readPlain <|
  am_kd (fun d => ak_aload_n d rfl rfl) <|
  am_kd (fun d => ak_callV (C := RX5) (F := TX5) (N := 7) metX5_next rfl ⟨rfl, hy_X5_next⟩ (am_w5 wd_688 wd_690 wd_17 wd_65 wd_691) (by omega) d rfl) <|
  am_kd (fun d => ak_istore_n d rfl rfl) <|
  am_kd (fun d => ak_aload_n d rfl rfl) <|
  am_kd (fun d => ak_getI (C := RX5) (T := TX5) (N := 7) rfl inX5w (by decide) rfl rfl rfl wd_175 d rfl) <|
  am_kd (fun d => ak_iconst d (by decide +kernel) rfl) <|
  am_kd (fun d => ak_icmp_eq d (by decide +kernel) rfl) <|
  am_kd (fun d => ak_retV d) <|
  am_kd (fun d => ak_iload_n d rfl rfl) <|
  am_kd (fun d => ak_callS metX5_isDigit ⟨rfl, hy_X5_isDigit⟩ (am_w4 wd_696 wd_697 wd_65 wd_698) (by omega) d rfl) <|
  am_kd (fun d => ak_if_eq d (by decide +kernel) rfl) <|
  am_kd (fun d => ak_aload_n d rfl rfl) <|
  am_kd (fun d => ak_callV (C := RX5) (F := TX5) (N := 7) metX5_readDigits rfl ⟨rfl, hy_X5_readDigits⟩ (am_w5 wd_699 wd_701 wd_19 wd_65 wd_702) (by omega) d rfl) <|
  am_kd (fun d => ak_goto d (by decide +kernel)) <|
  am_kd (fun d => ak_iload_n d rfl rfl) <|
  am_kd (fun d => ak_callS metX5_operands ⟨rfl, hy_X5_operands⟩ (am_w4 wd_596 wd_597 wd_65 wd_598) (by omega) d rfl) <|
  am_kd (fun d => ak_if_ne d (by decide +kernel) rfl) <|
  am_kd (fun d => ak_aload_n d rfl rfl) <|
  am_kd (fun d => ak_dup d rfl) <|
  am_kd (fun d => ak_getI (C := RX5) (T := TX5) (N := 7) rfl inX5w (by decide) rfl rfl rfl wd_171 d rfl) <|
  am_kd (fun d => ak_iconst d (by decide +kernel) rfl) <|
  am_kd (fun d => ak_iadd d rfl) <|
  am_kd (fun d => ak_putI (C := RX5) (T := TX5) (N := 7) rfl inX5w tyX5_ok nmX5 (by decide) rfl rfl rfl rfl (by decide +kernel) wd_171 d rfl) <|
  am_kd (fun d => ak_aload_n d rfl rfl) <|
  am_kd (fun d => ak_iload_n d rfl rfl) <|
  am_kd (fun d => ak_ineg d rfl) <|
  am_kd (fun d => ak_callV (C := RX5) (F := TX5) (N := 7) metX5_emit rfl ⟨rfl, hy_X5_emit⟩ (am_w5 wd_703 wd_705 wd_20 wd_65 wd_706) (by omega) d rfl) <|
  am_kd (fun d => ak_goto d (by decide +kernel)) <|
  am_kd (fun d => ak_iload_n d rfl rfl) <|
  am_kd (fun d => ak_bipush d (by decide +kernel) rfl) <|
  am_kd (fun d => ak_icmp_eq d (by decide +kernel) rfl) <|
  am_kd (fun d => ak_aload_n d rfl rfl) <|
  am_kd (fun d => ak_aload_n d rfl rfl) <|
  am_kd (fun d => ak_getI (C := RX5) (T := TX5) (N := 7) rfl inX5w (by decide) rfl rfl rfl wd_171 d rfl) <|
  am_kd (fun d => ak_iconst d (by decide +kernel) rfl) <|
  am_kd (fun d => ak_callV (C := RX5) (F := TX5) (N := 7) metX5_blame rfl ⟨rfl, hy_X5_blame⟩ (am_w5 wd_676 wd_678 wd_14 wd_65 wd_679) (by omega) d rfl) <|
  am_kd (fun d => ak_goto d (by decide +kernel)) <|
  am_kd (fun d => ak_aload_n d rfl rfl) <|
  am_kd (fun d => ak_getI (C := RX5) (T := TX5) (N := 7) rfl inX5w (by decide) rfl rfl rfl wd_172 d rfl) <|
  am_kd (fun d => ak_bipush d (by decide +kernel) rfl) <|
  am_kd (fun d => ak_icmp_lt d (by decide +kernel) rfl) <|
  am_kd (fun d => ak_aload_n d rfl rfl) <|
  am_kd (fun d => ak_aload_n d rfl rfl) <|
  am_kd (fun d => ak_getI (C := RX5) (T := TX5) (N := 7) rfl inX5w (by decide) rfl rfl rfl wd_171 d rfl) <|
  am_kd (fun d => ak_iconst d (by decide +kernel) rfl) <|
  am_kd (fun d => ak_callV (C := RX5) (F := TX5) (N := 7) metX5_blame rfl ⟨rfl, hy_X5_blame⟩ (am_w5 wd_676 wd_678 wd_14 wd_65 wd_679) (by omega) d rfl) <|
  am_kd (fun d => ak_goto d (by decide +kernel)) <|
  am_kd (fun d => ak_aload_n d rfl rfl) <|
  am_kd (fun d => ak_dup d rfl) <|
  am_kd (fun d => ak_getI (C := RX5) (T := TX5) (N := 7) rfl inX5w (by decide) rfl rfl rfl wd_171 d rfl) <|
  am_kd (fun d => ak_iconst d (by decide +kernel) rfl) <|
  am_kd (fun d => ak_iadd d rfl) <|
  am_kd (fun d => ak_putI (C := RX5) (T := TX5) (N := 7) rfl inX5w tyX5_ok nmX5 (by decide) rfl rfl rfl rfl (by decide +kernel) wd_171 d rfl) <|
  am_kd (fun d => ak_aload_n d rfl rfl) <|
  am_kd (fun d => ak_dup d rfl) <|
  am_kd (fun d => ak_getI (C := RX5) (T := TX5) (N := 7) rfl inX5w (by decide) rfl rfl rfl wd_172 d rfl) <|
  am_kd (fun d => ak_iconst d (by decide +kernel) rfl) <|
  am_kd (fun d => ak_iadd d rfl) <|
  am_kd (fun d => ak_putI (C := RX5) (T := TX5) (N := 7) rfl inX5w tyX5_ok nmX5 (by decide) rfl rfl rfl rfl (by decide +kernel) wd_172 d rfl) <|
  am_kd (fun d => ak_aload_n d rfl rfl) <|
  am_kd (fun d => ak_iload_n d rfl rfl) <|
  am_kd (fun d => ak_iconst d (by decide +kernel) rfl) <|
  am_kd (fun d => ak_iadd d rfl) <|
  am_kd (fun d => ak_callV (C := RX5) (F := TX5) (N := 7) hV rfl ⟨rfl, hy_X5_readValue⟩ (am_w5 wd_672 wd_674 wd_13 wd_65 wd_675) (by omega) d rfl) <|
  am_kd (fun d => ak_aload_n d rfl rfl) <|
  am_kd (fun d => ak_bipush d (by decide +kernel) rfl) <|
  am_kd (fun d => ak_callV (C := RX5) (F := TX5) (N := 7) metX5_pass rfl ⟨rfl, hy_X5_pass⟩ (am_w5 wd_707 wd_709 wd_21 wd_65 wd_710) (by omega) d rfl) <|
  am_kd (fun d => ak_aload_n d rfl rfl) <|
  am_kd (fun d => ak_dup d rfl) <|
  am_kd (fun d => ak_getI (C := RX5) (T := TX5) (N := 7) rfl inX5w (by decide) rfl rfl rfl wd_172 d rfl) <|
  am_kd (fun d => ak_iconst d (by decide +kernel) rfl) <|
  am_kd (fun d => ak_isub d rfl) <|
  am_kd (fun d => ak_putI (C := RX5) (T := TX5) (N := 7) rfl inX5w tyX5_ok nmX5 (by decide) rfl rfl rfl rfl (by decide +kernel) wd_172 d rfl) <|
  am_kd (fun d => ak_retV d) <| am_kdn
set_option maxRecDepth 100000 in
set_option maxHeartbeats 4000000 in
theorem metX5_readPlain (d : Nat) (hV : am_Met yX5_readValue cX5_readValue 2 none (4 + 8 * d) (200 + 200 * d) (TX5_readValue d)) : am_Met yX5_readPlain cX5_readPlain 3 none ((4 + 8 * d + 1)) ((200 + 200 * d + 25)) (TX5_readPlain d) := by
  refine am_met (own := RX5) (by decide +kernel) rfl (kX5_readPlain d ) (koX5_readPlain d  hV ) 120 (fun _ _ _ _ _ => none) (fun live as M Ret h => ?_) (fun _ _ _ _ _ _ _ _ hI => by cases hI)
  unfold TX5_readPlain at h
  split at h
  · next t e =>
    refine ⟨Nat.le_of_ble_eq_true rfl, ?_⟩
    change am_wp _ _ _ _ [(0, Value.ref t), (1, Value.int e)] _ _
    have hh := am_tP_mp h
    clear h
    obtain ⟨s, c, h2, h6, hb, h1, h3, h7, h4, h8, h9, h5, h10, hT, he1, he2, he3, h⟩ := hh
    repeat' (first | (with_reducible exact hT) | (with_reducible exact h1) | (with_reducible exact h2) | (with_reducible exact h3) | (with_reducible exact hb) | (with_reducible exact h6) | (with_reducible exact h7) | (refine Exists.intro _ (Exists.intro _ (And.intro h2 (And.intro h6 ?_)))) | (refine Exists.intro _ (And.intro h2 ?_)) | (refine Exists.intro _ (And.intro h6 ?_)) | apply And.intro | exact rfl | intro hx | (refine Exists.intro _ (And.intro rfl ?_)) | ((with_reducible change _ = true); simp only [h1, h2, h3, hb, h6, h7, Bool.true_and]; rfl))
    all_goals try first | (with_reducible change am_tI _ _) | (change Ret _ _) | (change Ret _ _ _) | (change Exists _)
    all_goals try dsimp only at *
    all_goals try (with_reducible exact absurd ‹(1000 : Int64) = 0› am_z1000)
    all_goals try simp only [am_wI_self]
    · simp [am_wI_1]; exact am_tI_cd hT
    · exact h _ (am_ch_emit ((am_ch.rf.wI am_tS_3).wI am_tS_3)) (am_tI_emit (am_tI_3p hT ‹am_skip M t s _› (am_sign_lt (am_ne1 hx))) h10)
    · exact am_tI_4 (am_tI_3p hT ‹am_skip M t s _› (am_sign_lt (am_ne2 ‹am_sign M t s _ = 40›)))
    · rw [i_add] <;> simp only [Int32.reduceToInt] <;> omega
    · rw [i_add] <;> simp only [Int32.reduceToInt] <;> omega
    · rw [i_add] <;> simp only [Int32.reduceToInt] <;> omega
    · exact hx
    · exact absurd hx (by decide)
    · rename_i M1 c1 i1 M2 c2
      exact h _ ((((((am_ch.rf.wI am_tS_3).wI am_tS_3).wI am_tS_4).tr c1).tr c2).wI am_tS_4) (am_tI_4 hx)
    · exact h _ (am_ch_blame (am_ch.rf.wI am_tS_3)) (am_tI_blame (am_tI_w3 hT ‹am_skip M t s _›))
    · exact h _ (am_ch_blame (am_ch.rf.wI am_tS_3)) (am_tI_blame (am_tI_w3 hT ‹am_skip M t s _›))
    · exact am_tI_w3 hT ‹am_skip M t s _›
    · rename_i M1 c1
      exact h _ ((am_ch.rf.wI am_tS_3).tr c1) hx
    · exact h _ (am_ch.rf.wI am_tS_3) (am_tI_w3 hT ‹am_skip M t s _›)
  · exact h.elim
theorem hy_X5_passSigns : yX5_passSigns.cls ≠ "java/lang/invoke/MethodHandle" ∧ yX5_passSigns.cls ≠ "java/lang/invoke/VarHandle" ∧ (parseMethodDescriptor yX5_passSigns.desc).map (fun d => d.parameters.length) = some 0 := ⟨by decide +kernel, by decide +kernel, by decide +kernel⟩
set_option maxRecDepth 100000 in
theorem wd_684 : Cond.methodLink "LearnLoans$Text" 63 yX5_passSigns ∈ am_ws := am_wt3 (List.mem_of_getElem? (i := 147) (by rfl)) (by decide +kernel)
set_option maxRecDepth 100000 in
theorem wd_686 : Cond.instanceMethod yX5_passSigns ∈ am_ws := am_wt3 (List.mem_of_getElem? (i := 149) (by rfl)) (by decide +kernel)
set_option maxRecDepth 100000 in
theorem wd_16 : Cond.selects "LearnLoans$Text" yX5_passSigns yX5_passSigns ∈ am_ws := am_wsi (List.mem_of_getElem? (i := 16) (by rfl)) (by decide +kernel)
set_option maxRecDepth 100000 in
theorem wd_687 : Cond.code yX5_passSigns cX5_passSigns 2 (some .int) ∈ am_ws := am_wt3 (List.mem_of_getElem? (i := 150) (by rfl)) (by decide +kernel)
theorem hy_X5_readPlain : yX5_readPlain.cls ≠ "java/lang/invoke/MethodHandle" ∧ yX5_readPlain.cls ≠ "java/lang/invoke/VarHandle" ∧ (parseMethodDescriptor yX5_readPlain.desc).map (fun d => d.parameters.length) = some 1 := ⟨by decide +kernel, by decide +kernel, by decide +kernel⟩
set_option maxRecDepth 100000 in
theorem wd_692 : Cond.methodLink "LearnLoans$Text" 66 yX5_readPlain ∈ am_ws := am_wt3 (List.mem_of_getElem? (i := 155) (by rfl)) (by decide +kernel)
set_option maxRecDepth 100000 in
theorem wd_694 : Cond.instanceMethod yX5_readPlain ∈ am_ws := am_wt3 (List.mem_of_getElem? (i := 157) (by rfl)) (by decide +kernel)
set_option maxRecDepth 100000 in
theorem wd_18 : Cond.selects "LearnLoans$Text" yX5_readPlain yX5_readPlain ∈ am_ws := am_wsi (List.mem_of_getElem? (i := 18) (by rfl)) (by decide +kernel)
set_option maxRecDepth 100000 in
theorem wd_695 : Cond.code yX5_readPlain cX5_readPlain 3 none ∈ am_ws := am_wt3 (List.mem_of_getElem? (i := 158) (by rfl)) (by decide +kernel)
theorem hy_X5_emitSigns : yX5_emitSigns.cls ≠ "java/lang/invoke/MethodHandle" ∧ yX5_emitSigns.cls ≠ "java/lang/invoke/VarHandle" ∧ (parseMethodDescriptor yX5_emitSigns.desc).map (fun d => d.parameters.length) = some 2 := ⟨by decide +kernel, by decide +kernel, by decide +kernel⟩
set_option maxRecDepth 100000 in
theorem wd_711 : Cond.methodLink "LearnLoans$Text" 69 yX5_emitSigns ∈ am_ws := am_wt3 (List.mem_of_getElem? (i := 174) (by rfl)) (by decide +kernel)
set_option maxRecDepth 100000 in
theorem wd_713 : Cond.instanceMethod yX5_emitSigns ∈ am_ws := am_wt3 (List.mem_of_getElem? (i := 176) (by rfl)) (by decide +kernel)
set_option maxRecDepth 100000 in
theorem wd_22 : Cond.selects "LearnLoans$Text" yX5_emitSigns yX5_emitSigns ∈ am_ws := am_wsi (List.mem_of_getElem? (i := 22) (by rfl)) (by decide +kernel)
set_option maxRecDepth 100000 in
theorem wd_714 : Cond.code yX5_emitSigns cX5_emitSigns 4 none ∈ am_ws := am_wt3 (List.mem_of_getElem? (i := 177) (by rfl)) (by decide +kernel)
theorem hy_X5_readChain : yX5_readChain.cls ≠ "java/lang/invoke/MethodHandle" ∧ yX5_readChain.cls ≠ "java/lang/invoke/VarHandle" ∧ (parseMethodDescriptor yX5_readChain.desc).map (fun d => d.parameters.length) = some 2 := ⟨by decide +kernel, by decide +kernel, by decide +kernel⟩
set_option maxRecDepth 100000 in
theorem wd_680 : Cond.methodLink "LearnLoans$Text" 54 yX5_readChain ∈ am_ws := am_wt3 (List.mem_of_getElem? (i := 143) (by rfl)) (by decide +kernel)
set_option maxRecDepth 100000 in
theorem wd_682 : Cond.instanceMethod yX5_readChain ∈ am_ws := am_wt3 (List.mem_of_getElem? (i := 145) (by rfl)) (by decide +kernel)
set_option maxRecDepth 100000 in
theorem wd_15 : Cond.selects "LearnLoans$Text" yX5_readChain yX5_readChain ∈ am_ws := am_wsi (List.mem_of_getElem? (i := 15) (by rfl)) (by decide +kernel)
set_option maxRecDepth 100000 in
theorem wd_683 : Cond.code yX5_readChain cX5_readChain 6 none ∈ am_ws := am_wt3 (List.mem_of_getElem? (i := 146) (by rfl)) (by decide +kernel)
theorem hy_X5_levelOf : yX5_levelOf.cls ≠ "java/lang/invoke/MethodHandle" ∧ yX5_levelOf.cls ≠ "java/lang/invoke/VarHandle" ∧ (parseMethodDescriptor yX5_levelOf.desc).map (fun d => d.parameters.length) = some 1 := ⟨by decide +kernel, by decide +kernel, by decide +kernel⟩
set_option maxRecDepth 100000 in
theorem wd_715 : Cond.methodLink "LearnLoans$Text" 72 yX5_levelOf ∈ am_ws := am_wt3 (List.mem_of_getElem? (i := 178) (by rfl)) (by decide +kernel)
set_option maxRecDepth 100000 in
theorem wd_716 : Cond.static yX5_levelOf ∈ am_ws := am_wt3 (List.mem_of_getElem? (i := 179) (by rfl)) (by decide +kernel)
set_option maxRecDepth 100000 in
theorem wd_717 : Cond.code yX5_levelOf cX5_levelOf 1 (some .int) ∈ am_ws := am_wt3 (List.mem_of_getElem? (i := 180) (by rfl)) (by decide +kernel)
def rwX5_readChain : List dz_r := [(0, .iload_n 1, 1), (1, .iconst 5, 1), (2, .if_icmp .lt 27, 3), (5, .aload_n 0, 1), (6, .getfield 28, 3), (9, .istore_n 3, 1), (10, .aload_n 0, 1), (11, .invokevirtual 63, 3), (14, .istore 4, 2), (16, .aload_n 0, 1), (17, .iload_n 2, 1), (18, .invokevirtual 66, 3), (21, .aload_n 0, 1), (22, .iload_n 3, 1), (23, .iload 4, 2), (25, .invokevirtual 69, 3), (28, .return_, 1), (29, .aload_n 0, 1), (30, .iload_n 1, 1), (31, .iconst 1, 1), (32, .iadd, 1), (33, .iload_n 2, 1), (34, .invokevirtual 54, 3), (37, .iload_n 1, 1), (38, .iconst 2, 1), (39, .if_icmp .ne 7, 3), (42, .iconst 1, 1), (43, .goto 5, 3), (46, .bipush 50, 2), (48, .istore_n 3, 1), (49, .iconst 0, 1), (50, .istore 4, 2), (52, .iload 4, 2), (54, .iload_n 3, 1), (55, .if_icmp .ge 64, 3), (58, .aload_n 0, 1), (59, .getfield 18, 3), (62, .iconst (-1), 1), (63, .if_icmp .ne 56, 3), (66, .aload_n 0, 1), (67, .invokevirtual 38, 3), (70, .invokestatic 72, 3), (73, .iload_n 1, 1), (74, .if_icmp .ne 45, 3), (77, .aload_n 0, 1), (78, .getfield 9, 3), (81, .aload_n 0, 1), (82, .getfield 28, 3), (85, .iaload, 1), (86, .istore 5, 2), (88, .aload_n 0, 1), (89, .dup, 1), (90, .getfield 28, 3), (93, .iconst 1, 1), (94, .iadd, 1), (95, .putfield 28, 3), (98, .aload_n 0, 1), (99, .iload_n 1, 1), (100, .iconst 1, 1), (101, .iadd, 1), (102, .iload_n 2, 1), (103, .invokevirtual 54, 3), (106, .aload_n 0, 1), (107, .iload 5, 2), (109, .ineg, 1), (110, .invokevirtual 60, 3), (113, .iinc 4 1, 3), (116, .goto (-64), 3), (119, .return_, 1)]
theorem dzX5_readChain : dz cX5_readChain rwX5_readChain := dz_all 0 (by decide +kernel)
def kX5_readChain (d n rc lc : Nat) (Tc : am_T) (live : am_E) (Ret : am_R) : am_code := [(0, am_iload 1 1), (1, am_const (.int 5) 2), (2, am_if2 (fun x y => x < y) 29 5), (5, am_aload 0 6), (6, am_getI live 5 3 9), (9, am_istore 3 6 10), (10, am_aload 0 11), (11, am_callV live 5 0 TX5_passSigns 14), (14, am_istore 4 6 16), (16, am_aload 0 17), (17, am_iload 2 18), (18, am_callV live 5 1 (TX5_readPlain d) 21), (21, am_aload 0 22), (22, am_iload 3 23), (23, am_iload 4 25), (25, am_callV live 5 2 TX5_emitSigns 28), (28, am_retV Ret), (29, am_aload 0 30), (30, am_iload 1 31), (31, am_const (.int 1) 32), (32, am_i2 (fun x y => x + y) 33), (33, am_iload 2 34), (34, am_callV live 5 2 Tc 37), (37, am_iload 1 38), (38, am_const (.int 2) 39), (39, am_if2 (fun x y => x = y) 42 46), (42, am_const (.int 1) 43), (43, am_goto 48), (46, am_const (.int 50) 48), (48, am_istore 3 6 49), (49, am_const (.int 0) 50), (50, am_istore 4 6 52), (52, am_iload 4 54), (54, am_iload 3 55), (55, am_if2 (fun x y => y ≤ x) 119 58), (58, am_aload 0 59), (59, am_getI live 5 6 62), (62, am_const (.int (-1)) 63), (63, am_if2 (fun x y => x = y) 66 119), (66, am_aload 0 67), (67, am_callV live 5 0 TX5_next 70), (70, am_callS live 1 TX5_levelOf 73), (73, am_iload 1 74), (74, am_if2 (fun x y => x = y) 77 119), (77, am_aload 0 78), (78, am_getR live 5 0 81), (81, am_aload 0 82), (82, am_getI live 5 3 85), (85, am_ald live 0 86), (86, am_istore 5 6 88), (88, am_aload 0 89), (89, am_dup 90), (90, am_getI live 5 3 93), (93, am_const (.int 1) 94), (94, am_i2 (fun x y => x + y) 95), (95, am_putI live 5 3 98), (98, am_aload 0 99), (99, am_iload 1 100), (100, am_const (.int 1) 101), (101, am_i2 (fun x y => x + y) 102), (102, am_iload 2 103), (103, am_callV live 5 2 Tc 106), (106, am_aload 0 107), (107, am_iload 5 109), (109, am_i1 (fun x => -x) 110), (110, am_callV live 5 1 TX5_emit 113), (113, am_iinc 4 6 1 116), (116, am_goto 52), (119, am_retV Ret)]
theorem koX5_readChain (d n rc lc : Nat) (Tc : am_T) (hP : am_Met yX5_readPlain cX5_readPlain 3 none (4 + 8 * d + 1) (200 + 200 * d + 25) (TX5_readPlain d)) (hC : am_Met yX5_readChain cX5_readChain 6 none rc lc Tc) (hrc : rc + 1 ≤ 4 + 8 * d + 2 + n ∧ lc + 25 ≤ 200 + 200 * d + 50 + 25 * n) (live : am_E) (Ret : am_R) : ∀ q ∈ kX5_readChain d n rc lc Tc live Ret, am_ok RX5 cX5_readChain 6 none (4 + 8 * d + 2 + n) (200 + 200 * d + 50 + 25 * n) live Ret q.1 q.2 :=
  am_kz dzX5_readChain <|
  am_kd (fun d => ak_iload_n d rfl rfl) <|
  am_kd (fun d => ak_iconst d (by decide +kernel) rfl) <|
  am_kd (fun d => ak_icmp_lt d (by decide +kernel) rfl) <|
  am_kd (fun d => ak_aload_n d rfl rfl) <|
  am_kd (fun d => ak_getI (C := RX5) (T := TX5) (N := 7) rfl inX5w (by decide) rfl rfl rfl wd_171 d rfl) <|
  am_kd (fun d => ak_istore_n d rfl rfl) <|
  am_kd (fun d => ak_aload_n d rfl rfl) <|
  am_kd (fun d => ak_callV (C := RX5) (F := TX5) (N := 7) metX5_passSigns rfl ⟨rfl, hy_X5_passSigns⟩ (am_w5 wd_684 wd_686 wd_16 wd_65 wd_687) (by omega) d rfl) <|
  am_kd (fun d => ak_istore d rfl) <|
  am_kd (fun d => ak_aload_n d rfl rfl) <|
  am_kd (fun d => ak_iload_n d rfl rfl) <|
  am_kd (fun d => ak_callV (C := RX5) (F := TX5) (N := 7) hP rfl ⟨rfl, hy_X5_readPlain⟩ (am_w5 wd_692 wd_694 wd_18 wd_65 wd_695) (by omega) d rfl) <|
  am_kd (fun d => ak_aload_n d rfl rfl) <|
  am_kd (fun d => ak_iload_n d rfl rfl) <|
  am_kd (fun d => ak_iload d rfl) <|
  am_kd (fun d => ak_callV (C := RX5) (F := TX5) (N := 7) metX5_emitSigns rfl ⟨rfl, hy_X5_emitSigns⟩ (am_w5 wd_711 wd_713 wd_22 wd_65 wd_714) (by omega) d rfl) <|
  am_kd (fun d => ak_retV d) <|
  am_kd (fun d => ak_aload_n d rfl rfl) <|
  am_kd (fun d => ak_iload_n d rfl rfl) <|
  am_kd (fun d => ak_iconst d (by decide +kernel) rfl) <|
  am_kd (fun d => ak_iadd d rfl) <|
  am_kd (fun d => ak_iload_n d rfl rfl) <|
  am_kd (fun d => ak_callV (C := RX5) (F := TX5) (N := 7) hC rfl ⟨rfl, hy_X5_readChain⟩ (am_w5 wd_680 wd_682 wd_15 wd_65 wd_683) (by omega) d rfl) <|
  am_kd (fun d => ak_iload_n d rfl rfl) <|
  am_kd (fun d => ak_iconst d (by decide +kernel) rfl) <|
  am_kd (fun d => ak_icmp_ne d (by decide +kernel) rfl) <|
  am_kd (fun d => ak_iconst d (by decide +kernel) rfl) <|
  am_kd (fun d => ak_goto d (by decide +kernel)) <|
  am_kd (fun d => ak_bipush d (by decide +kernel) rfl) <|
  am_kd (fun d => ak_istore_n d rfl rfl) <|
  am_kd (fun d => ak_iconst d (by decide +kernel) rfl) <|
  am_kd (fun d => ak_istore d rfl) <|
  am_kd (fun d => ak_iload d rfl) <|
  am_kd (fun d => ak_iload_n d rfl rfl) <|
  am_kd (fun d => ak_icmp_ge d (by decide +kernel) rfl) <|
  am_kd (fun d => ak_aload_n d rfl rfl) <|
  am_kd (fun d => ak_getI (C := RX5) (T := TX5) (N := 7) rfl inX5w (by decide) rfl rfl rfl wd_175 d rfl) <|
  am_kd (fun d => ak_iconst d (by decide +kernel) rfl) <|
  am_kd (fun d => ak_icmp_ne d (by decide +kernel) rfl) <|
  am_kd (fun d => ak_aload_n d rfl rfl) <|
  am_kd (fun d => ak_callV (C := RX5) (F := TX5) (N := 7) metX5_next rfl ⟨rfl, hy_X5_next⟩ (am_w5 wd_688 wd_690 wd_17 wd_65 wd_691) (by omega) d rfl) <|
  am_kd (fun d => ak_callS metX5_levelOf ⟨rfl, hy_X5_levelOf⟩ (am_w4 wd_715 wd_716 wd_65 wd_717) (by omega) d rfl) <|
  am_kd (fun d => ak_iload_n d rfl rfl) <|
  am_kd (fun d => ak_icmp_ne d (by decide +kernel) rfl) <|
  am_kd (fun d => ak_aload_n d rfl rfl) <|
  am_kd (fun d => ak_getR (C := RX5) (T := TX5) (N := 7) rfl inX5w (by decide) rfl rfl rfl wd_168 d rfl) <|
  am_kd (fun d => ak_aload_n d rfl rfl) <|
  am_kd (fun d => ak_getI (C := RX5) (T := TX5) (N := 7) rfl inX5w (by decide) rfl rfl rfl wd_171 d rfl) <|
  am_kd (fun d => ak_iald (t := 0) (fun _ => rfl) rfl d rfl) <|
  am_kd (fun d => ak_istore d rfl) <|
  am_kd (fun d => ak_aload_n d rfl rfl) <|
  am_kd (fun d => ak_dup d rfl) <|
  am_kd (fun d => ak_getI (C := RX5) (T := TX5) (N := 7) rfl inX5w (by decide) rfl rfl rfl wd_171 d rfl) <|
  am_kd (fun d => ak_iconst d (by decide +kernel) rfl) <|
  am_kd (fun d => ak_iadd d rfl) <|
  am_kd (fun d => ak_putI (C := RX5) (T := TX5) (N := 7) rfl inX5w tyX5_ok nmX5 (by decide) rfl rfl rfl rfl (by decide +kernel) wd_171 d rfl) <|
  am_kd (fun d => ak_aload_n d rfl rfl) <|
  am_kd (fun d => ak_iload_n d rfl rfl) <|
  am_kd (fun d => ak_iconst d (by decide +kernel) rfl) <|
  am_kd (fun d => ak_iadd d rfl) <|
  am_kd (fun d => ak_iload_n d rfl rfl) <|
  am_kd (fun d => ak_callV (C := RX5) (F := TX5) (N := 7) hC rfl ⟨rfl, hy_X5_readChain⟩ (am_w5 wd_680 wd_682 wd_15 wd_65 wd_683) (by omega) d rfl) <|
  am_kd (fun d => ak_aload_n d rfl rfl) <|
  am_kd (fun d => ak_iload d rfl) <|
  am_kd (fun d => ak_ineg d rfl) <|
  am_kd (fun d => ak_callV (C := RX5) (F := TX5) (N := 7) metX5_emit rfl ⟨rfl, hy_X5_emit⟩ (am_w5 wd_703 wd_705 wd_20 wd_65 wd_706) (by omega) d rfl) <|
  am_kd (fun d => ak_iinc d (by decide +kernel) rfl) <|
  am_kd (fun d => ak_goto d (by decide +kernel)) <|
  am_kd (fun d => ak_retV d) <| am_kdn
def JX5_readChain : am_E → List Value → am_M → am_R → am_inv := fun live as M0 _ pc => match as with
  | [.ref t, .int l, .int e] => (match pc with
    | 52 => some ([0, 1, 2, 3, 4], fun k L st M => ∃ x i : Int32, L = [(0, .ref t), (1, .int l), (2, .int e), (3, .int x), (4, .int i)] ∧ st = [] ∧ k = ((51 - i.toInt).toNat, 0) ∧ x.toInt ≤ 50 ∧ 0 ≤ i.toInt ∧ l.toInt < 5 ∧ am_ch (am_tS t ((live.2 t 1).getD 0)) M0 M ∧ am_tI M t)
    | _ => none)
  | _ => none
theorem am_level_lt {x l : Int32} (h : am_level x = l) (hl : l.toInt < 5) : ¬ x = -1 := fun e => by
  rw [e] at h
  rw [← h] at hl
  exact absurd hl (by decide)
set_option maxRecDepth 100000 in
set_option maxHeartbeats 4000000 in
theorem metX5_readChainG (d n rc lc : Nat) (Tc : am_T) (hP : am_Met yX5_readPlain cX5_readPlain 3 none (4 + 8 * d + 1) (200 + 200 * d + 25) (TX5_readPlain d)) (hC : am_Met yX5_readChain cX5_readChain 6 none rc lc Tc) (hrc : rc + 1 ≤ 4 + 8 * d + 2 + n ∧ lc + 25 ≤ 200 + 200 * d + 50 + 25 * n)
    (hT0 : ∀ (live : am_E) (t s c : Nat) (l e : Int32) (M : am_M) (R : am_R), live.2 t 0 = some s → live.2 t 1 = some c → am_tc live t s c = true → am_tI M t → 0 ≤ l.toInt → l.toInt < 5 → 5 ≤ l.toInt + (n : Int) → 0 ≤ e.toInt → e.toInt ≤ 40 → 40 ≤ e.toInt + (d : Int) → (∀ M', am_ch (am_tS t c) M M' → am_tI M' t → R none M') → Tc live [.ref t, .int (l + 1), .int e] M R) :
    am_Met yX5_readChain cX5_readChain 6 none (4 + 8 * d + 2 + n) (200 + 200 * d + 50 + 25 * n) (TX5_readChain d n) := by
  refine am_met (own := RX5) (by decide +kernel) rfl (kX5_readChain d n rc lc Tc) (koX5_readChain d n rc lc Tc hP hC hrc) 120 JX5_readChain ?_ ?_
  · intro live as M Ret h
    unfold TX5_readChain at h
    split at h
    · next t l e =>
      refine ⟨Nat.le_of_ble_eq_true rfl, ?_⟩
      change am_wp _ _ _ _ [(0, Value.ref t), (1, Value.int l), (2, Value.int e)] _ _
      have hh := am_tP_mp h
      clear h
      obtain ⟨s, c, h2, h6, hb, h1, h3, h7, h4, h8, h9, h5, h10, hT, hl, he1, he2, he3, h⟩ := hh
      repeat' (first | (with_reducible exact hT) | (with_reducible exact h1) | (with_reducible exact h2) | (with_reducible exact h3) | (with_reducible exact hb) | (with_reducible exact h6) | (with_reducible exact h7) | (refine Exists.intro _ (Exists.intro _ (And.intro h2 (And.intro h6 ?_)))) | (refine Exists.intro _ (And.intro h2 ?_)) | (refine Exists.intro _ (And.intro h6 ?_)) | apply And.intro | exact rfl | intro hx | (refine Exists.intro _ (And.intro rfl ?_)) | (refine hT0 _ _ s c _ _ _ _ h2 h6 hb ?_ ?_ ?_ ?_ ?_ ?_ ?_ (fun M' c' i' => ?_)) | ((with_reducible change _ = true); simp only [h1, h2, h3, hb, h6, h7, Bool.true_and]; rfl))
      all_goals try first | (with_reducible change am_tI _ _) | (change Ret _ _) | (change Ret _ _ _) | (change Exists _)
      all_goals try dsimp only at *
      all_goals try (with_reducible exact absurd ‹(1000 : Int64) = 0› am_z1000)
      all_goals obtain ⟨hl1, hl2, hl3⟩ := hl
      all_goals first
        | (simp only [i_le, i_lt, Int32.reduceToInt] at *; omega)
        | assumption
        | exact (am_tI_pl (by assumption)).1
        | skip
      · rename_i hq
        rw [h6]
        exact ⟨_, _, _, rfl, rfl, rfl, by decide, by decide, by simp only [i_le, i_lt, Int32.reduceToInt] at *; omega, c', i'⟩
      · rename_i hq
        rw [h6]
        exact ⟨_, _, _, rfl, rfl, rfl, by decide, by decide, by simp only [i_le, i_lt, Int32.reduceToInt] at *; omega, c', i'⟩
      · rename_i M1 c1 i1 M2 c2 i2 M3 c3 i3
        exact h _ ((c1.tr c2).tr c3) i3
    · exact h.elim
  · intro live as M0 Ret h k pc I hI L st M hi
    unfold TX5_readChain at h
    split at h
    · next t l e =>
      have hh := am_tP_mp h
      clear h
      obtain ⟨s, c, h2, h6, hb, h1, h3, h7, h4, h8, h9, h5, h10, hT, hl, he1, he2, he3, h⟩ := hh
      obtain ⟨hl1, hl2, hl3⟩ := hl
      change (match pc with | 52 => _ | _ => none) = _ at hI
      split at hI
      · cases hI
        obtain ⟨x, i, rfl, rfl, rfl, e0, e3, e4, e1, e2⟩ := hi
        have f1 := e1
        rw [h6] at f1
        repeat' (first | (with_reducible exact e2) | (with_reducible exact h1) | (with_reducible exact h2) | (with_reducible exact h3) | (with_reducible exact hb) | (with_reducible exact h6) | (with_reducible exact h7) | (refine Exists.intro _ (Exists.intro _ (And.intro h2 (And.intro h6 ?_)))) | (refine Exists.intro _ (And.intro h2 ?_)) | (refine Exists.intro _ (And.intro h6 ?_)) | apply And.intro | exact rfl | intro hx | (refine Exists.intro _ (And.intro rfl ?_)) | (refine hT0 _ _ s c _ _ _ _ h2 h6 hb ?_ ?_ ?_ ?_ ?_ ?_ ?_ (fun M' c' i' => ?_)) | ((with_reducible change _ = true); simp only [h1, h2, h3, hb, h6, h7, Bool.true_and]; rfl))
        all_goals try first | (with_reducible change am_tI _ _) | (change Ret _ _) | (change Ret _ _ _) | (change Exists _)
        all_goals try dsimp only at *
        all_goals try (with_reducible exact absurd ‹(1000 : Int64) = 0› am_z1000)
        all_goals try simp only [am_wI_self]
        · exact h _ f1 e2
        · have q1 := (am_tI_pl e2).1
          have q2 := (‹am_skip M t s _›).1
          omega
        · have q1 := am_sign_lt (am_level_lt ‹am_level (am_sign M t s _) = l› e4)
          have q2 := (am_tI_pl e2).2.2
          rw [h4]
          omega
        · exact am_tI_3p e2 ‹am_skip M t s _› (am_sign_lt (am_level_lt ‹am_level (am_sign M t s _) = l› e4))
        · omega
        · omega
        · omega
        · omega
        · omega
        · omega
        · exact am_tI_cd i'
        · rw [h6]
          refine ⟨_, Or.inl ?_, x, i + 1, rfl, rfl, rfl, e0, ?_, e4, am_ch_emit (((f1.wI am_tS_3).wI am_tS_3).tr c'), am_tI_emit i' h10⟩
          all_goals simp only [i_le, i_lt] at *
          all_goals
            have hi := i_add (x := i) (y := 1) (by simp only [Int32.reduceToInt]; omega) (by simp only [Int32.reduceToInt]; omega)
            simp only [Int32.reduceToInt] at hi
            omega
        · exact h _ (f1.wI am_tS_3) (am_tI_w3 e2 ‹am_skip M t s _›)
        · exact h _ f1 e2
      · cases hI
    · exact h.elim
theorem am_tP_in {live : am_E} {t s c : Nat} {P : Nat → Nat → Prop} (h1 : live.2 t 0 = some s) (h2 : live.2 t 1 = some c) (h3 : am_tc live t s c = true) (h : P s c) : am_tP live t P := by
  exact ⟨s, c, h1, h2, h3, h⟩
theorem am_MetF (y : MethodName) (cc : ByteArray) (nL : Nat) (rt : Option FieldType) (rf rl : Nat) : am_Met y cc nL rt rf rl (fun _ _ _ _ => False) := fun _ _ _ _ _ _ _ _ _ h => h.elim
theorem metX5_readChain (d : Nat) (hP : am_Met yX5_readPlain cX5_readPlain 3 none (4 + 8 * d + 1) (200 + 200 * d + 25) (TX5_readPlain d)) : ∀ n : Nat, am_Met yX5_readChain cX5_readChain 6 none (4 + 8 * d + 2 + n) (200 + 200 * d + 50 + 25 * n) (TX5_readChain d n)
  | 0 => metX5_readChainG d 0 0 0 _ hP (am_MetF _ _ _ _ _ _) (by omega) (fun live t s c l e M R _ _ _ _ _ h1 h2 _ _ _ _ => by exfalso; omega)
  | n + 1 => metX5_readChainG d (n + 1) (4 + 8 * d + 2 + n) (200 + 200 * d + 50 + 25 * n) _ hP (metX5_readChain d hP n) (by omega) (fun live t s c l e M R a1 a2 a3 a4 a5 a6 a7 a8 a9 a10 hh => by
      have hi := i_add (x := l) (y := 1) (by simp only [Int32.reduceToInt]; omega) (by simp only [Int32.reduceToInt]; omega)
      simp only [Int32.reduceToInt] at hi
      exact am_tP_in a1 a2 a3 ⟨a4, ⟨by omega, by omega, by omega⟩, a8, a9, a10, hh⟩)
