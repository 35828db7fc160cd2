/-! Text: the small methods -/
def rwX5_isDigit : List dz_r := [(0, .iload_n 0, 1), (1, .bipush 48, 2), (3, .if_icmp .lt 13, 3), (6, .iload_n 0, 1), (7, .bipush 57, 2), (9, .if_icmp .gt 7, 3), (12, .iconst 1, 1), (13, .goto 4, 3), (16, .iconst 0, 1), (17, .ireturn, 1)]
theorem dzX5_isDigit : dz cX5_isDigit rwX5_isDigit := dz_all 0 (by decide +kernel)
def kX5_isDigit (live : am_E) (Ret : am_R) : am_code := [(0, am_iload 0 1), (1, am_const (.int 48) 3), (3, am_if2 (fun x y => x < y) 16 6), (6, am_iload 0 7), (7, am_const (.int 57) 9), (9, am_if2 (fun x y => y < x) 16 12), (12, am_const (.int 1) 13), (13, am_goto 17), (16, am_const (.int 0) 17), (17, am_retZ Ret)]
theorem koX5_isDigit (live : am_E) (Ret : am_R) : ∀ q ∈ kX5_isDigit live Ret, am_ok RX5 cX5_isDigit 1 (some .boolean) 0 0 live Ret q.1 q.2 :=
  am_kz dzX5_isDigit <|
  am_kd (fun d => ak_iload_n d rfl rfl) <|
  am_kd (fun d => ak_bipush d (by decide +kernel) rfl) <|
  am_kd (fun d => ak_icmp_lt d (by decide +kernel) rfl) <|
  am_kd (fun d => ak_iload_n d rfl rfl) <|
  am_kd (fun d => ak_bipush d (by decide +kernel) rfl) <|
  am_kd (fun d => ak_icmp_gt d (by decide +kernel) rfl) <|
  am_kd (fun d => ak_iconst d (by decide +kernel) rfl) <|
  am_kd (fun d => ak_goto d (by decide +kernel)) <|
  am_kd (fun d => ak_iconst d (by decide +kernel) rfl) <|
  am_kd (fun d => ak_retZ d) <| am_kdn
def TX5_isDigit : am_T := fun live as M R => match as with
  | [.int v] => R (some (.int (if 48 ≤ v ∧ v ≤ 57 then 1 else 0))) M
  | _ => False
set_option maxRecDepth 100000 in
set_option maxHeartbeats 4000000 in
theorem metX5_isDigit : am_Met yX5_isDigit cX5_isDigit 1 (some .boolean) (0) (0) TX5_isDigit := by
  refine am_met (own := RX5) (by decide +kernel) rfl kX5_isDigit koX5_isDigit 60 (fun _ _ _ _ _ => none) (fun live as M Ret h => ?_) (fun _ _ _ _ _ _ _ _ hI => by cases hI)
  unfold TX5_isDigit at h
  split at h
  · next v =>
    refine ⟨Nat.le_of_ble_eq_true rfl, ?_⟩
    change am_wp _ _ _ _ [(0, Value.int v)] _ _
    repeat' (first | apply And.intro | exact rfl | intro hx | (refine Exists.intro _ (And.intro rfl ?_)))
    all_goals try first | (with_reducible change am_tI _ _) | (change Ret _ _) | (change Ret _ _ _) | (change Exists _)
    all_goals try dsimp only at *
    all_goals try (with_reducible exact absurd ‹(1000 : Int64) = 0› am_z1000)
    all_goals first | (left; rfl) | (right; rfl) | grind
  · exact h.elim
theorem dX5_levelOf_0 : decode cX5_levelOf 0 = .ok (.iload_n 0, 1) := by decide +kernel
theorem dX5_levelOf_1 : decode cX5_levelOf 1 = .ok (.lookupswitch 93 #[(38, 85), (42, 91), (43, 89), (45, 89), (47, 91), (60, 87), (61, 87), (62, 87), (124, 83)], 83) := by decide +kernel
theorem dX5_levelOf_84 : decode cX5_levelOf 84 = .ok (.iconst 0, 1) := by decide +kernel
theorem dX5_levelOf_85 : decode cX5_levelOf 85 = .ok (.ireturn, 1) := by decide +kernel
theorem dX5_levelOf_86 : decode cX5_levelOf 86 = .ok (.iconst 1, 1) := by decide +kernel
theorem dX5_levelOf_87 : decode cX5_levelOf 87 = .ok (.ireturn, 1) := by decide +kernel
theorem dX5_levelOf_88 : decode cX5_levelOf 88 = .ok (.iconst 2, 1) := by decide +kernel
theorem dX5_levelOf_89 : decode cX5_levelOf 89 = .ok (.ireturn, 1) := by decide +kernel
theorem dX5_levelOf_90 : decode cX5_levelOf 90 = .ok (.iconst 3, 1) := by decide +kernel
theorem dX5_levelOf_91 : decode cX5_levelOf 91 = .ok (.ireturn, 1) := by decide +kernel
theorem dX5_levelOf_92 : decode cX5_levelOf 92 = .ok (.iconst 4, 1) := by decide +kernel
theorem dX5_levelOf_93 : decode cX5_levelOf 93 = .ok (.ireturn, 1) := by decide +kernel
theorem dX5_levelOf_94 : decode cX5_levelOf 94 = .ok (.iconst 5, 1) := by decide +kernel
theorem dX5_levelOf_95 : decode cX5_levelOf 95 = .ok (.ireturn, 1) := by decide +kernel
def kX5_levelOf (live : am_E) (Ret : am_R) : am_code := [(0, am_iload 0 1), (1, am_switch [(38, 86), (42, 92), (43, 90), (45, 90), (47, 92), (60, 88), (61, 88), (62, 88), (124, 84)] 94), (84, am_const (.int 0) 85), (85, am_retI Ret), (86, am_const (.int 1) 87), (87, am_retI Ret), (88, am_const (.int 2) 89), (89, am_retI Ret), (90, am_const (.int 3) 91), (91, am_retI Ret), (92, am_const (.int 4) 93), (93, am_retI Ret), (94, am_const (.int 5) 95), (95, am_retI Ret)]
theorem koX5_levelOf (live : am_E) (Ret : am_R) : ∀ q ∈ kX5_levelOf live Ret, am_ok RX5 cX5_levelOf 1 (some .int) 0 0 live Ret q.1 q.2 :=
  am_kc (ak_iload_n dX5_levelOf_0 rfl rfl) <|
  am_kc (ak_lswitch dX5_levelOf_1 (by decide +kernel) (by decide +kernel) (by decide +kernel)) <|
  am_kc (ak_iconst dX5_levelOf_84 (by decide +kernel) rfl) <|
  am_kc (ak_retI dX5_levelOf_85) <|
  am_kc (ak_iconst dX5_levelOf_86 (by decide +kernel) rfl) <|
  am_kc (ak_retI dX5_levelOf_87) <|
  am_kc (ak_iconst dX5_levelOf_88 (by decide +kernel) rfl) <|
  am_kc (ak_retI dX5_levelOf_89) <|
  am_kc (ak_iconst dX5_levelOf_90 (by decide +kernel) rfl) <|
  am_kc (ak_retI dX5_levelOf_91) <|
  am_kc (ak_iconst dX5_levelOf_92 (by decide +kernel) rfl) <|
  am_kc (ak_retI dX5_levelOf_93) <|
  am_kc (ak_iconst dX5_levelOf_94 (by decide +kernel) rfl) <|
  am_kc (ak_retI dX5_levelOf_95) <| am_kn
def am_level (s : Int32) : Int32 := if s = 124 then 0 else if s = 38 then 1 else if s = 60 ∨ s = 61 ∨ s = 62 then 2 else if s = 43 ∨ s = 45 then 3 else if s = 42 ∨ s = 47 then 4 else 5
def TX5_levelOf : am_T := fun live as M R => match as with
  | [.int s] => R (some (.int (am_level s))) M
  | _ => False
set_option maxRecDepth 100000 in
set_option maxHeartbeats 4000000 in
theorem metX5_levelOf : am_Met yX5_levelOf cX5_levelOf 1 (some .int) (0) (0) TX5_levelOf := by
  refine am_met (own := RX5) (by decide +kernel) rfl kX5_levelOf koX5_levelOf 60 (fun _ _ _ _ _ => none) (fun live as M Ret h => ?_) (fun _ _ _ _ _ _ _ _ hI => by cases hI)
  unfold TX5_levelOf at h
  split at h
  · next s =>
    refine ⟨Nat.le_of_ble_eq_true rfl, ?_⟩
    change am_wp _ _ _ _ [(0, Value.int s)] _ _
    repeat' (first | apply And.intro | exact rfl | intro hx | (refine Exists.intro _ (And.intro rfl ?_)))
    all_goals try first | (with_reducible change am_tI _ _) | (change Ret _ _) | (change Ret _ _ _) | (change Exists _)
    all_goals try dsimp only at *
    all_goals try (with_reducible exact absurd ‹(1000 : Int64) = 0› am_z1000)
    all_goals grind [am_level]
  · exact h.elim
theorem dX5_operands_0 : decode cX5_operands 0 = .ok (.iload_n 0, 1) := by decide +kernel
theorem dX5_operands_1 : decode cX5_operands 1 = .ok (.lookupswitch 97 #[(33, 93), (63, 95), (97, 91), (101, 91), (108, 91), (111, 91), (112, 91), (114, 91), (121, 91), (126, 93)], 91) := by decide +kernel
theorem dX5_operands_92 : decode cX5_operands 92 = .ok (.iconst 0, 1) := by decide +kernel
theorem dX5_operands_93 : decode cX5_operands 93 = .ok (.ireturn, 1) := by decide +kernel
theorem dX5_operands_94 : decode cX5_operands 94 = .ok (.iconst 1, 1) := by decide +kernel
theorem dX5_operands_95 : decode cX5_operands 95 = .ok (.ireturn, 1) := by decide +kernel
theorem dX5_operands_96 : decode cX5_operands 96 = .ok (.iconst 3, 1) := by decide +kernel
theorem dX5_operands_97 : decode cX5_operands 97 = .ok (.ireturn, 1) := by decide +kernel
theorem dX5_operands_98 : decode cX5_operands 98 = .ok (.iconst 2, 1) := by decide +kernel
theorem dX5_operands_99 : decode cX5_operands 99 = .ok (.ireturn, 1) := by decide +kernel
def kX5_operands (live : am_E) (Ret : am_R) : am_code := [(0, am_iload 0 1), (1, am_switch [(33, 94), (63, 96), (97, 92), (101, 92), (108, 92), (111, 92), (112, 92), (114, 92), (121, 92), (126, 94)] 98), (92, am_const (.int 0) 93), (93, am_retI Ret), (94, am_const (.int 1) 95), (95, am_retI Ret), (96, am_const (.int 3) 97), (97, am_retI Ret), (98, am_const (.int 2) 99), (99, am_retI Ret)]
theorem koX5_operands (live : am_E) (Ret : am_R) : ∀ q ∈ kX5_operands live Ret, am_ok RX5 cX5_operands 1 (some .int) 0 0 live Ret q.1 q.2 :=
  am_kc (ak_iload_n dX5_operands_0 rfl rfl) <|
  am_kc (ak_lswitch dX5_operands_1 (by decide +kernel) (by decide +kernel) (by decide +kernel)) <|
  am_kc (ak_iconst dX5_operands_92 (by decide +kernel) rfl) <|
  am_kc (ak_retI dX5_operands_93) <|
  am_kc (ak_iconst dX5_operands_94 (by decide +kernel) rfl) <|
  am_kc (ak_retI dX5_operands_95) <|
  am_kc (ak_iconst dX5_operands_96 (by decide +kernel) rfl) <|
  am_kc (ak_retI dX5_operands_97) <|
  am_kc (ak_iconst dX5_operands_98 (by decide +kernel) rfl) <|
  am_kc (ak_retI dX5_operands_99) <| am_kn
def am_ops (s : Int32) : Int32 := if s = 114 ∨ s = 112 ∨ s = 101 ∨ s = 108 ∨ s = 121 ∨ s = 111 ∨ s = 97 then 0 else if s = 33 ∨ s = 126 then 1 else if s = 63 then 3 else 2
def TX5_operands : am_T := fun live as M R => match as with
  | [.int s] => R (some (.int (am_ops s))) M
  | _ => False
set_option maxRecDepth 100000 in
set_option maxHeartbeats 4000000 in
theorem metX5_operands : am_Met yX5_operands cX5_operands 1 (some .int) (0) (0) TX5_operands := by
  refine am_met (own := RX5) (by decide +kernel) rfl kX5_operands koX5_operands 60 (fun _ _ _ _ _ => none) (fun live as M Ret h => ?_) (fun _ _ _ _ _ _ _ _ hI => by cases hI)
  unfold TX5_operands at h
  split at h
  · next s =>
    refine ⟨Nat.le_of_ble_eq_true rfl, ?_⟩
    change am_wp _ _ _ _ [(0, Value.int s)] _ _
    repeat' (first | apply And.intro | exact rfl | intro hx | (refine Exists.intro _ (And.intro rfl ?_)))
    all_goals try first | (with_reducible change am_tI _ _) | (change Ret _ _) | (change Ret _ _ _) | (change Exists _)
    all_goals try dsimp only at *
    all_goals try (with_reducible exact absurd ‹(1000 : Int64) = 0› am_z1000)
    all_goals grind [am_ops]
  · exact h.elim
theorem dX5_joined_0 : decode cX5_joined 0 = .ok (.iload_n 0, 1) := by decide +kernel
theorem dX5_joined_1 : decode cX5_joined 1 = .ok (.lookupswitch 159 #[(38, 93), (42, 155), (43, 147), (45, 151), (60, 111), (61, 135), (62, 123), (124, 75)], 75) := by decide +kernel
theorem dX5_joined_76 : decode cX5_joined 76 = .ok (.lload_n 1, 1) := by decide +kernel
theorem dX5_joined_77 : decode cX5_joined 77 = .ok (.lconst 0, 1) := by decide +kernel
theorem dX5_joined_78 : decode cX5_joined 78 = .ok (.lcmp, 1) := by decide +kernel
theorem dX5_joined_79 : decode cX5_joined 79 = .ok (.ifCond .ne 9, 3) := by decide +kernel
theorem dX5_joined_82 : decode cX5_joined 82 = .ok (.lload_n 3, 1) := by decide +kernel
theorem dX5_joined_83 : decode cX5_joined 83 = .ok (.lconst 0, 1) := by decide +kernel
theorem dX5_joined_84 : decode cX5_joined 84 = .ok (.lcmp, 1) := by decide +kernel
theorem dX5_joined_85 : decode cX5_joined 85 = .ok (.ifCond .eq 7, 3) := by decide +kernel
theorem dX5_joined_88 : decode cX5_joined 88 = .ok (.lconst 1, 1) := by decide +kernel
theorem dX5_joined_89 : decode cX5_joined 89 = .ok (.goto 4, 3) := by decide +kernel
theorem dX5_joined_92 : decode cX5_joined 92 = .ok (.lconst 0, 1) := by decide +kernel
theorem dX5_joined_93 : decode cX5_joined 93 = .ok (.lreturn, 1) := by decide +kernel
theorem dX5_joined_94 : decode cX5_joined 94 = .ok (.lload_n 1, 1) := by decide +kernel
theorem dX5_joined_95 : decode cX5_joined 95 = .ok (.lconst 0, 1) := by decide +kernel
theorem dX5_joined_96 : decode cX5_joined 96 = .ok (.lcmp, 1) := by decide +kernel
theorem dX5_joined_97 : decode cX5_joined 97 = .ok (.ifCond .eq 13, 3) := by decide +kernel
theorem dX5_joined_100 : decode cX5_joined 100 = .ok (.lload_n 3, 1) := by decide +kernel
theorem dX5_joined_101 : decode cX5_joined 101 = .ok (.lconst 0, 1) := by decide +kernel
theorem dX5_joined_102 : decode cX5_joined 102 = .ok (.lcmp, 1) := by decide +kernel
theorem dX5_joined_103 : decode cX5_joined 103 = .ok (.ifCond .eq 7, 3) := by decide +kernel
theorem dX5_joined_106 : decode cX5_joined 106 = .ok (.lconst 1, 1) := by decide +kernel
theorem dX5_joined_107 : decode cX5_joined 107 = .ok (.goto 4, 3) := by decide +kernel
theorem dX5_joined_110 : decode cX5_joined 110 = .ok (.lconst 0, 1) := by decide +kernel
theorem dX5_joined_111 : decode cX5_joined 111 = .ok (.lreturn, 1) := by decide +kernel
theorem dX5_joined_112 : decode cX5_joined 112 = .ok (.lload_n 1, 1) := by decide +kernel
theorem dX5_joined_113 : decode cX5_joined 113 = .ok (.lload_n 3, 1) := by decide +kernel
theorem dX5_joined_114 : decode cX5_joined 114 = .ok (.lcmp, 1) := by decide +kernel
theorem dX5_joined_115 : decode cX5_joined 115 = .ok (.ifCond .ge 7, 3) := by decide +kernel
theorem dX5_joined_118 : decode cX5_joined 118 = .ok (.lconst 1, 1) := by decide +kernel
theorem dX5_joined_119 : decode cX5_joined 119 = .ok (.goto 4, 3) := by decide +kernel
theorem dX5_joined_122 : decode cX5_joined 122 = .ok (.lconst 0, 1) := by decide +kernel
theorem dX5_joined_123 : decode cX5_joined 123 = .ok (.lreturn, 1) := by decide +kernel
theorem dX5_joined_124 : decode cX5_joined 124 = .ok (.lload_n 1, 1) := by decide +kernel
theorem dX5_joined_125 : decode cX5_joined 125 = .ok (.lload_n 3, 1) := by decide +kernel
theorem dX5_joined_126 : decode cX5_joined 126 = .ok (.lcmp, 1) := by decide +kernel
theorem dX5_joined_127 : decode cX5_joined 127 = .ok (.ifCond .le 7, 3) := by decide +kernel
theorem dX5_joined_130 : decode cX5_joined 130 = .ok (.lconst 1, 1) := by decide +kernel
theorem dX5_joined_131 : decode cX5_joined 131 = .ok (.goto 4, 3) := by decide +kernel
theorem dX5_joined_134 : decode cX5_joined 134 = .ok (.lconst 0, 1) := by decide +kernel
theorem dX5_joined_135 : decode cX5_joined 135 = .ok (.lreturn, 1) := by decide +kernel
theorem dX5_joined_136 : decode cX5_joined 136 = .ok (.lload_n 1, 1) := by decide +kernel
theorem dX5_joined_137 : decode cX5_joined 137 = .ok (.lload_n 3, 1) := by decide +kernel
theorem dX5_joined_138 : decode cX5_joined 138 = .ok (.lcmp, 1) := by decide +kernel
theorem dX5_joined_139 : decode cX5_joined 139 = .ok (.ifCond .ne 7, 3) := by decide +kernel
theorem dX5_joined_142 : decode cX5_joined 142 = .ok (.lconst 1, 1) := by decide +kernel
theorem dX5_joined_143 : decode cX5_joined 143 = .ok (.goto 4, 3) := by decide +kernel
theorem dX5_joined_146 : decode cX5_joined 146 = .ok (.lconst 0, 1) := by decide +kernel
theorem dX5_joined_147 : decode cX5_joined 147 = .ok (.lreturn, 1) := by decide +kernel
theorem dX5_joined_148 : decode cX5_joined 148 = .ok (.lload_n 1, 1) := by decide +kernel
theorem dX5_joined_149 : decode cX5_joined 149 = .ok (.lload_n 3, 1) := by decide +kernel
theorem dX5_joined_150 : decode cX5_joined 150 = .ok (.ladd, 1) := by decide +kernel
theorem dX5_joined_151 : decode cX5_joined 151 = .ok (.lreturn, 1) := by decide +kernel
theorem dX5_joined_152 : decode cX5_joined 152 = .ok (.lload_n 1, 1) := by decide +kernel
theorem dX5_joined_153 : decode cX5_joined 153 = .ok (.lload_n 3, 1) := by decide +kernel
theorem dX5_joined_154 : decode cX5_joined 154 = .ok (.lsub, 1) := by decide +kernel
theorem dX5_joined_155 : decode cX5_joined 155 = .ok (.lreturn, 1) := by decide +kernel
theorem dX5_joined_156 : decode cX5_joined 156 = .ok (.lload_n 1, 1) := by decide +kernel
theorem dX5_joined_157 : decode cX5_joined 157 = .ok (.lload_n 3, 1) := by decide +kernel
theorem dX5_joined_158 : decode cX5_joined 158 = .ok (.lmul, 1) := by decide +kernel
theorem dX5_joined_159 : decode cX5_joined 159 = .ok (.lreturn, 1) := by decide +kernel
theorem dX5_joined_160 : decode cX5_joined 160 = .ok (.lload_n 3, 1) := by decide +kernel
theorem dX5_joined_161 : decode cX5_joined 161 = .ok (.lconst 0, 1) := by decide +kernel
theorem dX5_joined_162 : decode cX5_joined 162 = .ok (.lcmp, 1) := by decide +kernel
theorem dX5_joined_163 : decode cX5_joined 163 = .ok (.ifCond .ne 7, 3) := by decide +kernel
theorem dX5_joined_166 : decode cX5_joined 166 = .ok (.lconst 0, 1) := by decide +kernel
theorem dX5_joined_167 : decode cX5_joined 167 = .ok (.goto 6, 3) := by decide +kernel
theorem dX5_joined_170 : decode cX5_joined 170 = .ok (.lload_n 1, 1) := by decide +kernel
theorem dX5_joined_171 : decode cX5_joined 171 = .ok (.lload_n 3, 1) := by decide +kernel
theorem dX5_joined_172 : decode cX5_joined 172 = .ok (.ldiv, 1) := by decide +kernel
theorem dX5_joined_173 : decode cX5_joined 173 = .ok (.lreturn, 1) := by decide +kernel
def kX5_joined (live : am_E) (Ret : am_R) : am_code := [(0, am_iload 0 1), (1, am_switch [(38, 94), (42, 156), (43, 148), (45, 152), (60, 112), (61, 136), (62, 124), (124, 76)] 160), (76, am_lload 1 77), (77, am_const (.long 0) 78), (78, am_lcmp 79), (79, am_if1 (fun x => x = 0) 82 88), (82, am_lload 3 83), (83, am_const (.long 0) 84), (84, am_lcmp 85), (85, am_if1 (fun x => x = 0) 92 88), (88, am_const (.long 1) 89), (89, am_goto 93), (92, am_const (.long 0) 93), (93, am_retL Ret), (94, am_lload 1 95), (95, am_const (.long 0) 96), (96, am_lcmp 97), (97, am_if1 (fun x => x = 0) 110 100), (100, am_lload 3 101), (101, am_const (.long 0) 102), (102, am_lcmp 103), (103, am_if1 (fun x => x = 0) 110 106), (106, am_const (.long 1) 107), (107, am_goto 111), (110, am_const (.long 0) 111), (111, am_retL Ret), (112, am_lload 1 113), (113, am_lload 3 114), (114, am_lcmp 115), (115, am_if1 (fun x => 0 ≤ x) 122 118), (118, am_const (.long 1) 119), (119, am_goto 123), (122, am_const (.long 0) 123), (123, am_retL Ret), (124, am_lload 1 125), (125, am_lload 3 126), (126, am_lcmp 127), (127, am_if1 (fun x => x ≤ 0) 134 130), (130, am_const (.long 1) 131), (131, am_goto 135), (134, am_const (.long 0) 135), (135, am_retL Ret), (136, am_lload 1 137), (137, am_lload 3 138), (138, am_lcmp 139), (139, am_if1 (fun x => x = 0) 142 146), (142, am_const (.long 1) 143), (143, am_goto 147), (146, am_const (.long 0) 147), (147, am_retL Ret), (148, am_lload 1 149), (149, am_lload 3 150), (150, am_l2 (fun x y => x + y) 151), (151, am_retL Ret), (152, am_lload 1 153), (153, am_lload 3 154), (154, am_l2 (fun x y => x - y) 155), (155, am_retL Ret), (156, am_lload 1 157), (157, am_lload 3 158), (158, am_l2 (fun x y => x * y) 159), (159, am_retL Ret), (160, am_lload 3 161), (161, am_const (.long 0) 162), (162, am_lcmp 163), (163, am_if1 (fun x => x = 0) 166 170), (166, am_const (.long 0) 167), (167, am_goto 173), (170, am_lload 1 171), (171, am_lload 3 172), (172, am_l2z (fun x y => x / y) 173), (173, am_retL Ret)]
theorem koX5_joined (live : am_E) (Ret : am_R) : ∀ q ∈ kX5_joined live Ret, am_ok RX5 cX5_joined 5 (some .long) 0 0 live Ret q.1 q.2 :=
  am_kc (ak_iload_n dX5_joined_0 rfl rfl) <|
  am_kc (ak_lswitch dX5_joined_1 (by decide +kernel) (by decide +kernel) (by decide +kernel)) <|
  am_kc (ak_lload_n dX5_joined_76 rfl rfl) <|
  am_kc (ak_lconst dX5_joined_77 (by decide +kernel) rfl) <|
  am_kc (ak_lcmp dX5_joined_78 rfl) <|
  am_kc (ak_if_ne dX5_joined_79 (by decide +kernel) rfl) <|
  am_kc (ak_lload_n dX5_joined_82 rfl rfl) <|
  am_kc (ak_lconst dX5_joined_83 (by decide +kernel) rfl) <|
  am_kc (ak_lcmp dX5_joined_84 rfl) <|
  am_kc (ak_if_eq dX5_joined_85 (by decide +kernel) rfl) <|
  am_kc (ak_lconst dX5_joined_88 (by decide +kernel) rfl) <|
  am_kc (ak_goto dX5_joined_89 (by decide +kernel)) <|
  am_kc (ak_lconst dX5_joined_92 (by decide +kernel) rfl) <|
  am_kc (ak_retL dX5_joined_93) <|
  am_kc (ak_lload_n dX5_joined_94 rfl rfl) <|
  am_kc (ak_lconst dX5_joined_95 (by decide +kernel) rfl) <|
  am_kc (ak_lcmp dX5_joined_96 rfl) <|
  am_kc (ak_if_eq dX5_joined_97 (by decide +kernel) rfl) <|
  am_kc (ak_lload_n dX5_joined_100 rfl rfl) <|
  am_kc (ak_lconst dX5_joined_101 (by decide +kernel) rfl) <|
  am_kc (ak_lcmp dX5_joined_102 rfl) <|
  am_kc (ak_if_eq dX5_joined_103 (by decide +kernel) rfl) <|
  am_kc (ak_lconst dX5_joined_106 (by decide +kernel) rfl) <|
  am_kc (ak_goto dX5_joined_107 (by decide +kernel)) <|
  am_kc (ak_lconst dX5_joined_110 (by decide +kernel) rfl) <|
  am_kc (ak_retL dX5_joined_111) <|
  am_kc (ak_lload_n dX5_joined_112 rfl rfl) <|
  am_kc (ak_lload_n dX5_joined_113 rfl rfl) <|
  am_kc (ak_lcmp dX5_joined_114 rfl) <|
  am_kc (ak_if_ge dX5_joined_115 (by decide +kernel) rfl) <|
  am_kc (ak_lconst dX5_joined_118 (by decide +kernel) rfl) <|
  am_kc (ak_goto dX5_joined_119 (by decide +kernel)) <|
  am_kc (ak_lconst dX5_joined_122 (by decide +kernel) rfl) <|
  am_kc (ak_retL dX5_joined_123) <|
  am_kc (ak_lload_n dX5_joined_124 rfl rfl) <|
  am_kc (ak_lload_n dX5_joined_125 rfl rfl) <|
  am_kc (ak_lcmp dX5_joined_126 rfl) <|
  am_kc (ak_if_le dX5_joined_127 (by decide +kernel) rfl) <|
  am_kc (ak_lconst dX5_joined_130 (by decide +kernel) rfl) <|
  am_kc (ak_goto dX5_joined_131 (by decide +kernel)) <|
  am_kc (ak_lconst dX5_joined_134 (by decide +kernel) rfl) <|
  am_kc (ak_retL dX5_joined_135) <|
  am_kc (ak_lload_n dX5_joined_136 rfl rfl) <|
  am_kc (ak_lload_n dX5_joined_137 rfl rfl) <|
  am_kc (ak_lcmp dX5_joined_138 rfl) <|
  am_kc (ak_if_ne dX5_joined_139 (by decide +kernel) rfl) <|
  am_kc (ak_lconst dX5_joined_142 (by decide +kernel) rfl) <|
  am_kc (ak_goto dX5_joined_143 (by decide +kernel)) <|
  am_kc (ak_lconst dX5_joined_146 (by decide +kernel) rfl) <|
  am_kc (ak_retL dX5_joined_147) <|
  am_kc (ak_lload_n dX5_joined_148 rfl rfl) <|
  am_kc (ak_lload_n dX5_joined_149 rfl rfl) <|
  am_kc (ak_ladd dX5_joined_150 rfl) <|
  am_kc (ak_retL dX5_joined_151) <|
  am_kc (ak_lload_n dX5_joined_152 rfl rfl) <|
  am_kc (ak_lload_n dX5_joined_153 rfl rfl) <|
  am_kc (ak_lsub dX5_joined_154 rfl) <|
  am_kc (ak_retL dX5_joined_155) <|
  am_kc (ak_lload_n dX5_joined_156 rfl rfl) <|
  am_kc (ak_lload_n dX5_joined_157 rfl rfl) <|
  am_kc (ak_lmul dX5_joined_158 rfl) <|
  am_kc (ak_retL dX5_joined_159) <|
  am_kc (ak_lload_n dX5_joined_160 rfl rfl) <|
  am_kc (ak_lconst dX5_joined_161 (by decide +kernel) rfl) <|
  am_kc (ak_lcmp dX5_joined_162 rfl) <|
  am_kc (ak_if_ne dX5_joined_163 (by decide +kernel) rfl) <|
  am_kc (ak_lconst dX5_joined_166 (by decide +kernel) rfl) <|
  am_kc (ak_goto dX5_joined_167 (by decide +kernel)) <|
  am_kc (ak_lload_n dX5_joined_170 rfl rfl) <|
  am_kc (ak_lload_n dX5_joined_171 rfl rfl) <|
  am_kc (ak_ldiv dX5_joined_172 rfl) <|
  am_kc (ak_retL dX5_joined_173) <| am_kn
def am_join (s : Int32) (a b : Int64) : Int64 := if s = 124 then (if a ≠ 0 ∨ b ≠ 0 then 1 else 0) else if s = 38 then (if a ≠ 0 ∧ b ≠ 0 then 1 else 0) else if s = 60 then (if a < b then 1 else 0) else if s = 62 then (if b < a then 1 else 0) else if s = 61 then (if a = b then 1 else 0) else if s = 43 then a + b else if s = 45 then a - b else if s = 42 then a * b else if b = 0 then 0 else a / b
theorem lc_eq (x y : Int64) : lg_cmp x y = 0 ↔ x = y := by unfold lg_cmp; split <;> (try split) <;> grind
theorem lc_lt (x y : Int64) : lg_cmp x y < 0 ↔ x < y := by unfold lg_cmp; split <;> (try split) <;> grind
theorem lc_ge (x y : Int64) : 0 ≤ lg_cmp x y ↔ y ≤ x := by unfold lg_cmp; split <;> (try split) <;> grind
theorem lc_gt (x y : Int64) : 0 < lg_cmp x y ↔ y < x := by unfold lg_cmp; split <;> (try split) <;> grind
theorem lc_le (x y : Int64) : lg_cmp x y ≤ 0 ↔ x ≤ y := by unfold lg_cmp; split <;> (try split) <;> grind
def TX5_joined : am_T := fun live as M R => match as with
  | [.int s, .long a, .long b] => R (some (.long (am_join s a b))) M
  | _ => False
set_option maxRecDepth 100000 in
set_option maxHeartbeats 4000000 in
theorem metX5_joined : am_Met yX5_joined cX5_joined 5 (some .long) (0) (0) TX5_joined := by
  refine am_met (own := RX5) (by decide +kernel) rfl kX5_joined koX5_joined 120 (fun _ _ _ _ _ => none) (fun live as M Ret h => ?_) (fun _ _ _ _ _ _ _ _ hI => by cases hI)
  unfold TX5_joined at h
  split at h
  · next s a b =>
    refine ⟨Nat.le_of_ble_eq_true rfl, ?_⟩
    change am_wp _ _ _ _ [(0, Value.int s), (1, Value.long a), (3, Value.long b)] _ _
    repeat' (first | apply And.intro | exact rfl | intro hx | (refine Exists.intro _ (And.intro rfl ?_)))
    all_goals try first | (with_reducible change am_tI _ _) | (change Ret _ _) | (change Ret _ _ _) | (change Exists _)
    all_goals try dsimp only at *
    all_goals try (with_reducible exact absurd ‹(1000 : Int64) = 0› am_z1000)
    all_goals try simp only [lc_eq, lc_lt, lc_ge, lc_gt, lc_le] at *
    all_goals first | assumption | grind [am_join]
  · exact h.elim
set_option maxRecDepth 100000 in
theorem wd_175 : Cond.fieldLink "LearnLoans$Text" 18 "LearnLoans$Text" "wrong" "I" ∈ am_ws := am_wt1 (List.mem_of_getElem? (i := 118) (by rfl)) (by decide +kernel)
def rwX5_blame : List dz_r := [(0, .aload_n 0, 1), (1, .getfield 18, 3), (4, .iconst (-1), 1), (5, .if_icmp .ne 13, 3), (8, .aload_n 0, 1), (9, .bipush 10, 2), (11, .iload_n 1, 1), (12, .imul, 1), (13, .iload_n 2, 1), (14, .iadd, 1), (15, .putfield 18, 3), (18, .return_, 1)]
theorem dzX5_blame : dz cX5_blame rwX5_blame := dz_all 0 (by decide +kernel)
def kX5_blame (live : am_E) (Ret : am_R) : am_code := [(0, am_aload 0 1), (1, am_getI live 5 6 4), (4, am_const (.int (-1)) 5), (5, am_if2 (fun x y => x = y) 8 18), (8, am_aload 0 9), (9, am_const (.int 10) 11), (11, am_iload 1 12), (12, am_i2 (fun x y => x * y) 13), (13, am_iload 2 14), (14, am_i2 (fun x y => x + y) 15), (15, am_putI live 5 6 18), (18, am_retV Ret)]
theorem koX5_blame (live : am_E) (Ret : am_R) : ∀ q ∈ kX5_blame live Ret, am_ok RX5 cX5_blame 3 none 0 0 live Ret q.1 q.2 :=
  am_kz dzX5_blame <|
  am_kd (fun d => ak_aload_n d rfl rfl) <|
  am_kd (fun d => ak_getI (C := RX5) (T := TX5) (N := 7) rfl inX5w (by decide) rfl rfl rfl wd_175 d rfl) <|
  am_kd (fun d => ak_iconst d (by decide +kernel) rfl) <|
  am_kd (fun d => ak_icmp_ne d (by decide +kernel) rfl) <|
  am_kd (fun d => ak_aload_n d rfl rfl) <|
  am_kd (fun d => ak_bipush d (by decide +kernel) rfl) <|
  am_kd (fun d => ak_iload_n d rfl rfl) <|
  am_kd (fun d => ak_imul d rfl) <|
  am_kd (fun d => ak_iload_n d rfl rfl) <|
  am_kd (fun d => ak_iadd d rfl) <|
  am_kd (fun d => ak_putI (C := RX5) (T := TX5) (N := 7) rfl inX5w tyX5_ok nmX5 (by decide) rfl rfl rfl rfl (by decide +kernel) wd_175 d rfl) <|
  am_kd (fun d => ak_retV d) <| am_kdn
def am_blame (M : am_M) (t : Nat) (a k : Int32) : am_M := am_wIc (M.1 t 6 = -1) M t 6 (10 * a + k)
def TX5_blame : am_T := fun live as M R => match as with
  | [.ref t, .int a, .int k] => am_if (am_isO live 5 t) (R none (am_blame M t a k))
  | _ => False
set_option maxRecDepth 100000 in
set_option maxHeartbeats 4000000 in
theorem metX5_blame : am_Met yX5_blame cX5_blame 3 none (0) (0) TX5_blame := by
  refine am_met (own := RX5) (by decide +kernel) rfl kX5_blame koX5_blame 60 (fun _ _ _ _ _ => none) (fun live as M Ret h => ?_) (fun _ _ _ _ _ _ _ _ hI => by cases hI)
  unfold TX5_blame at h
  split at h
  · next t a k =>
    refine ⟨Nat.le_of_ble_eq_true rfl, ?_⟩
    change am_wp _ _ _ _ [(0, Value.ref t), (1, Value.int a), (2, Value.int k)] _ _
    have hh := am_if_mp h
    clear h
    obtain ⟨h1, h⟩ := hh
    repeat' (first | (with_reducible exact h1) | apply And.intro | exact rfl | intro hx | (refine Exists.intro _ (And.intro rfl ?_)) | ((with_reducible change _ = true); simp only [h1, Bool.true_and]; rfl))
    all_goals try first | (with_reducible change am_tI _ _) | (change Ret _ _) | (change Ret _ _ _) | (change Exists _)
    all_goals try dsimp only at *
    all_goals try (with_reducible exact absurd ‹(1000 : Int64) = 0› am_z1000)
    · unfold am_blame at h; rw [am_wIc_t ‹_›] at h; exact h
    · unfold am_blame at h; rw [am_wIc_f ‹_›] at h; exact h
  · exact h.elim
set_option maxRecDepth 100000 in
theorem wd_170 : Cond.fieldLink "LearnLoans$Text" 25 "LearnLoans$Text" "codes" "I" ∈ am_ws := am_wt1 (List.mem_of_getElem? (i := 113) (by rfl)) (by decide +kernel)
set_option maxRecDepth 100000 in
theorem wd_169 : Cond.fieldLink "LearnLoans$Text" 15 "LearnLoans$Text" "code" "[I" ∈ am_ws := am_wt1 (List.mem_of_getElem? (i := 112) (by rfl)) (by decide +kernel)
def rwX5_emit : List dz_r := [(0, .aload_n 0, 1), (1, .getfield 25, 3), (4, .bipush 50, 2), (6, .if_icmp .ge 23, 3), (9, .aload_n 0, 1), (10, .getfield 15, 3), (13, .aload_n 0, 1), (14, .getfield 25, 3), (17, .iload_n 1, 1), (18, .iastore, 1), (19, .aload_n 0, 1), (20, .dup, 1), (21, .getfield 25, 3), (24, .iconst 1, 1), (25, .iadd, 1), (26, .putfield 25, 3), (29, .return_, 1)]
theorem dzX5_emit : dz cX5_emit rwX5_emit := dz_all 0 (by decide +kernel)
def kX5_emit (live : am_E) (Ret : am_R) : am_code := [(0, am_aload 0 1), (1, am_getI live 5 2 4), (4, am_const (.int 50) 6), (6, am_if2 (fun x y => y ≤ x) 29 9), (9, am_aload 0 10), (10, am_getR live 5 1 13), (13, am_aload 0 14), (14, am_getI live 5 2 17), (17, am_iload 1 18), (18, am_ast live 0 19), (19, am_aload 0 20), (20, am_dup 21), (21, am_getI live 5 2 24), (24, am_const (.int 1) 25), (25, am_i2 (fun x y => x + y) 26), (26, am_putI live 5 2 29), (29, am_retV Ret)]
theorem koX5_emit (live : am_E) (Ret : am_R) : ∀ q ∈ kX5_emit live Ret, am_ok RX5 cX5_emit 2 none 0 0 live Ret q.1 q.2 :=
  am_kz dzX5_emit <|
  am_kd (fun d => ak_aload_n d rfl rfl) <|
  am_kd (fun d => ak_getI (C := RX5) (T := TX5) (N := 7) rfl inX5w (by decide) rfl rfl rfl wd_170 d rfl) <|
  am_kd (fun d => ak_bipush d (by decide +kernel) rfl) <|
  am_kd (fun d => ak_icmp_ge d (by decide +kernel) rfl) <|
  am_kd (fun d => ak_aload_n d rfl rfl) <|
  am_kd (fun d => ak_getR (C := RX5) (T := TX5) (N := 7) rfl inX5w (by decide) rfl rfl rfl wd_169 d rfl) <|
  am_kd (fun d => ak_aload_n d rfl rfl) <|
  am_kd (fun d => ak_getI (C := RX5) (T := TX5) (N := 7) rfl inX5w (by decide) rfl rfl rfl wd_170 d rfl) <|
  am_kd (fun d => ak_iload_n d rfl rfl) <|
  am_kd (fun d => ak_iast (t := 0) (fun _ => rfl) rfl d rfl) <|
  am_kd (fun d => ak_aload_n d rfl rfl) <|
  am_kd (fun d => ak_dup d rfl) <|
  am_kd (fun d => ak_getI (C := RX5) (T := TX5) (N := 7) rfl inX5w (by decide) rfl rfl rfl wd_170 d rfl) <|
  am_kd (fun d => ak_iconst d (by decide +kernel) rfl) <|
  am_kd (fun d => ak_iadd d rfl) <|
  am_kd (fun d => ak_putI (C := RX5) (T := TX5) (N := 7) rfl inX5w tyX5_ok nmX5 (by decide) rfl rfl rfl rfl (by decide +kernel) wd_170 d rfl) <|
  am_kd (fun d => ak_retV d) <| am_kdn
def am_emit (M : am_M) (t c : Nat) (v : Int32) : am_M := if (M.1 t 2).toInt < 50 then am_wI (am_wI M c (M.1 t 2).toNatClampNeg v) t 2 (M.1 t 2 + 1) else M
def TX5_emit : am_T := fun live as M R => match as with
  | [.ref t, .int v] => am_tP live t (fun s c => 0 ≤ (M.1 t 2).toInt ∧ R none (am_emit M t c v))
  | _ => False
set_option maxRecDepth 100000 in
set_option maxHeartbeats 4000000 in
theorem metX5_emit : am_Met yX5_emit cX5_emit 2 none (0) (0) TX5_emit := by
  refine am_met (own := RX5) (by decide +kernel) rfl kX5_emit koX5_emit 60 (fun _ _ _ _ _ => none) (fun live as M Ret h => ?_) (fun _ _ _ _ _ _ _ _ hI => by cases hI)
  unfold TX5_emit at h
  split at h
  · next t v =>
    refine ⟨Nat.le_of_ble_eq_true rfl, ?_⟩
    change am_wp _ _ _ _ [(0, Value.ref t), (1, Value.int v)] _ _
    have hh := am_tP_mp h
    clear h
    obtain ⟨s, c, g1, h2, g3, h1, g4, h3, g5, h4, g6, g7, h5, h0, h⟩ := hh
    repeat' (first | (with_reducible exact h1) | (with_reducible exact h2) | (with_reducible exact h3) | (refine Exists.intro _ (And.intro h2 ?_)) | apply And.intro | exact rfl | intro hx | (refine Exists.intro _ (And.intro rfl ?_)) | ((with_reducible change _ = true); simp only [h1, h2, h3, Bool.true_and]; rfl))
    all_goals try first | (with_reducible change am_tI _ _) | (change Ret _ _) | (change Ret _ _ _) | (change Exists _)
    all_goals try dsimp only at *
    all_goals try (with_reducible exact absurd ‹(1000 : Int64) = 0› am_z1000)
    all_goals simp only [i_le, Int32.reduceToInt, h4, am_emit] at *
    · rw [if_neg (by omega)] at h; exact h
    · omega
    · omega
    · rw [if_pos (by omega)] at h
      simp only [am_wI_1, h5, false_and, if_false]
      exact h
  · exact h.elim
set_option maxRecDepth 100000 in
theorem wd_171 : Cond.fieldLink "LearnLoans$Text" 28 "LearnLoans$Text" "place" "I" ∈ am_ws := am_wt1 (List.mem_of_getElem? (i := 114) (by rfl)) (by decide +kernel)
set_option maxRecDepth 100000 in
theorem wd_173 : Cond.fieldLink "LearnLoans$Text" 22 "LearnLoans$Text" "size" "I" ∈ am_ws := am_wt1 (List.mem_of_getElem? (i := 116) (by rfl)) (by decide +kernel)
set_option maxRecDepth 100000 in
theorem wd_168 : Cond.fieldLink "LearnLoans$Text" 9 "LearnLoans$Text" "signs" "[I" ∈ am_ws := am_wt1 (List.mem_of_getElem? (i := 111) (by rfl)) (by decide +kernel)
def rwX5_next : List dz_r := [(0, .aload_n 0, 1), (1, .getfield 28, 3), (4, .aload_n 0, 1), (5, .getfield 22, 3), (8, .if_icmp .ge 30, 3), (11, .aload_n 0, 1), (12, .getfield 9, 3), (15, .aload_n 0, 1), (16, .getfield 28, 3), (19, .iaload, 1), (20, .bipush 32, 2), (22, .if_icmp .ne 16, 3), (25, .aload_n 0, 1), (26, .dup, 1), (27, .getfield 28, 3), (30, .iconst 1, 1), (31, .iadd, 1), (32, .putfield 28, 3), (35, .goto (-35), 3), (38, .aload_n 0, 1), (39, .getfield 28, 3), (42, .aload_n 0, 1), (43, .getfield 22, 3), (46, .if_icmp .ge 15, 3), (49, .aload_n 0, 1), (50, .getfield 9, 3), (53, .aload_n 0, 1), (54, .getfield 28, 3), (57, .iaload, 1), (58, .goto 4, 3), (61, .iconst (-1), 1), (62, .ireturn, 1)]
theorem dzX5_next : dz cX5_next rwX5_next := dz_all 0 (by decide +kernel)
def kX5_next (live : am_E) (Ret : am_R) : am_code := [(0, am_aload 0 1), (1, am_getI live 5 3 4), (4, am_aload 0 5), (5, am_getI live 5 5 8), (8, am_if2 (fun x y => y ≤ x) 38 11), (11, am_aload 0 12), (12, am_getR live 5 0 15), (15, am_aload 0 16), (16, am_getI live 5 3 19), (19, am_ald live 0 20), (20, am_const (.int 32) 22), (22, am_if2 (fun x y => x = y) 25 38), (25, am_aload 0 26), (26, am_dup 27), (27, am_getI live 5 3 30), (30, am_const (.int 1) 31), (31, am_i2 (fun x y => x + y) 32), (32, am_putI live 5 3 35), (35, am_goto 0), (38, am_aload 0 39), (39, am_getI live 5 3 42), (42, am_aload 0 43), (43, am_getI live 5 5 46), (46, am_if2 (fun x y => y ≤ x) 61 49), (49, am_aload 0 50), (50, am_getR live 5 0 53), (53, am_aload 0 54), (54, am_getI live 5 3 57), (57, am_ald live 0 58), (58, am_goto 62), (61, am_const (.int (-1)) 62), (62, am_retI Ret)]
theorem koX5_next (live : am_E) (Ret : am_R) : ∀ q ∈ kX5_next live Ret, am_ok RX5 cX5_next 1 (some .int) 0 0 live Ret q.1 q.2 :=
  am_kz dzX5_next <|
  am_kd (fun d => ak_aload_n d rfl rfl) <|
  am_kd (fun d => ak_getI (C := RX5) (T := TX5) (N := 7) rfl inX5w (by decide) rfl rfl rfl wd_171 d rfl) <|
  am_kd (fun d => ak_aload_n d rfl rfl) <|
  am_kd (fun d => ak_getI (C := RX5) (T := TX5) (N := 7) rfl inX5w (by decide) rfl rfl rfl wd_173 d rfl) <|
  am_kd (fun d => ak_icmp_ge d (by decide +kernel) rfl) <|
  am_kd (fun d => ak_aload_n d rfl rfl) <|
  am_kd (fun d => ak_getR (C := RX5) (T := TX5) (N := 7) rfl inX5w (by decide) rfl rfl rfl wd_168 d rfl) <|
  am_kd (fun d => ak_aload_n d rfl rfl) <|
  am_kd (fun d => ak_getI (C := RX5) (T := TX5) (N := 7) rfl inX5w (by decide) rfl rfl rfl wd_171 d rfl) <|
  am_kd (fun d => ak_iald (t := 0) (fun _ => rfl) rfl d rfl) <|
  am_kd (fun d => ak_bipush d (by decide +kernel) rfl) <|
  am_kd (fun d => ak_icmp_ne d (by decide +kernel) rfl) <|
  am_kd (fun d => ak_aload_n d rfl rfl) <|
  am_kd (fun d => ak_dup d rfl) <|
  am_kd (fun d => ak_getI (C := RX5) (T := TX5) (N := 7) rfl inX5w (by decide) rfl rfl rfl wd_171 d rfl) <|
  am_kd (fun d => ak_iconst d (by decide +kernel) rfl) <|
  am_kd (fun d => ak_iadd d rfl) <|
  am_kd (fun d => ak_putI (C := RX5) (T := TX5) (N := 7) rfl inX5w tyX5_ok nmX5 (by decide) rfl rfl rfl rfl (by decide +kernel) wd_171 d rfl) <|
  am_kd (fun d => ak_goto d (by decide +kernel)) <|
  am_kd (fun d => ak_aload_n d rfl rfl) <|
  am_kd (fun d => ak_getI (C := RX5) (T := TX5) (N := 7) rfl inX5w (by decide) rfl rfl rfl wd_171 d rfl) <|
  am_kd (fun d => ak_aload_n d rfl rfl) <|
  am_kd (fun d => ak_getI (C := RX5) (T := TX5) (N := 7) rfl inX5w (by decide) rfl rfl rfl wd_173 d rfl) <|
  am_kd (fun d => ak_icmp_ge d (by decide +kernel) rfl) <|
  am_kd (fun d => ak_aload_n d rfl rfl) <|
  am_kd (fun d => ak_getR (C := RX5) (T := TX5) (N := 7) rfl inX5w (by decide) rfl rfl rfl wd_168 d rfl) <|
  am_kd (fun d => ak_aload_n d rfl rfl) <|
  am_kd (fun d => ak_getI (C := RX5) (T := TX5) (N := 7) rfl inX5w (by decide) rfl rfl rfl wd_171 d rfl) <|
  am_kd (fun d => ak_iald (t := 0) (fun _ => rfl) rfl d rfl) <|
  am_kd (fun d => ak_goto d (by decide +kernel)) <|
  am_kd (fun d => ak_iconst d (by decide +kernel) rfl) <|
  am_kd (fun d => ak_retI d) <| am_kdn
/-- blanks are passed: the place is p from now on -/
def am_skip (M : am_M) (t s : Nat) (p : Int32) : Prop := (M.1 t 3).toInt ≤ p.toInt ∧ p.toInt ≤ (M.1 t 5).toInt ∧ (∀ j : Nat, (M.1 t 3).toInt ≤ (j : Int) → (j : Int) < p.toInt → M.1 s j = 32) ∧ (p.toInt < (M.1 t 5).toInt → ¬ M.1 s p.toNatClampNeg = 32)
def am_sign (M : am_M) (t s : Nat) (p : Int32) : Int32 := if p.toInt < (M.1 t 5).toInt then M.1 s p.toNatClampNeg else -1
def TX5_next : am_T := fun live as M R => match as with
  | [.ref t] => am_tP live t (fun s c => am_tI M t ∧ ∀ p, am_skip M t s p → R (some (.int (am_sign M t s p))) (am_wI M t 3 p))
  | _ => False
def JX5_next : am_E → List Value → am_M → am_R → am_inv := fun live as M0 _ pc => match as with
  | [.ref t] => (match pc with
    | 0 => some ([0], fun k L st M => ∃ p : Int32, L = [(0, .ref t)] ∧ st = [] ∧ k = ((51 - p.toInt).toNat, 0) ∧ M = am_wI M0 t 3 p ∧ (M0.1 t 3).toInt ≤ p.toInt ∧ p.toInt ≤ (M0.1 t 5).toInt ∧ (∀ j : Nat, (M0.1 t 3).toInt ≤ (j : Int) → (j : Int) < p.toInt → M0.1 ((live.2 t 0).getD 0) j = 32))
    | _ => none)
  | _ => none
theorem am_wI_id {M : am_M} {n k : Nat} : am_wI M n k (M.1 n k) = M := by
  refine am_Mext (fun a b => ?_) rfl
  rw [am_wI_1]
  split
  · next h => rw [h.1, h.2]
  · rfl
theorem am_wI_wI {M : am_M} {n k : Nat} {v w : Int32} : am_wI (am_wI M n k v) n k w = am_wI M n k w := by
  refine am_Mext (fun a b => ?_) rfl
  rw [am_wI_1, am_wI_1, am_wI_1]
  split <;> rfl
set_option maxRecDepth 100000 in
set_option maxHeartbeats 4000000 in
theorem metX5_next : am_Met yX5_next cX5_next 1 (some .int) (0) (0) TX5_next := by
  refine am_met0 (own := RX5) (by decide +kernel) rfl kX5_next koX5_next 60 JX5_next ?_ ?_
  · intro live as M Ret h
    unfold TX5_next at h
    split at h
    · next t =>
      refine ⟨Nat.le_of_ble_eq_true rfl, ?_⟩
      have hh := am_tP_mp h
      clear h
      obtain ⟨s, c, h2, g2, g3, h1, h3, g4, h4, g5, g6, h5, g7, hI, h⟩ := hh
      obtain ⟨-, q1, q2, q3⟩ := hI
      exact ⟨_, _, rfl, M.1 t 3, rfl, rfl, rfl, am_wI_id.symm, Int.le_refl _, q2.2, fun j z1 z2 => absurd z1 (by omega)⟩
    · exact h.elim
  · intro live as M0 Ret h k pc I hI L st M hi
    unfold TX5_next at h
    split at h
    · next t =>
      have hh := am_tP_mp h
      clear h
      obtain ⟨s, c, h2, g2, g3, h1, h3, g4, h4, g5, g6, h5, g7, hT, h⟩ := hh
      change (match pc with | 0 => _ | _ => none) = _ at hI
      split at hI
      · cases hI
        obtain ⟨p, rfl, rfl, rfl, rfl, e1, e2, e3⟩ := hi
        obtain ⟨-, q1, q2, q3⟩ := hT
        rw [h2] at e3
        have f1 : (am_wI M0 t 3 p).1 t 3 = p := by rw [am_wI_1, if_pos ⟨rfl, rfl⟩]
        have f2 : (am_wI M0 t 3 p).1 t 5 = M0.1 t 5 := by rw [am_wI_1, if_neg (fun z => absurd z.2 (by decide))]
        have f3 : ∀ j, (am_wI M0 t 3 p).1 s j = M0.1 s j := fun j => by rw [am_wI_1, if_neg (fun z => h5 z.1.symm)]
        repeat' (first | (with_reducible exact h1) | (with_reducible exact h2) | (with_reducible exact h3) | (refine Exists.intro _ (And.intro h2 ?_)) | apply And.intro | exact rfl | intro hx | (refine Exists.intro _ (And.intro rfl ?_)) | ((with_reducible change _ = true); simp only [h1, h2, h3, Bool.true_and]; rfl))
        all_goals try first | (with_reducible change am_tI _ _) | (change Ret _ _) | (change Ret _ _ _) | (change Exists _)
        all_goals try dsimp only at *
        all_goals try (with_reducible exact absurd ‹(1000 : Int64) = 0› am_z1000)
        all_goals try (refine ⟨_, Or.inl ?_, p + 1, rfl, rfl, rfl, ?_, ?_, ?_, ?_⟩)
        all_goals simp only [f1, f2, f3, h4, i_le] at *
        all_goals have hi := i_add (x := p) (y := 1) (by simp only [Int32.reduceToInt]; omega) (by simp only [Int32.reduceToInt]; omega)
        all_goals simp only [Int32.reduceToInt] at hi
        all_goals first
          | omega
          | (have z := h p ⟨e1, e2, e3, fun z => absurd z (by omega)⟩; rw [am_sign, if_neg (by omega)] at z; exact z)
          | (have z := h p ⟨e1, e2, e3, fun _ => by assumption⟩; rw [am_sign, if_pos (by omega)] at z; exact z)
          | (with_reducible exact am_wI_wI)
          | exact am_wI_wI
          | skip
        · intro j j1 j2
          rw [h2] at *
          by_cases hj : (j : Int) < p.toInt
          · exact e3 j j1 hj
          · have : j = p.toNatClampNeg := by have := i_clamp (x := p) (by omega); omega
            rw [this]
            assumption
      · cases hI
    · exact h.elim
