/-! general: the reference's reader of texts: what is safe of it -/
theorem dX8_factOf_0 : decode cX8_factOf 0 = .ok (.iload_n 0, 1) := by decide +kernel
theorem dX8_factOf_1 : decode cX8_factOf 1 = .ok (.tableswitch 130 97 121 #[127, 130, 130, 130, 119, 130, 130, 130, 130, 130, 130, 121, 130, 130, 125, 117, 130, 115, 130, 130, 130, 130, 130, 130, 123], 115) := by decide +kernel
theorem dX8_factOf_116 : decode cX8_factOf 116 = .ok (.iconst 0, 1) := by decide +kernel
theorem dX8_factOf_117 : decode cX8_factOf 117 = .ok (.ireturn, 1) := by decide +kernel
theorem dX8_factOf_118 : decode cX8_factOf 118 = .ok (.iconst 1, 1) := by decide +kernel
theorem dX8_factOf_119 : decode cX8_factOf 119 = .ok (.ireturn, 1) := by decide +kernel
theorem dX8_factOf_120 : decode cX8_factOf 120 = .ok (.iconst 2, 1) := by decide +kernel
theorem dX8_factOf_121 : decode cX8_factOf 121 = .ok (.ireturn, 1) := by decide +kernel
theorem dX8_factOf_122 : decode cX8_factOf 122 = .ok (.iconst 3, 1) := by decide +kernel
theorem dX8_factOf_123 : decode cX8_factOf 123 = .ok (.ireturn, 1) := by decide +kernel
theorem dX8_factOf_124 : decode cX8_factOf 124 = .ok (.iconst 4, 1) := by decide +kernel
theorem dX8_factOf_125 : decode cX8_factOf 125 = .ok (.ireturn, 1) := by decide +kernel
theorem dX8_factOf_126 : decode cX8_factOf 126 = .ok (.iconst 5, 1) := by decide +kernel
theorem dX8_factOf_127 : decode cX8_factOf 127 = .ok (.ireturn, 1) := by decide +kernel
theorem dX8_factOf_128 : decode cX8_factOf 128 = .ok (.bipush 6, 2) := by decide +kernel
theorem dX8_factOf_130 : decode cX8_factOf 130 = .ok (.ireturn, 1) := by decide +kernel
theorem dX8_factOf_131 : decode cX8_factOf 131 = .ok (.iconst (-1), 1) := by decide +kernel
theorem dX8_factOf_132 : decode cX8_factOf 132 = .ok (.ireturn, 1) := by decide +kernel
def kX8_factOf (live : am_E) (Ret : am_R) : am_code := [(0, am_iload 0 1), (1, am_switch [(97, 128), (98, 131), (99, 131), (100, 131), (101, 120), (102, 131), (103, 131), (104, 131), (105, 131), (106, 131), (107, 131), (108, 122), (109, 131), (110, 131), (111, 126), (112, 118), (113, 131), (114, 116), (115, 131), (116, 131), (117, 131), (118, 131), (119, 131), (120, 131), (121, 124)] 131), (116, am_const (.int 0) 117), (117, am_retI Ret), (118, am_const (.int 1) 119), (119, am_retI Ret), (120, am_const (.int 2) 121), (121, am_retI Ret), (122, am_const (.int 3) 123), (123, am_retI Ret), (124, am_const (.int 4) 125), (125, am_retI Ret), (126, am_const (.int 5) 127), (127, am_retI Ret), (128, am_const (.int 6) 130), (130, am_retI Ret), (131, am_const (.int (-1)) 132), (132, am_retI Ret)]
theorem koX8_factOf (live : am_E) (Ret : am_R) : ∀ q ∈ kX8_factOf live Ret, am_ok RX8 cX8_factOf 1 (some .int) 0 0 live Ret q.1 q.2 :=
  am_kc (ak_iload_n dX8_factOf_0 rfl rfl) <|
  am_kc (ak_tswitch dX8_factOf_1 (by decide +kernel) (by decide +kernel) (by decide +kernel) (by decide +kernel) (by decide +kernel) (by decide +kernel)) <|
  am_kc (ak_iconst dX8_factOf_116 (by decide +kernel) rfl) <|
  am_kc (ak_retI dX8_factOf_117) <|
  am_kc (ak_iconst dX8_factOf_118 (by decide +kernel) rfl) <|
  am_kc (ak_retI dX8_factOf_119) <|
  am_kc (ak_iconst dX8_factOf_120 (by decide +kernel) rfl) <|
  am_kc (ak_retI dX8_factOf_121) <|
  am_kc (ak_iconst dX8_factOf_122 (by decide +kernel) rfl) <|
  am_kc (ak_retI dX8_factOf_123) <|
  am_kc (ak_iconst dX8_factOf_124 (by decide +kernel) rfl) <|
  am_kc (ak_retI dX8_factOf_125) <|
  am_kc (ak_iconst dX8_factOf_126 (by decide +kernel) rfl) <|
  am_kc (ak_retI dX8_factOf_127) <|
  am_kc (ak_bipush dX8_factOf_128 (by decide +kernel) rfl) <|
  am_kc (ak_retI dX8_factOf_130) <|
  am_kc (ak_iconst dX8_factOf_131 (by decide +kernel) rfl) <|
  am_kc (ak_retI dX8_factOf_132) <| am_kn
def r_fact (c : Int32) : Int32 := if c = 114 then 0 else if c = 112 then 1 else if c = 101 then 2 else if c = 108 then 3 else if c = 121 then 4 else if c = 111 then 5 else if c = 97 then 6 else -1
theorem r_fact_in (c : Int32) : -1 ≤ (r_fact c).toInt ∧ (r_fact c).toInt ≤ 6 := by
  unfold r_fact
  repeat (split; decide)
  decide
def TX8_factOf : am_T := fun _ as M R => match as with
  | [.int c] => R (some (.int (r_fact c))) M
  | _ => False
set_option maxRecDepth 100000 in
set_option maxHeartbeats 4000000 in
theorem metX8_factOf : am_Met yX8_factOf cX8_factOf 1 (some .int) (0) (0) TX8_factOf := by
  refine am_met (own := RX8) (by decide +kernel) rfl kX8_factOf koX8_factOf 100 (fun _ _ _ _ _ => none) (fun live as M Ret h => ?_) (fun _ _ _ _ _ _ _ _ hI => by cases hI)
  unfold TX8_factOf at h
  split at h
  · next c =>
    refine ⟨Nat.le_of_ble_eq_true rfl, ?_⟩
    change am_wp _ _ _ _ [(0, Value.int c)] _ _
    repeat' (first | apply And.intro | exact rfl | intro hx | (refine Exists.intro _ (And.intro rfl ?_)))
    all_goals try first | (with_reducible change am_tI _ _) | (change Ret _ _) | (change Ret _ _ _) | (change Exists _)
    all_goals try dsimp only at *
    all_goals try (with_reducible exact absurd ‹(1000 : Int64) = 0› am_z1000)
    all_goals grind [r_fact]
  · exact h.elim
theorem dX8_closeness_0 : decode cX8_closeness 0 = .ok (.iload_n 0, 1) := by decide +kernel
theorem dX8_closeness_1 : decode cX8_closeness 1 = .ok (.lookupswitch 94 #[(38, 90), (42, 83), (43, 86), (45, 86), (47, 83), (60, 88), (61, 88), (62, 88), (124, 92)], 83) := by decide +kernel
theorem dX8_closeness_84 : decode cX8_closeness 84 = .ok (.bipush 6, 2) := by decide +kernel
theorem dX8_closeness_86 : decode cX8_closeness 86 = .ok (.ireturn, 1) := by decide +kernel
theorem dX8_closeness_87 : decode cX8_closeness 87 = .ok (.iconst 5, 1) := by decide +kernel
theorem dX8_closeness_88 : decode cX8_closeness 88 = .ok (.ireturn, 1) := by decide +kernel
theorem dX8_closeness_89 : decode cX8_closeness 89 = .ok (.iconst 4, 1) := by decide +kernel
theorem dX8_closeness_90 : decode cX8_closeness 90 = .ok (.ireturn, 1) := by decide +kernel
theorem dX8_closeness_91 : decode cX8_closeness 91 = .ok (.iconst 3, 1) := by decide +kernel
theorem dX8_closeness_92 : decode cX8_closeness 92 = .ok (.ireturn, 1) := by decide +kernel
theorem dX8_closeness_93 : decode cX8_closeness 93 = .ok (.iconst 2, 1) := by decide +kernel
theorem dX8_closeness_94 : decode cX8_closeness 94 = .ok (.ireturn, 1) := by decide +kernel
theorem dX8_closeness_95 : decode cX8_closeness 95 = .ok (.iconst 0, 1) := by decide +kernel
theorem dX8_closeness_96 : decode cX8_closeness 96 = .ok (.ireturn, 1) := by decide +kernel
def kX8_closeness (live : am_E) (Ret : am_R) : am_code := [(0, am_iload 0 1), (1, am_switch [(38, 91), (42, 84), (43, 87), (45, 87), (47, 84), (60, 89), (61, 89), (62, 89), (124, 93)] 95), (84, am_const (.int 6) 86), (86, am_retI Ret), (87, am_const (.int 5) 88), (88, am_retI Ret), (89, am_const (.int 4) 90), (90, am_retI Ret), (91, am_const (.int 3) 92), (92, am_retI Ret), (93, am_const (.int 2) 94), (94, am_retI Ret), (95, am_const (.int 0) 96), (96, am_retI Ret)]
theorem koX8_closeness (live : am_E) (Ret : am_R) : ∀ q ∈ kX8_closeness live Ret, am_ok RX8 cX8_closeness 1 (some .int) 0 0 live Ret q.1 q.2 :=
  am_kc (ak_iload_n dX8_closeness_0 rfl rfl) <|
  am_kc (ak_lswitch dX8_closeness_1 (by decide +kernel) (by decide +kernel) (by decide +kernel)) <|
  am_kc (ak_bipush dX8_closeness_84 (by decide +kernel) rfl) <|
  am_kc (ak_retI dX8_closeness_86) <|
  am_kc (ak_iconst dX8_closeness_87 (by decide +kernel) rfl) <|
  am_kc (ak_retI dX8_closeness_88) <|
  am_kc (ak_iconst dX8_closeness_89 (by decide +kernel) rfl) <|
  am_kc (ak_retI dX8_closeness_90) <|
  am_kc (ak_iconst dX8_closeness_91 (by decide +kernel) rfl) <|
  am_kc (ak_retI dX8_closeness_92) <|
  am_kc (ak_iconst dX8_closeness_93 (by decide +kernel) rfl) <|
  am_kc (ak_retI dX8_closeness_94) <|
  am_kc (ak_iconst dX8_closeness_95 (by decide +kernel) rfl) <|
  am_kc (ak_retI dX8_closeness_96) <| am_kn
def r_clo (c : Int32) : Int32 := if c = 42 ∨ c = 47 then 6 else if c = 43 ∨ c = 45 then 5 else if c = 60 ∨ c = 61 ∨ c = 62 then 4 else if c = 38 then 3 else if c = 124 then 2 else 0
def TX8_closeness : am_T := fun _ as M R => match as with
  | [.int c] => R (some (.int (r_clo c))) M
  | _ => False
set_option maxRecDepth 100000 in
set_option maxHeartbeats 4000000 in
theorem metX8_closeness : am_Met yX8_closeness cX8_closeness 1 (some .int) (0) (0) TX8_closeness := by
  refine am_met (own := RX8) (by decide +kernel) rfl kX8_closeness koX8_closeness 100 (fun _ _ _ _ _ => none) (fun live as M Ret h => ?_) (fun _ _ _ _ _ _ _ _ hI => by cases hI)
  unfold TX8_closeness at h
  split at h
  · next c =>
    refine ⟨Nat.le_of_ble_eq_true rfl, ?_⟩
    change am_wp _ _ _ _ [(0, Value.int c)] _ _
    repeat' (first | apply And.intro | exact rfl | intro hx | (refine Exists.intro _ (And.intro rfl ?_)))
    all_goals try first | (with_reducible change am_tI _ _) | (change Ret _ _) | (change Ret _ _ _) | (change Exists _)
    all_goals try dsimp only at *
    all_goals try (with_reducible exact absurd ‹(1000 : Int64) = 0› am_z1000)
    all_goals grind [r_clo]
  · exact h.elim
def rwX8_told : List dz_r := [(0, .iload_n 0, 1), (1, .ifCond .eq 7, 3), (4, .lconst 1, 1), (5, .goto 4, 3), (8, .lconst 0, 1), (9, .lreturn, 1)]
theorem dzX8_told : dz cX8_told rwX8_told := dz_all 0 (by decide +kernel)
def kX8_told (live : am_E) (Ret : am_R) : am_code := [(0, am_iload 0 1), (1, am_if1 (fun x => x = 0) 8 4), (4, am_const (.long 1) 5), (5, am_goto 9), (8, am_const (.long 0) 9), (9, am_retL Ret)]
theorem koX8_told (live : am_E) (Ret : am_R) : ∀ q ∈ kX8_told live Ret, am_ok RX8 cX8_told 1 (some .long) 0 0 live Ret q.1 q.2 :=
  am_kz dzX8_told <|
  am_kd (fun d => ak_iload_n d rfl rfl) <|
  am_kd (fun d => ak_if_eq d (by decide +kernel) rfl) <|
  am_kd (fun d => ak_lconst d (by decide +kernel) rfl) <|
  am_kd (fun d => ak_goto d (by decide +kernel)) <|
  am_kd (fun d => ak_lconst d (by decide +kernel) rfl) <|
  am_kd (fun d => ak_retL d) <| am_kdn
def TX8_told : am_T := fun _ as M R => match as with
  | [.int c] => R (some (.long (if c = 0 then 0 else 1))) M
  | _ => False
set_option maxRecDepth 100000 in
set_option maxHeartbeats 4000000 in
theorem metX8_told : am_Met yX8_told cX8_told 1 (some .long) (0) (0) TX8_told := by
  refine am_met (own := RX8) (by decide +kernel) rfl kX8_told koX8_told 60 (fun _ _ _ _ _ => none) (fun live as M Ret h => ?_) (fun _ _ _ _ _ _ _ _ hI => by cases hI)
  unfold TX8_told at h
  split at h
  · next c =>
    refine ⟨Nat.le_of_ble_eq_true rfl, ?_⟩
    change am_wp _ _ _ _ [(0, Value.int c)] _ _
    repeat' (first | apply And.intro | exact rfl | intro hx | (refine Exists.intro _ (And.intro rfl ?_)))
    all_goals try first | (with_reducible change am_tI _ _) | (change Ret _ _) | (change Ret _ _ _) | (change Exists _)
    all_goals try dsimp only at *
    all_goals try (with_reducible exact absurd ‹(1000 : Int64) = 0› am_z1000)
    all_goals first
      | (rw [if_pos (by with_reducible assumption)] at h; exact h)
      | (rw [if_neg (by with_reducible assumption)] at h; exact h)
  · exact h.elim
theorem hy_X8_told : yX8_told.cls ≠ "java/lang/invoke/MethodHandle" ∧ yX8_told.cls ≠ "java/lang/invoke/VarHandle" ∧ (parseMethodDescriptor yX8_told.desc).map (fun d => d.parameters.length) = some 1 := ⟨by decide +kernel, by decide +kernel, by decide +kernel⟩
set_option maxRecDepth 100000 in
theorem wd_1117 : Cond.methodLink "LearnLoansModel" 146 yX8_told ∈ am_ws := am_wt5 (List.mem_of_getElem? (i := 100) (by rfl)) (by decide +kernel)
set_option maxRecDepth 100000 in
theorem wd_1118 : Cond.static yX8_told ∈ am_ws := am_wt5 (List.mem_of_getElem? (i := 101) (by rfl)) (by decide +kernel)
set_option maxRecDepth 100000 in
theorem wd_1119 : Cond.code yX8_told cX8_told 1 (some .long) ∈ am_ws := am_wt5 (List.mem_of_getElem? (i := 102) (by rfl)) (by decide +kernel)
theorem dX8_between_0 : decode cX8_between 0 = .ok (.iload_n 0, 1) := by decide +kernel
theorem dX8_between_1 : decode cX8_between 1 = .ok (.tableswitch 207 38 62 #[186, 207, 207, 207, 115, 133, 207, 137, 207, 119, 207, 207, 207, 207, 207, 207, 207, 207, 207, 207, 207, 207, 141, 171, 156], 115) := by decide +kernel
theorem dX8_between_116 : decode cX8_between 116 = .ok (.lload_n 1, 1) := by decide +kernel
theorem dX8_between_117 : decode cX8_between 117 = .ok (.lload_n 3, 1) := by decide +kernel
theorem dX8_between_118 : decode cX8_between 118 = .ok (.lmul, 1) := by decide +kernel
theorem dX8_between_119 : decode cX8_between 119 = .ok (.lreturn, 1) := by decide +kernel
theorem dX8_between_120 : decode cX8_between 120 = .ok (.lload_n 3, 1) := by decide +kernel
theorem dX8_between_121 : decode cX8_between 121 = .ok (.lconst 0, 1) := by decide +kernel
theorem dX8_between_122 : decode cX8_between 122 = .ok (.lcmp, 1) := by decide +kernel
theorem dX8_between_123 : decode cX8_between 123 = .ok (.ifCond .ne 7, 3) := by decide +kernel
theorem dX8_between_126 : decode cX8_between 126 = .ok (.lconst 0, 1) := by decide +kernel
theorem dX8_between_127 : decode cX8_between 127 = .ok (.goto 6, 3) := by decide +kernel
theorem dX8_between_130 : decode cX8_between 130 = .ok (.lload_n 1, 1) := by decide +kernel
theorem dX8_between_131 : decode cX8_between 131 = .ok (.lload_n 3, 1) := by decide +kernel
theorem dX8_between_132 : decode cX8_between 132 = .ok (.ldiv, 1) := by decide +kernel
theorem dX8_between_133 : decode cX8_between 133 = .ok (.lreturn, 1) := by decide +kernel
theorem dX8_between_134 : decode cX8_between 134 = .ok (.lload_n 1, 1) := by decide +kernel
theorem dX8_between_135 : decode cX8_between 135 = .ok (.lload_n 3, 1) := by decide +kernel
theorem dX8_between_136 : decode cX8_between 136 = .ok (.ladd, 1) := by decide +kernel
theorem dX8_between_137 : decode cX8_between 137 = .ok (.lreturn, 1) := by decide +kernel
theorem dX8_between_138 : decode cX8_between 138 = .ok (.lload_n 1, 1) := by decide +kernel
theorem dX8_between_139 : decode cX8_between 139 = .ok (.lload_n 3, 1) := by decide +kernel
theorem dX8_between_140 : decode cX8_between 140 = .ok (.lsub, 1) := by decide +kernel
theorem dX8_between_141 : decode cX8_between 141 = .ok (.lreturn, 1) := by decide +kernel
theorem dX8_between_142 : decode cX8_between 142 = .ok (.lload_n 1, 1) := by decide +kernel
theorem dX8_between_143 : decode cX8_between 143 = .ok (.lload_n 3, 1) := by decide +kernel
theorem dX8_between_144 : decode cX8_between 144 = .ok (.lcmp, 1) := by decide +kernel
theorem dX8_between_145 : decode cX8_between 145 = .ok (.ifCond .ge 7, 3) := by decide +kernel
theorem dX8_between_148 : decode cX8_between 148 = .ok (.iconst 1, 1) := by decide +kernel
theorem dX8_between_149 : decode cX8_between 149 = .ok (.goto 4, 3) := by decide +kernel
theorem dX8_between_152 : decode cX8_between 152 = .ok (.iconst 0, 1) := by decide +kernel
theorem dX8_between_153 : decode cX8_between 153 = .ok (.invokestatic 146, 3) := by decide +kernel
theorem dX8_between_156 : decode cX8_between 156 = .ok (.lreturn, 1) := by decide +kernel
theorem dX8_between_157 : decode cX8_between 157 = .ok (.lload_n 1, 1) := by decide +kernel
theorem dX8_between_158 : decode cX8_between 158 = .ok (.lload_n 3, 1) := by decide +kernel
theorem dX8_between_159 : decode cX8_between 159 = .ok (.lcmp, 1) := by decide +kernel
theorem dX8_between_160 : decode cX8_between 160 = .ok (.ifCond .le 7, 3) := by decide +kernel
theorem dX8_between_163 : decode cX8_between 163 = .ok (.iconst 1, 1) := by decide +kernel
theorem dX8_between_164 : decode cX8_between 164 = .ok (.goto 4, 3) := by decide +kernel
theorem dX8_between_167 : decode cX8_between 167 = .ok (.iconst 0, 1) := by decide +kernel
theorem dX8_between_168 : decode cX8_between 168 = .ok (.invokestatic 146, 3) := by decide +kernel
theorem dX8_between_171 : decode cX8_between 171 = .ok (.lreturn, 1) := by decide +kernel
theorem dX8_between_172 : decode cX8_between 172 = .ok (.lload_n 1, 1) := by decide +kernel
theorem dX8_between_173 : decode cX8_between 173 = .ok (.lload_n 3, 1) := by decide +kernel
theorem dX8_between_174 : decode cX8_between 174 = .ok (.lcmp, 1) := by decide +kernel
theorem dX8_between_175 : decode cX8_between 175 = .ok (.ifCond .ne 7, 3) := by decide +kernel
theorem dX8_between_178 : decode cX8_between 178 = .ok (.iconst 1, 1) := by decide +kernel
theorem dX8_between_179 : decode cX8_between 179 = .ok (.goto 4, 3) := by decide +kernel
theorem dX8_between_182 : decode cX8_between 182 = .ok (.iconst 0, 1) := by decide +kernel
theorem dX8_between_183 : decode cX8_between 183 = .ok (.invokestatic 146, 3) := by decide +kernel
theorem dX8_between_186 : decode cX8_between 186 = .ok (.lreturn, 1) := by decide +kernel
theorem dX8_between_187 : decode cX8_between 187 = .ok (.lload_n 1, 1) := by decide +kernel
theorem dX8_between_188 : decode cX8_between 188 = .ok (.lconst 0, 1) := by decide +kernel
theorem dX8_between_189 : decode cX8_between 189 = .ok (.lcmp, 1) := by decide +kernel
theorem dX8_between_190 : decode cX8_between 190 = .ok (.ifCond .eq 13, 3) := by decide +kernel
theorem dX8_between_193 : decode cX8_between 193 = .ok (.lload_n 3, 1) := by decide +kernel
theorem dX8_between_194 : decode cX8_between 194 = .ok (.lconst 0, 1) := by decide +kernel
theorem dX8_between_195 : decode cX8_between 195 = .ok (.lcmp, 1) := by decide +kernel
theorem dX8_between_196 : decode cX8_between 196 = .ok (.ifCond .eq 7, 3) := by decide +kernel
theorem dX8_between_199 : decode cX8_between 199 = .ok (.iconst 1, 1) := by decide +kernel
theorem dX8_between_200 : decode cX8_between 200 = .ok (.goto 4, 3) := by decide +kernel
theorem dX8_between_203 : decode cX8_between 203 = .ok (.iconst 0, 1) := by decide +kernel
theorem dX8_between_204 : decode cX8_between 204 = .ok (.invokestatic 146, 3) := by decide +kernel
theorem dX8_between_207 : decode cX8_between 207 = .ok (.lreturn, 1) := by decide +kernel
theorem dX8_between_208 : decode cX8_between 208 = .ok (.lload_n 1, 1) := by decide +kernel
theorem dX8_between_209 : decode cX8_between 209 = .ok (.lconst 0, 1) := by decide +kernel
theorem dX8_between_210 : decode cX8_between 210 = .ok (.lcmp, 1) := by decide +kernel
theorem dX8_between_211 : decode cX8_between 211 = .ok (.ifCond .ne 9, 3) := by decide +kernel
theorem dX8_between_214 : decode cX8_between 214 = .ok (.lload_n 3, 1) := by decide +kernel
theorem dX8_between_215 : decode cX8_between 215 = .ok (.lconst 0, 1) := by decide +kernel
theorem dX8_between_216 : decode cX8_between 216 = .ok (.lcmp, 1) := by decide +kernel
theorem dX8_between_217 : decode cX8_between 217 = .ok (.ifCond .eq 7, 3) := by decide +kernel
theorem dX8_between_220 : decode cX8_between 220 = .ok (.iconst 1, 1) := by decide +kernel
theorem dX8_between_221 : decode cX8_between 221 = .ok (.goto 4, 3) := by decide +kernel
theorem dX8_between_224 : decode cX8_between 224 = .ok (.iconst 0, 1) := by decide +kernel
theorem dX8_between_225 : decode cX8_between 225 = .ok (.invokestatic 146, 3) := by decide +kernel
theorem dX8_between_228 : decode cX8_between 228 = .ok (.lreturn, 1) := by decide +kernel
def kX8_between (live : am_E) (Ret : am_R) : am_code := [(0, am_iload 0 1), (1, am_switch [(38, 187), (39, 208), (40, 208), (41, 208), (42, 116), (43, 134), (44, 208), (45, 138), (46, 208), (47, 120), (48, 208), (49, 208), (50, 208), (51, 208), (52, 208), (53, 208), (54, 208), (55, 208), (56, 208), (57, 208), (58, 208), (59, 208), (60, 142), (61, 172), (62, 157)] 208), (116, am_lload 1 117), (117, am_lload 3 118), (118, am_l2 (fun x y => x * y) 119), (119, am_retL Ret), (120, am_lload 3 121), (121, am_const (.long 0) 122), (122, am_lcmp 123), (123, am_if1 (fun x => x = 0) 126 130), (126, am_const (.long 0) 127), (127, am_goto 133), (130, am_lload 1 131), (131, am_lload 3 132), (132, am_l2z (fun x y => x / y) 133), (133, am_retL Ret), (134, am_lload 1 135), (135, am_lload 3 136), (136, am_l2 (fun x y => x + y) 137), (137, am_retL Ret), (138, am_lload 1 139), (139, am_lload 3 140), (140, am_l2 (fun x y => x - y) 141), (141, am_retL Ret), (142, am_lload 1 143), (143, am_lload 3 144), (144, am_lcmp 145), (145, am_if1 (fun x => 0 ≤ x) 152 148), (148, am_const (.int 1) 149), (149, am_goto 153), (152, am_const (.int 0) 153), (153, am_callS live 1 TX8_told 156), (156, am_retL Ret), (157, am_lload 1 158), (158, am_lload 3 159), (159, am_lcmp 160), (160, am_if1 (fun x => x ≤ 0) 167 163), (163, am_const (.int 1) 164), (164, am_goto 168), (167, am_const (.int 0) 168), (168, am_callS live 1 TX8_told 171), (171, am_retL Ret), (172, am_lload 1 173), (173, am_lload 3 174), (174, am_lcmp 175), (175, am_if1 (fun x => x = 0) 178 182), (178, am_const (.int 1) 179), (179, am_goto 183), (182, am_const (.int 0) 183), (183, am_callS live 1 TX8_told 186), (186, am_retL Ret), (187, am_lload 1 188), (188, am_const (.long 0) 189), (189, am_lcmp 190), (190, am_if1 (fun x => x = 0) 203 193), (193, am_lload 3 194), (194, am_const (.long 0) 195), (195, am_lcmp 196), (196, am_if1 (fun x => x = 0) 203 199), (199, am_const (.int 1) 200), (200, am_goto 204), (203, am_const (.int 0) 204), (204, am_callS live 1 TX8_told 207), (207, am_retL Ret), (208, am_lload 1 209), (209, am_const (.long 0) 210), (210, am_lcmp 211), (211, am_if1 (fun x => x = 0) 214 220), (214, am_lload 3 215), (215, am_const (.long 0) 216), (216, am_lcmp 217), (217, am_if1 (fun x => x = 0) 224 220), (220, am_const (.int 1) 221), (221, am_goto 225), (224, am_const (.int 0) 225), (225, am_callS live 1 TX8_told 228), (228, am_retL Ret)]
theorem koX8_between (live : am_E) (Ret : am_R) : ∀ q ∈ kX8_between live Ret, am_ok RX8 cX8_between 5 (some .long) 1 20 live Ret q.1 q.2 :=
  am_kc (ak_iload_n dX8_between_0 rfl rfl) <|
  am_kc (ak_tswitch dX8_between_1 (by decide +kernel) (by decide +kernel) (by decide +kernel) (by decide +kernel) (by decide +kernel) (by decide +kernel)) <|
  am_kc (ak_lload_n dX8_between_116 rfl rfl) <|
  am_kc (ak_lload_n dX8_between_117 rfl rfl) <|
  am_kc (ak_lmul dX8_between_118 rfl) <|
  am_kc (ak_retL dX8_between_119) <|
  am_kc (ak_lload_n dX8_between_120 rfl rfl) <|
  am_kc (ak_lconst dX8_between_121 (by decide +kernel) rfl) <|
  am_kc (ak_lcmp dX8_between_122 rfl) <|
  am_kc (ak_if_ne dX8_between_123 (by decide +kernel) rfl) <|
  am_kc (ak_lconst dX8_between_126 (by decide +kernel) rfl) <|
  am_kc (ak_goto dX8_between_127 (by decide +kernel)) <|
  am_kc (ak_lload_n dX8_between_130 rfl rfl) <|
  am_kc (ak_lload_n dX8_between_131 rfl rfl) <|
  am_kc (ak_ldiv dX8_between_132 rfl) <|
  am_kc (ak_retL dX8_between_133) <|
  am_kc (ak_lload_n dX8_between_134 rfl rfl) <|
  am_kc (ak_lload_n dX8_between_135 rfl rfl) <|
  am_kc (ak_ladd dX8_between_136 rfl) <|
  am_kc (ak_retL dX8_between_137) <|
  am_kc (ak_lload_n dX8_between_138 rfl rfl) <|
  am_kc (ak_lload_n dX8_between_139 rfl rfl) <|
  am_kc (ak_lsub dX8_between_140 rfl) <|
  am_kc (ak_retL dX8_between_141) <|
  am_kc (ak_lload_n dX8_between_142 rfl rfl) <|
  am_kc (ak_lload_n dX8_between_143 rfl rfl) <|
  am_kc (ak_lcmp dX8_between_144 rfl) <|
  am_kc (ak_if_ge dX8_between_145 (by decide +kernel) rfl) <|
  am_kc (ak_iconst dX8_between_148 (by decide +kernel) rfl) <|
  am_kc (ak_goto dX8_between_149 (by decide +kernel)) <|
  am_kc (ak_iconst dX8_between_152 (by decide +kernel) rfl) <|
  am_kc (ak_callS metX8_told ⟨rfl, hy_X8_told⟩ (am_w4 wd_1117 wd_1118 wd_67 wd_1119) (by decide) dX8_between_153 rfl) <|
  am_kc (ak_retL dX8_between_156) <|
  am_kc (ak_lload_n dX8_between_157 rfl rfl) <|
  am_kc (ak_lload_n dX8_between_158 rfl rfl) <|
  am_kc (ak_lcmp dX8_between_159 rfl) <|
  am_kc (ak_if_le dX8_between_160 (by decide +kernel) rfl) <|
  am_kc (ak_iconst dX8_between_163 (by decide +kernel) rfl) <|
  am_kc (ak_goto dX8_between_164 (by decide +kernel)) <|
  am_kc (ak_iconst dX8_between_167 (by decide +kernel) rfl) <|
  am_kc (ak_callS metX8_told ⟨rfl, hy_X8_told⟩ (am_w4 wd_1117 wd_1118 wd_67 wd_1119) (by decide) dX8_between_168 rfl) <|
  am_kc (ak_retL dX8_between_171) <|
  am_kc (ak_lload_n dX8_between_172 rfl rfl) <|
  am_kc (ak_lload_n dX8_between_173 rfl rfl) <|
  am_kc (ak_lcmp dX8_between_174 rfl) <|
  am_kc (ak_if_ne dX8_between_175 (by decide +kernel) rfl) <|
  am_kc (ak_iconst dX8_between_178 (by decide +kernel) rfl) <|
  am_kc (ak_goto dX8_between_179 (by decide +kernel)) <|
  am_kc (ak_iconst dX8_between_182 (by decide +kernel) rfl) <|
  am_kc (ak_callS metX8_told ⟨rfl, hy_X8_told⟩ (am_w4 wd_1117 wd_1118 wd_67 wd_1119) (by decide) dX8_between_183 rfl) <|
  am_kc (ak_retL dX8_between_186) <|
  am_kc (ak_lload_n dX8_between_187 rfl rfl) <|
  am_kc (ak_lconst dX8_between_188 (by decide +kernel) rfl) <|
  am_kc (ak_lcmp dX8_between_189 rfl) <|
  am_kc (ak_if_eq dX8_between_190 (by decide +kernel) rfl) <|
  am_kc (ak_lload_n dX8_between_193 rfl rfl) <|
  am_kc (ak_lconst dX8_between_194 (by decide +kernel) rfl) <|
  am_kc (ak_lcmp dX8_between_195 rfl) <|
  am_kc (ak_if_eq dX8_between_196 (by decide +kernel) rfl) <|
  am_kc (ak_iconst dX8_between_199 (by decide +kernel) rfl) <|
  am_kc (ak_goto dX8_between_200 (by decide +kernel)) <|
  am_kc (ak_iconst dX8_between_203 (by decide +kernel) rfl) <|
  am_kc (ak_callS metX8_told ⟨rfl, hy_X8_told⟩ (am_w4 wd_1117 wd_1118 wd_67 wd_1119) (by decide) dX8_between_204 rfl) <|
  am_kc (ak_retL dX8_between_207) <|
  am_kc (ak_lload_n dX8_between_208 rfl rfl) <|
  am_kc (ak_lconst dX8_between_209 (by decide +kernel) rfl) <|
  am_kc (ak_lcmp dX8_between_210 rfl) <|
  am_kc (ak_if_ne dX8_between_211 (by decide +kernel) rfl) <|
  am_kc (ak_lload_n dX8_between_214 rfl rfl) <|
  am_kc (ak_lconst dX8_between_215 (by decide +kernel) rfl) <|
  am_kc (ak_lcmp dX8_between_216 rfl) <|
  am_kc (ak_if_eq dX8_between_217 (by decide +kernel) rfl) <|
  am_kc (ak_iconst dX8_between_220 (by decide +kernel) rfl) <|
  am_kc (ak_goto dX8_between_221 (by decide +kernel)) <|
  am_kc (ak_iconst dX8_between_224 (by decide +kernel) rfl) <|
  am_kc (ak_callS metX8_told ⟨rfl, hy_X8_told⟩ (am_w4 wd_1117 wd_1118 wd_67 wd_1119) (by decide) dX8_between_225 rfl) <|
  am_kc (ak_retL dX8_between_228) <| am_kn
def TX8_between : am_T := fun _ as M R => match as with
  | [.int c, .long a, .long b] => ∀ v, R (some (.long v)) M
  | _ => False
theorem r_lcz {y : Int64} (h : ¬ lg_cmp y 0 = 0) : ¬ y = 0 := fun e => h ((lc_eq y 0).mpr e)
set_option maxRecDepth 100000 in
set_option maxHeartbeats 4000000 in
theorem metX8_between : am_Met yX8_between cX8_between 5 (some .long) (1) (20) TX8_between := by
  refine am_met (own := RX8) (by decide +kernel) rfl kX8_between koX8_between 100 (fun _ _ _ _ _ => none) (fun live as M Ret h => ?_) (fun _ _ _ _ _ _ _ _ hI => by cases hI)
  unfold TX8_between at h
  split at h
  · next c a b =>
    refine ⟨Nat.le_of_ble_eq_true rfl, ?_⟩
    change am_wp _ _ _ _ [(0, Value.int c), (1, Value.long a), (3, Value.long b)] _ _
    repeat' (first | apply And.intro | exact rfl | intro hx | (refine Exists.intro _ (And.intro rfl ?_)))
    all_goals try first | (with_reducible change am_tI _ _) | (change Ret _ _) | (change Ret _ _ _) | (change Exists _)
    all_goals try dsimp only at *
    all_goals try (with_reducible exact absurd ‹(1000 : Int64) = 0› am_z1000)
    all_goals first
      | (with_reducible exact h _)
      | exact r_lcz (by with_reducible assumption) (by with_reducible assumption)
      | exact absurd (by with_reducible assumption) (r_lcz (by with_reducible assumption))
      | exact h _
  · exact h.elim
set_option maxRecDepth 100000 in
theorem wd_906 : Cond.fieldLink "LearnLoansModel" 150 "LearnLoansModel" "waitMany" "I" ∈ am_ws := am_wt4 (List.mem_of_getElem? (i := 129) (by rfl)) (by decide +kernel)
def rwX8_top : List dz_r := [(0, .aload_n 0, 1), (1, .getfield 150, 3), (4, .ifCond .ne 7, 3), (7, .iconst 0, 1), (8, .goto 14, 3), (11, .aload_n 0, 1), (12, .getfield 20, 3), (15, .aload_n 0, 1), (16, .getfield 150, 3), (19, .iconst 1, 1), (20, .isub, 1), (21, .iaload, 1), (22, .ireturn, 1)]
theorem dzX8_top : dz cX8_top rwX8_top := dz_all 0 (by decide +kernel)
def kX8_top (live : am_E) (Ret : am_R) : am_code := [(0, am_aload 0 1), (1, am_getI live 8 11 4), (4, am_if1 (fun x => x = 0) 7 11), (7, am_const (.int 0) 8), (8, am_goto 22), (11, am_aload 0 12), (12, am_getR live 8 9 15), (15, am_aload 0 16), (16, am_getI live 8 11 19), (19, am_const (.int 1) 20), (20, am_i2 (fun x y => x - y) 21), (21, am_ald live 0 22), (22, am_retI Ret)]
theorem koX8_top (live : am_E) (Ret : am_R) : ∀ q ∈ kX8_top live Ret, am_ok RX8 cX8_top 1 (some .int) 0 0 live Ret q.1 q.2 :=
  am_kz dzX8_top <|
  am_kd (fun d => ak_aload_n d rfl rfl) <|
  am_kd (fun d => ak_getI (C := RX8) (T := TX8) (N := 27) rfl inX8w (by decide) rfl rfl rfl wd_906 d rfl) <|
  am_kd (fun d => ak_if_ne d (by decide +kernel) rfl) <|
  am_kd (fun d => ak_iconst d (by decide +kernel) rfl) <|
  am_kd (fun d => ak_goto d (by decide +kernel)) <|
  am_kd (fun d => ak_aload_n d rfl rfl) <|
  am_kd (fun d => ak_getR (C := RX8) (T := TX8) (N := 27) rfl inX8w (by decide) rfl rfl rfl wd_904 d rfl) <|
  am_kd (fun d => ak_aload_n d rfl rfl) <|
  am_kd (fun d => ak_getI (C := RX8) (T := TX8) (N := 27) rfl inX8w (by decide) rfl rfl rfl wd_906 d rfl) <|
  am_kd (fun d => ak_iconst d (by decide +kernel) rfl) <|
  am_kd (fun d => ak_isub d rfl) <|
  am_kd (fun d => ak_iald (t := 0) (fun _ => rfl) rfl d rfl) <|
  am_kd (fun d => ak_retI d) <| am_kdn
/-- how many values wait for what waits: what a sign weighs -/
def r_wt (c : Int32) : Nat := if c = 58 then 2 else if c = 63 then 1 else if r_clo c = 0 then 0 else 1
def r_ws (f : Nat → Int32) : Nat → Nat
  | 0 => 0
  | k + 1 => r_ws f k + r_wt (f k)
/-- the reader's stacks: d values more than what waits weighs -/
def r_wI (M : am_M) (d : Nat) (w0 : Nat) : Prop := ∃ _ : Unit, (0 ≤ (M.1 200 11).toInt ∧ (M.1 200 11).toInt ≤ (w0 : Int) ∧ w0 ≤ 60) ∧ (M.1 200 12).toInt = (r_ws (M.1 204) (M.1 200 11).toNatClampNeg + d : Nat) ∧ (M.1 200 12).toInt ≤ (w0 : Int)
def r_cw (M : am_M) (d : Nat) (K : Nat → Prop) : Prop := ∃ w0, r_wI M d w0 ∧ K w0
theorem r_cw_in {M : am_M} {d w0 : Nat} {K : Nat → Prop} (h : r_wI M d w0) (k : K w0) : r_cw M d K := ⟨w0, h, k⟩
def r_top (M : am_M) : Int32 := if M.1 200 11 = 0 then 0 else M.1 204 (M.1 200 11 - 1).toNatClampNeg
def TX8_top : am_T := fun live as M R => match as with
  | [.ref n] => am_mn live ∧ n = 200 ∧ (0 ≤ (M.1 200 11).toInt ∧ (M.1 200 11).toInt ≤ 120) ∧ R (some (.int (r_top M))) M
  | _ => False
set_option maxRecDepth 100000 in
set_option maxHeartbeats 4000000 in
theorem metX8_top : am_Met yX8_top cX8_top 1 (some .int) (0) (0) TX8_top := by
  refine am_met (own := RX8) (by decide +kernel) rfl kX8_top koX8_top 60 (fun _ _ _ _ _ => none) (fun live as M Ret h => ?_) (fun _ _ _ _ _ _ _ _ hI => by cases hI)
  unfold TX8_top at h
  split at h
  · next n =>
    refine ⟨Nat.le_of_ble_eq_true rfl, ?_⟩
    change am_wp _ _ _ _ [(0, Value.ref n)] _ _
    obtain ⟨⟨i1, i2, rfl⟩, rfl, ⟨w1, w2⟩, h⟩ := h
    have l204 : am_len 204 = 120 := rfl
    by_cases z : M.1 200 11 = 0
    · rw [show r_top M = 0 from if_pos z] at h
      repeat' (first | (with_reducible exact h) | apply And.intro | exact rfl | (intro hx; with_reducible exact absurd z hx) | intro hx | (refine Exists.intro _ (And.intro rfl ?_)))
      all_goals try first | (with_reducible change am_tI _ _) | (change Ret _ _) | (change Ret _ _ _) | (change Exists _)
      all_goals try dsimp only at *
      all_goals try (with_reducible exact absurd ‹(1000 : Int64) = 0› am_z1000)
      all_goals exact h
    · rw [show r_top M = M.1 204 (M.1 200 11 - 1).toNatClampNeg from if_neg z] at h
      have z2 := z
      simp only [i_eq, Int32.reduceToInt] at z2
      have e := i_sub (x := M.1 200 11) (y := 1) (by simp only [Int32.reduceToInt]; omega) (by simp only [Int32.reduceToInt]; omega)
      simp only [Int32.reduceToInt] at e
      repeat' (first | apply And.intro | exact rfl | (intro hx; with_reducible exact absurd hx z) | intro hx | (refine Exists.intro _ (And.intro rfl ?_)))
      all_goals try first | (with_reducible change am_tI _ _) | (change Ret _ _) | (change Ret _ _ _) | (change Exists _)
      all_goals try dsimp only at *
      all_goals try (with_reducible exact absurd ‹(1000 : Int64) = 0› am_z1000)
      all_goals first
        | (with_reducible exact h)
        | omega
        | (rw [l204]; omega)
        | exact h
  · exact h.elim
def rwX8_wait : List dz_r := [(0, .aload_n 0, 1), (1, .getfield 20, 3), (4, .aload_n 0, 1), (5, .getfield 150, 3), (8, .iload_n 1, 1), (9, .iastore, 1), (10, .aload_n 0, 1), (11, .dup, 1), (12, .getfield 150, 3), (15, .iconst 1, 1), (16, .iadd, 1), (17, .putfield 150, 3), (20, .return_, 1)]
theorem dzX8_wait : dz cX8_wait rwX8_wait := dz_all 0 (by decide +kernel)
def kX8_wait (live : am_E) (Ret : am_R) : am_code := [(0, am_aload 0 1), (1, am_getR live 8 9 4), (4, am_aload 0 5), (5, am_getI live 8 11 8), (8, am_iload 1 9), (9, am_ast live 0 10), (10, am_aload 0 11), (11, am_dup 12), (12, am_getI live 8 11 15), (15, am_const (.int 1) 16), (16, am_i2 (fun x y => x + y) 17), (17, am_putI live 8 11 20), (20, am_retV Ret)]
theorem koX8_wait (live : am_E) (Ret : am_R) : ∀ q ∈ kX8_wait live Ret, am_ok RX8 cX8_wait 2 none 0 0 live Ret q.1 q.2 :=
  am_kz dzX8_wait <|
  am_kd (fun d => ak_aload_n d rfl rfl) <|
  am_kd (fun d => ak_getR (C := RX8) (T := TX8) (N := 27) rfl inX8w (by decide) rfl rfl rfl wd_904 d rfl) <|
  am_kd (fun d => ak_aload_n d rfl rfl) <|
  am_kd (fun d => ak_getI (C := RX8) (T := TX8) (N := 27) rfl inX8w (by decide) rfl rfl rfl wd_906 d rfl) <|
  am_kd (fun d => ak_iload_n d rfl rfl) <|
  am_kd (fun d => ak_iast (t := 0) (fun _ => rfl) rfl d rfl) <|
  am_kd (fun d => ak_aload_n d rfl rfl) <|
  am_kd (fun d => ak_dup d rfl) <|
  am_kd (fun d => ak_getI (C := RX8) (T := TX8) (N := 27) rfl inX8w (by decide) rfl rfl rfl wd_906 d rfl) <|
  am_kd (fun d => ak_iconst d (by decide +kernel) rfl) <|
  am_kd (fun d => ak_iadd d rfl) <|
  am_kd (fun d => ak_putI (C := RX8) (T := TX8) (N := 27) rfl inX8w tyX8_ok nmX8 (by decide) rfl rfl rfl rfl (by decide +kernel) wd_906 d rfl) <|
  am_kd (fun d => ak_retV d) <| am_kdn
def TX8_wait : am_T := fun live as M R => match as with
  | [.ref n, .int c] => am_mn live ∧ n = 200 ∧ (0 ≤ (M.1 200 11).toInt ∧ (M.1 200 11).toInt < 120) ∧ R none (am_wI (am_wI M 204 (M.1 200 11).toNatClampNeg c) 200 11 (M.1 200 11 + 1))
  | _ => False
set_option maxRecDepth 100000 in
set_option maxHeartbeats 4000000 in
theorem metX8_wait : am_Met yX8_wait cX8_wait 2 none (0) (0) TX8_wait := by
  refine am_met (own := RX8) (by decide +kernel) rfl kX8_wait koX8_wait 60 (fun _ _ _ _ _ => none) (fun live as M Ret h => ?_) (fun _ _ _ _ _ _ _ _ hI => by cases hI)
  unfold TX8_wait at h
  split at h
  · next n c =>
    refine ⟨Nat.le_of_ble_eq_true rfl, ?_⟩
    change am_wp _ _ _ _ [(0, Value.ref n), (1, Value.int c)] _ _
    obtain ⟨⟨i1, i2, rfl⟩, rfl, ⟨w1, w2⟩, h⟩ := h
    have l204 : am_len 204 = 120 := rfl
    repeat' (first | apply And.intro | exact rfl | intro hx | (refine Exists.intro _ (And.intro rfl ?_)))
    all_goals try first | (with_reducible change am_tI _ _) | (change Ret _ _) | (change Ret _ _ _) | (change Exists _)
    all_goals try dsimp only at *
    all_goals try (with_reducible exact absurd ‹(1000 : Int64) = 0› am_z1000)
    all_goals first
      | (with_reducible exact h)
      | omega
      | (rw [l204]; omega)
      | exact h
  · exact h.elim
def rwX8_opened : List dz_r := [(0, .iconst 0, 1), (1, .istore_n 1, 1), (2, .iconst 0, 1), (3, .istore_n 2, 1), (4, .iload_n 2, 1), (5, .aload_n 0, 1), (6, .getfield 150, 3), (9, .if_icmp .ge 28, 3), (12, .iload_n 1, 1), (13, .aload_n 0, 1), (14, .getfield 20, 3), (17, .iload_n 2, 1), (18, .iaload, 1), (19, .bipush 40, 2), (21, .if_icmp .ne 7, 3), (24, .iconst 1, 1), (25, .goto 4, 3), (28, .iconst 0, 1), (29, .iadd, 1), (30, .istore_n 1, 1), (31, .iinc 2 1, 3), (34, .goto (-30), 3), (37, .iload_n 1, 1), (38, .ireturn, 1)]
theorem dzX8_opened : dz cX8_opened rwX8_opened := dz_all 0 (by decide +kernel)
def kX8_opened (live : am_E) (Ret : am_R) : am_code := [(0, am_const (.int 0) 1), (1, am_istore 1 3 2), (2, am_const (.int 0) 3), (3, am_istore 2 3 4), (4, am_iload 2 5), (5, am_aload 0 6), (6, am_getI live 8 11 9), (9, am_if2 (fun x y => y ≤ x) 37 12), (12, am_iload 1 13), (13, am_aload 0 14), (14, am_getR live 8 9 17), (17, am_iload 2 18), (18, am_ald live 0 19), (19, am_const (.int 40) 21), (21, am_if2 (fun x y => x = y) 24 28), (24, am_const (.int 1) 25), (25, am_goto 29), (28, am_const (.int 0) 29), (29, am_i2 (fun x y => x + y) 30), (30, am_istore 1 3 31), (31, am_iinc 2 3 1 34), (34, am_goto 4), (37, am_iload 1 38), (38, am_retI Ret)]
theorem koX8_opened (live : am_E) (Ret : am_R) : ∀ q ∈ kX8_opened live Ret, am_ok RX8 cX8_opened 3 (some .int) 0 0 live Ret q.1 q.2 :=
  am_kz dzX8_opened <|
  am_kd (fun d => ak_iconst d (by decide +kernel) rfl) <|
  am_kd (fun d => ak_istore_n d rfl rfl) <|
  am_kd (fun d => ak_iconst d (by decide +kernel) rfl) <|
  am_kd (fun d => ak_istore_n d rfl rfl) <|
  am_kd (fun d => ak_iload_n d rfl rfl) <|
  am_kd (fun d => ak_aload_n d rfl rfl) <|
  am_kd (fun d => ak_getI (C := RX8) (T := TX8) (N := 27) rfl inX8w (by decide) rfl rfl rfl wd_906 d rfl) <|
  am_kd (fun d => ak_icmp_ge d (by decide +kernel) rfl) <|
  am_kd (fun d => ak_iload_n d rfl rfl) <|
  am_kd (fun d => ak_aload_n d rfl rfl) <|
  am_kd (fun d => ak_getR (C := RX8) (T := TX8) (N := 27) rfl inX8w (by decide) rfl rfl rfl wd_904 d rfl) <|
  am_kd (fun d => ak_iload_n d rfl rfl) <|
  am_kd (fun d => ak_iald (t := 0) (fun _ => rfl) rfl d rfl) <|
  am_kd (fun d => ak_bipush d (by decide +kernel) rfl) <|
  am_kd (fun d => ak_icmp_ne d (by decide +kernel) rfl) <|
  am_kd (fun d => ak_iconst d (by decide +kernel) rfl) <|
  am_kd (fun d => ak_goto d (by decide +kernel)) <|
  am_kd (fun d => ak_iconst d (by decide +kernel) rfl) <|
  am_kd (fun d => ak_iadd d rfl) <|
  am_kd (fun d => ak_istore_n d rfl rfl) <|
  am_kd (fun d => ak_iinc d (by decide +kernel) rfl) <|
  am_kd (fun d => ak_goto d (by decide +kernel)) <|
  am_kd (fun d => ak_iload_n d rfl rfl) <|
  am_kd (fun d => ak_retI d) <| am_kdn
def TX8_opened : am_T := fun live as M R => match as with
  | [.ref n] => am_mn live ∧ n = 200 ∧ (0 ≤ (M.1 200 11).toInt ∧ (M.1 200 11).toInt ≤ 120) ∧ ∀ v, R (some (.int v)) M
  | _ => False
def JX8_opened : am_E → List Value → am_M → am_R → am_inv := fun live as M0 _ pc => match as with
  | [.ref n] => (match pc with
    | 4 => some ([0, 1, 2], fun k L st M => ∃ v i : Int32, L = [(0, .ref 200), (1, .int v), (2, .int i)] ∧ st = [] ∧ k = ((121 - i.toInt).toNat, 0) ∧ 0 ≤ i.toInt ∧ M = M0)
    | _ => none)
  | _ => none
set_option maxRecDepth 100000 in
set_option maxHeartbeats 4000000 in
theorem metX8_opened : am_Met yX8_opened cX8_opened 3 (some .int) (0) (0) TX8_opened := by
  refine am_met (own := RX8) (by decide +kernel) rfl kX8_opened koX8_opened 100 JX8_opened ?_ ?_
  · intro live as M Ret h
    unfold TX8_opened at h
    split at h
    · next n =>
      refine ⟨Nat.le_of_ble_eq_true rfl, ?_⟩
      change am_wp _ _ _ _ [(0, Value.ref n)] _ _
      obtain ⟨hmn, rfl, hw, h⟩ := h
      repeat' (first | apply And.intro | exact rfl | intro hx | (refine Exists.intro _ (And.intro rfl ?_)))
      all_goals try first | (with_reducible change am_tI _ _) | (change Ret _ _) | (change Ret _ _ _) | (change Exists _)
      all_goals try dsimp only at *
      all_goals try (with_reducible exact absurd ‹(1000 : Int64) = 0› am_z1000)
      exact ⟨_, _, _, rfl, rfl, rfl, by decide, rfl⟩
    · exact h.elim
  · intro live as M0 Ret h k pc I hI L st M hi
    unfold TX8_opened at h
    split at h
    · next n =>
      obtain ⟨⟨i1, i2, rfl⟩, rfl, ⟨w1, w2⟩, h⟩ := h
      have l204 : am_len 204 = 120 := rfl
      change (match pc with | 4 => _ | _ => none) = _ at hI
      split at hI
      · cases hI
        obtain ⟨v, i, rfl, rfl, rfl, e1, rfl⟩ := hi
        by_cases hz : M.1 200 11 ≤ i
        · skip
          repeat' (first | apply And.intro | exact rfl | (intro hx; with_reducible exact absurd hz hx) | intro hx | (refine Exists.intro _ (And.intro rfl ?_)))
          all_goals try first | (with_reducible change am_tI _ _) | (change Ret _ _) | (change Ret _ _ _) | (change Exists _)
          all_goals try dsimp only at *
          all_goals try (with_reducible exact absurd ‹(1000 : Int64) = 0› am_z1000)
          exact h _
        · have hz2 := hz
          simp only [i_le] at hz2
          have hi := i_inc (x := i) (by omega) (by omega)
          repeat' (first | apply And.intro | exact rfl | (intro hx; with_reducible exact absurd hx hz) | intro hx | (refine Exists.intro _ (And.intro rfl ?_)))
          all_goals try first | (with_reducible change am_tI _ _) | (change Ret _ _) | (change Ret _ _ _) | (change Exists _)
          all_goals try dsimp only at *
          all_goals try (with_reducible exact absurd ‹(1000 : Int64) = 0› am_z1000)
          all_goals first
            | omega
            | (rw [l204]; omega)
            | exact ⟨_, am_lt_l (by omega), _, _, rfl, rfl, rfl, by omega, rfl⟩
      · cases hI
    · exact h.elim
theorem r_ws_top {M : am_M} (h1 : 0 < (M.1 200 11).toInt) : r_ws (M.1 204) (M.1 200 11).toNatClampNeg = r_ws (M.1 204) (M.1 200 11 - 1).toNatClampNeg + r_wt (r_top M) := by
  have e := i_sub (x := M.1 200 11) (y := 1) (by simp only [Int32.reduceToInt]; have := i_hi (M.1 200 11); omega) (by simp only [Int32.reduceToInt]; have := i_hi (M.1 200 11); omega)
  simp only [Int32.reduceToInt] at e
  have c1 := i_clamp (x := M.1 200 11) (by omega)
  have c2 := i_clamp (x := M.1 200 11 - 1) (by omega)
  have c3 : (M.1 200 11).toNatClampNeg = (M.1 200 11 - 1).toNatClampNeg + 1 := by omega
  have z : ¬ M.1 200 11 = 0 := fun q => by rw [q] at h1; exact absurd h1 (by decide)
  rw [show r_top M = M.1 204 (M.1 200 11 - 1).toNatClampNeg from if_neg z, c3]
  rfl
/-- what reducing changes -/
def r_wk (M M' : am_M) : Prop := ∃ _ : Unit, (∀ a b, (a ≠ 200 ∨ (b ≠ 11 ∧ b ≠ 12)) → M'.1 a b = M.1 a b) ∧ (∀ a b, a ≠ 205 → M'.2 a b = M.2 a b) ∧ (M'.1 200 11).toInt ≤ (M.1 200 11).toInt ∧ (M'.1 200 12).toInt ≤ (M.1 200 12).toInt
theorem r_wk.sc {M M' : am_M} (h : r_wk M M') : r_sc M M' := by
  obtain ⟨-, h1, h2, -⟩ := h
  exact ⟨(), fun a b z => ⟨h1 a b (Or.inl (by omega)), h2 a b (by omega)⟩, h1 _ _ (Or.inr ⟨by decide, by decide⟩), h1 _ _ (Or.inr ⟨by decide, by decide⟩)⟩
theorem r_wk.rf {M : am_M} : r_wk M M := ⟨(), fun _ _ _ => rfl, fun _ _ _ => rfl, Int.le_refl _, Int.le_refl _⟩
theorem r_wk.tr {M M' M'' : am_M} (h : r_wk M M') (h2 : r_wk M' M'') : r_wk M M'' := by
  obtain ⟨-, a1, a2, a3, a4⟩ := h
  obtain ⟨-, b1, b2, b3, b4⟩ := h2
  exact ⟨(), fun a b z => (b1 a b z).trans (a1 a b z), fun a b z => (b2 a b z).trans (a2 a b z), Int.le_trans b3 a3, Int.le_trans b4 a4⟩
theorem r_wk.i {M M' : am_M} (h : r_wk M M') (hI : r_I M) : r_I M' := by
  exact hI.sc h.sc
theorem r_wI.u {M : am_M} {d w0 : Nat} (h : r_wI M d w0) : (0 ≤ (M.1 200 11).toInt ∧ (M.1 200 11).toInt ≤ (w0 : Int) ∧ w0 ≤ 60) ∧ (M.1 200 12).toInt = (r_ws (M.1 204) (M.1 200 11).toNatClampNeg + d : Nat) ∧ (M.1 200 12).toInt ≤ (w0 : Int) := by obtain ⟨-, h⟩ := h; exact h
theorem r_top_pos {M : am_M} (h : ¬ r_top M = 0) (h1 : 0 ≤ (M.1 200 11).toInt) : 0 < (M.1 200 11).toInt := by
  by_cases z : M.1 200 11 = 0
  · exact absurd (if_pos z) h
  · simp only [i_eq, Int32.reduceToInt] at z
    omega
theorem r_clo0 : r_clo 0 = 0 := by decide
theorem r_clo_wt {c : Int32} (h : ¬ r_clo c = 0) : r_wt c = 1 := by
  unfold r_wt
  rw [if_neg (fun q => h (by rw [q]; decide)), if_neg (fun q => h (by rw [q]; decide)), if_neg h]
/-- one sign of two is worked: the stacks behind it -/
theorem r_pop {M M' : am_M} {w0 : Nat} {q : Nat} (h : r_wI M 1 w0) (hp : 0 < (M.1 200 11).toInt) (hw : r_wt (r_top M) = q) (h11 : M'.1 200 11 = M.1 200 11 - 1) (h12 : (M'.1 200 12).toInt = (M.1 200 12).toInt - q) (h204 : ∀ k, M'.1 204 k = M.1 204 k) : r_wI M' 1 w0 := by
  obtain ⟨⟨u1, u2, u5⟩, u3, u4⟩ := h.u
  have e := i_sub (x := M.1 200 11) (y := 1) (by simp only [Int32.reduceToInt]; omega) (by simp only [Int32.reduceToInt]; omega)
  simp only [Int32.reduceToInt] at e
  have t := r_ws_top hp
  have e204 : M'.1 204 = M.1 204 := funext h204
  refine ⟨(), ⟨by rw [h11]; omega, by rw [h11]; omega, u5⟩, ?_, by omega⟩
  rw [h12, h11, e204, u3, t, hw]
  omega
theorem hy_X8_top : yX8_top.cls ≠ "java/lang/invoke/MethodHandle" ∧ yX8_top.cls ≠ "java/lang/invoke/VarHandle" ∧ (parseMethodDescriptor yX8_top.desc).map (fun d => d.parameters.length) = some 0 := ⟨by decide +kernel, by decide +kernel, by decide +kernel⟩
set_option maxRecDepth 100000 in
theorem wd_1113 : Cond.methodLink "LearnLoansModel" 156 yX8_top ∈ am_ws := am_wt5 (List.mem_of_getElem? (i := 96) (by rfl)) (by decide +kernel)
set_option maxRecDepth 100000 in
theorem wd_1115 : Cond.instanceMethod yX8_top ∈ am_ws := am_wt5 (List.mem_of_getElem? (i := 98) (by rfl)) (by decide +kernel)
set_option maxRecDepth 100000 in
theorem wd_35 : Cond.selects "LearnLoansModel" yX8_top yX8_top ∈ am_ws := am_wsi (List.mem_of_getElem? (i := 35) (by rfl)) (by decide +kernel)
set_option maxRecDepth 100000 in
theorem wd_1116 : Cond.code yX8_top cX8_top 1 (some .int) ∈ am_ws := am_wt5 (List.mem_of_getElem? (i := 99) (by rfl)) (by decide +kernel)
theorem hy_X8_closeness : yX8_closeness.cls ≠ "java/lang/invoke/MethodHandle" ∧ yX8_closeness.cls ≠ "java/lang/invoke/VarHandle" ∧ (parseMethodDescriptor yX8_closeness.desc).map (fun d => d.parameters.length) = some 1 := ⟨by decide +kernel, by decide +kernel, by decide +kernel⟩
set_option maxRecDepth 100000 in
theorem wd_1135 : Cond.methodLink "LearnLoansModel" 160 yX8_closeness ∈ am_ws := am_wt5 (List.mem_of_getElem? (i := 118) (by rfl)) (by decide +kernel)
set_option maxRecDepth 100000 in
theorem wd_1136 : Cond.static yX8_closeness ∈ am_ws := am_wt5 (List.mem_of_getElem? (i := 119) (by rfl)) (by decide +kernel)
set_option maxRecDepth 100000 in
theorem wd_1137 : Cond.code yX8_closeness cX8_closeness 1 (some .int) ∈ am_ws := am_wt5 (List.mem_of_getElem? (i := 120) (by rfl)) (by decide +kernel)
set_option maxRecDepth 100000 in
theorem wd_907 : Cond.fieldLink "LearnLoansModel" 153 "LearnLoansModel" "workedMany" "I" ∈ am_ws := am_wt4 (List.mem_of_getElem? (i := 130) (by rfl)) (by decide +kernel)
theorem hy_X8_between : yX8_between.cls ≠ "java/lang/invoke/MethodHandle" ∧ yX8_between.cls ≠ "java/lang/invoke/VarHandle" ∧ (parseMethodDescriptor yX8_between.desc).map (fun d => d.parameters.length) = some 3 := ⟨by decide +kernel, by decide +kernel, by decide +kernel⟩
set_option maxRecDepth 100000 in
theorem wd_1142 : Cond.methodLink "LearnLoansModel" 163 yX8_between ∈ am_ws := am_wt5 (List.mem_of_getElem? (i := 125) (by rfl)) (by decide +kernel)
set_option maxRecDepth 100000 in
theorem wd_1143 : Cond.static yX8_between ∈ am_ws := am_wt5 (List.mem_of_getElem? (i := 126) (by rfl)) (by decide +kernel)
set_option maxRecDepth 100000 in
theorem wd_1144 : Cond.code yX8_between cX8_between 5 (some .long) ∈ am_ws := am_wt5 (List.mem_of_getElem? (i := 127) (by rfl)) (by decide +kernel)
def rwX8_reduce : List dz_r := [(0, .aload_n 0, 1), (1, .invokevirtual 156, 3), (4, .invokestatic 160, 3), (7, .iload_n 1, 1), (8, .if_icmp .lt 64, 3), (11, .aload_n 0, 1), (12, .dup, 1), (13, .getfield 153, 3), (16, .iconst 1, 1), (17, .isub, 1), (18, .putfield 153, 3), (21, .aload_n 0, 1), (22, .getfield 23, 3), (25, .aload_n 0, 1), (26, .getfield 153, 3), (29, .iconst 1, 1), (30, .isub, 1), (31, .aload_n 0, 1), (32, .invokevirtual 156, 3), (35, .aload_n 0, 1), (36, .getfield 23, 3), (39, .aload_n 0, 1), (40, .getfield 153, 3), (43, .iconst 1, 1), (44, .isub, 1), (45, .laload, 1), (46, .aload_n 0, 1), (47, .getfield 23, 3), (50, .aload_n 0, 1), (51, .getfield 153, 3), (54, .laload, 1), (55, .invokestatic 163, 3), (58, .lastore, 1), (59, .aload_n 0, 1), (60, .dup, 1), (61, .getfield 150, 3), (64, .iconst 1, 1), (65, .isub, 1), (66, .putfield 150, 3), (69, .goto (-69), 3), (72, .return_, 1)]
theorem dzX8_reduce : dz cX8_reduce rwX8_reduce := dz_all 0 (by decide +kernel)
def kX8_reduce (live : am_E) (Ret : am_R) : am_code := [(0, am_aload 0 1), (1, am_callV live 8 0 TX8_top 4), (4, am_callS live 1 TX8_closeness 7), (7, am_iload 1 8), (8, am_if2 (fun x y => x < y) 72 11), (11, am_aload 0 12), (12, am_dup 13), (13, am_getI live 8 12 16), (16, am_const (.int 1) 17), (17, am_i2 (fun x y => x - y) 18), (18, am_putI live 8 12 21), (21, am_aload 0 22), (22, am_getR live 8 10 25), (25, am_aload 0 26), (26, am_getI live 8 12 29), (29, am_const (.int 1) 30), (30, am_i2 (fun x y => x - y) 31), (31, am_aload 0 32), (32, am_callV live 8 0 TX8_top 35), (35, am_aload 0 36), (36, am_getR live 8 10 39), (39, am_aload 0 40), (40, am_getI live 8 12 43), (43, am_const (.int 1) 44), (44, am_i2 (fun x y => x - y) 45), (45, am_lald live 1 46), (46, am_aload 0 47), (47, am_getR live 8 10 50), (50, am_aload 0 51), (51, am_getI live 8 12 54), (54, am_lald live 1 55), (55, am_callS live 3 TX8_between 58), (58, am_last live 1 59), (59, am_aload 0 60), (60, am_dup 61), (61, am_getI live 8 11 64), (64, am_const (.int 1) 65), (65, am_i2 (fun x y => x - y) 66), (66, am_putI live 8 11 69), (69, am_goto 0), (72, am_retV Ret)]
theorem koX8_reduce (live : am_E) (Ret : am_R) : ∀ q ∈ kX8_reduce live Ret, am_ok RX8 cX8_reduce 2 none 2 44 live Ret q.1 q.2 :=
  am_kz dzX8_reduce <|
  am_kd (fun d => ak_aload_n d rfl rfl) <|
  am_kd (fun d => ak_callV (C := RX8) (F := TX8) (N := 27) metX8_top rfl ⟨rfl, hy_X8_top⟩ (am_w5 wd_1113 wd_1115 wd_35 wd_67 wd_1116) (by decide) d rfl) <|
  am_kd (fun d => ak_callS metX8_closeness ⟨rfl, hy_X8_closeness⟩ (am_w4 wd_1135 wd_1136 wd_67 wd_1137) (by decide) d rfl) <|
  am_kd (fun d => ak_iload_n d rfl rfl) <|
  am_kd (fun d => ak_icmp_lt d (by decide +kernel) rfl) <|
  am_kd (fun d => ak_aload_n d rfl rfl) <|
  am_kd (fun d => ak_dup d rfl) <|
  am_kd (fun d => ak_getI (C := RX8) (T := TX8) (N := 27) rfl inX8w (by decide) rfl rfl rfl wd_907 d rfl) <|
  am_kd (fun d => ak_iconst d (by decide +kernel) rfl) <|
  am_kd (fun d => ak_isub d rfl) <|
  am_kd (fun d => ak_putI (C := RX8) (T := TX8) (N := 27) rfl inX8w tyX8_ok nmX8 (by decide) rfl rfl rfl rfl (by decide +kernel) wd_907 d rfl) <|
  am_kd (fun d => ak_aload_n d rfl rfl) <|
  am_kd (fun d => ak_getR (C := RX8) (T := TX8) (N := 27) rfl inX8w (by decide) rfl rfl rfl wd_905 d rfl) <|
  am_kd (fun d => ak_aload_n d rfl rfl) <|
  am_kd (fun d => ak_getI (C := RX8) (T := TX8) (N := 27) rfl inX8w (by decide) rfl rfl rfl wd_907 d rfl) <|
  am_kd (fun d => ak_iconst d (by decide +kernel) rfl) <|
  am_kd (fun d => ak_isub d rfl) <|
  am_kd (fun d => ak_aload_n d rfl rfl) <|
  am_kd (fun d => ak_callV (C := RX8) (F := TX8) (N := 27) metX8_top rfl ⟨rfl, hy_X8_top⟩ (am_w5 wd_1113 wd_1115 wd_35 wd_67 wd_1116) (by decide) d rfl) <|
  am_kd (fun d => ak_aload_n d rfl rfl) <|
  am_kd (fun d => ak_getR (C := RX8) (T := TX8) (N := 27) rfl inX8w (by decide) rfl rfl rfl wd_905 d rfl) <|
  am_kd (fun d => ak_aload_n d rfl rfl) <|
  am_kd (fun d => ak_getI (C := RX8) (T := TX8) (N := 27) rfl inX8w (by decide) rfl rfl rfl wd_907 d rfl) <|
  am_kd (fun d => ak_iconst d (by decide +kernel) rfl) <|
  am_kd (fun d => ak_isub d rfl) <|
  am_kd (fun d => ak_lald (t := 1) (fun _ => rfl) rfl d rfl) <|
  am_kd (fun d => ak_aload_n d rfl rfl) <|
  am_kd (fun d => ak_getR (C := RX8) (T := TX8) (N := 27) rfl inX8w (by decide) rfl rfl rfl wd_905 d rfl) <|
  am_kd (fun d => ak_aload_n d rfl rfl) <|
  am_kd (fun d => ak_getI (C := RX8) (T := TX8) (N := 27) rfl inX8w (by decide) rfl rfl rfl wd_907 d rfl) <|
  am_kd (fun d => ak_lald (t := 1) (fun _ => rfl) rfl d rfl) <|
  am_kd (fun d => ak_callS metX8_between ⟨rfl, hy_X8_between⟩ (am_w4 wd_1142 wd_1143 wd_67 wd_1144) (by decide) d rfl) <|
  am_kd (fun d => ak_last (t := 1) (fun _ => rfl) rfl d rfl) <|
  am_kd (fun d => ak_aload_n d rfl rfl) <|
  am_kd (fun d => ak_dup d rfl) <|
  am_kd (fun d => ak_getI (C := RX8) (T := TX8) (N := 27) rfl inX8w (by decide) rfl rfl rfl wd_906 d rfl) <|
  am_kd (fun d => ak_iconst d (by decide +kernel) rfl) <|
  am_kd (fun d => ak_isub d rfl) <|
  am_kd (fun d => ak_putI (C := RX8) (T := TX8) (N := 27) rfl inX8w tyX8_ok nmX8 (by decide) rfl rfl rfl rfl (by decide +kernel) wd_906 d rfl) <|
  am_kd (fun d => ak_goto d (by decide +kernel)) <|
  am_kd (fun d => ak_retV d) <| am_kdn
def TX8_reduce : am_T := fun live as M R => match as with
  | [.ref n, .int t] => am_mn live ∧ n = 200 ∧ 1 ≤ t.toInt ∧ r_cw M 1 (fun w0 => ∀ M', r_wk M M' → r_wI M' 1 w0 → R none M')
  | _ => False
def JX8_reduce : am_E → List Value → am_M → am_R → am_inv := fun live as M0 R pc => match as with
  | [.ref n, .int t] => (match pc with
    | 0 => some ([0, 1], fun k L st M => ∃ w0, L = [(0, .ref 200), (1, .int t)] ∧ st = [] ∧ k = ((M.1 200 11).toInt.toNat, 0) ∧ r_wI M 1 w0 ∧ r_wk M0 M ∧ ∀ M', r_wk M0 M' → r_wI M' 1 w0 → R none M')
    | _ => none)
  | _ => none
set_option maxRecDepth 100000 in
set_option maxHeartbeats 4000000 in
theorem metX8_reduce : am_Met yX8_reduce cX8_reduce 2 none (2) (44) TX8_reduce := by
  refine am_met0 (own := RX8) (by decide +kernel) rfl kX8_reduce koX8_reduce 100 JX8_reduce ?_ ?_
  · intro live as M Ret h
    unfold TX8_reduce at h
    split at h
    · next n t =>
      refine ⟨Nat.le_of_ble_eq_true rfl, ?_⟩
      obtain ⟨hmn, rfl, ht, w0, hw, h⟩ := h
      exact ⟨_, _, rfl, w0, rfl, rfl, rfl, hw, r_wk.rf, h⟩
    · exact h.elim
  · intro live as M0 Ret h k pc I hI L st M hi
    unfold TX8_reduce at h
    split at h
    · next n t =>
      obtain ⟨hmn, rfl, ht, w9, hw9, h9⟩ := h
      have hmn2 := hmn
      obtain ⟨i1, i2, rfl⟩ := hmn2
      have l204 : am_len 204 = 120 := rfl
      have l205 : am_len 205 = 120 := rfl
      change (match pc with | 0 => _ | _ => none) = _ at hI
      split at hI
      · cases hI
        obtain ⟨w0, rfl, rfl, rfl, hw, hk, h⟩ := hi
        obtain ⟨⟨u1, u2, u5⟩, u3, u4⟩ := hw.u
        have u120 : 0 ≤ (M.1 200 11).toInt ∧ (M.1 200 11).toInt ≤ 120 := ⟨u1, by omega⟩
        by_cases hz : r_clo (r_top M) < t
        · skip
          repeat' (first | (with_reducible exact hmn) | (with_reducible exact u120) | apply And.intro | exact rfl | (intro hx; with_reducible exact absurd hz hx) | intro hx | (refine Exists.intro _ (And.intro rfl ?_)))
          all_goals try first | (with_reducible change am_tI _ _) | (change Ret _ _) | (change Ret _ _ _) | (change Exists _)
          all_goals try dsimp only at *
          all_goals try (with_reducible exact absurd ‹(1000 : Int64) = 0› am_z1000)
          exact h _ hk hw
        · have hz2 := hz
          simp only [i_lt] at hz2
          have hn : ¬ r_clo (r_top M) = 0 := fun q => by rw [q] at hz2; simp only [Int32.reduceToInt] at hz2; omega
          have hp := r_top_pos (fun q => hn (by rw [q]; decide)) u1
          have hwt := r_clo_wt hn
          have tt := r_ws_top hp
          have e11 := i_sub (x := M.1 200 11) (y := 1) (by simp only [Int32.reduceToInt]; omega) (by simp only [Int32.reduceToInt]; omega)
          have e12 := i_sub (x := M.1 200 12) (y := 1) (by simp only [Int32.reduceToInt]; omega) (by simp only [Int32.reduceToInt]; omega)
          have e13 := i_sub (x := M.1 200 12 - 1) (y := 1) (by simp only [Int32.reduceToInt] at e12 ⊢; omega) (by simp only [Int32.reduceToInt] at e12 ⊢; omega)
          simp only [Int32.reduceToInt] at e11 e12 e13
          have f11 : ∀ v, (am_wI M 200 12 v).1 200 11 = M.1 200 11 := fun v => by rw [am_wI_1, if_neg (fun q => absurd q.2 (by decide))]
          have f12 : ∀ v, (am_wI M 200 12 v).1 200 12 = v := fun v => am_wI_self
          have ftop : ∀ v, r_top (am_wI M 200 12 v) = r_top M := fun v => by unfold r_top; rw [f11, show (am_wI M 200 12 v).1 204 = M.1 204 from funext fun k => by rw [am_wI_1, if_neg (fun q => absurd q.1 (by decide))]]
          have v120 : 0 ≤ ((am_wI M 200 12 (M.1 200 12 - 1)).1 200 11).toInt ∧ ((am_wI M 200 12 (M.1 200 12 - 1)).1 200 11).toInt ≤ 120 := by rw [f11]; exact u120
          repeat' (first | (with_reducible exact hmn) | (with_reducible exact u120) | (with_reducible exact v120) | apply And.intro | exact rfl | (intro hx; with_reducible exact absurd hx hz) | intro hx | (refine Exists.intro _ (And.intro rfl ?_)))
          all_goals try first | (with_reducible change am_tI _ _) | (change Ret _ _) | (change Ret _ _ _) | (change Exists _)
          all_goals try dsimp only at *
          all_goals try (with_reducible exact absurd ‹(1000 : Int64) = 0› am_z1000)
          all_goals try simp only [f12, e12, e13, l205]
          all_goals first
            | omega
            | skip
          refine ⟨_, am_lt_l (by rw [am_wI_self]; show ((am_wI M 200 12 (M.1 200 12 - 1)).1 200 11 - 1).toInt.toNat < _; rw [f11]; omega), w0, rfl, rfl, rfl, ?_, ?_, h⟩
          · refine r_pop hw hp hwt ?_ ?_ (fun k => ?_)
            · rw [am_wI_self]
              show (am_wI M 200 12 (M.1 200 12 - 1)).1 200 11 - 1 = _
              rw [f11]
            · show ((am_wI M 200 12 (M.1 200 12 - 1)).1 200 12).toInt = _
              rw [f12, e12]
              omega
            · rfl
          · refine hk.tr ⟨(), fun a b z => ?_, fun a b z => ?_, ?_, ?_⟩
            · rw [am_wI_1, if_neg (fun q => by omega)]
              show (am_wI M 200 12 (M.1 200 12 - 1)).1 a b = _
              rw [am_wI_1, if_neg (fun q => by omega)]
            · show (am_wJ _ 205 _ _).2 a b = _
              rw [am_wJ_1, if_neg (fun q => z q.1)]
              rfl
            · rw [am_wI_self]
              show ((am_wI M 200 12 (M.1 200 12 - 1)).1 200 11 - 1).toInt ≤ _
              rw [f11]
              omega
            · show ((am_wI M 200 12 (M.1 200 12 - 1)).1 200 12).toInt ≤ _
              rw [f12, e12]
              omega
      · cases hI
    · exact h.elim
