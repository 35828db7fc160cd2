/-! general: the reference's helpers: what is in force, which plan -/
set_option maxRecDepth 100000 in
theorem wd_1060 : Cond.constant "LearnLoansModel" 93 2000000 ∈ am_ws := am_wsi (List.mem_of_getElem? (i := 1060) (by rfl)) (by decide +kernel)
theorem dX8_atFirst_0 : decode cX8_atFirst 0 = .ok (.iload_n 0, 1) := by decide +kernel
theorem dX8_atFirst_1 : decode cX8_atFirst 1 = .ok (.tableswitch 46 0 4 #[35, 38, 41, 41, 44], 35) := by decide +kernel
theorem dX8_atFirst_36 : decode cX8_atFirst 36 = .ok (.ldc 93, 2) := by decide +kernel
theorem dX8_atFirst_38 : decode cX8_atFirst 38 = .ok (.ireturn, 1) := by decide +kernel
theorem dX8_atFirst_39 : decode cX8_atFirst 39 = .ok (.bipush 90, 2) := by decide +kernel
theorem dX8_atFirst_41 : decode cX8_atFirst 41 = .ok (.ireturn, 1) := by decide +kernel
theorem dX8_atFirst_42 : decode cX8_atFirst 42 = .ok (.bipush 30, 2) := by decide +kernel
theorem dX8_atFirst_44 : decode cX8_atFirst 44 = .ok (.ireturn, 1) := by decide +kernel
theorem dX8_atFirst_45 : decode cX8_atFirst 45 = .ok (.iconst 0, 1) := by decide +kernel
theorem dX8_atFirst_46 : decode cX8_atFirst 46 = .ok (.ireturn, 1) := by decide +kernel
theorem dX8_atFirst_47 : decode cX8_atFirst 47 = .ok (.sipush 10000, 3) := by decide +kernel
theorem dX8_atFirst_50 : decode cX8_atFirst 50 = .ok (.ireturn, 1) := by decide +kernel
def kX8_atFirst (live : am_E) (Ret : am_R) : am_code := [(0, am_iload 0 1), (1, am_switch [(0, 36), (1, 39), (2, 42), (3, 42), (4, 45)] 47), (36, am_const (.int 2000000) 38), (38, am_retI Ret), (39, am_const (.int 90) 41), (41, am_retI Ret), (42, am_const (.int 30) 44), (44, am_retI Ret), (45, am_const (.int 0) 46), (46, am_retI Ret), (47, am_const (.int 10000) 50), (50, am_retI Ret)]
theorem koX8_atFirst (live : am_E) (Ret : am_R) : ∀ q ∈ kX8_atFirst live Ret, am_ok RX8 cX8_atFirst 1 (some .int) 0 0 live Ret q.1 q.2 :=
  am_kc (ak_iload_n dX8_atFirst_0 rfl rfl) <|
  am_kc (ak_tswitch dX8_atFirst_1 (by decide +kernel) (by decide +kernel) (by decide +kernel) (by decide +kernel) (by decide +kernel) (by decide +kernel)) <|
  am_kc (ak_ldc wd_1060 dX8_atFirst_36 rfl) <|
  am_kc (ak_retI dX8_atFirst_38) <|
  am_kc (ak_bipush dX8_atFirst_39 (by decide +kernel) rfl) <|
  am_kc (ak_retI dX8_atFirst_41) <|
  am_kc (ak_bipush dX8_atFirst_42 (by decide +kernel) rfl) <|
  am_kc (ak_retI dX8_atFirst_44) <|
  am_kc (ak_iconst dX8_atFirst_45 (by decide +kernel) rfl) <|
  am_kc (ak_retI dX8_atFirst_46) <|
  am_kc (ak_sipush dX8_atFirst_47 (by decide +kernel) rfl) <|
  am_kc (ak_retI dX8_atFirst_50) <| am_kn
def TX8_atFirst : am_T := fun _ as M R => match as with
  | [.int w] => ∀ v, R (some (.int v)) M
  | _ => False
set_option maxRecDepth 100000 in
set_option maxHeartbeats 4000000 in
theorem metX8_atFirst : am_Met yX8_atFirst cX8_atFirst 1 (some .int) (0) (0) TX8_atFirst := by
  refine am_met (own := RX8) (by decide +kernel) rfl kX8_atFirst koX8_atFirst 60 (fun _ _ _ _ _ => none) (fun live as M Ret h => ?_) (fun _ _ _ _ _ _ _ _ hI => by cases hI)
  unfold TX8_atFirst at h
  split at h
  · next w =>
    refine ⟨Nat.le_of_ble_eq_true rfl, ?_⟩
    change am_wp _ _ _ _ [(0, Value.int w)] _ _
    repeat' (first | apply And.intro | exact rfl | intro hx | (refine Exists.intro _ (And.intro rfl ?_)))
    all_goals try first | (with_reducible change am_tI _ _) | (change Ret _ _) | (change Ret _ _ _) | (change Exists _)
    all_goals try dsimp only at *
    all_goals try exact absurd ‹(1000 : Int64) = 0› (by decide)
    all_goals exact h _
  · exact h.elim
set_option maxRecDepth 100000 in
theorem wd_899 : Cond.fieldLink "LearnLoansModel" 114 "LearnLoansModel" "tryWhat" "I" ∈ am_ws := am_wsi (List.mem_of_getElem? (i := 899) (by rfl)) (by decide +kernel)
set_option maxRecDepth 100000 in
theorem wd_901 : Cond.fieldLink "LearnLoansModel" 117 "LearnLoansModel" "tryFrom" "I" ∈ am_ws := am_wsi (List.mem_of_getElem? (i := 901) (by rfl)) (by decide +kernel)
set_option maxRecDepth 100000 in
theorem wd_900 : Cond.fieldLink "LearnLoansModel" 120 "LearnLoansModel" "tryIs" "I" ∈ am_ws := am_wsi (List.mem_of_getElem? (i := 900) (by rfl)) (by decide +kernel)
set_option maxRecDepth 100000 in
theorem wd_1057 : Cond.methodLink "LearnLoansModel" 123 yX8_atFirst ∈ am_ws := am_wsi (List.mem_of_getElem? (i := 1057) (by rfl)) (by decide +kernel)
set_option maxRecDepth 100000 in
theorem wd_1058 : Cond.static yX8_atFirst ∈ am_ws := am_wsi (List.mem_of_getElem? (i := 1058) (by rfl)) (by decide +kernel)
set_option maxRecDepth 100000 in
theorem wd_1059 : Cond.code yX8_atFirst cX8_atFirst 1 (some .int) ∈ am_ws := am_wsi (List.mem_of_getElem? (i := 1059) (by rfl)) (by decide +kernel)
theorem dX8_inForce_0 : decode cX8_inForce 0 = .ok (.iconst (-1), 1) := by decide +kernel
theorem dX8_inForce_1 : decode cX8_inForce 1 = .ok (.istore 5, 2) := by decide +kernel
theorem dX8_inForce_3 : decode cX8_inForce 3 = .ok (.sipush 2478, 3) := by decide +kernel
theorem dX8_inForce_6 : decode cX8_inForce 6 = .ok (.istore 6, 2) := by decide +kernel
theorem dX8_inForce_8 : decode cX8_inForce 8 = .ok (.iload 6, 2) := by decide +kernel
theorem dX8_inForce_10 : decode cX8_inForce 10 = .ok (.sipush 2478, 3) := by decide +kernel
theorem dX8_inForce_13 : decode cX8_inForce 13 = .ok (.bipush 6, 2) := by decide +kernel
theorem dX8_inForce_15 : decode cX8_inForce 15 = .ok (.aload_n 0, 1) := by decide +kernel
theorem dX8_inForce_16 : decode cX8_inForce 16 = .ok (.getfield 7, 3) := by decide +kernel
theorem dX8_inForce_19 : decode cX8_inForce 19 = .ok (.iconst 2, 1) := by decide +kernel
theorem dX8_inForce_20 : decode cX8_inForce 20 = .ok (.iaload, 1) := by decide +kernel
theorem dX8_inForce_21 : decode cX8_inForce 21 = .ok (.imul, 1) := by decide +kernel
theorem dX8_inForce_22 : decode cX8_inForce 22 = .ok (.iadd, 1) := by decide +kernel
theorem dX8_inForce_23 : decode cX8_inForce 23 = .ok (.if_icmp .ge 142, 3) := by decide +kernel
theorem dX8_inForce_26 : decode cX8_inForce 26 = .ok (.aload_n 0, 1) := by decide +kernel
theorem dX8_inForce_27 : decode cX8_inForce 27 = .ok (.getfield 7, 3) := by decide +kernel
theorem dX8_inForce_30 : decode cX8_inForce 30 = .ok (.iload 6, 2) := by decide +kernel
theorem dX8_inForce_32 : decode cX8_inForce 32 = .ok (.iaload, 1) := by decide +kernel
theorem dX8_inForce_33 : decode cX8_inForce 33 = .ok (.iload_n 1, 1) := by decide +kernel
theorem dX8_inForce_34 : decode cX8_inForce 34 = .ok (.if_icmp .ne 34, 3) := by decide +kernel
theorem dX8_inForce_37 : decode cX8_inForce 37 = .ok (.aload_n 0, 1) := by decide +kernel
theorem dX8_inForce_38 : decode cX8_inForce 38 = .ok (.getfield 7, 3) := by decide +kernel
theorem dX8_inForce_41 : decode cX8_inForce 41 = .ok (.iload 6, 2) := by decide +kernel
theorem dX8_inForce_43 : decode cX8_inForce 43 = .ok (.iconst 1, 1) := by decide +kernel
theorem dX8_inForce_44 : decode cX8_inForce 44 = .ok (.iadd, 1) := by decide +kernel
theorem dX8_inForce_45 : decode cX8_inForce 45 = .ok (.iaload, 1) := by decide +kernel
theorem dX8_inForce_46 : decode cX8_inForce 46 = .ok (.iload_n 2, 1) := by decide +kernel
theorem dX8_inForce_47 : decode cX8_inForce 47 = .ok (.if_icmp .ne 21, 3) := by decide +kernel
theorem dX8_inForce_50 : decode cX8_inForce 50 = .ok (.aload_n 0, 1) := by decide +kernel
theorem dX8_inForce_51 : decode cX8_inForce 51 = .ok (.getfield 7, 3) := by decide +kernel
theorem dX8_inForce_54 : decode cX8_inForce 54 = .ok (.iload 6, 2) := by decide +kernel
theorem dX8_inForce_56 : decode cX8_inForce 56 = .ok (.iconst 3, 1) := by decide +kernel
theorem dX8_inForce_57 : decode cX8_inForce 57 = .ok (.iadd, 1) := by decide +kernel
theorem dX8_inForce_58 : decode cX8_inForce 58 = .ok (.iaload, 1) := by decide +kernel
theorem dX8_inForce_59 : decode cX8_inForce 59 = .ok (.iload 4, 2) := by decide +kernel
theorem dX8_inForce_61 : decode cX8_inForce 61 = .ok (.if_icmp .gt 7, 3) := by decide +kernel
theorem dX8_inForce_64 : decode cX8_inForce 64 = .ok (.iconst 1, 1) := by decide +kernel
theorem dX8_inForce_65 : decode cX8_inForce 65 = .ok (.goto 4, 3) := by decide +kernel
theorem dX8_inForce_68 : decode cX8_inForce 68 = .ok (.iconst 0, 1) := by decide +kernel
theorem dX8_inForce_69 : decode cX8_inForce 69 = .ok (.istore 7, 2) := by decide +kernel
theorem dX8_inForce_71 : decode cX8_inForce 71 = .ok (.iload 7, 2) := by decide +kernel
theorem dX8_inForce_73 : decode cX8_inForce 73 = .ok (.ifCond .eq 43, 3) := by decide +kernel
theorem dX8_inForce_76 : decode cX8_inForce 76 = .ok (.aload_n 0, 1) := by decide +kernel
theorem dX8_inForce_77 : decode cX8_inForce 77 = .ok (.getfield 7, 3) := by decide +kernel
theorem dX8_inForce_80 : decode cX8_inForce 80 = .ok (.bipush 10, 2) := by decide +kernel
theorem dX8_inForce_82 : decode cX8_inForce 82 = .ok (.iload_n 3, 1) := by decide +kernel
theorem dX8_inForce_83 : decode cX8_inForce 83 = .ok (.iadd, 1) := by decide +kernel
theorem dX8_inForce_84 : decode cX8_inForce 84 = .ok (.iaload, 1) := by decide +kernel
theorem dX8_inForce_85 : decode cX8_inForce 85 = .ok (.i2l, 1) := by decide +kernel
theorem dX8_inForce_86 : decode cX8_inForce 86 = .ok (.aload_n 0, 1) := by decide +kernel
theorem dX8_inForce_87 : decode cX8_inForce 87 = .ok (.getfield 7, 3) := by decide +kernel
theorem dX8_inForce_90 : decode cX8_inForce 90 = .ok (.iload 6, 2) := by decide +kernel
theorem dX8_inForce_92 : decode cX8_inForce 92 = .ok (.iconst 4, 1) := by decide +kernel
theorem dX8_inForce_93 : decode cX8_inForce 93 = .ok (.iadd, 1) := by decide +kernel
theorem dX8_inForce_94 : decode cX8_inForce 94 = .ok (.iaload, 1) := by decide +kernel
theorem dX8_inForce_95 : decode cX8_inForce 95 = .ok (.i2l, 1) := by decide +kernel
theorem dX8_inForce_96 : decode cX8_inForce 96 = .ok (.aload_n 0, 1) := by decide +kernel
theorem dX8_inForce_97 : decode cX8_inForce 97 = .ok (.getfield 7, 3) := by decide +kernel
theorem dX8_inForce_100 : decode cX8_inForce 100 = .ok (.iload 6, 2) := by decide +kernel
theorem dX8_inForce_102 : decode cX8_inForce 102 = .ok (.iconst 5, 1) := by decide +kernel
theorem dX8_inForce_103 : decode cX8_inForce 103 = .ok (.iadd, 1) := by decide +kernel
theorem dX8_inForce_104 : decode cX8_inForce 104 = .ok (.iaload, 1) := by decide +kernel
theorem dX8_inForce_105 : decode cX8_inForce 105 = .ok (.i2l, 1) := by decide +kernel
theorem dX8_inForce_106 : decode cX8_inForce 106 = .ok (.invokestatic 66, 3) := by decide +kernel
theorem dX8_inForce_109 : decode cX8_inForce 109 = .ok (.ifCond .eq 7, 3) := by decide +kernel
theorem dX8_inForce_112 : decode cX8_inForce 112 = .ok (.iconst 1, 1) := by decide +kernel
theorem dX8_inForce_113 : decode cX8_inForce 113 = .ok (.goto 4, 3) := by decide +kernel
theorem dX8_inForce_116 : decode cX8_inForce 116 = .ok (.iconst 0, 1) := by decide +kernel
theorem dX8_inForce_117 : decode cX8_inForce 117 = .ok (.istore 8, 2) := by decide +kernel
theorem dX8_inForce_119 : decode cX8_inForce 119 = .ok (.iload 8, 2) := by decide +kernel
theorem dX8_inForce_121 : decode cX8_inForce 121 = .ok (.ifCond .eq 34, 3) := by decide +kernel
theorem dX8_inForce_124 : decode cX8_inForce 124 = .ok (.iload 5, 2) := by decide +kernel
theorem dX8_inForce_126 : decode cX8_inForce 126 = .ok (.ifCond .lt 24, 3) := by decide +kernel
theorem dX8_inForce_129 : decode cX8_inForce 129 = .ok (.aload_n 0, 1) := by decide +kernel
theorem dX8_inForce_130 : decode cX8_inForce 130 = .ok (.getfield 7, 3) := by decide +kernel
theorem dX8_inForce_133 : decode cX8_inForce 133 = .ok (.iload 6, 2) := by decide +kernel
theorem dX8_inForce_135 : decode cX8_inForce 135 = .ok (.iconst 3, 1) := by decide +kernel
theorem dX8_inForce_136 : decode cX8_inForce 136 = .ok (.iadd, 1) := by decide +kernel
theorem dX8_inForce_137 : decode cX8_inForce 137 = .ok (.iaload, 1) := by decide +kernel
theorem dX8_inForce_138 : decode cX8_inForce 138 = .ok (.aload_n 0, 1) := by decide +kernel
theorem dX8_inForce_139 : decode cX8_inForce 139 = .ok (.getfield 7, 3) := by decide +kernel
theorem dX8_inForce_142 : decode cX8_inForce 142 = .ok (.iload 5, 2) := by decide +kernel
theorem dX8_inForce_144 : decode cX8_inForce 144 = .ok (.iconst 3, 1) := by decide +kernel
theorem dX8_inForce_145 : decode cX8_inForce 145 = .ok (.iadd, 1) := by decide +kernel
theorem dX8_inForce_146 : decode cX8_inForce 146 = .ok (.iaload, 1) := by decide +kernel
theorem dX8_inForce_147 : decode cX8_inForce 147 = .ok (.if_icmp .lt 8, 3) := by decide +kernel
theorem dX8_inForce_150 : decode cX8_inForce 150 = .ok (.iload 6, 2) := by decide +kernel
theorem dX8_inForce_152 : decode cX8_inForce 152 = .ok (.goto 5, 3) := by decide +kernel
theorem dX8_inForce_155 : decode cX8_inForce 155 = .ok (.iload 5, 2) := by decide +kernel
theorem dX8_inForce_157 : decode cX8_inForce 157 = .ok (.istore 5, 2) := by decide +kernel
theorem dX8_inForce_159 : decode cX8_inForce 159 = .ok (.iinc 6 6, 3) := by decide +kernel
theorem dX8_inForce_162 : decode cX8_inForce 162 = .ok (.goto (-154), 3) := by decide +kernel
theorem dX8_inForce_165 : decode cX8_inForce 165 = .ok (.aload_n 0, 1) := by decide +kernel
theorem dX8_inForce_166 : decode cX8_inForce 166 = .ok (.getfield 57, 3) := by decide +kernel
theorem dX8_inForce_169 : decode cX8_inForce 169 = .ok (.iload_n 1, 1) := by decide +kernel
theorem dX8_inForce_170 : decode cX8_inForce 170 = .ok (.if_icmp .ne 45, 3) := by decide +kernel
theorem dX8_inForce_173 : decode cX8_inForce 173 = .ok (.aload_n 0, 1) := by decide +kernel
theorem dX8_inForce_174 : decode cX8_inForce 174 = .ok (.getfield 114, 3) := by decide +kernel
theorem dX8_inForce_177 : decode cX8_inForce 177 = .ok (.iload_n 2, 1) := by decide +kernel
theorem dX8_inForce_178 : decode cX8_inForce 178 = .ok (.if_icmp .ne 37, 3) := by decide +kernel
theorem dX8_inForce_181 : decode cX8_inForce 181 = .ok (.iload 4, 2) := by decide +kernel
theorem dX8_inForce_183 : decode cX8_inForce 183 = .ok (.aload_n 0, 1) := by decide +kernel
theorem dX8_inForce_184 : decode cX8_inForce 184 = .ok (.getfield 117, 3) := by decide +kernel
theorem dX8_inForce_187 : decode cX8_inForce 187 = .ok (.if_icmp .lt 28, 3) := by decide +kernel
theorem dX8_inForce_190 : decode cX8_inForce 190 = .ok (.iload 5, 2) := by decide +kernel
theorem dX8_inForce_192 : decode cX8_inForce 192 = .ok (.ifCond .lt 19, 3) := by decide +kernel
theorem dX8_inForce_195 : decode cX8_inForce 195 = .ok (.aload_n 0, 1) := by decide +kernel
theorem dX8_inForce_196 : decode cX8_inForce 196 = .ok (.getfield 7, 3) := by decide +kernel
theorem dX8_inForce_199 : decode cX8_inForce 199 = .ok (.iload 5, 2) := by decide +kernel
theorem dX8_inForce_201 : decode cX8_inForce 201 = .ok (.iconst 3, 1) := by decide +kernel
theorem dX8_inForce_202 : decode cX8_inForce 202 = .ok (.iadd, 1) := by decide +kernel
theorem dX8_inForce_203 : decode cX8_inForce 203 = .ok (.iaload, 1) := by decide +kernel
theorem dX8_inForce_204 : decode cX8_inForce 204 = .ok (.aload_n 0, 1) := by decide +kernel
theorem dX8_inForce_205 : decode cX8_inForce 205 = .ok (.getfield 117, 3) := by decide +kernel
theorem dX8_inForce_208 : decode cX8_inForce 208 = .ok (.if_icmp .gt 7, 3) := by decide +kernel
theorem dX8_inForce_211 : decode cX8_inForce 211 = .ok (.iconst 1, 1) := by decide +kernel
theorem dX8_inForce_212 : decode cX8_inForce 212 = .ok (.goto 4, 3) := by decide +kernel
theorem dX8_inForce_215 : decode cX8_inForce 215 = .ok (.iconst 0, 1) := by decide +kernel
theorem dX8_inForce_216 : decode cX8_inForce 216 = .ok (.istore 6, 2) := by decide +kernel
theorem dX8_inForce_218 : decode cX8_inForce 218 = .ok (.iload 6, 2) := by decide +kernel
theorem dX8_inForce_220 : decode cX8_inForce 220 = .ok (.ifCond .eq 10, 3) := by decide +kernel
theorem dX8_inForce_223 : decode cX8_inForce 223 = .ok (.aload_n 0, 1) := by decide +kernel
theorem dX8_inForce_224 : decode cX8_inForce 224 = .ok (.getfield 120, 3) := by decide +kernel
theorem dX8_inForce_227 : decode cX8_inForce 227 = .ok (.goto 24, 3) := by decide +kernel
theorem dX8_inForce_230 : decode cX8_inForce 230 = .ok (.iload 5, 2) := by decide +kernel
theorem dX8_inForce_232 : decode cX8_inForce 232 = .ok (.ifCond .ge 10, 3) := by decide +kernel
theorem dX8_inForce_235 : decode cX8_inForce 235 = .ok (.iload_n 2, 1) := by decide +kernel
theorem dX8_inForce_236 : decode cX8_inForce 236 = .ok (.invokestatic 123, 3) := by decide +kernel
theorem dX8_inForce_239 : decode cX8_inForce 239 = .ok (.goto 12, 3) := by decide +kernel
theorem dX8_inForce_242 : decode cX8_inForce 242 = .ok (.aload_n 0, 1) := by decide +kernel
theorem dX8_inForce_243 : decode cX8_inForce 243 = .ok (.getfield 7, 3) := by decide +kernel
theorem dX8_inForce_246 : decode cX8_inForce 246 = .ok (.iload 5, 2) := by decide +kernel
theorem dX8_inForce_248 : decode cX8_inForce 248 = .ok (.iconst 2, 1) := by decide +kernel
theorem dX8_inForce_249 : decode cX8_inForce 249 = .ok (.iadd, 1) := by decide +kernel
theorem dX8_inForce_250 : decode cX8_inForce 250 = .ok (.iaload, 1) := by decide +kernel
theorem dX8_inForce_251 : decode cX8_inForce 251 = .ok (.ireturn, 1) := by decide +kernel
def kX8_inForce (live : am_E) (Ret : am_R) : am_code := [(0, am_const (.int (-1)) 1), (1, am_istore 5 9 3), (3, am_const (.int 2478) 6), (6, am_istore 6 9 8), (8, am_iload 6 10), (10, am_const (.int 2478) 13), (13, am_const (.int 6) 15), (15, am_aload 0 16), (16, am_getR live 8 0 19), (19, am_const (.int 2) 20), (20, am_ald live 0 21), (21, am_i2 (fun x y => x * y) 22), (22, am_i2 (fun x y => x + y) 23), (23, am_if2 (fun x y => y ≤ x) 165 26), (26, am_aload 0 27), (27, am_getR live 8 0 30), (30, am_iload 6 32), (32, am_ald live 0 33), (33, am_iload 1 34), (34, am_if2 (fun x y => x = y) 37 68), (37, am_aload 0 38), (38, am_getR live 8 0 41), (41, am_iload 6 43), (43, am_const (.int 1) 44), (44, am_i2 (fun x y => x + y) 45), (45, am_ald live 0 46), (46, am_iload 2 47), (47, am_if2 (fun x y => x = y) 50 68), (50, am_aload 0 51), (51, am_getR live 8 0 54), (54, am_iload 6 56), (56, am_const (.int 3) 57), (57, am_i2 (fun x y => x + y) 58), (58, am_ald live 0 59), (59, am_iload 4 61), (61, am_if2 (fun x y => y < x) 68 64), (64, am_const (.int 1) 65), (65, am_goto 69), (68, am_const (.int 0) 69), (69, am_istore 7 9 71), (71, am_iload 7 73), (73, am_if1 (fun x => x = 0) 116 76), (76, am_aload 0 77), (77, am_getR live 8 0 80), (80, am_const (.int 10) 82), (82, am_iload 3 83), (83, am_i2 (fun x y => x + y) 84), (84, am_ald live 0 85), (85, am_i2l 86), (86, am_aload 0 87), (87, am_getR live 8 0 90), (90, am_iload 6 92), (92, am_const (.int 4) 93), (93, am_i2 (fun x y => x + y) 94), (94, am_ald live 0 95), (95, am_i2l 96), (96, am_aload 0 97), (97, am_getR live 8 0 100), (100, am_iload 6 102), (102, am_const (.int 5) 103), (103, am_i2 (fun x y => x + y) 104), (104, am_ald live 0 105), (105, am_i2l 106), (106, am_callS live 3 TX8_in 109), (109, am_if1 (fun x => x = 0) 116 112), (112, am_const (.int 1) 113), (113, am_goto 117), (116, am_const (.int 0) 117), (117, am_istore 8 9 119), (119, am_iload 8 121), (121, am_if1 (fun x => x = 0) 155 124), (124, am_iload 5 126), (126, am_if1 (fun x => x < 0) 150 129), (129, am_aload 0 130), (130, am_getR live 8 0 133), (133, am_iload 6 135), (135, am_const (.int 3) 136), (136, am_i2 (fun x y => x + y) 137), (137, am_ald live 0 138), (138, am_aload 0 139), (139, am_getR live 8 0 142), (142, am_iload 5 144), (144, am_const (.int 3) 145), (145, am_i2 (fun x y => x + y) 146), (146, am_ald live 0 147), (147, am_if2 (fun x y => x < y) 155 150), (150, am_iload 6 152), (152, am_goto 157), (155, am_iload 5 157), (157, am_istore 5 9 159), (159, am_iinc 6 9 6 162), (162, am_goto 8), (165, am_aload 0 166), (166, am_getI live 8 3 169), (169, am_iload 1 170), (170, am_if2 (fun x y => x = y) 173 215), (173, am_aload 0 174), (174, am_getI live 8 4 177), (177, am_iload 2 178), (178, am_if2 (fun x y => x = y) 181 215), (181, am_iload 4 183), (183, am_aload 0 184), (184, am_getI live 8 6 187), (187, am_if2 (fun x y => x < y) 215 190), (190, am_iload 5 192), (192, am_if1 (fun x => x < 0) 211 195), (195, am_aload 0 196), (196, am_getR live 8 0 199), (199, am_iload 5 201), (201, am_const (.int 3) 202), (202, am_i2 (fun x y => x + y) 203), (203, am_ald live 0 204), (204, am_aload 0 205), (205, am_getI live 8 6 208), (208, am_if2 (fun x y => y < x) 215 211), (211, am_const (.int 1) 212), (212, am_goto 216), (215, am_const (.int 0) 216), (216, am_istore 6 9 218), (218, am_iload 6 220), (220, am_if1 (fun x => x = 0) 230 223), (223, am_aload 0 224), (224, am_getI live 8 5 227), (227, am_goto 251), (230, am_iload 5 232), (232, am_if1 (fun x => 0 ≤ x) 242 235), (235, am_iload 2 236), (236, am_callS live 1 TX8_atFirst 239), (239, am_goto 251), (242, am_aload 0 243), (243, am_getR live 8 0 246), (246, am_iload 5 248), (248, am_const (.int 2) 249), (249, am_i2 (fun x y => x + y) 250), (250, am_ald live 0 251), (251, am_retI Ret)]
theorem koX8_inForce (live : am_E) (Ret : am_R) : ∀ q ∈ kX8_inForce live Ret, am_ok RX8 cX8_inForce 9 (some .int) 1 25 live Ret q.1 q.2 :=
  am_kc (ak_iconst dX8_inForce_0 (by decide +kernel) rfl) <|
  am_kc (ak_istore dX8_inForce_1 rfl) <|
  am_kc (ak_sipush dX8_inForce_3 (by decide +kernel) rfl) <|
  am_kc (ak_istore dX8_inForce_6 rfl) <|
  am_kc (ak_iload dX8_inForce_8 rfl) <|
  am_kc (ak_sipush dX8_inForce_10 (by decide +kernel) rfl) <|
  am_kc (ak_bipush dX8_inForce_13 (by decide +kernel) rfl) <|
  am_kc (ak_aload_n dX8_inForce_15 rfl rfl) <|
  am_kc (ak_getR (C := RX8) (T := TX8) (N := 27) rfl inX8w (by decide) rfl rfl rfl wd_895 dX8_inForce_16 rfl) <|
  am_kc (ak_iconst dX8_inForce_19 (by decide +kernel) rfl) <|
  am_kc (ak_iald (t := 0) (fun _ => rfl) rfl dX8_inForce_20 rfl) <|
  am_kc (ak_imul dX8_inForce_21 rfl) <|
  am_kc (ak_iadd dX8_inForce_22 rfl) <|
  am_kc (ak_icmp_ge dX8_inForce_23 (by decide +kernel) rfl) <|
  am_kc (ak_aload_n dX8_inForce_26 rfl rfl) <|
  am_kc (ak_getR (C := RX8) (T := TX8) (N := 27) rfl inX8w (by decide) rfl rfl rfl wd_895 dX8_inForce_27 rfl) <|
  am_kc (ak_iload dX8_inForce_30 rfl) <|
  am_kc (ak_iald (t := 0) (fun _ => rfl) rfl dX8_inForce_32 rfl) <|
  am_kc (ak_iload_n dX8_inForce_33 rfl rfl) <|
  am_kc (ak_icmp_ne dX8_inForce_34 (by decide +kernel) rfl) <|
  am_kc (ak_aload_n dX8_inForce_37 rfl rfl) <|
  am_kc (ak_getR (C := RX8) (T := TX8) (N := 27) rfl inX8w (by decide) rfl rfl rfl wd_895 dX8_inForce_38 rfl) <|
  am_kc (ak_iload dX8_inForce_41 rfl) <|
  am_kc (ak_iconst dX8_inForce_43 (by decide +kernel) rfl) <|
  am_kc (ak_iadd dX8_inForce_44 rfl) <|
  am_kc (ak_iald (t := 0) (fun _ => rfl) rfl dX8_inForce_45 rfl) <|
  am_kc (ak_iload_n dX8_inForce_46 rfl rfl) <|
  am_kc (ak_icmp_ne dX8_inForce_47 (by decide +kernel) rfl) <|
  am_kc (ak_aload_n dX8_inForce_50 rfl rfl) <|
  am_kc (ak_getR (C := RX8) (T := TX8) (N := 27) rfl inX8w (by decide) rfl rfl rfl wd_895 dX8_inForce_51 rfl) <|
  am_kc (ak_iload dX8_inForce_54 rfl) <|
  am_kc (ak_iconst dX8_inForce_56 (by decide +kernel) rfl) <|
  am_kc (ak_iadd dX8_inForce_57 rfl) <|
  am_kc (ak_iald (t := 0) (fun _ => rfl) rfl dX8_inForce_58 rfl) <|
  am_kc (ak_iload dX8_inForce_59 rfl) <|
  am_kc (ak_icmp_gt dX8_inForce_61 (by decide +kernel) rfl) <|
  am_kc (ak_iconst dX8_inForce_64 (by decide +kernel) rfl) <|
  am_kc (ak_goto dX8_inForce_65 (by decide +kernel)) <|
  am_kc (ak_iconst dX8_inForce_68 (by decide +kernel) rfl) <|
  am_kc (ak_istore dX8_inForce_69 rfl) <|
  am_kc (ak_iload dX8_inForce_71 rfl) <|
  am_kc (ak_if_eq dX8_inForce_73 (by decide +kernel) rfl) <|
  am_kc (ak_aload_n dX8_inForce_76 rfl rfl) <|
  am_kc (ak_getR (C := RX8) (T := TX8) (N := 27) rfl inX8w (by decide) rfl rfl rfl wd_895 dX8_inForce_77 rfl) <|
  am_kc (ak_bipush dX8_inForce_80 (by decide +kernel) rfl) <|
  am_kc (ak_iload_n dX8_inForce_82 rfl rfl) <|
  am_kc (ak_iadd dX8_inForce_83 rfl) <|
  am_kc (ak_iald (t := 0) (fun _ => rfl) rfl dX8_inForce_84 rfl) <|
  am_kc (ak_i2l dX8_inForce_85 rfl) <|
  am_kc (ak_aload_n dX8_inForce_86 rfl rfl) <|
  am_kc (ak_getR (C := RX8) (T := TX8) (N := 27) rfl inX8w (by decide) rfl rfl rfl wd_895 dX8_inForce_87 rfl) <|
  am_kc (ak_iload dX8_inForce_90 rfl) <|
  am_kc (ak_iconst dX8_inForce_92 (by decide +kernel) rfl) <|
  am_kc (ak_iadd dX8_inForce_93 rfl) <|
  am_kc (ak_iald (t := 0) (fun _ => rfl) rfl dX8_inForce_94 rfl) <|
  am_kc (ak_i2l dX8_inForce_95 rfl) <|
  am_kc (ak_aload_n dX8_inForce_96 rfl rfl) <|
  am_kc (ak_getR (C := RX8) (T := TX8) (N := 27) rfl inX8w (by decide) rfl rfl rfl wd_895 dX8_inForce_97 rfl) <|
  am_kc (ak_iload dX8_inForce_100 rfl) <|
  am_kc (ak_iconst dX8_inForce_102 (by decide +kernel) rfl) <|
  am_kc (ak_iadd dX8_inForce_103 rfl) <|
  am_kc (ak_iald (t := 0) (fun _ => rfl) rfl dX8_inForce_104 rfl) <|
  am_kc (ak_i2l dX8_inForce_105 rfl) <|
  am_kc (ak_callS metX8_in ⟨rfl, by decide +kernel, by decide +kernel, by decide +kernel⟩ (am_w4 wd_986 wd_987 wd_67 wd_988) (by decide) dX8_inForce_106 rfl) <|
  am_kc (ak_if_eq dX8_inForce_109 (by decide +kernel) rfl) <|
  am_kc (ak_iconst dX8_inForce_112 (by decide +kernel) rfl) <|
  am_kc (ak_goto dX8_inForce_113 (by decide +kernel)) <|
  am_kc (ak_iconst dX8_inForce_116 (by decide +kernel) rfl) <|
  am_kc (ak_istore dX8_inForce_117 rfl) <|
  am_kc (ak_iload dX8_inForce_119 rfl) <|
  am_kc (ak_if_eq dX8_inForce_121 (by decide +kernel) rfl) <|
  am_kc (ak_iload dX8_inForce_124 rfl) <|
  am_kc (ak_if_lt dX8_inForce_126 (by decide +kernel) rfl) <|
  am_kc (ak_aload_n dX8_inForce_129 rfl rfl) <|
  am_kc (ak_getR (C := RX8) (T := TX8) (N := 27) rfl inX8w (by decide) rfl rfl rfl wd_895 dX8_inForce_130 rfl) <|
  am_kc (ak_iload dX8_inForce_133 rfl) <|
  am_kc (ak_iconst dX8_inForce_135 (by decide +kernel) rfl) <|
  am_kc (ak_iadd dX8_inForce_136 rfl) <|
  am_kc (ak_iald (t := 0) (fun _ => rfl) rfl dX8_inForce_137 rfl) <|
  am_kc (ak_aload_n dX8_inForce_138 rfl rfl) <|
  am_kc (ak_getR (C := RX8) (T := TX8) (N := 27) rfl inX8w (by decide) rfl rfl rfl wd_895 dX8_inForce_139 rfl) <|
  am_kc (ak_iload dX8_inForce_142 rfl) <|
  am_kc (ak_iconst dX8_inForce_144 (by decide +kernel) rfl) <|
  am_kc (ak_iadd dX8_inForce_145 rfl) <|
  am_kc (ak_iald (t := 0) (fun _ => rfl) rfl dX8_inForce_146 rfl) <|
  am_kc (ak_icmp_lt dX8_inForce_147 (by decide +kernel) rfl) <|
  am_kc (ak_iload dX8_inForce_150 rfl) <|
  am_kc (ak_goto dX8_inForce_152 (by decide +kernel)) <|
  am_kc (ak_iload dX8_inForce_155 rfl) <|
  am_kc (ak_istore dX8_inForce_157 rfl) <|
  am_kc (ak_iinc dX8_inForce_159 (by decide +kernel) rfl) <|
  am_kc (ak_goto dX8_inForce_162 (by decide +kernel)) <|
  am_kc (ak_aload_n dX8_inForce_165 rfl rfl) <|
  am_kc (ak_getI (C := RX8) (T := TX8) (N := 27) rfl inX8w (by decide) rfl rfl rfl wd_898 dX8_inForce_166 rfl) <|
  am_kc (ak_iload_n dX8_inForce_169 rfl rfl) <|
  am_kc (ak_icmp_ne dX8_inForce_170 (by decide +kernel) rfl) <|
  am_kc (ak_aload_n dX8_inForce_173 rfl rfl) <|
  am_kc (ak_getI (C := RX8) (T := TX8) (N := 27) rfl inX8w (by decide) rfl rfl rfl wd_899 dX8_inForce_174 rfl) <|
  am_kc (ak_iload_n dX8_inForce_177 rfl rfl) <|
  am_kc (ak_icmp_ne dX8_inForce_178 (by decide +kernel) rfl) <|
  am_kc (ak_iload dX8_inForce_181 rfl) <|
  am_kc (ak_aload_n dX8_inForce_183 rfl rfl) <|
  am_kc (ak_getI (C := RX8) (T := TX8) (N := 27) rfl inX8w (by decide) rfl rfl rfl wd_901 dX8_inForce_184 rfl) <|
  am_kc (ak_icmp_lt dX8_inForce_187 (by decide +kernel) rfl) <|
  am_kc (ak_iload dX8_inForce_190 rfl) <|
  am_kc (ak_if_lt dX8_inForce_192 (by decide +kernel) rfl) <|
  am_kc (ak_aload_n dX8_inForce_195 rfl rfl) <|
  am_kc (ak_getR (C := RX8) (T := TX8) (N := 27) rfl inX8w (by decide) rfl rfl rfl wd_895 dX8_inForce_196 rfl) <|
  am_kc (ak_iload dX8_inForce_199 rfl) <|
  am_kc (ak_iconst dX8_inForce_201 (by decide +kernel) rfl) <|
  am_kc (ak_iadd dX8_inForce_202 rfl) <|
  am_kc (ak_iald (t := 0) (fun _ => rfl) rfl dX8_inForce_203 rfl) <|
  am_kc (ak_aload_n dX8_inForce_204 rfl rfl) <|
  am_kc (ak_getI (C := RX8) (T := TX8) (N := 27) rfl inX8w (by decide) rfl rfl rfl wd_901 dX8_inForce_205 rfl) <|
  am_kc (ak_icmp_gt dX8_inForce_208 (by decide +kernel) rfl) <|
  am_kc (ak_iconst dX8_inForce_211 (by decide +kernel) rfl) <|
  am_kc (ak_goto dX8_inForce_212 (by decide +kernel)) <|
  am_kc (ak_iconst dX8_inForce_215 (by decide +kernel) rfl) <|
  am_kc (ak_istore dX8_inForce_216 rfl) <|
  am_kc (ak_iload dX8_inForce_218 rfl) <|
  am_kc (ak_if_eq dX8_inForce_220 (by decide +kernel) rfl) <|
  am_kc (ak_aload_n dX8_inForce_223 rfl rfl) <|
  am_kc (ak_getI (C := RX8) (T := TX8) (N := 27) rfl inX8w (by decide) rfl rfl rfl wd_900 dX8_inForce_224 rfl) <|
  am_kc (ak_goto dX8_inForce_227 (by decide +kernel)) <|
  am_kc (ak_iload dX8_inForce_230 rfl) <|
  am_kc (ak_if_ge dX8_inForce_232 (by decide +kernel) rfl) <|
  am_kc (ak_iload_n dX8_inForce_235 rfl rfl) <|
  am_kc (ak_callS metX8_atFirst ⟨rfl, by decide +kernel, by decide +kernel, by decide +kernel⟩ (am_w4 wd_1057 wd_1058 wd_67 wd_1059) (by decide) dX8_inForce_236 rfl) <|
  am_kc (ak_goto dX8_inForce_239 (by decide +kernel)) <|
  am_kc (ak_aload_n dX8_inForce_242 rfl rfl) <|
  am_kc (ak_getR (C := RX8) (T := TX8) (N := 27) rfl inX8w (by decide) rfl rfl rfl wd_895 dX8_inForce_243 rfl) <|
  am_kc (ak_iload dX8_inForce_246 rfl) <|
  am_kc (ak_iconst dX8_inForce_248 (by decide +kernel) rfl) <|
  am_kc (ak_iadd dX8_inForce_249 rfl) <|
  am_kc (ak_iald (t := 0) (fun _ => rfl) rfl dX8_inForce_250 rfl) <|
  am_kc (ak_retI dX8_inForce_251) <| am_kn
def TX8_inForce : am_T := fun live as M R => match as with
  | [.ref n, .int pl, .int w, .int p, .int y] => am_mn live ∧ n = 200 ∧ am_in p 12 ∧ r_I M ∧ ∀ v, R (some (.int v)) M
  | _ => False
def r_bst (b : Int32) : Prop := b = -1 ∨ (2478 ≤ b.toInt ∧ b.toInt < 2838)
def JX8_inForce : am_E → List Value → am_M → am_R → am_inv := fun live as M0 _ pc => match as with
  | [.ref n, .int pl, .int w, .int p, .int y] => (match pc with
    | 8 => some ([0, 1, 2, 3, 4, 5, 6], fun k L st M => ∃ b a : Int32, L = [(0, .ref 200), (1, .int pl), (2, .int w), (3, .int p), (4, .int y), (5, .int b), (6, .int a)] ∧ st = [] ∧ k = ((5000 - a.toInt).toNat, 9) ∧ (2478 ≤ a.toInt ∧ a.toInt ≤ 2850) ∧ r_bst b ∧ M = M0)
    | 71 => some ([0, 1, 2, 3, 4, 5, 6, 7], fun k L st M => ∃ b a i : Int32, L = [(0, .ref 200), (1, .int pl), (2, .int w), (3, .int p), (4, .int y), (5, .int b), (6, .int a), (7, .int i)] ∧ st = [] ∧ k = ((5000 - a.toInt).toNat, 8) ∧ (2478 ≤ a.toInt ∧ a.toInt < 2838) ∧ r_bst b ∧ M = M0)
    | 119 => some ([0, 1, 2, 3, 4, 5, 6, 8], fun k L st M => ∃ b a i : Int32, L = [(0, .ref 200), (1, .int pl), (2, .int w), (3, .int p), (4, .int y), (5, .int b), (6, .int a), (8, .int i)] ∧ st = [] ∧ k = ((5000 - a.toInt).toNat, 7) ∧ (2478 ≤ a.toInt ∧ a.toInt < 2838) ∧ r_bst b ∧ M = M0)
    | 165 => some ([0, 1, 2, 4, 5], fun k L st M => ∃ b : Int32, L = [(0, .ref 200), (1, .int pl), (2, .int w), (4, .int y), (5, .int b)] ∧ st = [] ∧ k = (0, 9) ∧ r_bst b ∧ M = M0)
    | 218 => some ([0, 2, 5, 6], fun k L st M => ∃ b i : Int32, L = [(0, .ref 200), (2, .int w), (5, .int b), (6, .int i)] ∧ st = [] ∧ k = (0, 8) ∧ r_bst b ∧ M = M0)
    | _ => none)
  | _ => none
set_option maxRecDepth 100000 in
set_option maxHeartbeats 4000000 in
theorem metX8_inForce : am_Met yX8_inForce cX8_inForce 9 (some .int) (1) (25) TX8_inForce := by
  refine am_met (own := RX8) (by decide +kernel) rfl kX8_inForce koX8_inForce 100 JX8_inForce ?_ ?_
  · intro live as M Ret h
    unfold TX8_inForce at h
    split at h
    · next n pl w p y =>
      refine ⟨Nat.le_of_ble_eq_true rfl, ?_⟩
      change am_wp _ _ _ _ [(0, Value.ref n), (1, Value.int pl), (2, Value.int w), (3, Value.int p), (4, Value.int y)] _ _
      obtain ⟨hmn, rfl, hp, hR, h⟩ := h
      repeat' (first | apply And.intro | exact rfl | intro hx | (refine Exists.intro _ (And.intro rfl ?_)))
      all_goals try first | (with_reducible change am_tI _ _) | (change Ret _ _) | (change Ret _ _ _) | (change Exists _)
      all_goals try dsimp only at *
      all_goals try exact absurd ‹(1000 : Int64) = 0› (by decide)
      exact ⟨_, _, _, rfl, rfl, rfl, ⟨by decide, by decide⟩, Or.inl rfl, rfl⟩
    · exact h.elim
  · intro live as M0 Ret h k pc I hI L st M hi
    unfold TX8_inForce at h
    split at h
    · next n pl w p y =>
      obtain ⟨hmn, rfl, hp, hR, h⟩ := h
      have hmn2 := hmn
      obtain ⟨i1, i2, rfl⟩ := hmn2
      have l201 : am_len 201 = 3760 := rfl
      have p1 := hp.1
      have p2 := hp.2
      have n2 : 0 ≤ (M0.1 201 (Int32.toNatClampNeg 2)).toInt ∧ (M0.1 201 (Int32.toNatClampNeg 2)).toInt ≤ 60 := hR.n2
      have e6 := r_mul (c := 6) (x := M0.1 201 (Int32.toNatClampNeg 2)) ⟨by decide, by decide⟩ ⟨n2.1, by omega⟩
      simp only [Int32.reduceToInt] at e6
      have e24 := r_off (c := 2478) (x := 6 * M0.1 201 (Int32.toNatClampNeg 2)) ⟨by decide, by decide⟩ ⟨by omega, by omega⟩
      simp only [e6, Int32.reduceToInt] at e24
      have e10 := r_off (c := 10) (x := p) ⟨by decide, by decide⟩ ⟨by omega, by omega⟩
      simp only [Int32.reduceToInt] at e10
      change (match pc with | 8 => _ | 71 => _ | 119 => _ | 165 => _ | 218 => _ | _ => none) = _ at hI
      split at hI
      · cases hI
        obtain ⟨b, a, rfl, rfl, rfl, ⟨a1, a2⟩, hb, rfl⟩ := hi
        have ea1 := r_off (c := a) (x := 1) ⟨by omega, by omega⟩ ⟨by decide, by decide⟩
        have ea3 := r_off (c := a) (x := 3) ⟨by omega, by omega⟩ ⟨by decide, by decide⟩
        simp only [Int32.reduceToInt] at ea1 ea3
        by_cases hz : 2478 + 6 * M.1 201 (Int32.toNatClampNeg 2) ≤ a
        · skip
          repeat' (first | apply And.intro | exact rfl | (intro hx; with_reducible exact absurd hz hx) | (intro hx; exact absurd hx (by decide)) | (intro hx; exact absurd (by decide) hx) | decide | intro hx | (refine Exists.intro _ (And.intro rfl ?_)))
          all_goals try first | (with_reducible change am_tI _ _) | (change Ret _ _) | (change Ret _ _ _) | (change Exists _)
          all_goals try dsimp only at *
          all_goals try exact absurd ‹(1000 : Int64) = 0› (by decide)
          all_goals first
            | (show _ < _; simp only [l201]; decide)
            | exact ⟨_, am_lt_l (by omega), _, rfl, rfl, rfl, hb, rfl⟩
        · have hz2 := hz
          simp only [i_le] at hz2
          repeat' (first | apply And.intro | exact rfl | (intro hx; with_reducible exact absurd hx hz) | (intro hx; exact absurd hx (by decide)) | (intro hx; exact absurd (by decide) hx) | decide | intro hx | (refine Exists.intro _ (And.intro rfl ?_)))
          all_goals try first | (with_reducible change am_tI _ _) | (change Ret _ _) | (change Ret _ _ _) | (change Exists _)
          all_goals try dsimp only at *
          all_goals try exact absurd ‹(1000 : Int64) = 0› (by decide)
          all_goals first
            | (show _ < _; simp only [l201]; decide)
            | omega
            | (rw [l201]; omega)
            | exact ⟨_, am_lt_r (by omega), _, _, _, rfl, rfl, rfl, ⟨a1, by omega⟩, hb, rfl⟩
      · cases hI
        obtain ⟨b, a, i, rfl, rfl, rfl, ⟨a1, a2⟩, hb, rfl⟩ := hi
        have ea4 := r_off (c := a) (x := 4) ⟨by omega, by omega⟩ ⟨by decide, by decide⟩
        have ea5 := r_off (c := a) (x := 5) ⟨by omega, by omega⟩ ⟨by decide, by decide⟩
        simp only [Int32.reduceToInt] at ea4 ea5
        repeat' (first | apply And.intro | exact rfl | intro hx | (refine Exists.intro _ (And.intro rfl ?_)))
        all_goals try first | (with_reducible change am_tI _ _) | (change Ret _ _) | (change Ret _ _ _) | (change Exists _)
        all_goals try dsimp only at *
        all_goals try exact absurd ‹(1000 : Int64) = 0› (by decide)
        all_goals first
          | omega
          | (rw [l201]; omega)
          | exact ⟨_, am_lt_r (by omega), _, _, _, rfl, rfl, rfl, ⟨a1, a2⟩, hb, rfl⟩
      · cases hI
        obtain ⟨b, a, i, rfl, rfl, rfl, ⟨a1, a2⟩, hb, rfl⟩ := hi
        have ea3 := r_off (c := a) (x := 3) ⟨by omega, by omega⟩ ⟨by decide, by decide⟩
        have ea6 := r_off (c := a) (x := 6) ⟨by omega, by omega⟩ ⟨by decide, by decide⟩
        simp only [Int32.reduceToInt] at ea3 ea6
        have hba : r_bst a := Or.inr ⟨a1, a2⟩
        by_cases hz : b < 0
        · skip
          repeat' (first | apply And.intro | exact rfl | (intro hx; with_reducible exact absurd hz hx) | intro hx | (refine Exists.intro _ (And.intro rfl ?_)))
          all_goals try first | (with_reducible change am_tI _ _) | (change Ret _ _) | (change Ret _ _ _) | (change Exists _)
          all_goals try dsimp only at *
          all_goals try exact absurd ‹(1000 : Int64) = 0› (by decide)
          all_goals first
            | exact ⟨_, am_lt_l (by omega), _, _, rfl, rfl, rfl, ⟨by omega, by omega⟩, hba, rfl⟩
            | exact ⟨_, am_lt_l (by omega), _, _, rfl, rfl, rfl, ⟨by omega, by omega⟩, hb, rfl⟩
        · have hb2 : 2478 ≤ b.toInt ∧ b.toInt < 2838 := hb.resolve_left (fun q => hz (by rw [q]; decide))
          have eb3 := r_off (c := b) (x := 3) ⟨by omega, by omega⟩ ⟨by decide, by decide⟩
          simp only [Int32.reduceToInt] at eb3
          repeat' (first | apply And.intro | exact rfl | (intro hx; with_reducible exact absurd hx hz) | intro hx | (refine Exists.intro _ (And.intro rfl ?_)))
          all_goals try first | (with_reducible change am_tI _ _) | (change Ret _ _) | (change Ret _ _ _) | (change Exists _)
          all_goals try dsimp only at *
          all_goals try exact absurd ‹(1000 : Int64) = 0› (by decide)
          all_goals first
            | omega
            | (rw [l201]; omega)
            | exact ⟨_, am_lt_l (by omega), _, _, rfl, rfl, rfl, ⟨by omega, by omega⟩, hba, rfl⟩
            | exact ⟨_, am_lt_l (by omega), _, _, rfl, rfl, rfl, ⟨by omega, by omega⟩, hb, rfl⟩
      · cases hI
        obtain ⟨b, rfl, rfl, rfl, hb, rfl⟩ := hi
        by_cases hz : b < 0
        · skip
          repeat' (first | apply And.intro | exact rfl | (intro hx; with_reducible exact absurd hz hx) | intro hx | (refine Exists.intro _ (And.intro rfl ?_)))
          all_goals try first | (with_reducible change am_tI _ _) | (change Ret _ _) | (change Ret _ _ _) | (change Exists _)
          all_goals try dsimp only at *
          all_goals try exact absurd ‹(1000 : Int64) = 0› (by decide)
          all_goals exact ⟨_, am_lt_r (by omega), _, _, rfl, rfl, rfl, hb, rfl⟩
        · have hb2 : 2478 ≤ b.toInt ∧ b.toInt < 2838 := hb.resolve_left (fun q => hz (by rw [q]; decide))
          have eb3 := r_off (c := b) (x := 3) ⟨by omega, by omega⟩ ⟨by decide, by decide⟩
          simp only [Int32.reduceToInt] at eb3
          repeat' (first | apply And.intro | exact rfl | (intro hx; with_reducible exact absurd hx hz) | intro hx | (refine Exists.intro _ (And.intro rfl ?_)))
          all_goals try first | (with_reducible change am_tI _ _) | (change Ret _ _) | (change Ret _ _ _) | (change Exists _)
          all_goals try dsimp only at *
          all_goals try exact absurd ‹(1000 : Int64) = 0› (by decide)
          all_goals first
            | omega
            | (rw [l201]; omega)
            | exact ⟨_, am_lt_r (by omega), _, _, rfl, rfl, rfl, hb, rfl⟩
      · cases hI
        obtain ⟨b, i, rfl, rfl, rfl, hb, rfl⟩ := hi
        by_cases hz : b < 0
        · have hz2 : ¬ 0 ≤ b := Int32.not_le.mpr hz
          repeat' (first | apply And.intro | exact rfl | (intro hx; with_reducible exact absurd hx hz2) | (intro hx; with_reducible exact absurd hz hx) | intro hx | (refine Exists.intro _ (And.intro rfl ?_)))
          all_goals try first | (with_reducible change am_tI _ _) | (change Ret _ _) | (change Ret _ _ _) | (change Exists _)
          all_goals try dsimp only at *
          all_goals try exact absurd ‹(1000 : Int64) = 0› (by decide)
          all_goals exact h _
        · have hz2 : 0 ≤ b := Int32.not_lt.mp hz
          have hb2 : 2478 ≤ b.toInt ∧ b.toInt < 2838 := hb.resolve_left (fun q => hz (by rw [q]; decide))
          have eb2 := r_off (c := b) (x := 2) ⟨by omega, by omega⟩ ⟨by decide, by decide⟩
          simp only [Int32.reduceToInt] at eb2
          repeat' (first | apply And.intro | exact rfl | (intro hx; with_reducible exact absurd hx hz) | (intro hx; with_reducible exact absurd hz2 hx) | intro hx | (refine Exists.intro _ (And.intro rfl ?_)))
          all_goals try first | (with_reducible change am_tI _ _) | (change Ret _ _) | (change Ret _ _ _) | (change Exists _)
          all_goals try dsimp only at *
          all_goals try exact absurd ‹(1000 : Int64) = 0› (by decide)
          all_goals first
            | omega
            | (rw [l201]; omega)
            | exact h _
      · cases hI
    · exact h.elim
set_option maxRecDepth 100000 in
theorem wd_903 : Cond.fieldLink "LearnLoansModel" 138 "LearnLoansModel" "leadFrom" "I" ∈ am_ws := am_wsi (List.mem_of_getElem? (i := 903) (by rfl)) (by decide +kernel)
theorem dX8_planAt_0 : decode cX8_planAt 0 = .ok (.aload_n 0, 1) := by decide +kernel
theorem dX8_planAt_1 : decode cX8_planAt 1 = .ok (.getfield 61, 3) := by decide +kernel
theorem dX8_planAt_4 : decode cX8_planAt 4 = .ok (.ifCond .lt 16, 3) := by decide +kernel
theorem dX8_planAt_7 : decode cX8_planAt 7 = .ok (.iload_n 2, 1) := by decide +kernel
theorem dX8_planAt_8 : decode cX8_planAt 8 = .ok (.aload_n 0, 1) := by decide +kernel
theorem dX8_planAt_9 : decode cX8_planAt 9 = .ok (.getfield 138, 3) := by decide +kernel
theorem dX8_planAt_12 : decode cX8_planAt 12 = .ok (.if_icmp .lt 8, 3) := by decide +kernel
theorem dX8_planAt_15 : decode cX8_planAt 15 = .ok (.aload_n 0, 1) := by decide +kernel
theorem dX8_planAt_16 : decode cX8_planAt 16 = .ok (.getfield 61, 3) := by decide +kernel
theorem dX8_planAt_19 : decode cX8_planAt 19 = .ok (.ireturn, 1) := by decide +kernel
theorem dX8_planAt_20 : decode cX8_planAt 20 = .ok (.aload_n 0, 1) := by decide +kernel
theorem dX8_planAt_21 : decode cX8_planAt 21 = .ok (.getfield 7, 3) := by decide +kernel
theorem dX8_planAt_24 : decode cX8_planAt 24 = .ok (.sipush 2838, 3) := by decide +kernel
theorem dX8_planAt_27 : decode cX8_planAt 27 = .ok (.bipush 8, 2) := by decide +kernel
theorem dX8_planAt_29 : decode cX8_planAt 29 = .ok (.iload_n 1, 1) := by decide +kernel
theorem dX8_planAt_30 : decode cX8_planAt 30 = .ok (.imul, 1) := by decide +kernel
theorem dX8_planAt_31 : decode cX8_planAt 31 = .ok (.iadd, 1) := by decide +kernel
theorem dX8_planAt_32 : decode cX8_planAt 32 = .ok (.iconst 1, 1) := by decide +kernel
theorem dX8_planAt_33 : decode cX8_planAt 33 = .ok (.iadd, 1) := by decide +kernel
theorem dX8_planAt_34 : decode cX8_planAt 34 = .ok (.iaload, 1) := by decide +kernel
theorem dX8_planAt_35 : decode cX8_planAt 35 = .ok (.istore_n 3, 1) := by decide +kernel
theorem dX8_planAt_36 : decode cX8_planAt 36 = .ok (.sipush 3078, 3) := by decide +kernel
theorem dX8_planAt_39 : decode cX8_planAt 39 = .ok (.istore 4, 2) := by decide +kernel
theorem dX8_planAt_41 : decode cX8_planAt 41 = .ok (.iload 4, 2) := by decide +kernel
theorem dX8_planAt_43 : decode cX8_planAt 43 = .ok (.sipush 3078, 3) := by decide +kernel
theorem dX8_planAt_46 : decode cX8_planAt 46 = .ok (.iconst 3, 1) := by decide +kernel
theorem dX8_planAt_47 : decode cX8_planAt 47 = .ok (.aload_n 0, 1) := by decide +kernel
theorem dX8_planAt_48 : decode cX8_planAt 48 = .ok (.getfield 7, 3) := by decide +kernel
theorem dX8_planAt_51 : decode cX8_planAt 51 = .ok (.iconst 3, 1) := by decide +kernel
theorem dX8_planAt_52 : decode cX8_planAt 52 = .ok (.iaload, 1) := by decide +kernel
theorem dX8_planAt_53 : decode cX8_planAt 53 = .ok (.imul, 1) := by decide +kernel
theorem dX8_planAt_54 : decode cX8_planAt 54 = .ok (.iadd, 1) := by decide +kernel
theorem dX8_planAt_55 : decode cX8_planAt 55 = .ok (.if_icmp .ge 47, 3) := by decide +kernel
theorem dX8_planAt_58 : decode cX8_planAt 58 = .ok (.aload_n 0, 1) := by decide +kernel
theorem dX8_planAt_59 : decode cX8_planAt 59 = .ok (.getfield 7, 3) := by decide +kernel
theorem dX8_planAt_62 : decode cX8_planAt 62 = .ok (.iload 4, 2) := by decide +kernel
theorem dX8_planAt_64 : decode cX8_planAt 64 = .ok (.iaload, 1) := by decide +kernel
theorem dX8_planAt_65 : decode cX8_planAt 65 = .ok (.iload_n 1, 1) := by decide +kernel
theorem dX8_planAt_66 : decode cX8_planAt 66 = .ok (.if_icmp .ne 28, 3) := by decide +kernel
theorem dX8_planAt_69 : decode cX8_planAt 69 = .ok (.aload_n 0, 1) := by decide +kernel
theorem dX8_planAt_70 : decode cX8_planAt 70 = .ok (.getfield 7, 3) := by decide +kernel
theorem dX8_planAt_73 : decode cX8_planAt 73 = .ok (.iload 4, 2) := by decide +kernel
theorem dX8_planAt_75 : decode cX8_planAt 75 = .ok (.iconst 2, 1) := by decide +kernel
theorem dX8_planAt_76 : decode cX8_planAt 76 = .ok (.iadd, 1) := by decide +kernel
theorem dX8_planAt_77 : decode cX8_planAt 77 = .ok (.iaload, 1) := by decide +kernel
theorem dX8_planAt_78 : decode cX8_planAt 78 = .ok (.iload_n 2, 1) := by decide +kernel
theorem dX8_planAt_79 : decode cX8_planAt 79 = .ok (.if_icmp .gt 15, 3) := by decide +kernel
theorem dX8_planAt_82 : decode cX8_planAt 82 = .ok (.aload_n 0, 1) := by decide +kernel
theorem dX8_planAt_83 : decode cX8_planAt 83 = .ok (.getfield 7, 3) := by decide +kernel
theorem dX8_planAt_86 : decode cX8_planAt 86 = .ok (.iload 4, 2) := by decide +kernel
theorem dX8_planAt_88 : decode cX8_planAt 88 = .ok (.iconst 1, 1) := by decide +kernel
theorem dX8_planAt_89 : decode cX8_planAt 89 = .ok (.iadd, 1) := by decide +kernel
theorem dX8_planAt_90 : decode cX8_planAt 90 = .ok (.iaload, 1) := by decide +kernel
theorem dX8_planAt_91 : decode cX8_planAt 91 = .ok (.goto 4, 3) := by decide +kernel
theorem dX8_planAt_94 : decode cX8_planAt 94 = .ok (.iload_n 3, 1) := by decide +kernel
theorem dX8_planAt_95 : decode cX8_planAt 95 = .ok (.istore_n 3, 1) := by decide +kernel
theorem dX8_planAt_96 : decode cX8_planAt 96 = .ok (.iinc 4 3, 3) := by decide +kernel
theorem dX8_planAt_99 : decode cX8_planAt 99 = .ok (.goto (-58), 3) := by decide +kernel
theorem dX8_planAt_102 : decode cX8_planAt 102 = .ok (.iload_n 3, 1) := by decide +kernel
theorem dX8_planAt_103 : decode cX8_planAt 103 = .ok (.ireturn, 1) := by decide +kernel
def kX8_planAt (live : am_E) (Ret : am_R) : am_code := [(0, am_aload 0 1), (1, am_getI live 8 7 4), (4, am_if1 (fun x => x < 0) 20 7), (7, am_iload 2 8), (8, am_aload 0 9), (9, am_getI live 8 8 12), (12, am_if2 (fun x y => x < y) 20 15), (15, am_aload 0 16), (16, am_getI live 8 7 19), (19, am_retI Ret), (20, am_aload 0 21), (21, am_getR live 8 0 24), (24, am_const (.int 2838) 27), (27, am_const (.int 8) 29), (29, am_iload 1 30), (30, am_i2 (fun x y => x * y) 31), (31, am_i2 (fun x y => x + y) 32), (32, am_const (.int 1) 33), (33, am_i2 (fun x y => x + y) 34), (34, am_ald live 0 35), (35, am_istore 3 5 36), (36, am_const (.int 3078) 39), (39, am_istore 4 5 41), (41, am_iload 4 43), (43, am_const (.int 3078) 46), (46, am_const (.int 3) 47), (47, am_aload 0 48), (48, am_getR live 8 0 51), (51, am_const (.int 3) 52), (52, am_ald live 0 53), (53, am_i2 (fun x y => x * y) 54), (54, am_i2 (fun x y => x + y) 55), (55, am_if2 (fun x y => y ≤ x) 102 58), (58, am_aload 0 59), (59, am_getR live 8 0 62), (62, am_iload 4 64), (64, am_ald live 0 65), (65, am_iload 1 66), (66, am_if2 (fun x y => x = y) 69 94), (69, am_aload 0 70), (70, am_getR live 8 0 73), (73, am_iload 4 75), (75, am_const (.int 2) 76), (76, am_i2 (fun x y => x + y) 77), (77, am_ald live 0 78), (78, am_iload 2 79), (79, am_if2 (fun x y => y < x) 94 82), (82, am_aload 0 83), (83, am_getR live 8 0 86), (86, am_iload 4 88), (88, am_const (.int 1) 89), (89, am_i2 (fun x y => x + y) 90), (90, am_ald live 0 91), (91, am_goto 95), (94, am_iload 3 95), (95, am_istore 3 5 96), (96, am_iinc 4 5 3 99), (99, am_goto 41), (102, am_iload 3 103), (103, am_retI Ret)]
theorem koX8_planAt (live : am_E) (Ret : am_R) : ∀ q ∈ kX8_planAt live Ret, am_ok RX8 cX8_planAt 5 (some .int) 0 0 live Ret q.1 q.2 :=
  am_kc (ak_aload_n dX8_planAt_0 rfl rfl) <|
  am_kc (ak_getI (C := RX8) (T := TX8) (N := 27) rfl inX8w (by decide) rfl rfl rfl wd_902 dX8_planAt_1 rfl) <|
  am_kc (ak_if_lt dX8_planAt_4 (by decide +kernel) rfl) <|
  am_kc (ak_iload_n dX8_planAt_7 rfl rfl) <|
  am_kc (ak_aload_n dX8_planAt_8 rfl rfl) <|
  am_kc (ak_getI (C := RX8) (T := TX8) (N := 27) rfl inX8w (by decide) rfl rfl rfl wd_903 dX8_planAt_9 rfl) <|
  am_kc (ak_icmp_lt dX8_planAt_12 (by decide +kernel) rfl) <|
  am_kc (ak_aload_n dX8_planAt_15 rfl rfl) <|
  am_kc (ak_getI (C := RX8) (T := TX8) (N := 27) rfl inX8w (by decide) rfl rfl rfl wd_902 dX8_planAt_16 rfl) <|
  am_kc (ak_retI dX8_planAt_19) <|
  am_kc (ak_aload_n dX8_planAt_20 rfl rfl) <|
  am_kc (ak_getR (C := RX8) (T := TX8) (N := 27) rfl inX8w (by decide) rfl rfl rfl wd_895 dX8_planAt_21 rfl) <|
  am_kc (ak_sipush dX8_planAt_24 (by decide +kernel) rfl) <|
  am_kc (ak_bipush dX8_planAt_27 (by decide +kernel) rfl) <|
  am_kc (ak_iload_n dX8_planAt_29 rfl rfl) <|
  am_kc (ak_imul dX8_planAt_30 rfl) <|
  am_kc (ak_iadd dX8_planAt_31 rfl) <|
  am_kc (ak_iconst dX8_planAt_32 (by decide +kernel) rfl) <|
  am_kc (ak_iadd dX8_planAt_33 rfl) <|
  am_kc (ak_iald (t := 0) (fun _ => rfl) rfl dX8_planAt_34 rfl) <|
  am_kc (ak_istore_n dX8_planAt_35 rfl rfl) <|
  am_kc (ak_sipush dX8_planAt_36 (by decide +kernel) rfl) <|
  am_kc (ak_istore dX8_planAt_39 rfl) <|
  am_kc (ak_iload dX8_planAt_41 rfl) <|
  am_kc (ak_sipush dX8_planAt_43 (by decide +kernel) rfl) <|
  am_kc (ak_iconst dX8_planAt_46 (by decide +kernel) rfl) <|
  am_kc (ak_aload_n dX8_planAt_47 rfl rfl) <|
  am_kc (ak_getR (C := RX8) (T := TX8) (N := 27) rfl inX8w (by decide) rfl rfl rfl wd_895 dX8_planAt_48 rfl) <|
  am_kc (ak_iconst dX8_planAt_51 (by decide +kernel) rfl) <|
  am_kc (ak_iald (t := 0) (fun _ => rfl) rfl dX8_planAt_52 rfl) <|
  am_kc (ak_imul dX8_planAt_53 rfl) <|
  am_kc (ak_iadd dX8_planAt_54 rfl) <|
  am_kc (ak_icmp_ge dX8_planAt_55 (by decide +kernel) rfl) <|
  am_kc (ak_aload_n dX8_planAt_58 rfl rfl) <|
  am_kc (ak_getR (C := RX8) (T := TX8) (N := 27) rfl inX8w (by decide) rfl rfl rfl wd_895 dX8_planAt_59 rfl) <|
  am_kc (ak_iload dX8_planAt_62 rfl) <|
  am_kc (ak_iald (t := 0) (fun _ => rfl) rfl dX8_planAt_64 rfl) <|
  am_kc (ak_iload_n dX8_planAt_65 rfl rfl) <|
  am_kc (ak_icmp_ne dX8_planAt_66 (by decide +kernel) rfl) <|
  am_kc (ak_aload_n dX8_planAt_69 rfl rfl) <|
  am_kc (ak_getR (C := RX8) (T := TX8) (N := 27) rfl inX8w (by decide) rfl rfl rfl wd_895 dX8_planAt_70 rfl) <|
  am_kc (ak_iload dX8_planAt_73 rfl) <|
  am_kc (ak_iconst dX8_planAt_75 (by decide +kernel) rfl) <|
  am_kc (ak_iadd dX8_planAt_76 rfl) <|
  am_kc (ak_iald (t := 0) (fun _ => rfl) rfl dX8_planAt_77 rfl) <|
  am_kc (ak_iload_n dX8_planAt_78 rfl rfl) <|
  am_kc (ak_icmp_gt dX8_planAt_79 (by decide +kernel) rfl) <|
  am_kc (ak_aload_n dX8_planAt_82 rfl rfl) <|
  am_kc (ak_getR (C := RX8) (T := TX8) (N := 27) rfl inX8w (by decide) rfl rfl rfl wd_895 dX8_planAt_83 rfl) <|
  am_kc (ak_iload dX8_planAt_86 rfl) <|
  am_kc (ak_iconst dX8_planAt_88 (by decide +kernel) rfl) <|
  am_kc (ak_iadd dX8_planAt_89 rfl) <|
  am_kc (ak_iald (t := 0) (fun _ => rfl) rfl dX8_planAt_90 rfl) <|
  am_kc (ak_goto dX8_planAt_91 (by decide +kernel)) <|
  am_kc (ak_iload_n dX8_planAt_94 rfl rfl) <|
  am_kc (ak_istore_n dX8_planAt_95 rfl rfl) <|
  am_kc (ak_iinc dX8_planAt_96 (by decide +kernel) rfl) <|
  am_kc (ak_goto dX8_planAt_99 (by decide +kernel)) <|
  am_kc (ak_iload_n dX8_planAt_102 rfl rfl) <|
  am_kc (ak_retI dX8_planAt_103) <| am_kn
def TX8_planAt : am_T := fun live as M R => match as with
  | [.ref n, .int l, .int y] => am_mn live ∧ n = 200 ∧ am_in l 30 ∧ r_I M ∧ ∀ v, am_in v 5 → R (some (.int v)) M
  | _ => False
def JX8_planAt : am_E → List Value → am_M → am_R → am_inv := fun live as M0 _ pc => match as with
  | [.ref n, .int l, .int y] => (match pc with
    | 41 => some ([0, 1, 2, 3, 4], fun k L st M => ∃ (q m : Int32) (j : Nat), L = [(0, .ref 200), (1, .int l), (2, .int y), (3, .int q), (4, .int m)] ∧ st = [] ∧ k = (100 - j, 0) ∧ m.toInt = 3078 + 3 * (j : Int) ∧ j ≤ 60 ∧ am_in q 5 ∧ M = M0)
    | _ => none)
  | _ => none
set_option maxRecDepth 100000 in
set_option maxHeartbeats 4000000 in
theorem metX8_planAt : am_Met yX8_planAt cX8_planAt 5 (some .int) (0) (0) TX8_planAt := by
  refine am_met (own := RX8) (by decide +kernel) rfl kX8_planAt koX8_planAt 100 JX8_planAt ?_ ?_
  · intro live as M Ret h
    unfold TX8_planAt at h
    split at h
    · next n l y =>
      refine ⟨Nat.le_of_ble_eq_true rfl, ?_⟩
      change am_wp _ _ _ _ [(0, Value.ref n), (1, Value.int l), (2, Value.int y)] _ _
      obtain ⟨hmn, rfl, hl, hR, h⟩ := h
      have hmn2 := hmn
      obtain ⟨i1, i2, rfl⟩ := hmn2
      have l201 : am_len 201 = 3760 := rfl
      have l1 := hl.1
      have l2 := hl.2
      have e1 := r_lcol hl (w := 1) ⟨by decide, by decide⟩
      simp only [Int32.reduceToInt] at e1
      have hpl : am_in (M.1 201 (2838 + 8 * l + 1).toNatClampNeg) 5 := by
        have q := (hR.lo (g_cl hl)).2
        have c1 := i_clamp (x := 2838 + 8 * l + 1) (by omega)
        have c2 := i_clamp (x := l) l1
        rw [show (2838 + 8 * l + 1).toNatClampNeg = 2839 + 8 * l.toNatClampNeg by omega]
        exact q
      by_cases hz : M.1 200 7 < 0
      · skip
        repeat' (first | apply And.intro | exact rfl | (intro hx; with_reducible exact absurd hz hx) | intro hx | (refine Exists.intro _ (And.intro rfl ?_)))
        all_goals try first | (with_reducible change am_tI _ _) | (change Ret _ _) | (change Ret _ _ _) | (change Exists _)
        all_goals try dsimp only at *
        all_goals try exact absurd ‹(1000 : Int64) = 0› (by decide)
        all_goals first
          | omega
          | (rw [l201]; omega)
          | exact ⟨_, _, _, 0, rfl, rfl, rfl, rfl, by decide, hpl, rfl⟩
      · have hs := hR.s.resolve_left (fun q => hz (by rw [q]; decide))
        repeat' (first | apply And.intro | exact rfl | (intro hx; with_reducible exact absurd hx hz) | intro hx | (refine Exists.intro _ (And.intro rfl ?_)))
        all_goals try first | (with_reducible change am_tI _ _) | (change Ret _ _) | (change Ret _ _ _) | (change Exists _)
        all_goals try dsimp only at *
        all_goals try exact absurd ‹(1000 : Int64) = 0› (by decide)
        all_goals first
          | exact h _ hs
          | omega
          | (rw [l201]; omega)
          | exact ⟨_, _, _, 0, rfl, rfl, rfl, rfl, by decide, hpl, rfl⟩
    · exact h.elim
  · intro live as M0 Ret h k pc I hI L st M hi
    unfold TX8_planAt at h
    split at h
    · next n l y =>
      obtain ⟨hmn, rfl, hl, hR, h⟩ := h
      have hmn2 := hmn
      obtain ⟨i1, i2, rfl⟩ := hmn2
      have l201 : am_len 201 = 3760 := rfl
      have n3 : 0 ≤ (M0.1 201 (Int32.toNatClampNeg 3)).toInt ∧ (M0.1 201 (Int32.toNatClampNeg 3)).toInt ≤ 60 := hR.n3
      have e3 := r_mul (c := 3) (x := M0.1 201 (Int32.toNatClampNeg 3)) ⟨by decide, by decide⟩ ⟨n3.1, by omega⟩
      simp only [Int32.reduceToInt] at e3
      have e30 := r_off (c := 3078) (x := 3 * M0.1 201 (Int32.toNatClampNeg 3)) ⟨by decide, by decide⟩ ⟨by omega, by omega⟩
      simp only [e3, Int32.reduceToInt] at e30
      change (match pc with | 41 => _ | _ => none) = _ at hI
      split at hI
      · cases hI
        obtain ⟨q, m, j, rfl, rfl, rfl, e1, e2, hq, rfl⟩ := hi
        by_cases hz : 3078 + 3 * M.1 201 (Int32.toNatClampNeg 3) ≤ m
        · skip
          repeat' (first | apply And.intro | exact rfl | (intro hx; with_reducible exact absurd hz hx) | (intro hx; exact absurd hx (by decide)) | (intro hx; exact absurd (by decide) hx) | decide | intro hx | (refine Exists.intro _ (And.intro rfl ?_)))
          all_goals try first | (with_reducible change am_tI _ _) | (change Ret _ _) | (change Ret _ _ _) | (change Exists _)
          all_goals try dsimp only at *
          all_goals try exact absurd ‹(1000 : Int64) = 0› (by decide)
          all_goals first
            | (show _ < _; simp only [l201]; decide)
            | exact h _ hq
        · have hz2 := hz
          simp only [i_le] at hz2
          have hj : j < 60 := by omega
          have em1 := r_off (c := m) (x := 1) ⟨by omega, by omega⟩ ⟨by decide, by decide⟩
          have em2 := r_off (c := m) (x := 2) ⟨by omega, by omega⟩ ⟨by decide, by decide⟩
          have em3 := r_off (c := m) (x := 3) ⟨by omega, by omega⟩ ⟨by decide, by decide⟩
          simp only [Int32.reduceToInt] at em1 em2 em3
          have hq2 : am_in (M.1 201 (m + 1).toNatClampNeg) 5 := by
            have c1 := i_clamp (x := m + 1) (by omega)
            rw [show (m + 1).toNatClampNeg = 3079 + 3 * j by omega]
            exact hR.mv hj
          repeat' (first | apply And.intro | exact rfl | (intro hx; with_reducible exact absurd hx hz) | (intro hx; exact absurd hx (by decide)) | (intro hx; exact absurd (by decide) hx) | decide | intro hx | (refine Exists.intro _ (And.intro rfl ?_)))
          all_goals try first | (with_reducible change am_tI _ _) | (change Ret _ _) | (change Ret _ _ _) | (change Exists _)
          all_goals try dsimp only at *
          all_goals try exact absurd ‹(1000 : Int64) = 0› (by decide)
          all_goals first
            | (show _ < _; simp only [l201]; decide)
            | omega
            | (rw [l201]; omega)
            | exact ⟨_, am_lt_l (by omega), _, _, j + 1, rfl, rfl, rfl, by omega, by omega, hq2, rfl⟩
            | exact ⟨_, am_lt_l (by omega), _, _, j + 1, rfl, rfl, rfl, by omega, by omega, hq, rfl⟩
      · cases hI
    · exact h.elim
