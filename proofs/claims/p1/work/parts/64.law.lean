/-! p1: the law, cases from 21 -/
theorem dL_law_1110 : decode cL_law 1110 = .ok (.aload_n 1, 1) := by decide +kernel
theorem dL_law_1111 : decode cL_law 1111 = .ok (.aload_n 0, 1) := by decide +kernel
theorem dL_law_1112 : decode cL_law 1112 = .ok (.iload_n 3, 1) := by decide +kernel
theorem dL_law_1113 : decode cL_law 1113 = .ok (.iconst 1, 1) := by decide +kernel
theorem dL_law_1114 : decode cL_law 1114 = .ok (.iadd, 1) := by decide +kernel
theorem dL_law_1115 : decode cL_law 1115 = .ok (.iaload, 1) := by decide +kernel
theorem dL_law_1116 : decode cL_law 1116 = .ok (.aload_n 0, 1) := by decide +kernel
theorem dL_law_1117 : decode cL_law 1117 = .ok (.iload_n 3, 1) := by decide +kernel
theorem dL_law_1118 : decode cL_law 1118 = .ok (.iconst 2, 1) := by decide +kernel
theorem dL_law_1119 : decode cL_law 1119 = .ok (.iadd, 1) := by decide +kernel
theorem dL_law_1120 : decode cL_law 1120 = .ok (.iaload, 1) := by decide +kernel
theorem dL_law_1121 : decode cL_law 1121 = .ok (.aload_n 0, 1) := by decide +kernel
theorem dL_law_1122 : decode cL_law 1122 = .ok (.iload_n 3, 1) := by decide +kernel
theorem dL_law_1123 : decode cL_law 1123 = .ok (.iconst 3, 1) := by decide +kernel
theorem dL_law_1124 : decode cL_law 1124 = .ok (.iadd, 1) := by decide +kernel
theorem dL_law_1125 : decode cL_law 1125 = .ok (.iaload, 1) := by decide +kernel
theorem wd_730 : Cond.methodLink "LearnLoansLaw" 105 yX7_sell ∈ am_ws := am_wsi (List.mem_of_getElem? (i := 730) (by decide +kernel)) (by decide +kernel)
theorem wd_731 : Cond.instanceMethod yX7_sell ∈ am_ws := am_wsi (List.mem_of_getElem? (i := 731) (by decide +kernel)) (by decide +kernel)
theorem wd_732 : Cond.selects "LearnLoans" yX7_sell yX7_sell ∈ am_ws := am_wsi (List.mem_of_getElem? (i := 732) (by decide +kernel)) (by decide +kernel)
theorem wd_733 : Cond.code yX7_sell cX7_sell 4 (some .int) ∈ am_ws := am_wsi (List.mem_of_getElem? (i := 733) (by decide +kernel)) (by decide +kernel)
theorem dL_law_1126 : decode cL_law 1126 = .ok (.invokevirtual 105, 3) := by decide +kernel
theorem dL_law_1129 : decode cL_law 1129 = .ok (.aload_n 2, 1) := by decide +kernel
theorem dL_law_1130 : decode cL_law 1130 = .ok (.aload_n 0, 1) := by decide +kernel
theorem dL_law_1131 : decode cL_law 1131 = .ok (.iload_n 3, 1) := by decide +kernel
theorem dL_law_1132 : decode cL_law 1132 = .ok (.iconst 1, 1) := by decide +kernel
theorem dL_law_1133 : decode cL_law 1133 = .ok (.iadd, 1) := by decide +kernel
theorem dL_law_1134 : decode cL_law 1134 = .ok (.iaload, 1) := by decide +kernel
theorem dL_law_1135 : decode cL_law 1135 = .ok (.aload_n 0, 1) := by decide +kernel
theorem dL_law_1136 : decode cL_law 1136 = .ok (.iload_n 3, 1) := by decide +kernel
theorem dL_law_1137 : decode cL_law 1137 = .ok (.iconst 2, 1) := by decide +kernel
theorem dL_law_1138 : decode cL_law 1138 = .ok (.iadd, 1) := by decide +kernel
theorem dL_law_1139 : decode cL_law 1139 = .ok (.iaload, 1) := by decide +kernel
theorem dL_law_1140 : decode cL_law 1140 = .ok (.aload_n 0, 1) := by decide +kernel
theorem dL_law_1141 : decode cL_law 1141 = .ok (.iload_n 3, 1) := by decide +kernel
theorem dL_law_1142 : decode cL_law 1142 = .ok (.iconst 3, 1) := by decide +kernel
theorem dL_law_1143 : decode cL_law 1143 = .ok (.iadd, 1) := by decide +kernel
theorem dL_law_1144 : decode cL_law 1144 = .ok (.iaload, 1) := by decide +kernel
theorem wd_1208 : Cond.methodLink "LearnLoansLaw" 108 yX8_sell ∈ am_ws := am_wsi (List.mem_of_getElem? (i := 1208) (by decide +kernel)) (by decide +kernel)
theorem wd_1209 : Cond.instanceMethod yX8_sell ∈ am_ws := am_wsi (List.mem_of_getElem? (i := 1209) (by decide +kernel)) (by decide +kernel)
theorem wd_1210 : Cond.selects "LearnLoansModel" yX8_sell yX8_sell ∈ am_ws := am_wsi (List.mem_of_getElem? (i := 1210) (by decide +kernel)) (by decide +kernel)
theorem wd_1211 : Cond.code yX8_sell cX8_sell 4 (some .int) ∈ am_ws := am_wsi (List.mem_of_getElem? (i := 1211) (by decide +kernel)) (by decide +kernel)
theorem dL_law_1145 : decode cL_law 1145 = .ok (.invokevirtual 108, 3) := by decide +kernel
theorem dL_law_1148 : decode cL_law 1148 = .ok (.if_icmp .eq 701, 3) := by decide +kernel
def kL_c21 (Ln : Nat) (xs : Nat → Int32) : an_code := [(1110, an_lf (fun live => am_aload 1 1111)), (1111, an_lf (fun live => am_aload 0 1112)), (1112, an_lf (fun live => am_iload 3 1113)), (1113, an_lf (fun live => am_const (.int 1) 1114)), (1114, an_lf (fun live => am_i2 (fun x y => x + y) 1115)), (1115, an_sld Ln xs 1116), (1116, an_lf (fun live => am_aload 0 1117)), (1117, an_lf (fun live => am_iload 3 1118)), (1118, an_lf (fun live => am_const (.int 2) 1119)), (1119, an_lf (fun live => am_i2 (fun x y => x + y) 1120)), (1120, an_sld Ln xs 1121), (1121, an_lf (fun live => am_aload 0 1122)), (1122, an_lf (fun live => am_iload 3 1123)), (1123, an_lf (fun live => am_const (.int 3) 1124)), (1124, an_lf (fun live => am_i2 (fun x y => x + y) 1125)), (1125, an_sld Ln xs 1126), (1126, an_lf (fun live => am_callV live 7 3 TX7_sell 1129)), (1129, an_lf (fun live => am_aload 2 1130)), (1130, an_lf (fun live => am_aload 0 1131)), (1131, an_lf (fun live => am_iload 3 1132)), (1132, an_lf (fun live => am_const (.int 1) 1133)), (1133, an_lf (fun live => am_i2 (fun x y => x + y) 1134)), (1134, an_sld Ln xs 1135), (1135, an_lf (fun live => am_aload 0 1136)), (1136, an_lf (fun live => am_iload 3 1137)), (1137, an_lf (fun live => am_const (.int 2) 1138)), (1138, an_lf (fun live => am_i2 (fun x y => x + y) 1139)), (1139, an_sld Ln xs 1140), (1140, an_lf (fun live => am_aload 0 1141)), (1141, an_lf (fun live => am_iload 3 1142)), (1142, an_lf (fun live => am_const (.int 3) 1143)), (1143, an_lf (fun live => am_i2 (fun x y => x + y) 1144)), (1144, an_sld Ln xs 1145), (1145, an_lf (fun live => am_callV live 8 3 TX8_sell 1148)), (1148, an_lf (fun live => am_if2 (fun x y => x = y) 1849 1151))]
theorem koL_c21 (Ln : Nat) (xs : Nat → Int32) : ∀ q ∈ kL_c21 Ln xs, an_ok RL cL_law 4 (some .boolean) 2000 80000 600000 7302250 false (lawP Ln xs) an_noR q.1 q.2 :=
  an_kc (an_lift (fun live => ak_aload_n dL_law_1110 rfl rfl)) <|
  an_kc (an_lift (fun live => ak_aload_n dL_law_1111 rfl rfl)) <|
  an_kc (an_lift (fun live => ak_iload_n dL_law_1112 rfl rfl)) <|
  an_kc (an_lift (fun live => ak_iconst dL_law_1113 (by decide +kernel) rfl)) <|
  an_kc (an_lift (fun live => ak_iadd dL_law_1114 rfl)) <|
  an_kc (nk_sld dL_law_1115 rfl) <|
  an_kc (an_lift (fun live => ak_aload_n dL_law_1116 rfl rfl)) <|
  an_kc (an_lift (fun live => ak_iload_n dL_law_1117 rfl rfl)) <|
  an_kc (an_lift (fun live => ak_iconst dL_law_1118 (by decide +kernel) rfl)) <|
  an_kc (an_lift (fun live => ak_iadd dL_law_1119 rfl)) <|
  an_kc (nk_sld dL_law_1120 rfl) <|
  an_kc (an_lift (fun live => ak_aload_n dL_law_1121 rfl rfl)) <|
  an_kc (an_lift (fun live => ak_iload_n dL_law_1122 rfl rfl)) <|
  an_kc (an_lift (fun live => ak_iconst dL_law_1123 (by decide +kernel) rfl)) <|
  an_kc (an_lift (fun live => ak_iadd dL_law_1124 rfl)) <|
  an_kc (nk_sld dL_law_1125 rfl) <|
  an_kc (an_lift (fun live => ak_callV (C := RX7) (F := TX7) (N := 4) metX7_sell rfl ⟨rfl, by decide +kernel, by decide +kernel, by decide +kernel⟩ (am_w5 wd_730 wd_731 wd_732 wd_58 wd_733) (by decide) dL_law_1126 rfl)) <|
  an_kc (an_lift (fun live => ak_aload_n dL_law_1129 rfl rfl)) <|
  an_kc (an_lift (fun live => ak_aload_n dL_law_1130 rfl rfl)) <|
  an_kc (an_lift (fun live => ak_iload_n dL_law_1131 rfl rfl)) <|
  an_kc (an_lift (fun live => ak_iconst dL_law_1132 (by decide +kernel) rfl)) <|
  an_kc (an_lift (fun live => ak_iadd dL_law_1133 rfl)) <|
  an_kc (nk_sld dL_law_1134 rfl) <|
  an_kc (an_lift (fun live => ak_aload_n dL_law_1135 rfl rfl)) <|
  an_kc (an_lift (fun live => ak_iload_n dL_law_1136 rfl rfl)) <|
  an_kc (an_lift (fun live => ak_iconst dL_law_1137 (by decide +kernel) rfl)) <|
  an_kc (an_lift (fun live => ak_iadd dL_law_1138 rfl)) <|
  an_kc (nk_sld dL_law_1139 rfl) <|
  an_kc (an_lift (fun live => ak_aload_n dL_law_1140 rfl rfl)) <|
  an_kc (an_lift (fun live => ak_iload_n dL_law_1141 rfl rfl)) <|
  an_kc (an_lift (fun live => ak_iconst dL_law_1142 (by decide +kernel) rfl)) <|
  an_kc (an_lift (fun live => ak_iadd dL_law_1143 rfl)) <|
  an_kc (nk_sld dL_law_1144 rfl) <|
  an_kc (an_lift (fun live => ak_callV (C := RX8) (F := TX8) (N := 27) metX8_sell rfl ⟨rfl, by decide +kernel, by decide +kernel, by decide +kernel⟩ (am_w5 wd_1208 wd_1209 wd_1210 wd_67 wd_1211) (by decide) dL_law_1145 rfl)) <|
  an_kc (an_lift (fun live => ak_icmp_eq dL_law_1148 (by decide +kernel) rfl)) <| an_kn
set_option maxRecDepth 100000 in
set_option maxHeartbeats 4000000 in
theorem caseL_c21 (xs : Nat → Int32) : an_wp (kL_c21 8 xs) lawC 200 (an_go (kL_c21 8 xs) 1110) lawL [] lawX := by
    have f7 := an_Mf7
    have f8 := an_Mf8
    repeat' (first | (with_reducible exact f7) | (with_reducible exact f8) | apply And.intro | exact rfl | (intro hx; with_reducible exact absurd rfl hx) | (intro hx; with_reducible exact absurd ((lg_cmp_eq _ _).mpr rfl) hx) | (intro hx; exact absurd hx (by decide)) | (intro hx; exact absurd (by decide) hx) | decide | intro hx | (refine Exists.intro _ (And.intro rfl ?_)))
    all_goals try first | (with_reducible change am_tI _ _) | (change Ret _ _) | (change Ret _ _ _) | (change Exists _)
    all_goals try dsimp only at *
    all_goals try exact absurd ‹(1000 : Int64) = 0› (by decide)
    all_goals first
      | exact ⟨_, _, rfl⟩
      | exact f8.lo ‹am_ch am_lo _ _›
      | exact (f8.lo ‹am_ch am_lo _ _›).1 _ ‹_›
      | exact (f8.lo ‹am_ch am_lo _ _›).2.1 _ ‹_›
      | exact (f8.lo ‹am_ch am_lo _ _›).2.2.1 _ ‹_›
      | exact (f8.lo ‹am_ch am_lo _ _›).2.2.2.1 _ ‹_›
      | exact (f8.lo ‹am_ch am_lo _ _›).2.2.2.2 _ ‹_›
      | exact (f8.hi ‹∀ a k, 200 ≤ a → _›).1 _ ‹_›
      | exact (f8.hi ‹∀ a k, 200 ≤ a → _›).2.1 _ ‹_›
      | exact (f8.hi ‹∀ a k, 200 ≤ a → _›).2.2.1 _ ‹_›
      | exact (f8.hi ‹∀ a k, 200 ≤ a → _›).2.2.2.1 _ ‹_›
      | exact (f8.hi ‹∀ a k, 200 ≤ a → _›).2.2.2.2 _ ‹_›
      | decide
theorem dL_law_1153 : decode cL_law 1153 = .ok (.aload_n 1, 1) := by decide +kernel
theorem dL_law_1154 : decode cL_law 1154 = .ok (.aload_n 0, 1) := by decide +kernel
theorem dL_law_1155 : decode cL_law 1155 = .ok (.iload_n 3, 1) := by decide +kernel
theorem dL_law_1156 : decode cL_law 1156 = .ok (.iconst 1, 1) := by decide +kernel
theorem dL_law_1157 : decode cL_law 1157 = .ok (.iadd, 1) := by decide +kernel
theorem dL_law_1158 : decode cL_law 1158 = .ok (.iaload, 1) := by decide +kernel
theorem dL_law_1159 : decode cL_law 1159 = .ok (.aload_n 0, 1) := by decide +kernel
theorem dL_law_1160 : decode cL_law 1160 = .ok (.iload_n 3, 1) := by decide +kernel
theorem dL_law_1161 : decode cL_law 1161 = .ok (.iconst 2, 1) := by decide +kernel
theorem dL_law_1162 : decode cL_law 1162 = .ok (.iadd, 1) := by decide +kernel
theorem dL_law_1163 : decode cL_law 1163 = .ok (.iaload, 1) := by decide +kernel
theorem dL_law_1164 : decode cL_law 1164 = .ok (.aload_n 0, 1) := by decide +kernel
theorem dL_law_1165 : decode cL_law 1165 = .ok (.iload_n 3, 1) := by decide +kernel
theorem dL_law_1166 : decode cL_law 1166 = .ok (.iconst 3, 1) := by decide +kernel
theorem dL_law_1167 : decode cL_law 1167 = .ok (.iadd, 1) := by decide +kernel
theorem dL_law_1168 : decode cL_law 1168 = .ok (.iaload, 1) := by decide +kernel
theorem wd_734 : Cond.methodLink "LearnLoansLaw" 109 yX7_promise ∈ am_ws := am_wsi (List.mem_of_getElem? (i := 734) (by decide +kernel)) (by decide +kernel)
theorem wd_735 : Cond.instanceMethod yX7_promise ∈ am_ws := am_wsi (List.mem_of_getElem? (i := 735) (by decide +kernel)) (by decide +kernel)
theorem wd_736 : Cond.selects "LearnLoans" yX7_promise yX7_promise ∈ am_ws := am_wsi (List.mem_of_getElem? (i := 736) (by decide +kernel)) (by decide +kernel)
theorem wd_737 : Cond.code yX7_promise cX7_promise 4 (some .int) ∈ am_ws := am_wsi (List.mem_of_getElem? (i := 737) (by decide +kernel)) (by decide +kernel)
theorem dL_law_1169 : decode cL_law 1169 = .ok (.invokevirtual 109, 3) := by decide +kernel
theorem dL_law_1172 : decode cL_law 1172 = .ok (.aload_n 2, 1) := by decide +kernel
theorem dL_law_1173 : decode cL_law 1173 = .ok (.aload_n 0, 1) := by decide +kernel
theorem dL_law_1174 : decode cL_law 1174 = .ok (.iload_n 3, 1) := by decide +kernel
theorem dL_law_1175 : decode cL_law 1175 = .ok (.iconst 1, 1) := by decide +kernel
theorem dL_law_1176 : decode cL_law 1176 = .ok (.iadd, 1) := by decide +kernel
theorem dL_law_1177 : decode cL_law 1177 = .ok (.iaload, 1) := by decide +kernel
theorem dL_law_1178 : decode cL_law 1178 = .ok (.aload_n 0, 1) := by decide +kernel
theorem dL_law_1179 : decode cL_law 1179 = .ok (.iload_n 3, 1) := by decide +kernel
theorem dL_law_1180 : decode cL_law 1180 = .ok (.iconst 2, 1) := by decide +kernel
theorem dL_law_1181 : decode cL_law 1181 = .ok (.iadd, 1) := by decide +kernel
theorem dL_law_1182 : decode cL_law 1182 = .ok (.iaload, 1) := by decide +kernel
theorem dL_law_1183 : decode cL_law 1183 = .ok (.aload_n 0, 1) := by decide +kernel
theorem dL_law_1184 : decode cL_law 1184 = .ok (.iload_n 3, 1) := by decide +kernel
theorem dL_law_1185 : decode cL_law 1185 = .ok (.iconst 3, 1) := by decide +kernel
theorem dL_law_1186 : decode cL_law 1186 = .ok (.iadd, 1) := by decide +kernel
theorem dL_law_1187 : decode cL_law 1187 = .ok (.iaload, 1) := by decide +kernel
theorem wd_1212 : Cond.methodLink "LearnLoansLaw" 112 yX8_promise ∈ am_ws := am_wsi (List.mem_of_getElem? (i := 1212) (by decide +kernel)) (by decide +kernel)
theorem wd_1213 : Cond.instanceMethod yX8_promise ∈ am_ws := am_wsi (List.mem_of_getElem? (i := 1213) (by decide +kernel)) (by decide +kernel)
theorem wd_1214 : Cond.selects "LearnLoansModel" yX8_promise yX8_promise ∈ am_ws := am_wsi (List.mem_of_getElem? (i := 1214) (by decide +kernel)) (by decide +kernel)
theorem wd_1215 : Cond.code yX8_promise cX8_promise 5 (some .int) ∈ am_ws := am_wsi (List.mem_of_getElem? (i := 1215) (by decide +kernel)) (by decide +kernel)
theorem dL_law_1188 : decode cL_law 1188 = .ok (.invokevirtual 112, 3) := by decide +kernel
theorem dL_law_1191 : decode cL_law 1191 = .ok (.if_icmp .eq 658, 3) := by decide +kernel
def kL_c22 (Ln : Nat) (xs : Nat → Int32) : an_code := [(1153, an_lf (fun live => am_aload 1 1154)), (1154, an_lf (fun live => am_aload 0 1155)), (1155, an_lf (fun live => am_iload 3 1156)), (1156, an_lf (fun live => am_const (.int 1) 1157)), (1157, an_lf (fun live => am_i2 (fun x y => x + y) 1158)), (1158, an_sld Ln xs 1159), (1159, an_lf (fun live => am_aload 0 1160)), (1160, an_lf (fun live => am_iload 3 1161)), (1161, an_lf (fun live => am_const (.int 2) 1162)), (1162, an_lf (fun live => am_i2 (fun x y => x + y) 1163)), (1163, an_sld Ln xs 1164), (1164, an_lf (fun live => am_aload 0 1165)), (1165, an_lf (fun live => am_iload 3 1166)), (1166, an_lf (fun live => am_const (.int 3) 1167)), (1167, an_lf (fun live => am_i2 (fun x y => x + y) 1168)), (1168, an_sld Ln xs 1169), (1169, an_lf (fun live => am_callV live 7 3 TX7_promise 1172)), (1172, an_lf (fun live => am_aload 2 1173)), (1173, an_lf (fun live => am_aload 0 1174)), (1174, an_lf (fun live => am_iload 3 1175)), (1175, an_lf (fun live => am_const (.int 1) 1176)), (1176, an_lf (fun live => am_i2 (fun x y => x + y) 1177)), (1177, an_sld Ln xs 1178), (1178, an_lf (fun live => am_aload 0 1179)), (1179, an_lf (fun live => am_iload 3 1180)), (1180, an_lf (fun live => am_const (.int 2) 1181)), (1181, an_lf (fun live => am_i2 (fun x y => x + y) 1182)), (1182, an_sld Ln xs 1183), (1183, an_lf (fun live => am_aload 0 1184)), (1184, an_lf (fun live => am_iload 3 1185)), (1185, an_lf (fun live => am_const (.int 3) 1186)), (1186, an_lf (fun live => am_i2 (fun x y => x + y) 1187)), (1187, an_sld Ln xs 1188), (1188, an_lf (fun live => am_callV live 8 3 TX8_promise 1191)), (1191, an_lf (fun live => am_if2 (fun x y => x = y) 1849 1194))]
theorem koL_c22 (Ln : Nat) (xs : Nat → Int32) : ∀ q ∈ kL_c22 Ln xs, an_ok RL cL_law 4 (some .boolean) 2000 80000 600000 7302250 false (lawP Ln xs) an_noR q.1 q.2 :=
  an_kc (an_lift (fun live => ak_aload_n dL_law_1153 rfl rfl)) <|
  an_kc (an_lift (fun live => ak_aload_n dL_law_1154 rfl rfl)) <|
  an_kc (an_lift (fun live => ak_iload_n dL_law_1155 rfl rfl)) <|
  an_kc (an_lift (fun live => ak_iconst dL_law_1156 (by decide +kernel) rfl)) <|
  an_kc (an_lift (fun live => ak_iadd dL_law_1157 rfl)) <|
  an_kc (nk_sld dL_law_1158 rfl) <|
  an_kc (an_lift (fun live => ak_aload_n dL_law_1159 rfl rfl)) <|
  an_kc (an_lift (fun live => ak_iload_n dL_law_1160 rfl rfl)) <|
  an_kc (an_lift (fun live => ak_iconst dL_law_1161 (by decide +kernel) rfl)) <|
  an_kc (an_lift (fun live => ak_iadd dL_law_1162 rfl)) <|
  an_kc (nk_sld dL_law_1163 rfl) <|
  an_kc (an_lift (fun live => ak_aload_n dL_law_1164 rfl rfl)) <|
  an_kc (an_lift (fun live => ak_iload_n dL_law_1165 rfl rfl)) <|
  an_kc (an_lift (fun live => ak_iconst dL_law_1166 (by decide +kernel) rfl)) <|
  an_kc (an_lift (fun live => ak_iadd dL_law_1167 rfl)) <|
  an_kc (nk_sld dL_law_1168 rfl) <|
  an_kc (an_lift (fun live => ak_callV (C := RX7) (F := TX7) (N := 4) metX7_promise rfl ⟨rfl, by decide +kernel, by decide +kernel, by decide +kernel⟩ (am_w5 wd_734 wd_735 wd_736 wd_58 wd_737) (by decide) dL_law_1169 rfl)) <|
  an_kc (an_lift (fun live => ak_aload_n dL_law_1172 rfl rfl)) <|
  an_kc (an_lift (fun live => ak_aload_n dL_law_1173 rfl rfl)) <|
  an_kc (an_lift (fun live => ak_iload_n dL_law_1174 rfl rfl)) <|
  an_kc (an_lift (fun live => ak_iconst dL_law_1175 (by decide +kernel) rfl)) <|
  an_kc (an_lift (fun live => ak_iadd dL_law_1176 rfl)) <|
  an_kc (nk_sld dL_law_1177 rfl) <|
  an_kc (an_lift (fun live => ak_aload_n dL_law_1178 rfl rfl)) <|
  an_kc (an_lift (fun live => ak_iload_n dL_law_1179 rfl rfl)) <|
  an_kc (an_lift (fun live => ak_iconst dL_law_1180 (by decide +kernel) rfl)) <|
  an_kc (an_lift (fun live => ak_iadd dL_law_1181 rfl)) <|
  an_kc (nk_sld dL_law_1182 rfl) <|
  an_kc (an_lift (fun live => ak_aload_n dL_law_1183 rfl rfl)) <|
  an_kc (an_lift (fun live => ak_iload_n dL_law_1184 rfl rfl)) <|
  an_kc (an_lift (fun live => ak_iconst dL_law_1185 (by decide +kernel) rfl)) <|
  an_kc (an_lift (fun live => ak_iadd dL_law_1186 rfl)) <|
  an_kc (nk_sld dL_law_1187 rfl) <|
  an_kc (an_lift (fun live => ak_callV (C := RX8) (F := TX8) (N := 27) metX8_promise rfl ⟨rfl, by decide +kernel, by decide +kernel, by decide +kernel⟩ (am_w5 wd_1212 wd_1213 wd_1214 wd_67 wd_1215) (by decide) dL_law_1188 rfl)) <|
  an_kc (an_lift (fun live => ak_icmp_eq dL_law_1191 (by decide +kernel) rfl)) <| an_kn
set_option maxRecDepth 100000 in
set_option maxHeartbeats 4000000 in
theorem caseL_c22 (xs : Nat → Int32) : an_wp (kL_c22 8 xs) lawC 200 (an_go (kL_c22 8 xs) 1153) lawL [] lawX := by
    have f7 := an_Mf7
    have f8 := an_Mf8
    repeat' (first | (with_reducible exact f7) | (with_reducible exact f8) | apply And.intro | exact rfl | (intro hx; with_reducible exact absurd rfl hx) | (intro hx; with_reducible exact absurd ((lg_cmp_eq _ _).mpr rfl) hx) | (intro hx; exact absurd hx (by decide)) | (intro hx; exact absurd (by decide) hx) | decide | intro hx | (refine Exists.intro _ (And.intro rfl ?_)))
    all_goals try first | (with_reducible change am_tI _ _) | (change Ret _ _) | (change Ret _ _ _) | (change Exists _)
    all_goals try dsimp only at *
    all_goals try exact absurd ‹(1000 : Int64) = 0› (by decide)
    all_goals first
      | exact ⟨_, _, rfl⟩
      | exact f8.lo ‹am_ch am_lo _ _›
      | exact (f8.lo ‹am_ch am_lo _ _›).1 _ ‹_›
      | exact (f8.lo ‹am_ch am_lo _ _›).2.1 _ ‹_›
      | exact (f8.lo ‹am_ch am_lo _ _›).2.2.1 _ ‹_›
      | exact (f8.lo ‹am_ch am_lo _ _›).2.2.2.1 _ ‹_›
      | exact (f8.lo ‹am_ch am_lo _ _›).2.2.2.2 _ ‹_›
      | exact (f8.hi ‹∀ a k, 200 ≤ a → _›).1 _ ‹_›
      | exact (f8.hi ‹∀ a k, 200 ≤ a → _›).2.1 _ ‹_›
      | exact (f8.hi ‹∀ a k, 200 ≤ a → _›).2.2.1 _ ‹_›
      | exact (f8.hi ‹∀ a k, 200 ≤ a → _›).2.2.2.1 _ ‹_›
      | exact (f8.hi ‹∀ a k, 200 ≤ a → _›).2.2.2.2 _ ‹_›
      | decide
theorem dL_law_1196 : decode cL_law 1196 = .ok (.aload_n 1, 1) := by decide +kernel
theorem dL_law_1197 : decode cL_law 1197 = .ok (.aload_n 0, 1) := by decide +kernel
theorem dL_law_1198 : decode cL_law 1198 = .ok (.iload_n 3, 1) := by decide +kernel
theorem dL_law_1199 : decode cL_law 1199 = .ok (.iconst 1, 1) := by decide +kernel
theorem dL_law_1200 : decode cL_law 1200 = .ok (.iadd, 1) := by decide +kernel
theorem dL_law_1201 : decode cL_law 1201 = .ok (.iaload, 1) := by decide +kernel
theorem dL_law_1202 : decode cL_law 1202 = .ok (.aload_n 0, 1) := by decide +kernel
theorem dL_law_1203 : decode cL_law 1203 = .ok (.iload_n 3, 1) := by decide +kernel
theorem dL_law_1204 : decode cL_law 1204 = .ok (.iconst 2, 1) := by decide +kernel
theorem dL_law_1205 : decode cL_law 1205 = .ok (.iadd, 1) := by decide +kernel
theorem dL_law_1206 : decode cL_law 1206 = .ok (.iaload, 1) := by decide +kernel
theorem dL_law_1207 : decode cL_law 1207 = .ok (.aload_n 0, 1) := by decide +kernel
theorem dL_law_1208 : decode cL_law 1208 = .ok (.iload_n 3, 1) := by decide +kernel
theorem dL_law_1209 : decode cL_law 1209 = .ok (.iconst 3, 1) := by decide +kernel
theorem dL_law_1210 : decode cL_law 1210 = .ok (.iadd, 1) := by decide +kernel
theorem dL_law_1211 : decode cL_law 1211 = .ok (.iaload, 1) := by decide +kernel
theorem dL_law_1212 : decode cL_law 1212 = .ok (.aload_n 0, 1) := by decide +kernel
theorem dL_law_1213 : decode cL_law 1213 = .ok (.iload_n 3, 1) := by decide +kernel
theorem dL_law_1214 : decode cL_law 1214 = .ok (.iconst 4, 1) := by decide +kernel
theorem dL_law_1215 : decode cL_law 1215 = .ok (.iadd, 1) := by decide +kernel
theorem dL_law_1216 : decode cL_law 1216 = .ok (.iaload, 1) := by decide +kernel
theorem wd_739 : Cond.methodLink "LearnLoansLaw" 113 yX7_book ∈ am_ws := am_wsi (List.mem_of_getElem? (i := 739) (by decide +kernel)) (by decide +kernel)
theorem wd_740 : Cond.instanceMethod yX7_book ∈ am_ws := am_wsi (List.mem_of_getElem? (i := 740) (by decide +kernel)) (by decide +kernel)
theorem wd_741 : Cond.selects "LearnLoans" yX7_book yX7_book ∈ am_ws := am_wsi (List.mem_of_getElem? (i := 741) (by decide +kernel)) (by decide +kernel)
theorem wd_742 : Cond.code yX7_book cX7_book 8 (some .long) ∈ am_ws := am_wsi (List.mem_of_getElem? (i := 742) (by decide +kernel)) (by decide +kernel)
theorem dL_law_1217 : decode cL_law 1217 = .ok (.invokevirtual 113, 3) := by decide +kernel
theorem dL_law_1220 : decode cL_law 1220 = .ok (.aload_n 2, 1) := by decide +kernel
theorem dL_law_1221 : decode cL_law 1221 = .ok (.aload_n 0, 1) := by decide +kernel
theorem dL_law_1222 : decode cL_law 1222 = .ok (.iload_n 3, 1) := by decide +kernel
theorem dL_law_1223 : decode cL_law 1223 = .ok (.iconst 1, 1) := by decide +kernel
theorem dL_law_1224 : decode cL_law 1224 = .ok (.iadd, 1) := by decide +kernel
theorem dL_law_1225 : decode cL_law 1225 = .ok (.iaload, 1) := by decide +kernel
theorem dL_law_1226 : decode cL_law 1226 = .ok (.aload_n 0, 1) := by decide +kernel
theorem dL_law_1227 : decode cL_law 1227 = .ok (.iload_n 3, 1) := by decide +kernel
theorem dL_law_1228 : decode cL_law 1228 = .ok (.iconst 2, 1) := by decide +kernel
theorem dL_law_1229 : decode cL_law 1229 = .ok (.iadd, 1) := by decide +kernel
theorem dL_law_1230 : decode cL_law 1230 = .ok (.iaload, 1) := by decide +kernel
theorem dL_law_1231 : decode cL_law 1231 = .ok (.aload_n 0, 1) := by decide +kernel
theorem dL_law_1232 : decode cL_law 1232 = .ok (.iload_n 3, 1) := by decide +kernel
theorem dL_law_1233 : decode cL_law 1233 = .ok (.iconst 3, 1) := by decide +kernel
theorem dL_law_1234 : decode cL_law 1234 = .ok (.iadd, 1) := by decide +kernel
theorem dL_law_1235 : decode cL_law 1235 = .ok (.iaload, 1) := by decide +kernel
theorem dL_law_1236 : decode cL_law 1236 = .ok (.aload_n 0, 1) := by decide +kernel
theorem dL_law_1237 : decode cL_law 1237 = .ok (.iload_n 3, 1) := by decide +kernel
theorem dL_law_1238 : decode cL_law 1238 = .ok (.iconst 4, 1) := by decide +kernel
theorem dL_law_1239 : decode cL_law 1239 = .ok (.iadd, 1) := by decide +kernel
theorem dL_law_1240 : decode cL_law 1240 = .ok (.iaload, 1) := by decide +kernel
theorem wd_1217 : Cond.methodLink "LearnLoansLaw" 116 yX8_book ∈ am_ws := am_wsi (List.mem_of_getElem? (i := 1217) (by decide +kernel)) (by decide +kernel)
theorem wd_1218 : Cond.instanceMethod yX8_book ∈ am_ws := am_wsi (List.mem_of_getElem? (i := 1218) (by decide +kernel)) (by decide +kernel)
theorem wd_1219 : Cond.selects "LearnLoansModel" yX8_book yX8_book ∈ am_ws := am_wsi (List.mem_of_getElem? (i := 1219) (by decide +kernel)) (by decide +kernel)
theorem wd_1220 : Cond.code yX8_book cX8_book 10 (some .long) ∈ am_ws := am_wsi (List.mem_of_getElem? (i := 1220) (by decide +kernel)) (by decide +kernel)
theorem dL_law_1241 : decode cL_law 1241 = .ok (.invokevirtual 116, 3) := by decide +kernel
theorem dL_law_1244 : decode cL_law 1244 = .ok (.lcmp, 1) := by decide +kernel
theorem dL_law_1245 : decode cL_law 1245 = .ok (.ifCond .eq 604, 3) := by decide +kernel
def kL_c23 (Ln : Nat) (xs : Nat → Int32) : an_code := [(1196, an_lf (fun live => am_aload 1 1197)), (1197, an_lf (fun live => am_aload 0 1198)), (1198, an_lf (fun live => am_iload 3 1199)), (1199, an_lf (fun live => am_const (.int 1) 1200)), (1200, an_lf (fun live => am_i2 (fun x y => x + y) 1201)), (1201, an_sld Ln xs 1202), (1202, an_lf (fun live => am_aload 0 1203)), (1203, an_lf (fun live => am_iload 3 1204)), (1204, an_lf (fun live => am_const (.int 2) 1205)), (1205, an_lf (fun live => am_i2 (fun x y => x + y) 1206)), (1206, an_sld Ln xs 1207), (1207, an_lf (fun live => am_aload 0 1208)), (1208, an_lf (fun live => am_iload 3 1209)), (1209, an_lf (fun live => am_const (.int 3) 1210)), (1210, an_lf (fun live => am_i2 (fun x y => x + y) 1211)), (1211, an_sld Ln xs 1212), (1212, an_lf (fun live => am_aload 0 1213)), (1213, an_lf (fun live => am_iload 3 1214)), (1214, an_lf (fun live => am_const (.int 4) 1215)), (1215, an_lf (fun live => am_i2 (fun x y => x + y) 1216)), (1216, an_sld Ln xs 1217), (1217, an_lf (fun live => am_callV live 7 4 TX7_book 1220)), (1220, an_lf (fun live => am_aload 2 1221)), (1221, an_lf (fun live => am_aload 0 1222)), (1222, an_lf (fun live => am_iload 3 1223)), (1223, an_lf (fun live => am_const (.int 1) 1224)), (1224, an_lf (fun live => am_i2 (fun x y => x + y) 1225)), (1225, an_sld Ln xs 1226), (1226, an_lf (fun live => am_aload 0 1227)), (1227, an_lf (fun live => am_iload 3 1228)), (1228, an_lf (fun live => am_const (.int 2) 1229)), (1229, an_lf (fun live => am_i2 (fun x y => x + y) 1230)), (1230, an_sld Ln xs 1231), (1231, an_lf (fun live => am_aload 0 1232)), (1232, an_lf (fun live => am_iload 3 1233)), (1233, an_lf (fun live => am_const (.int 3) 1234)), (1234, an_lf (fun live => am_i2 (fun x y => x + y) 1235)), (1235, an_sld Ln xs 1236), (1236, an_lf (fun live => am_aload 0 1237)), (1237, an_lf (fun live => am_iload 3 1238)), (1238, an_lf (fun live => am_const (.int 4) 1239)), (1239, an_lf (fun live => am_i2 (fun x y => x + y) 1240)), (1240, an_sld Ln xs 1241), (1241, an_lf (fun live => am_callV live 8 4 TX8_book 1244)), (1244, an_lf (fun live => am_lcmp 1245)), (1245, an_lf (fun live => am_if1 (fun x => x = 0) 1849 1248))]
theorem koL_c23 (Ln : Nat) (xs : Nat → Int32) : ∀ q ∈ kL_c23 Ln xs, an_ok RL cL_law 4 (some .boolean) 2000 80000 600000 7302250 false (lawP Ln xs) an_noR q.1 q.2 :=
  an_kc (an_lift (fun live => ak_aload_n dL_law_1196 rfl rfl)) <|
  an_kc (an_lift (fun live => ak_aload_n dL_law_1197 rfl rfl)) <|
  an_kc (an_lift (fun live => ak_iload_n dL_law_1198 rfl rfl)) <|
  an_kc (an_lift (fun live => ak_iconst dL_law_1199 (by decide +kernel) rfl)) <|
  an_kc (an_lift (fun live => ak_iadd dL_law_1200 rfl)) <|
  an_kc (nk_sld dL_law_1201 rfl) <|
  an_kc (an_lift (fun live => ak_aload_n dL_law_1202 rfl rfl)) <|
  an_kc (an_lift (fun live => ak_iload_n dL_law_1203 rfl rfl)) <|
  an_kc (an_lift (fun live => ak_iconst dL_law_1204 (by decide +kernel) rfl)) <|
  an_kc (an_lift (fun live => ak_iadd dL_law_1205 rfl)) <|
  an_kc (nk_sld dL_law_1206 rfl) <|
  an_kc (an_lift (fun live => ak_aload_n dL_law_1207 rfl rfl)) <|
  an_kc (an_lift (fun live => ak_iload_n dL_law_1208 rfl rfl)) <|
  an_kc (an_lift (fun live => ak_iconst dL_law_1209 (by decide +kernel) rfl)) <|
  an_kc (an_lift (fun live => ak_iadd dL_law_1210 rfl)) <|
  an_kc (nk_sld dL_law_1211 rfl) <|
  an_kc (an_lift (fun live => ak_aload_n dL_law_1212 rfl rfl)) <|
  an_kc (an_lift (fun live => ak_iload_n dL_law_1213 rfl rfl)) <|
  an_kc (an_lift (fun live => ak_iconst dL_law_1214 (by decide +kernel) rfl)) <|
  an_kc (an_lift (fun live => ak_iadd dL_law_1215 rfl)) <|
  an_kc (nk_sld dL_law_1216 rfl) <|
  an_kc (an_lift (fun live => ak_callV (C := RX7) (F := TX7) (N := 4) metX7_book rfl ⟨rfl, by decide +kernel, by decide +kernel, by decide +kernel⟩ (am_w5 wd_739 wd_740 wd_741 wd_58 wd_742) (by decide) dL_law_1217 rfl)) <|
  an_kc (an_lift (fun live => ak_aload_n dL_law_1220 rfl rfl)) <|
  an_kc (an_lift (fun live => ak_aload_n dL_law_1221 rfl rfl)) <|
  an_kc (an_lift (fun live => ak_iload_n dL_law_1222 rfl rfl)) <|
  an_kc (an_lift (fun live => ak_iconst dL_law_1223 (by decide +kernel) rfl)) <|
  an_kc (an_lift (fun live => ak_iadd dL_law_1224 rfl)) <|
  an_kc (nk_sld dL_law_1225 rfl) <|
  an_kc (an_lift (fun live => ak_aload_n dL_law_1226 rfl rfl)) <|
  an_kc (an_lift (fun live => ak_iload_n dL_law_1227 rfl rfl)) <|
  an_kc (an_lift (fun live => ak_iconst dL_law_1228 (by decide +kernel) rfl)) <|
  an_kc (an_lift (fun live => ak_iadd dL_law_1229 rfl)) <|
  an_kc (nk_sld dL_law_1230 rfl) <|
  an_kc (an_lift (fun live => ak_aload_n dL_law_1231 rfl rfl)) <|
  an_kc (an_lift (fun live => ak_iload_n dL_law_1232 rfl rfl)) <|
  an_kc (an_lift (fun live => ak_iconst dL_law_1233 (by decide +kernel) rfl)) <|
  an_kc (an_lift (fun live => ak_iadd dL_law_1234 rfl)) <|
  an_kc (nk_sld dL_law_1235 rfl) <|
  an_kc (an_lift (fun live => ak_aload_n dL_law_1236 rfl rfl)) <|
  an_kc (an_lift (fun live => ak_iload_n dL_law_1237 rfl rfl)) <|
  an_kc (an_lift (fun live => ak_iconst dL_law_1238 (by decide +kernel) rfl)) <|
  an_kc (an_lift (fun live => ak_iadd dL_law_1239 rfl)) <|
  an_kc (nk_sld dL_law_1240 rfl) <|
  an_kc (an_lift (fun live => ak_callV (C := RX8) (F := TX8) (N := 27) metX8_book rfl ⟨rfl, by decide +kernel, by decide +kernel, by decide +kernel⟩ (am_w5 wd_1217 wd_1218 wd_1219 wd_67 wd_1220) (by decide) dL_law_1241 rfl)) <|
  an_kc (an_lift (fun live => ak_lcmp dL_law_1244 rfl)) <|
  an_kc (an_lift (fun live => ak_if_eq dL_law_1245 (by decide +kernel) rfl)) <| an_kn
set_option maxRecDepth 100000 in
set_option maxHeartbeats 4000000 in
theorem caseL_c23 (xs : Nat → Int32) : an_wp (kL_c23 8 xs) lawC 200 (an_go (kL_c23 8 xs) 1196) lawL [] lawX := by
    have f7 := an_Mf7
    have f8 := an_Mf8
    repeat' (first | (with_reducible exact f7) | (with_reducible exact f8) | apply And.intro | exact rfl | (intro hx; with_reducible exact absurd rfl hx) | (intro hx; with_reducible exact absurd ((lg_cmp_eq _ _).mpr rfl) hx) | (intro hx; exact absurd hx (by decide)) | (intro hx; exact absurd (by decide) hx) | decide | intro hx | (refine Exists.intro _ (And.intro rfl ?_)))
    all_goals try first | (with_reducible change am_tI _ _) | (change Ret _ _) | (change Ret _ _ _) | (change Exists _)
    all_goals try dsimp only at *
    all_goals try exact absurd ‹(1000 : Int64) = 0› (by decide)
    all_goals first
      | exact ⟨_, _, rfl⟩
      | exact f8.lo ‹am_ch am_lo _ _›
      | exact (f8.lo ‹am_ch am_lo _ _›).1 _ ‹_›
      | exact (f8.lo ‹am_ch am_lo _ _›).2.1 _ ‹_›
      | exact (f8.lo ‹am_ch am_lo _ _›).2.2.1 _ ‹_›
      | exact (f8.lo ‹am_ch am_lo _ _›).2.2.2.1 _ ‹_›
      | exact (f8.lo ‹am_ch am_lo _ _›).2.2.2.2 _ ‹_›
      | exact (f8.hi ‹∀ a k, 200 ≤ a → _›).1 _ ‹_›
      | exact (f8.hi ‹∀ a k, 200 ≤ a → _›).2.1 _ ‹_›
      | exact (f8.hi ‹∀ a k, 200 ≤ a → _›).2.2.1 _ ‹_›
      | exact (f8.hi ‹∀ a k, 200 ≤ a → _›).2.2.2.1 _ ‹_›
      | exact (f8.hi ‹∀ a k, 200 ≤ a → _›).2.2.2.2 _ ‹_›
      | decide
theorem dL_law_1250 : decode cL_law 1250 = .ok (.aload_n 1, 1) := by decide +kernel
theorem dL_law_1251 : decode cL_law 1251 = .ok (.aload_n 0, 1) := by decide +kernel
theorem dL_law_1252 : decode cL_law 1252 = .ok (.iload_n 3, 1) := by decide +kernel
theorem dL_law_1253 : decode cL_law 1253 = .ok (.iconst 1, 1) := by decide +kernel
theorem dL_law_1254 : decode cL_law 1254 = .ok (.iadd, 1) := by decide +kernel
theorem dL_law_1255 : decode cL_law 1255 = .ok (.iaload, 1) := by decide +kernel
theorem dL_law_1256 : decode cL_law 1256 = .ok (.aload_n 0, 1) := by decide +kernel
theorem dL_law_1257 : decode cL_law 1257 = .ok (.iload_n 3, 1) := by decide +kernel
theorem dL_law_1258 : decode cL_law 1258 = .ok (.iconst 2, 1) := by decide +kernel
theorem dL_law_1259 : decode cL_law 1259 = .ok (.iadd, 1) := by decide +kernel
theorem dL_law_1260 : decode cL_law 1260 = .ok (.iaload, 1) := by decide +kernel
theorem dL_law_1261 : decode cL_law 1261 = .ok (.aload_n 0, 1) := by decide +kernel
theorem dL_law_1262 : decode cL_law 1262 = .ok (.iload_n 3, 1) := by decide +kernel
theorem dL_law_1263 : decode cL_law 1263 = .ok (.iconst 3, 1) := by decide +kernel
theorem dL_law_1264 : decode cL_law 1264 = .ok (.iadd, 1) := by decide +kernel
theorem dL_law_1265 : decode cL_law 1265 = .ok (.iaload, 1) := by decide +kernel
theorem dL_law_1266 : decode cL_law 1266 = .ok (.aload_n 0, 1) := by decide +kernel
theorem dL_law_1267 : decode cL_law 1267 = .ok (.iload_n 3, 1) := by decide +kernel
theorem dL_law_1268 : decode cL_law 1268 = .ok (.iconst 4, 1) := by decide +kernel
theorem dL_law_1269 : decode cL_law 1269 = .ok (.iadd, 1) := by decide +kernel
theorem dL_law_1270 : decode cL_law 1270 = .ok (.iaload, 1) := by decide +kernel
theorem wd_752 : Cond.methodLink "LearnLoansLaw" 117 yX7_live ∈ am_ws := am_wsi (List.mem_of_getElem? (i := 752) (by decide +kernel)) (by decide +kernel)
theorem wd_753 : Cond.instanceMethod yX7_live ∈ am_ws := am_wsi (List.mem_of_getElem? (i := 753) (by decide +kernel)) (by decide +kernel)
theorem wd_754 : Cond.selects "LearnLoans" yX7_live yX7_live ∈ am_ws := am_wsi (List.mem_of_getElem? (i := 754) (by decide +kernel)) (by decide +kernel)
theorem wd_755 : Cond.code yX7_live cX7_live 5 (some .int) ∈ am_ws := am_wsi (List.mem_of_getElem? (i := 755) (by decide +kernel)) (by decide +kernel)
theorem dL_law_1271 : decode cL_law 1271 = .ok (.invokevirtual 117, 3) := by decide +kernel
theorem dL_law_1274 : decode cL_law 1274 = .ok (.aload_n 2, 1) := by decide +kernel
theorem dL_law_1275 : decode cL_law 1275 = .ok (.aload_n 0, 1) := by decide +kernel
theorem dL_law_1276 : decode cL_law 1276 = .ok (.iload_n 3, 1) := by decide +kernel
theorem dL_law_1277 : decode cL_law 1277 = .ok (.iconst 1, 1) := by decide +kernel
theorem dL_law_1278 : decode cL_law 1278 = .ok (.iadd, 1) := by decide +kernel
theorem dL_law_1279 : decode cL_law 1279 = .ok (.iaload, 1) := by decide +kernel
theorem dL_law_1280 : decode cL_law 1280 = .ok (.aload_n 0, 1) := by decide +kernel
theorem dL_law_1281 : decode cL_law 1281 = .ok (.iload_n 3, 1) := by decide +kernel
theorem dL_law_1282 : decode cL_law 1282 = .ok (.iconst 2, 1) := by decide +kernel
theorem dL_law_1283 : decode cL_law 1283 = .ok (.iadd, 1) := by decide +kernel
theorem dL_law_1284 : decode cL_law 1284 = .ok (.iaload, 1) := by decide +kernel
theorem dL_law_1285 : decode cL_law 1285 = .ok (.aload_n 0, 1) := by decide +kernel
theorem dL_law_1286 : decode cL_law 1286 = .ok (.iload_n 3, 1) := by decide +kernel
theorem dL_law_1287 : decode cL_law 1287 = .ok (.iconst 3, 1) := by decide +kernel
theorem dL_law_1288 : decode cL_law 1288 = .ok (.iadd, 1) := by decide +kernel
theorem dL_law_1289 : decode cL_law 1289 = .ok (.iaload, 1) := by decide +kernel
theorem dL_law_1290 : decode cL_law 1290 = .ok (.aload_n 0, 1) := by decide +kernel
theorem dL_law_1291 : decode cL_law 1291 = .ok (.iload_n 3, 1) := by decide +kernel
theorem dL_law_1292 : decode cL_law 1292 = .ok (.iconst 4, 1) := by decide +kernel
theorem dL_law_1293 : decode cL_law 1293 = .ok (.iadd, 1) := by decide +kernel
theorem dL_law_1294 : decode cL_law 1294 = .ok (.iaload, 1) := by decide +kernel
theorem wd_1221 : Cond.methodLink "LearnLoansLaw" 120 yX8_live ∈ am_ws := am_wsi (List.mem_of_getElem? (i := 1221) (by decide +kernel)) (by decide +kernel)
theorem wd_1222 : Cond.instanceMethod yX8_live ∈ am_ws := am_wsi (List.mem_of_getElem? (i := 1222) (by decide +kernel)) (by decide +kernel)
theorem wd_1223 : Cond.selects "LearnLoansModel" yX8_live yX8_live ∈ am_ws := am_wsi (List.mem_of_getElem? (i := 1223) (by decide +kernel)) (by decide +kernel)
theorem wd_1224 : Cond.code yX8_live cX8_live 6 (some .int) ∈ am_ws := am_wsi (List.mem_of_getElem? (i := 1224) (by decide +kernel)) (by decide +kernel)
theorem dL_law_1295 : decode cL_law 1295 = .ok (.invokevirtual 120, 3) := by decide +kernel
theorem dL_law_1298 : decode cL_law 1298 = .ok (.if_icmp .eq 551, 3) := by decide +kernel
def kL_c24 (Ln : Nat) (xs : Nat → Int32) : an_code := [(1250, an_lf (fun live => am_aload 1 1251)), (1251, an_lf (fun live => am_aload 0 1252)), (1252, an_lf (fun live => am_iload 3 1253)), (1253, an_lf (fun live => am_const (.int 1) 1254)), (1254, an_lf (fun live => am_i2 (fun x y => x + y) 1255)), (1255, an_sld Ln xs 1256), (1256, an_lf (fun live => am_aload 0 1257)), (1257, an_lf (fun live => am_iload 3 1258)), (1258, an_lf (fun live => am_const (.int 2) 1259)), (1259, an_lf (fun live => am_i2 (fun x y => x + y) 1260)), (1260, an_sld Ln xs 1261), (1261, an_lf (fun live => am_aload 0 1262)), (1262, an_lf (fun live => am_iload 3 1263)), (1263, an_lf (fun live => am_const (.int 3) 1264)), (1264, an_lf (fun live => am_i2 (fun x y => x + y) 1265)), (1265, an_sld Ln xs 1266), (1266, an_lf (fun live => am_aload 0 1267)), (1267, an_lf (fun live => am_iload 3 1268)), (1268, an_lf (fun live => am_const (.int 4) 1269)), (1269, an_lf (fun live => am_i2 (fun x y => x + y) 1270)), (1270, an_sld Ln xs 1271), (1271, an_lf (fun live => am_callV live 7 4 TX7_live 1274)), (1274, an_lf (fun live => am_aload 2 1275)), (1275, an_lf (fun live => am_aload 0 1276)), (1276, an_lf (fun live => am_iload 3 1277)), (1277, an_lf (fun live => am_const (.int 1) 1278)), (1278, an_lf (fun live => am_i2 (fun x y => x + y) 1279)), (1279, an_sld Ln xs 1280), (1280, an_lf (fun live => am_aload 0 1281)), (1281, an_lf (fun live => am_iload 3 1282)), (1282, an_lf (fun live => am_const (.int 2) 1283)), (1283, an_lf (fun live => am_i2 (fun x y => x + y) 1284)), (1284, an_sld Ln xs 1285), (1285, an_lf (fun live => am_aload 0 1286)), (1286, an_lf (fun live => am_iload 3 1287)), (1287, an_lf (fun live => am_const (.int 3) 1288)), (1288, an_lf (fun live => am_i2 (fun x y => x + y) 1289)), (1289, an_sld Ln xs 1290), (1290, an_lf (fun live => am_aload 0 1291)), (1291, an_lf (fun live => am_iload 3 1292)), (1292, an_lf (fun live => am_const (.int 4) 1293)), (1293, an_lf (fun live => am_i2 (fun x y => x + y) 1294)), (1294, an_sld Ln xs 1295), (1295, an_lf (fun live => am_callV live 8 4 TX8_live 1298)), (1298, an_lf (fun live => am_if2 (fun x y => x = y) 1849 1301))]
theorem koL_c24 (Ln : Nat) (xs : Nat → Int32) : ∀ q ∈ kL_c24 Ln xs, an_ok RL cL_law 4 (some .boolean) 2000 80000 600000 7302250 false (lawP Ln xs) an_noR q.1 q.2 :=
  an_kc (an_lift (fun live => ak_aload_n dL_law_1250 rfl rfl)) <|
  an_kc (an_lift (fun live => ak_aload_n dL_law_1251 rfl rfl)) <|
  an_kc (an_lift (fun live => ak_iload_n dL_law_1252 rfl rfl)) <|
  an_kc (an_lift (fun live => ak_iconst dL_law_1253 (by decide +kernel) rfl)) <|
  an_kc (an_lift (fun live => ak_iadd dL_law_1254 rfl)) <|
  an_kc (nk_sld dL_law_1255 rfl) <|
  an_kc (an_lift (fun live => ak_aload_n dL_law_1256 rfl rfl)) <|
  an_kc (an_lift (fun live => ak_iload_n dL_law_1257 rfl rfl)) <|
  an_kc (an_lift (fun live => ak_iconst dL_law_1258 (by decide +kernel) rfl)) <|
  an_kc (an_lift (fun live => ak_iadd dL_law_1259 rfl)) <|
  an_kc (nk_sld dL_law_1260 rfl) <|
  an_kc (an_lift (fun live => ak_aload_n dL_law_1261 rfl rfl)) <|
  an_kc (an_lift (fun live => ak_iload_n dL_law_1262 rfl rfl)) <|
  an_kc (an_lift (fun live => ak_iconst dL_law_1263 (by decide +kernel) rfl)) <|
  an_kc (an_lift (fun live => ak_iadd dL_law_1264 rfl)) <|
  an_kc (nk_sld dL_law_1265 rfl) <|
  an_kc (an_lift (fun live => ak_aload_n dL_law_1266 rfl rfl)) <|
  an_kc (an_lift (fun live => ak_iload_n dL_law_1267 rfl rfl)) <|
  an_kc (an_lift (fun live => ak_iconst dL_law_1268 (by decide +kernel) rfl)) <|
  an_kc (an_lift (fun live => ak_iadd dL_law_1269 rfl)) <|
  an_kc (nk_sld dL_law_1270 rfl) <|
  an_kc (an_lift (fun live => ak_callV (C := RX7) (F := TX7) (N := 4) metX7_live rfl ⟨rfl, by decide +kernel, by decide +kernel, by decide +kernel⟩ (am_w5 wd_752 wd_753 wd_754 wd_58 wd_755) (by decide) dL_law_1271 rfl)) <|
  an_kc (an_lift (fun live => ak_aload_n dL_law_1274 rfl rfl)) <|
  an_kc (an_lift (fun live => ak_aload_n dL_law_1275 rfl rfl)) <|
  an_kc (an_lift (fun live => ak_iload_n dL_law_1276 rfl rfl)) <|
  an_kc (an_lift (fun live => ak_iconst dL_law_1277 (by decide +kernel) rfl)) <|
  an_kc (an_lift (fun live => ak_iadd dL_law_1278 rfl)) <|
  an_kc (nk_sld dL_law_1279 rfl) <|
  an_kc (an_lift (fun live => ak_aload_n dL_law_1280 rfl rfl)) <|
  an_kc (an_lift (fun live => ak_iload_n dL_law_1281 rfl rfl)) <|
  an_kc (an_lift (fun live => ak_iconst dL_law_1282 (by decide +kernel) rfl)) <|
  an_kc (an_lift (fun live => ak_iadd dL_law_1283 rfl)) <|
  an_kc (nk_sld dL_law_1284 rfl) <|
  an_kc (an_lift (fun live => ak_aload_n dL_law_1285 rfl rfl)) <|
  an_kc (an_lift (fun live => ak_iload_n dL_law_1286 rfl rfl)) <|
  an_kc (an_lift (fun live => ak_iconst dL_law_1287 (by decide +kernel) rfl)) <|
  an_kc (an_lift (fun live => ak_iadd dL_law_1288 rfl)) <|
  an_kc (nk_sld dL_law_1289 rfl) <|
  an_kc (an_lift (fun live => ak_aload_n dL_law_1290 rfl rfl)) <|
  an_kc (an_lift (fun live => ak_iload_n dL_law_1291 rfl rfl)) <|
  an_kc (an_lift (fun live => ak_iconst dL_law_1292 (by decide +kernel) rfl)) <|
  an_kc (an_lift (fun live => ak_iadd dL_law_1293 rfl)) <|
  an_kc (nk_sld dL_law_1294 rfl) <|
  an_kc (an_lift (fun live => ak_callV (C := RX8) (F := TX8) (N := 27) metX8_live rfl ⟨rfl, by decide +kernel, by decide +kernel, by decide +kernel⟩ (am_w5 wd_1221 wd_1222 wd_1223 wd_67 wd_1224) (by decide) dL_law_1295 rfl)) <|
  an_kc (an_lift (fun live => ak_icmp_eq dL_law_1298 (by decide +kernel) rfl)) <| an_kn
set_option maxRecDepth 100000 in
set_option maxHeartbeats 4000000 in
theorem caseL_c24 (xs : Nat → Int32) : an_wp (kL_c24 8 xs) lawC 200 (an_go (kL_c24 8 xs) 1250) lawL [] lawX := by
    have f7 := an_Mf7
    have f8 := an_Mf8
    repeat' (first | (with_reducible exact f7) | (with_reducible exact f8) | apply And.intro | exact rfl | (intro hx; with_reducible exact absurd rfl hx) | (intro hx; with_reducible exact absurd ((lg_cmp_eq _ _).mpr rfl) hx) | (intro hx; exact absurd hx (by decide)) | (intro hx; exact absurd (by decide) hx) | decide | intro hx | (refine Exists.intro _ (And.intro rfl ?_)))
    all_goals try first | (with_reducible change am_tI _ _) | (change Ret _ _) | (change Ret _ _ _) | (change Exists _)
    all_goals try dsimp only at *
    all_goals try exact absurd ‹(1000 : Int64) = 0› (by decide)
    all_goals first
      | exact ⟨_, _, rfl⟩
      | exact f8.lo ‹am_ch am_lo _ _›
      | exact (f8.lo ‹am_ch am_lo _ _›).1 _ ‹_›
      | exact (f8.lo ‹am_ch am_lo _ _›).2.1 _ ‹_›
      | exact (f8.lo ‹am_ch am_lo _ _›).2.2.1 _ ‹_›
      | exact (f8.lo ‹am_ch am_lo _ _›).2.2.2.1 _ ‹_›
      | exact (f8.lo ‹am_ch am_lo _ _›).2.2.2.2 _ ‹_›
      | exact (f8.hi ‹∀ a k, 200 ≤ a → _›).1 _ ‹_›
      | exact (f8.hi ‹∀ a k, 200 ≤ a → _›).2.1 _ ‹_›
      | exact (f8.hi ‹∀ a k, 200 ≤ a → _›).2.2.1 _ ‹_›
      | exact (f8.hi ‹∀ a k, 200 ≤ a → _›).2.2.2.1 _ ‹_›
      | exact (f8.hi ‹∀ a k, 200 ≤ a → _›).2.2.2.2 _ ‹_›
      | decide
theorem dL_law_1303 : decode cL_law 1303 = .ok (.aload_n 1, 1) := by decide +kernel
theorem dL_law_1304 : decode cL_law 1304 = .ok (.aload_n 0, 1) := by decide +kernel
theorem dL_law_1305 : decode cL_law 1305 = .ok (.iload_n 3, 1) := by decide +kernel
theorem dL_law_1306 : decode cL_law 1306 = .ok (.iconst 1, 1) := by decide +kernel
theorem dL_law_1307 : decode cL_law 1307 = .ok (.iadd, 1) := by decide +kernel
theorem dL_law_1308 : decode cL_law 1308 = .ok (.iaload, 1) := by decide +kernel
theorem dL_law_1309 : decode cL_law 1309 = .ok (.aload_n 0, 1) := by decide +kernel
theorem dL_law_1310 : decode cL_law 1310 = .ok (.iload_n 3, 1) := by decide +kernel
theorem dL_law_1311 : decode cL_law 1311 = .ok (.iconst 2, 1) := by decide +kernel
theorem dL_law_1312 : decode cL_law 1312 = .ok (.iadd, 1) := by decide +kernel
theorem dL_law_1313 : decode cL_law 1313 = .ok (.iaload, 1) := by decide +kernel
theorem dL_law_1314 : decode cL_law 1314 = .ok (.aload_n 0, 1) := by decide +kernel
theorem dL_law_1315 : decode cL_law 1315 = .ok (.iload_n 3, 1) := by decide +kernel
theorem dL_law_1316 : decode cL_law 1316 = .ok (.iconst 3, 1) := by decide +kernel
theorem dL_law_1317 : decode cL_law 1317 = .ok (.iadd, 1) := by decide +kernel
theorem dL_law_1318 : decode cL_law 1318 = .ok (.iaload, 1) := by decide +kernel
theorem dL_law_1319 : decode cL_law 1319 = .ok (.aload_n 0, 1) := by decide +kernel
theorem dL_law_1320 : decode cL_law 1320 = .ok (.iload_n 3, 1) := by decide +kernel
theorem dL_law_1321 : decode cL_law 1321 = .ok (.iconst 4, 1) := by decide +kernel
theorem dL_law_1322 : decode cL_law 1322 = .ok (.iadd, 1) := by decide +kernel
theorem dL_law_1323 : decode cL_law 1323 = .ok (.iaload, 1) := by decide +kernel
theorem wd_756 : Cond.methodLink "LearnLoansLaw" 121 yX7_early ∈ am_ws := am_wsi (List.mem_of_getElem? (i := 756) (by decide +kernel)) (by decide +kernel)
theorem wd_757 : Cond.instanceMethod yX7_early ∈ am_ws := am_wsi (List.mem_of_getElem? (i := 757) (by decide +kernel)) (by decide +kernel)
theorem wd_758 : Cond.selects "LearnLoans" yX7_early yX7_early ∈ am_ws := am_wsi (List.mem_of_getElem? (i := 758) (by decide +kernel)) (by decide +kernel)
theorem wd_759 : Cond.code yX7_early cX7_early 11 (some .int) ∈ am_ws := am_wsi (List.mem_of_getElem? (i := 759) (by decide +kernel)) (by decide +kernel)
theorem dL_law_1324 : decode cL_law 1324 = .ok (.invokevirtual 121, 3) := by decide +kernel
theorem dL_law_1327 : decode cL_law 1327 = .ok (.aload_n 2, 1) := by decide +kernel
theorem dL_law_1328 : decode cL_law 1328 = .ok (.aload_n 0, 1) := by decide +kernel
theorem dL_law_1329 : decode cL_law 1329 = .ok (.iload_n 3, 1) := by decide +kernel
theorem dL_law_1330 : decode cL_law 1330 = .ok (.iconst 1, 1) := by decide +kernel
theorem dL_law_1331 : decode cL_law 1331 = .ok (.iadd, 1) := by decide +kernel
theorem dL_law_1332 : decode cL_law 1332 = .ok (.iaload, 1) := by decide +kernel
theorem dL_law_1333 : decode cL_law 1333 = .ok (.aload_n 0, 1) := by decide +kernel
theorem dL_law_1334 : decode cL_law 1334 = .ok (.iload_n 3, 1) := by decide +kernel
theorem dL_law_1335 : decode cL_law 1335 = .ok (.iconst 2, 1) := by decide +kernel
theorem dL_law_1336 : decode cL_law 1336 = .ok (.iadd, 1) := by decide +kernel
theorem dL_law_1337 : decode cL_law 1337 = .ok (.iaload, 1) := by decide +kernel
theorem dL_law_1338 : decode cL_law 1338 = .ok (.aload_n 0, 1) := by decide +kernel
theorem dL_law_1339 : decode cL_law 1339 = .ok (.iload_n 3, 1) := by decide +kernel
theorem dL_law_1340 : decode cL_law 1340 = .ok (.iconst 3, 1) := by decide +kernel
theorem dL_law_1341 : decode cL_law 1341 = .ok (.iadd, 1) := by decide +kernel
theorem dL_law_1342 : decode cL_law 1342 = .ok (.iaload, 1) := by decide +kernel
theorem dL_law_1343 : decode cL_law 1343 = .ok (.aload_n 0, 1) := by decide +kernel
theorem dL_law_1344 : decode cL_law 1344 = .ok (.iload_n 3, 1) := by decide +kernel
theorem dL_law_1345 : decode cL_law 1345 = .ok (.iconst 4, 1) := by decide +kernel
theorem dL_law_1346 : decode cL_law 1346 = .ok (.iadd, 1) := by decide +kernel
theorem dL_law_1347 : decode cL_law 1347 = .ok (.iaload, 1) := by decide +kernel
theorem wd_1228 : Cond.methodLink "LearnLoansLaw" 124 yX8_early ∈ am_ws := am_wsi (List.mem_of_getElem? (i := 1228) (by decide +kernel)) (by decide +kernel)
theorem wd_1229 : Cond.instanceMethod yX8_early ∈ am_ws := am_wsi (List.mem_of_getElem? (i := 1229) (by decide +kernel)) (by decide +kernel)
theorem wd_1230 : Cond.selects "LearnLoansModel" yX8_early yX8_early ∈ am_ws := am_wsi (List.mem_of_getElem? (i := 1230) (by decide +kernel)) (by decide +kernel)
theorem wd_1231 : Cond.code yX8_early cX8_early 7 (some .int) ∈ am_ws := am_wsi (List.mem_of_getElem? (i := 1231) (by decide +kernel)) (by decide +kernel)
theorem dL_law_1348 : decode cL_law 1348 = .ok (.invokevirtual 124, 3) := by decide +kernel
theorem dL_law_1351 : decode cL_law 1351 = .ok (.if_icmp .eq 498, 3) := by decide +kernel
def kL_c25 (Ln : Nat) (xs : Nat → Int32) : an_code := [(1303, an_lf (fun live => am_aload 1 1304)), (1304, an_lf (fun live => am_aload 0 1305)), (1305, an_lf (fun live => am_iload 3 1306)), (1306, an_lf (fun live => am_const (.int 1) 1307)), (1307, an_lf (fun live => am_i2 (fun x y => x + y) 1308)), (1308, an_sld Ln xs 1309), (1309, an_lf (fun live => am_aload 0 1310)), (1310, an_lf (fun live => am_iload 3 1311)), (1311, an_lf (fun live => am_const (.int 2) 1312)), (1312, an_lf (fun live => am_i2 (fun x y => x + y) 1313)), (1313, an_sld Ln xs 1314), (1314, an_lf (fun live => am_aload 0 1315)), (1315, an_lf (fun live => am_iload 3 1316)), (1316, an_lf (fun live => am_const (.int 3) 1317)), (1317, an_lf (fun live => am_i2 (fun x y => x + y) 1318)), (1318, an_sld Ln xs 1319), (1319, an_lf (fun live => am_aload 0 1320)), (1320, an_lf (fun live => am_iload 3 1321)), (1321, an_lf (fun live => am_const (.int 4) 1322)), (1322, an_lf (fun live => am_i2 (fun x y => x + y) 1323)), (1323, an_sld Ln xs 1324), (1324, an_lf (fun live => am_callV live 7 4 TX7_early 1327)), (1327, an_lf (fun live => am_aload 2 1328)), (1328, an_lf (fun live => am_aload 0 1329)), (1329, an_lf (fun live => am_iload 3 1330)), (1330, an_lf (fun live => am_const (.int 1) 1331)), (1331, an_lf (fun live => am_i2 (fun x y => x + y) 1332)), (1332, an_sld Ln xs 1333), (1333, an_lf (fun live => am_aload 0 1334)), (1334, an_lf (fun live => am_iload 3 1335)), (1335, an_lf (fun live => am_const (.int 2) 1336)), (1336, an_lf (fun live => am_i2 (fun x y => x + y) 1337)), (1337, an_sld Ln xs 1338), (1338, an_lf (fun live => am_aload 0 1339)), (1339, an_lf (fun live => am_iload 3 1340)), (1340, an_lf (fun live => am_const (.int 3) 1341)), (1341, an_lf (fun live => am_i2 (fun x y => x + y) 1342)), (1342, an_sld Ln xs 1343), (1343, an_lf (fun live => am_aload 0 1344)), (1344, an_lf (fun live => am_iload 3 1345)), (1345, an_lf (fun live => am_const (.int 4) 1346)), (1346, an_lf (fun live => am_i2 (fun x y => x + y) 1347)), (1347, an_sld Ln xs 1348), (1348, an_lf (fun live => am_callV live 8 4 TX8_early 1351)), (1351, an_lf (fun live => am_if2 (fun x y => x = y) 1849 1354))]
theorem koL_c25 (Ln : Nat) (xs : Nat → Int32) : ∀ q ∈ kL_c25 Ln xs, an_ok RL cL_law 4 (some .boolean) 2000 80000 600000 7302250 false (lawP Ln xs) an_noR q.1 q.2 :=
  an_kc (an_lift (fun live => ak_aload_n dL_law_1303 rfl rfl)) <|
  an_kc (an_lift (fun live => ak_aload_n dL_law_1304 rfl rfl)) <|
  an_kc (an_lift (fun live => ak_iload_n dL_law_1305 rfl rfl)) <|
  an_kc (an_lift (fun live => ak_iconst dL_law_1306 (by decide +kernel) rfl)) <|
  an_kc (an_lift (fun live => ak_iadd dL_law_1307 rfl)) <|
  an_kc (nk_sld dL_law_1308 rfl) <|
  an_kc (an_lift (fun live => ak_aload_n dL_law_1309 rfl rfl)) <|
  an_kc (an_lift (fun live => ak_iload_n dL_law_1310 rfl rfl)) <|
  an_kc (an_lift (fun live => ak_iconst dL_law_1311 (by decide +kernel) rfl)) <|
  an_kc (an_lift (fun live => ak_iadd dL_law_1312 rfl)) <|
  an_kc (nk_sld dL_law_1313 rfl) <|
  an_kc (an_lift (fun live => ak_aload_n dL_law_1314 rfl rfl)) <|
  an_kc (an_lift (fun live => ak_iload_n dL_law_1315 rfl rfl)) <|
  an_kc (an_lift (fun live => ak_iconst dL_law_1316 (by decide +kernel) rfl)) <|
  an_kc (an_lift (fun live => ak_iadd dL_law_1317 rfl)) <|
  an_kc (nk_sld dL_law_1318 rfl) <|
  an_kc (an_lift (fun live => ak_aload_n dL_law_1319 rfl rfl)) <|
  an_kc (an_lift (fun live => ak_iload_n dL_law_1320 rfl rfl)) <|
  an_kc (an_lift (fun live => ak_iconst dL_law_1321 (by decide +kernel) rfl)) <|
  an_kc (an_lift (fun live => ak_iadd dL_law_1322 rfl)) <|
  an_kc (nk_sld dL_law_1323 rfl) <|
  an_kc (an_lift (fun live => ak_callV (C := RX7) (F := TX7) (N := 4) metX7_early rfl ⟨rfl, by decide +kernel, by decide +kernel, by decide +kernel⟩ (am_w5 wd_756 wd_757 wd_758 wd_58 wd_759) (by decide) dL_law_1324 rfl)) <|
  an_kc (an_lift (fun live => ak_aload_n dL_law_1327 rfl rfl)) <|
  an_kc (an_lift (fun live => ak_aload_n dL_law_1328 rfl rfl)) <|
  an_kc (an_lift (fun live => ak_iload_n dL_law_1329 rfl rfl)) <|
  an_kc (an_lift (fun live => ak_iconst dL_law_1330 (by decide +kernel) rfl)) <|
  an_kc (an_lift (fun live => ak_iadd dL_law_1331 rfl)) <|
  an_kc (nk_sld dL_law_1332 rfl) <|
  an_kc (an_lift (fun live => ak_aload_n dL_law_1333 rfl rfl)) <|
  an_kc (an_lift (fun live => ak_iload_n dL_law_1334 rfl rfl)) <|
  an_kc (an_lift (fun live => ak_iconst dL_law_1335 (by decide +kernel) rfl)) <|
  an_kc (an_lift (fun live => ak_iadd dL_law_1336 rfl)) <|
  an_kc (nk_sld dL_law_1337 rfl) <|
  an_kc (an_lift (fun live => ak_aload_n dL_law_1338 rfl rfl)) <|
  an_kc (an_lift (fun live => ak_iload_n dL_law_1339 rfl rfl)) <|
  an_kc (an_lift (fun live => ak_iconst dL_law_1340 (by decide +kernel) rfl)) <|
  an_kc (an_lift (fun live => ak_iadd dL_law_1341 rfl)) <|
  an_kc (nk_sld dL_law_1342 rfl) <|
  an_kc (an_lift (fun live => ak_aload_n dL_law_1343 rfl rfl)) <|
  an_kc (an_lift (fun live => ak_iload_n dL_law_1344 rfl rfl)) <|
  an_kc (an_lift (fun live => ak_iconst dL_law_1345 (by decide +kernel) rfl)) <|
  an_kc (an_lift (fun live => ak_iadd dL_law_1346 rfl)) <|
  an_kc (nk_sld dL_law_1347 rfl) <|
  an_kc (an_lift (fun live => ak_callV (C := RX8) (F := TX8) (N := 27) metX8_early rfl ⟨rfl, by decide +kernel, by decide +kernel, by decide +kernel⟩ (am_w5 wd_1228 wd_1229 wd_1230 wd_67 wd_1231) (by decide) dL_law_1348 rfl)) <|
  an_kc (an_lift (fun live => ak_icmp_eq dL_law_1351 (by decide +kernel) rfl)) <| an_kn
set_option maxRecDepth 100000 in
set_option maxHeartbeats 4000000 in
theorem caseL_c25 (xs : Nat → Int32) : an_wp (kL_c25 8 xs) lawC 200 (an_go (kL_c25 8 xs) 1303) lawL [] lawX := by
    have f7 := an_Mf7
    have f8 := an_Mf8
    repeat' (first | (with_reducible exact f7) | (with_reducible exact f8) | apply And.intro | exact rfl | (intro hx; with_reducible exact absurd rfl hx) | (intro hx; with_reducible exact absurd ((lg_cmp_eq _ _).mpr rfl) hx) | (intro hx; exact absurd hx (by decide)) | (intro hx; exact absurd (by decide) hx) | decide | intro hx | (refine Exists.intro _ (And.intro rfl ?_)))
    all_goals try first | (with_reducible change am_tI _ _) | (change Ret _ _) | (change Ret _ _ _) | (change Exists _)
    all_goals try dsimp only at *
    all_goals try exact absurd ‹(1000 : Int64) = 0› (by decide)
    all_goals first
      | exact ⟨_, _, rfl⟩
      | exact f8.lo ‹am_ch am_lo _ _›
      | exact (f8.lo ‹am_ch am_lo _ _›).1 _ ‹_›
      | exact (f8.lo ‹am_ch am_lo _ _›).2.1 _ ‹_›
      | exact (f8.lo ‹am_ch am_lo _ _›).2.2.1 _ ‹_›
      | exact (f8.lo ‹am_ch am_lo _ _›).2.2.2.1 _ ‹_›
      | exact (f8.lo ‹am_ch am_lo _ _›).2.2.2.2 _ ‹_›
      | exact (f8.hi ‹∀ a k, 200 ≤ a → _›).1 _ ‹_›
      | exact (f8.hi ‹∀ a k, 200 ≤ a → _›).2.1 _ ‹_›
      | exact (f8.hi ‹∀ a k, 200 ≤ a → _›).2.2.1 _ ‹_›
      | exact (f8.hi ‹∀ a k, 200 ≤ a → _›).2.2.2.1 _ ‹_›
      | exact (f8.hi ‹∀ a k, 200 ≤ a → _›).2.2.2.2 _ ‹_›
      | decide
theorem dL_law_1356 : decode cL_law 1356 = .ok (.aload_n 1, 1) := by decide +kernel
theorem dL_law_1357 : decode cL_law 1357 = .ok (.aload_n 0, 1) := by decide +kernel
theorem dL_law_1358 : decode cL_law 1358 = .ok (.iload_n 3, 1) := by decide +kernel
theorem dL_law_1359 : decode cL_law 1359 = .ok (.iconst 1, 1) := by decide +kernel
theorem dL_law_1360 : decode cL_law 1360 = .ok (.iadd, 1) := by decide +kernel
theorem dL_law_1361 : decode cL_law 1361 = .ok (.iaload, 1) := by decide +kernel
theorem dL_law_1362 : decode cL_law 1362 = .ok (.aload_n 0, 1) := by decide +kernel
theorem dL_law_1363 : decode cL_law 1363 = .ok (.iload_n 3, 1) := by decide +kernel
theorem dL_law_1364 : decode cL_law 1364 = .ok (.iconst 2, 1) := by decide +kernel
theorem dL_law_1365 : decode cL_law 1365 = .ok (.iadd, 1) := by decide +kernel
theorem dL_law_1366 : decode cL_law 1366 = .ok (.iaload, 1) := by decide +kernel
theorem dL_law_1367 : decode cL_law 1367 = .ok (.aload_n 0, 1) := by decide +kernel
theorem dL_law_1368 : decode cL_law 1368 = .ok (.iload_n 3, 1) := by decide +kernel
theorem dL_law_1369 : decode cL_law 1369 = .ok (.iconst 3, 1) := by decide +kernel
theorem dL_law_1370 : decode cL_law 1370 = .ok (.iadd, 1) := by decide +kernel
theorem dL_law_1371 : decode cL_law 1371 = .ok (.iaload, 1) := by decide +kernel
theorem dL_law_1372 : decode cL_law 1372 = .ok (.aload_n 0, 1) := by decide +kernel
theorem dL_law_1373 : decode cL_law 1373 = .ok (.iload_n 3, 1) := by decide +kernel
theorem dL_law_1374 : decode cL_law 1374 = .ok (.iconst 4, 1) := by decide +kernel
theorem dL_law_1375 : decode cL_law 1375 = .ok (.iadd, 1) := by decide +kernel
theorem dL_law_1376 : decode cL_law 1376 = .ok (.iaload, 1) := by decide +kernel
theorem dL_law_1377 : decode cL_law 1377 = .ok (.aload_n 0, 1) := by decide +kernel
theorem dL_law_1378 : decode cL_law 1378 = .ok (.iload_n 3, 1) := by decide +kernel
theorem dL_law_1379 : decode cL_law 1379 = .ok (.iconst 5, 1) := by decide +kernel
theorem dL_law_1380 : decode cL_law 1380 = .ok (.iadd, 1) := by decide +kernel
theorem dL_law_1381 : decode cL_law 1381 = .ok (.iaload, 1) := by decide +kernel
theorem wd_765 : Cond.methodLink "LearnLoansLaw" 125 yX7_choice ∈ am_ws := am_wsi (List.mem_of_getElem? (i := 765) (by decide +kernel)) (by decide +kernel)
theorem wd_766 : Cond.instanceMethod yX7_choice ∈ am_ws := am_wsi (List.mem_of_getElem? (i := 766) (by decide +kernel)) (by decide +kernel)
theorem wd_767 : Cond.selects "LearnLoans" yX7_choice yX7_choice ∈ am_ws := am_wsi (List.mem_of_getElem? (i := 767) (by decide +kernel)) (by decide +kernel)
theorem wd_768 : Cond.code yX7_choice cX7_choice 6 (some .long) ∈ am_ws := am_wsi (List.mem_of_getElem? (i := 768) (by decide +kernel)) (by decide +kernel)
theorem dL_law_1382 : decode cL_law 1382 = .ok (.invokevirtual 125, 3) := by decide +kernel
theorem dL_law_1385 : decode cL_law 1385 = .ok (.aload_n 2, 1) := by decide +kernel
theorem dL_law_1386 : decode cL_law 1386 = .ok (.aload_n 0, 1) := by decide +kernel
theorem dL_law_1387 : decode cL_law 1387 = .ok (.iload_n 3, 1) := by decide +kernel
theorem dL_law_1388 : decode cL_law 1388 = .ok (.iconst 1, 1) := by decide +kernel
theorem dL_law_1389 : decode cL_law 1389 = .ok (.iadd, 1) := by decide +kernel
theorem dL_law_1390 : decode cL_law 1390 = .ok (.iaload, 1) := by decide +kernel
theorem dL_law_1391 : decode cL_law 1391 = .ok (.aload_n 0, 1) := by decide +kernel
theorem dL_law_1392 : decode cL_law 1392 = .ok (.iload_n 3, 1) := by decide +kernel
theorem dL_law_1393 : decode cL_law 1393 = .ok (.iconst 2, 1) := by decide +kernel
theorem dL_law_1394 : decode cL_law 1394 = .ok (.iadd, 1) := by decide +kernel
theorem dL_law_1395 : decode cL_law 1395 = .ok (.iaload, 1) := by decide +kernel
theorem dL_law_1396 : decode cL_law 1396 = .ok (.aload_n 0, 1) := by decide +kernel
theorem dL_law_1397 : decode cL_law 1397 = .ok (.iload_n 3, 1) := by decide +kernel
theorem dL_law_1398 : decode cL_law 1398 = .ok (.iconst 3, 1) := by decide +kernel
theorem dL_law_1399 : decode cL_law 1399 = .ok (.iadd, 1) := by decide +kernel
theorem dL_law_1400 : decode cL_law 1400 = .ok (.iaload, 1) := by decide +kernel
theorem dL_law_1401 : decode cL_law 1401 = .ok (.aload_n 0, 1) := by decide +kernel
theorem dL_law_1402 : decode cL_law 1402 = .ok (.iload_n 3, 1) := by decide +kernel
theorem dL_law_1403 : decode cL_law 1403 = .ok (.iconst 4, 1) := by decide +kernel
theorem dL_law_1404 : decode cL_law 1404 = .ok (.iadd, 1) := by decide +kernel
theorem dL_law_1405 : decode cL_law 1405 = .ok (.iaload, 1) := by decide +kernel
theorem dL_law_1406 : decode cL_law 1406 = .ok (.aload_n 0, 1) := by decide +kernel
theorem dL_law_1407 : decode cL_law 1407 = .ok (.iload_n 3, 1) := by decide +kernel
theorem dL_law_1408 : decode cL_law 1408 = .ok (.iconst 5, 1) := by decide +kernel
theorem dL_law_1409 : decode cL_law 1409 = .ok (.iadd, 1) := by decide +kernel
theorem dL_law_1410 : decode cL_law 1410 = .ok (.iaload, 1) := by decide +kernel
theorem wd_1236 : Cond.methodLink "LearnLoansLaw" 129 yX8_choice ∈ am_ws := am_wsi (List.mem_of_getElem? (i := 1236) (by decide +kernel)) (by decide +kernel)
theorem wd_1237 : Cond.instanceMethod yX8_choice ∈ am_ws := am_wsi (List.mem_of_getElem? (i := 1237) (by decide +kernel)) (by decide +kernel)
theorem wd_1238 : Cond.selects "LearnLoansModel" yX8_choice yX8_choice ∈ am_ws := am_wsi (List.mem_of_getElem? (i := 1238) (by decide +kernel)) (by decide +kernel)
theorem wd_1239 : Cond.code yX8_choice cX8_choice 8 (some .long) ∈ am_ws := am_wsi (List.mem_of_getElem? (i := 1239) (by decide +kernel)) (by decide +kernel)
theorem dL_law_1411 : decode cL_law 1411 = .ok (.invokevirtual 129, 3) := by decide +kernel
theorem dL_law_1414 : decode cL_law 1414 = .ok (.lcmp, 1) := by decide +kernel
theorem dL_law_1415 : decode cL_law 1415 = .ok (.ifCond .eq 434, 3) := by decide +kernel
def kL_c26 (Ln : Nat) (xs : Nat → Int32) : an_code := [(1356, an_lf (fun live => am_aload 1 1357)), (1357, an_lf (fun live => am_aload 0 1358)), (1358, an_lf (fun live => am_iload 3 1359)), (1359, an_lf (fun live => am_const (.int 1) 1360)), (1360, an_lf (fun live => am_i2 (fun x y => x + y) 1361)), (1361, an_sld Ln xs 1362), (1362, an_lf (fun live => am_aload 0 1363)), (1363, an_lf (fun live => am_iload 3 1364)), (1364, an_lf (fun live => am_const (.int 2) 1365)), (1365, an_lf (fun live => am_i2 (fun x y => x + y) 1366)), (1366, an_sld Ln xs 1367), (1367, an_lf (fun live => am_aload 0 1368)), (1368, an_lf (fun live => am_iload 3 1369)), (1369, an_lf (fun live => am_const (.int 3) 1370)), (1370, an_lf (fun live => am_i2 (fun x y => x + y) 1371)), (1371, an_sld Ln xs 1372), (1372, an_lf (fun live => am_aload 0 1373)), (1373, an_lf (fun live => am_iload 3 1374)), (1374, an_lf (fun live => am_const (.int 4) 1375)), (1375, an_lf (fun live => am_i2 (fun x y => x + y) 1376)), (1376, an_sld Ln xs 1377), (1377, an_lf (fun live => am_aload 0 1378)), (1378, an_lf (fun live => am_iload 3 1379)), (1379, an_lf (fun live => am_const (.int 5) 1380)), (1380, an_lf (fun live => am_i2 (fun x y => x + y) 1381)), (1381, an_sld Ln xs 1382), (1382, an_lf (fun live => am_callV live 7 5 TX7_choice 1385)), (1385, an_lf (fun live => am_aload 2 1386)), (1386, an_lf (fun live => am_aload 0 1387)), (1387, an_lf (fun live => am_iload 3 1388)), (1388, an_lf (fun live => am_const (.int 1) 1389)), (1389, an_lf (fun live => am_i2 (fun x y => x + y) 1390)), (1390, an_sld Ln xs 1391), (1391, an_lf (fun live => am_aload 0 1392)), (1392, an_lf (fun live => am_iload 3 1393)), (1393, an_lf (fun live => am_const (.int 2) 1394)), (1394, an_lf (fun live => am_i2 (fun x y => x + y) 1395)), (1395, an_sld Ln xs 1396), (1396, an_lf (fun live => am_aload 0 1397)), (1397, an_lf (fun live => am_iload 3 1398)), (1398, an_lf (fun live => am_const (.int 3) 1399)), (1399, an_lf (fun live => am_i2 (fun x y => x + y) 1400)), (1400, an_sld Ln xs 1401), (1401, an_lf (fun live => am_aload 0 1402)), (1402, an_lf (fun live => am_iload 3 1403)), (1403, an_lf (fun live => am_const (.int 4) 1404)), (1404, an_lf (fun live => am_i2 (fun x y => x + y) 1405)), (1405, an_sld Ln xs 1406), (1406, an_lf (fun live => am_aload 0 1407)), (1407, an_lf (fun live => am_iload 3 1408)), (1408, an_lf (fun live => am_const (.int 5) 1409)), (1409, an_lf (fun live => am_i2 (fun x y => x + y) 1410)), (1410, an_sld Ln xs 1411), (1411, an_lf (fun live => am_callV live 8 5 TX8_choice 1414)), (1414, an_lf (fun live => am_lcmp 1415)), (1415, an_lf (fun live => am_if1 (fun x => x = 0) 1849 1418))]
theorem koL_c26 (Ln : Nat) (xs : Nat → Int32) : ∀ q ∈ kL_c26 Ln xs, an_ok RL cL_law 4 (some .boolean) 2000 80000 600000 7302250 false (lawP Ln xs) an_noR q.1 q.2 :=
  an_kc (an_lift (fun live => ak_aload_n dL_law_1356 rfl rfl)) <|
  an_kc (an_lift (fun live => ak_aload_n dL_law_1357 rfl rfl)) <|
  an_kc (an_lift (fun live => ak_iload_n dL_law_1358 rfl rfl)) <|
  an_kc (an_lift (fun live => ak_iconst dL_law_1359 (by decide +kernel) rfl)) <|
  an_kc (an_lift (fun live => ak_iadd dL_law_1360 rfl)) <|
  an_kc (nk_sld dL_law_1361 rfl) <|
  an_kc (an_lift (fun live => ak_aload_n dL_law_1362 rfl rfl)) <|
  an_kc (an_lift (fun live => ak_iload_n dL_law_1363 rfl rfl)) <|
  an_kc (an_lift (fun live => ak_iconst dL_law_1364 (by decide +kernel) rfl)) <|
  an_kc (an_lift (fun live => ak_iadd dL_law_1365 rfl)) <|
  an_kc (nk_sld dL_law_1366 rfl) <|
  an_kc (an_lift (fun live => ak_aload_n dL_law_1367 rfl rfl)) <|
  an_kc (an_lift (fun live => ak_iload_n dL_law_1368 rfl rfl)) <|
  an_kc (an_lift (fun live => ak_iconst dL_law_1369 (by decide +kernel) rfl)) <|
  an_kc (an_lift (fun live => ak_iadd dL_law_1370 rfl)) <|
  an_kc (nk_sld dL_law_1371 rfl) <|
  an_kc (an_lift (fun live => ak_aload_n dL_law_1372 rfl rfl)) <|
  an_kc (an_lift (fun live => ak_iload_n dL_law_1373 rfl rfl)) <|
  an_kc (an_lift (fun live => ak_iconst dL_law_1374 (by decide +kernel) rfl)) <|
  an_kc (an_lift (fun live => ak_iadd dL_law_1375 rfl)) <|
  an_kc (nk_sld dL_law_1376 rfl) <|
  an_kc (an_lift (fun live => ak_aload_n dL_law_1377 rfl rfl)) <|
  an_kc (an_lift (fun live => ak_iload_n dL_law_1378 rfl rfl)) <|
  an_kc (an_lift (fun live => ak_iconst dL_law_1379 (by decide +kernel) rfl)) <|
  an_kc (an_lift (fun live => ak_iadd dL_law_1380 rfl)) <|
  an_kc (nk_sld dL_law_1381 rfl) <|
  an_kc (an_lift (fun live => ak_callV (C := RX7) (F := TX7) (N := 4) metX7_choice rfl ⟨rfl, by decide +kernel, by decide +kernel, by decide +kernel⟩ (am_w5 wd_765 wd_766 wd_767 wd_58 wd_768) (by decide) dL_law_1382 rfl)) <|
  an_kc (an_lift (fun live => ak_aload_n dL_law_1385 rfl rfl)) <|
  an_kc (an_lift (fun live => ak_aload_n dL_law_1386 rfl rfl)) <|
  an_kc (an_lift (fun live => ak_iload_n dL_law_1387 rfl rfl)) <|
  an_kc (an_lift (fun live => ak_iconst dL_law_1388 (by decide +kernel) rfl)) <|
  an_kc (an_lift (fun live => ak_iadd dL_law_1389 rfl)) <|
  an_kc (nk_sld dL_law_1390 rfl) <|
  an_kc (an_lift (fun live => ak_aload_n dL_law_1391 rfl rfl)) <|
  an_kc (an_lift (fun live => ak_iload_n dL_law_1392 rfl rfl)) <|
  an_kc (an_lift (fun live => ak_iconst dL_law_1393 (by decide +kernel) rfl)) <|
  an_kc (an_lift (fun live => ak_iadd dL_law_1394 rfl)) <|
  an_kc (nk_sld dL_law_1395 rfl) <|
  an_kc (an_lift (fun live => ak_aload_n dL_law_1396 rfl rfl)) <|
  an_kc (an_lift (fun live => ak_iload_n dL_law_1397 rfl rfl)) <|
  an_kc (an_lift (fun live => ak_iconst dL_law_1398 (by decide +kernel) rfl)) <|
  an_kc (an_lift (fun live => ak_iadd dL_law_1399 rfl)) <|
  an_kc (nk_sld dL_law_1400 rfl) <|
  an_kc (an_lift (fun live => ak_aload_n dL_law_1401 rfl rfl)) <|
  an_kc (an_lift (fun live => ak_iload_n dL_law_1402 rfl rfl)) <|
  an_kc (an_lift (fun live => ak_iconst dL_law_1403 (by decide +kernel) rfl)) <|
  an_kc (an_lift (fun live => ak_iadd dL_law_1404 rfl)) <|
  an_kc (nk_sld dL_law_1405 rfl) <|
  an_kc (an_lift (fun live => ak_aload_n dL_law_1406 rfl rfl)) <|
  an_kc (an_lift (fun live => ak_iload_n dL_law_1407 rfl rfl)) <|
  an_kc (an_lift (fun live => ak_iconst dL_law_1408 (by decide +kernel) rfl)) <|
  an_kc (an_lift (fun live => ak_iadd dL_law_1409 rfl)) <|
  an_kc (nk_sld dL_law_1410 rfl) <|
  an_kc (an_lift (fun live => ak_callV (C := RX8) (F := TX8) (N := 27) metX8_choice rfl ⟨rfl, by decide +kernel, by decide +kernel, by decide +kernel⟩ (am_w5 wd_1236 wd_1237 wd_1238 wd_67 wd_1239) (by decide) dL_law_1411 rfl)) <|
  an_kc (an_lift (fun live => ak_lcmp dL_law_1414 rfl)) <|
  an_kc (an_lift (fun live => ak_if_eq dL_law_1415 (by decide +kernel) rfl)) <| an_kn
set_option maxRecDepth 100000 in
set_option maxHeartbeats 4000000 in
theorem caseL_c26 (xs : Nat → Int32) : an_wp (kL_c26 8 xs) lawC 200 (an_go (kL_c26 8 xs) 1356) lawL [] lawX := by
    have f7 := an_Mf7
    have f8 := an_Mf8
    repeat' (first | (with_reducible exact f7) | (with_reducible exact f8) | apply And.intro | exact rfl | (intro hx; with_reducible exact absurd rfl hx) | (intro hx; with_reducible exact absurd ((lg_cmp_eq _ _).mpr rfl) hx) | (intro hx; exact absurd hx (by decide)) | (intro hx; exact absurd (by decide) hx) | decide | intro hx | (refine Exists.intro _ (And.intro rfl ?_)))
    all_goals try first | (with_reducible change am_tI _ _) | (change Ret _ _) | (change Ret _ _ _) | (change Exists _)
    all_goals try dsimp only at *
    all_goals try exact absurd ‹(1000 : Int64) = 0› (by decide)
    all_goals first
      | exact ⟨_, _, rfl⟩
      | exact f8.lo ‹am_ch am_lo _ _›
      | exact (f8.lo ‹am_ch am_lo _ _›).1 _ ‹_›
      | exact (f8.lo ‹am_ch am_lo _ _›).2.1 _ ‹_›
      | exact (f8.lo ‹am_ch am_lo _ _›).2.2.1 _ ‹_›
      | exact (f8.lo ‹am_ch am_lo _ _›).2.2.2.1 _ ‹_›
      | exact (f8.lo ‹am_ch am_lo _ _›).2.2.2.2 _ ‹_›
      | exact (f8.hi ‹∀ a k, 200 ≤ a → _›).1 _ ‹_›
      | exact (f8.hi ‹∀ a k, 200 ≤ a → _›).2.1 _ ‹_›
      | exact (f8.hi ‹∀ a k, 200 ≤ a → _›).2.2.1 _ ‹_›
      | exact (f8.hi ‹∀ a k, 200 ≤ a → _›).2.2.2.1 _ ‹_›
      | exact (f8.hi ‹∀ a k, 200 ≤ a → _›).2.2.2.2 _ ‹_›
      | decide
