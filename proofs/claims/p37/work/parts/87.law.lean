/-! the law: cases 24 to 29 -/
def rwL_c24 : List dz_r := [(1246, .aload_n 1, 1), (1247, .aload_n 0, 1), (1248, .iload_n 3, 1), (1249, .iconst 1, 1), (1250, .iadd, 1), (1251, .iaload, 1), (1252, .aload_n 0, 1), (1253, .iload_n 3, 1), (1254, .iconst 2, 1), (1255, .iadd, 1), (1256, .iaload, 1), (1257, .aload_n 0, 1), (1258, .iload_n 3, 1), (1259, .iconst 3, 1), (1260, .iadd, 1), (1261, .iaload, 1), (1262, .aload_n 0, 1), (1263, .iload_n 3, 1), (1264, .iconst 4, 1), (1265, .iadd, 1), (1266, .iaload, 1), (1267, .invokevirtual 117, 3), (1270, .pop, 1), (1271, .aload_n 2, 1), (1272, .aload_n 0, 1), (1273, .iload_n 3, 1), (1274, .iconst 1, 1), (1275, .iadd, 1), (1276, .iaload, 1), (1277, .aload_n 0, 1), (1278, .iload_n 3, 1), (1279, .iconst 2, 1), (1280, .iadd, 1), (1281, .iaload, 1), (1282, .aload_n 0, 1), (1283, .iload_n 3, 1), (1284, .iconst 3, 1), (1285, .iadd, 1), (1286, .iaload, 1), (1287, .aload_n 0, 1), (1288, .iload_n 3, 1), (1289, .iconst 4, 1), (1290, .iadd, 1), (1291, .iaload, 1), (1292, .invokevirtual 120, 3), (1295, .pop, 1), (1296, .goto 545, 3)]
theorem dzL_c24 : dz cL_law rwL_c24 := dz_all 1246 (by decide +kernel)
theorem hy_X7_live : yX7_live.cls ≠ "java/lang/invoke/MethodHandle" ∧ yX7_live.cls ≠ "java/lang/invoke/VarHandle" ∧ (parseMethodDescriptor yX7_live.desc).map (fun d => d.parameters.length) = some 4 := ⟨by decide +kernel, by decide +kernel, by decide +kernel⟩
set_option maxRecDepth 100000 in
theorem wd_752 : Cond.methodLink "LearnLoansLaw" 117 yX7_live ∈ am_ws := am_wt3 (List.mem_of_getElem? (i := 215) (by rfl)) (by decide +kernel)
set_option maxRecDepth 100000 in
theorem wd_753 : Cond.instanceMethod yX7_live ∈ am_ws := am_wt3 (List.mem_of_getElem? (i := 216) (by rfl)) (by decide +kernel)
set_option maxRecDepth 100000 in
theorem wd_754 : Cond.selects "LearnLoans" yX7_live yX7_live ∈ am_ws := am_wt3 (List.mem_of_getElem? (i := 217) (by rfl)) (by decide +kernel)
set_option maxRecDepth 100000 in
theorem wd_755 : Cond.code yX7_live cX7_live 5 (some .int) ∈ am_ws := am_wt3 (List.mem_of_getElem? (i := 218) (by rfl)) (by decide +kernel)
theorem hy_X8_live : yX8_live.cls ≠ "java/lang/invoke/MethodHandle" ∧ yX8_live.cls ≠ "java/lang/invoke/VarHandle" ∧ (parseMethodDescriptor yX8_live.desc).map (fun d => d.parameters.length) = some 4 := ⟨by decide +kernel, by decide +kernel, by decide +kernel⟩
set_option maxRecDepth 100000 in
theorem wd_1221 : Cond.methodLink "LearnLoansLaw" 120 yX8_live ∈ am_ws := am_wt5 (List.mem_of_getElem? (i := 204) (by rfl)) (by decide +kernel)
set_option maxRecDepth 100000 in
theorem wd_1222 : Cond.instanceMethod yX8_live ∈ am_ws := am_wt5 (List.mem_of_getElem? (i := 205) (by rfl)) (by decide +kernel)
set_option maxRecDepth 100000 in
theorem wd_1223 : Cond.selects "LearnLoansModel" yX8_live yX8_live ∈ am_ws := am_wt5 (List.mem_of_getElem? (i := 206) (by rfl)) (by decide +kernel)
set_option maxRecDepth 100000 in
theorem wd_1224 : Cond.code yX8_live cX8_live 6 (some .int) ∈ am_ws := am_wt5 (List.mem_of_getElem? (i := 207) (by rfl)) (by decide +kernel)
def kL_c24 (Ln : Nat) (xs : Nat → Int32) : an_code := [(1246, an_lf (fun live => am_aload 1 1247)), (1247, an_lf (fun live => am_aload 0 1248)), (1248, an_lf (fun live => am_iload 3 1249)), (1249, an_lf (fun live => am_const (.int 1) 1250)), (1250, an_lf (fun live => am_i2 (fun x y => x + y) 1251)), (1251, an_sld Ln xs 1252), (1252, an_lf (fun live => am_aload 0 1253)), (1253, an_lf (fun live => am_iload 3 1254)), (1254, an_lf (fun live => am_const (.int 2) 1255)), (1255, an_lf (fun live => am_i2 (fun x y => x + y) 1256)), (1256, an_sld Ln xs 1257), (1257, an_lf (fun live => am_aload 0 1258)), (1258, an_lf (fun live => am_iload 3 1259)), (1259, an_lf (fun live => am_const (.int 3) 1260)), (1260, an_lf (fun live => am_i2 (fun x y => x + y) 1261)), (1261, an_sld Ln xs 1262), (1262, an_lf (fun live => am_aload 0 1263)), (1263, an_lf (fun live => am_iload 3 1264)), (1264, an_lf (fun live => am_const (.int 4) 1265)), (1265, an_lf (fun live => am_i2 (fun x y => x + y) 1266)), (1266, an_sld Ln xs 1267), (1267, an_lf (fun live => am_callV live 7 4 TW_live 1270)), (1270, an_lf (fun live => am_pop 1271)), (1271, an_lf (fun live => am_aload 2 1272)), (1272, an_lf (fun live => am_aload 0 1273)), (1273, an_lf (fun live => am_iload 3 1274)), (1274, an_lf (fun live => am_const (.int 1) 1275)), (1275, an_lf (fun live => am_i2 (fun x y => x + y) 1276)), (1276, an_sld Ln xs 1277), (1277, an_lf (fun live => am_aload 0 1278)), (1278, an_lf (fun live => am_iload 3 1279)), (1279, an_lf (fun live => am_const (.int 2) 1280)), (1280, an_lf (fun live => am_i2 (fun x y => x + y) 1281)), (1281, an_sld Ln xs 1282), (1282, an_lf (fun live => am_aload 0 1283)), (1283, an_lf (fun live => am_iload 3 1284)), (1284, an_lf (fun live => am_const (.int 3) 1285)), (1285, an_lf (fun live => am_i2 (fun x y => x + y) 1286)), (1286, an_sld Ln xs 1287), (1287, an_lf (fun live => am_aload 0 1288)), (1288, an_lf (fun live => am_iload 3 1289)), (1289, an_lf (fun live => am_const (.int 4) 1290)), (1290, an_lf (fun live => am_i2 (fun x y => x + y) 1291)), (1291, an_sld Ln xs 1292), (1292, an_lf (fun live => am_callV live 8 4 TX8_live 1295)), (1295, an_lf (fun live => am_pop 1296)), (1296, an_lf (fun live => am_goto 1841))]
theorem koL_c24 (Ln : Nat) (xs : Nat → Int32) : ∀ q ∈ kL_c24 Ln xs, an_ok RL cL_law 4 (some .boolean) 2000 80000 600000 7302250 false (lawP Ln xs) an_noR q.1 q.2 :=
  am_kz dzL_c24 <|
  an_kd (fun d => an_lift (fun live => ak_aload_n d rfl rfl)) <|
  an_kd (fun d => an_lift (fun live => ak_aload_n d rfl rfl)) <|
  an_kd (fun d => an_lift (fun live => ak_iload_n d rfl rfl)) <|
  an_kd (fun d => an_lift (fun live => ak_iconst d (by decide +kernel) rfl)) <|
  an_kd (fun d => an_lift (fun live => ak_iadd d rfl)) <|
  an_kd (fun d => nk_sld d rfl) <|
  an_kd (fun d => an_lift (fun live => ak_aload_n d rfl rfl)) <|
  an_kd (fun d => an_lift (fun live => ak_iload_n d rfl rfl)) <|
  an_kd (fun d => an_lift (fun live => ak_iconst d (by decide +kernel) rfl)) <|
  an_kd (fun d => an_lift (fun live => ak_iadd d rfl)) <|
  an_kd (fun d => nk_sld d rfl) <|
  an_kd (fun d => an_lift (fun live => ak_aload_n d rfl rfl)) <|
  an_kd (fun d => an_lift (fun live => ak_iload_n d rfl rfl)) <|
  an_kd (fun d => an_lift (fun live => ak_iconst d (by decide +kernel) rfl)) <|
  an_kd (fun d => an_lift (fun live => ak_iadd d rfl)) <|
  an_kd (fun d => nk_sld d rfl) <|
  an_kd (fun d => an_lift (fun live => ak_aload_n d rfl rfl)) <|
  an_kd (fun d => an_lift (fun live => ak_iload_n d rfl rfl)) <|
  an_kd (fun d => an_lift (fun live => ak_iconst d (by decide +kernel) rfl)) <|
  an_kd (fun d => an_lift (fun live => ak_iadd d rfl)) <|
  an_kd (fun d => nk_sld d rfl) <|
  an_kd (fun d => an_lift (fun live => ak_callV (C := RX7) (F := TX7) (N := 4) metW_live rfl ⟨rfl, hy_X7_live⟩ (am_w5 wd_752 wd_753 wd_754 wd_58 wd_755) (by decide) d rfl)) <|
  an_kd (fun d => an_lift (fun live => ak_pop d rfl)) <|
  an_kd (fun d => an_lift (fun live => ak_aload_n d rfl rfl)) <|
  an_kd (fun d => an_lift (fun live => ak_aload_n d rfl rfl)) <|
  an_kd (fun d => an_lift (fun live => ak_iload_n d rfl rfl)) <|
  an_kd (fun d => an_lift (fun live => ak_iconst d (by decide +kernel) rfl)) <|
  an_kd (fun d => an_lift (fun live => ak_iadd d rfl)) <|
  an_kd (fun d => nk_sld d rfl) <|
  an_kd (fun d => an_lift (fun live => ak_aload_n d rfl rfl)) <|
  an_kd (fun d => an_lift (fun live => ak_iload_n d rfl rfl)) <|
  an_kd (fun d => an_lift (fun live => ak_iconst d (by decide +kernel) rfl)) <|
  an_kd (fun d => an_lift (fun live => ak_iadd d rfl)) <|
  an_kd (fun d => nk_sld d rfl) <|
  an_kd (fun d => an_lift (fun live => ak_aload_n d rfl rfl)) <|
  an_kd (fun d => an_lift (fun live => ak_iload_n d rfl rfl)) <|
  an_kd (fun d => an_lift (fun live => ak_iconst d (by decide +kernel) rfl)) <|
  an_kd (fun d => an_lift (fun live => ak_iadd d rfl)) <|
  an_kd (fun d => nk_sld d rfl) <|
  an_kd (fun d => an_lift (fun live => ak_aload_n d rfl rfl)) <|
  an_kd (fun d => an_lift (fun live => ak_iload_n d rfl rfl)) <|
  an_kd (fun d => an_lift (fun live => ak_iconst d (by decide +kernel) rfl)) <|
  an_kd (fun d => an_lift (fun live => ak_iadd d rfl)) <|
  an_kd (fun d => nk_sld d rfl) <|
  an_kd (fun d => an_lift (fun live => ak_callV (C := RX8) (F := TX8) (N := 27) metX8_live rfl ⟨rfl, hy_X8_live⟩ (am_w5 wd_1221 wd_1222 wd_1223 wd_67 wd_1224) (by decide) d rfl)) <|
  an_kd (fun d => an_lift (fun live => ak_pop d rfl)) <|
  an_kd (fun d => an_lift (fun live => ak_goto d (by decide +kernel))) <| an_kdn
set_option maxRecDepth 100000 in
set_option maxHeartbeats 4000000 in
theorem caseL_c24 {Ln : Nat} (xs : Nat → Int32) {i : Int32} {i1 i2 : Bool} {kc kn : Nat} {M : am_M} (h : LI i1 i2 M) (hi : lawI Ln i kc kn) : an_wp (kL_c24 Ln xs) (lawC Ln i) 200 (an_go (kL_c24 Ln xs) 1246) (lawL i) [] ((am_lv i1 i2, am_q i1 i2), kc, kn, M) := by
    obtain ⟨⟨f1, f2, f3, f4, f5, f6, f7⟩, k1, k2, k3, k4⟩ := hi.f
    have hmn : am_mn (am_lv i1 i2, am_q i1 i2) := ⟨_, _, rfl⟩
    repeat' (first | (with_reducible exact f1) | (with_reducible exact f2) | (with_reducible exact f3) | (with_reducible exact f4) | (with_reducible exact f5) | (with_reducible exact f6) | (with_reducible exact f7) | (with_reducible exact hmn) | (with_reducible exact h) | (with_reducible exact k1) | (with_reducible exact k2) | (with_reducible exact k3) | (with_reducible exact k4) | apply And.intro | exact rfl | ((with_reducible change r_I _); (with_reducible assumption)) | (intro hx; exact absurd hx (by decide)) | (intro hx; exact absurd (by decide) hx) | decide | intro hx | (refine Exists.intro _ (And.intro rfl ?_)) | (refine Exists.intro _ (Exists.intro _ (And.intro rfl (And.intro rfl ?_)))) | ((with_reducible change LI _ _ _); (with_reducible assumption)) | ((with_reducible change _ = true); simp only [k1, k2, k3, k4, Bool.true_and]; rfl))
    all_goals try first | (with_reducible change am_tI _ _) | (change Ret _ _) | (change Ret _ _ _) | (change Exists _)
    all_goals try dsimp only at *
    all_goals try (with_reducible exact absurd ‹(1000 : Int64) = 0› am_z1000)
    all_goals first
      | exact ⟨_, _, rfl⟩
      | exact lawE.mk hi (by with_reducible assumption) (by omega) (by omega)
      | skip
def rwL_c25 : List dz_r := [(1299, .aload_n 1, 1), (1300, .aload_n 0, 1), (1301, .iload_n 3, 1), (1302, .iconst 1, 1), (1303, .iadd, 1), (1304, .iaload, 1), (1305, .aload_n 0, 1), (1306, .iload_n 3, 1), (1307, .iconst 2, 1), (1308, .iadd, 1), (1309, .iaload, 1), (1310, .aload_n 0, 1), (1311, .iload_n 3, 1), (1312, .iconst 3, 1), (1313, .iadd, 1), (1314, .iaload, 1), (1315, .aload_n 0, 1), (1316, .iload_n 3, 1), (1317, .iconst 4, 1), (1318, .iadd, 1), (1319, .iaload, 1), (1320, .invokevirtual 121, 3), (1323, .pop, 1), (1324, .aload_n 2, 1), (1325, .aload_n 0, 1), (1326, .iload_n 3, 1), (1327, .iconst 1, 1), (1328, .iadd, 1), (1329, .iaload, 1), (1330, .aload_n 0, 1), (1331, .iload_n 3, 1), (1332, .iconst 2, 1), (1333, .iadd, 1), (1334, .iaload, 1), (1335, .aload_n 0, 1), (1336, .iload_n 3, 1), (1337, .iconst 3, 1), (1338, .iadd, 1), (1339, .iaload, 1), (1340, .aload_n 0, 1), (1341, .iload_n 3, 1), (1342, .iconst 4, 1), (1343, .iadd, 1), (1344, .iaload, 1), (1345, .invokevirtual 124, 3), (1348, .pop, 1), (1349, .goto 492, 3)]
theorem dzL_c25 : dz cL_law rwL_c25 := dz_all 1299 (by decide +kernel)
theorem hy_X7_early : yX7_early.cls ≠ "java/lang/invoke/MethodHandle" ∧ yX7_early.cls ≠ "java/lang/invoke/VarHandle" ∧ (parseMethodDescriptor yX7_early.desc).map (fun d => d.parameters.length) = some 4 := ⟨by decide +kernel, by decide +kernel, by decide +kernel⟩
set_option maxRecDepth 100000 in
theorem wd_756 : Cond.methodLink "LearnLoansLaw" 121 yX7_early ∈ am_ws := am_wt3 (List.mem_of_getElem? (i := 219) (by rfl)) (by decide +kernel)
set_option maxRecDepth 100000 in
theorem wd_757 : Cond.instanceMethod yX7_early ∈ am_ws := am_wt3 (List.mem_of_getElem? (i := 220) (by rfl)) (by decide +kernel)
set_option maxRecDepth 100000 in
theorem wd_758 : Cond.selects "LearnLoans" yX7_early yX7_early ∈ am_ws := am_wt3 (List.mem_of_getElem? (i := 221) (by rfl)) (by decide +kernel)
set_option maxRecDepth 100000 in
theorem wd_759 : Cond.code yX7_early cX7_early 11 (some .int) ∈ am_ws := am_wt3 (List.mem_of_getElem? (i := 222) (by rfl)) (by decide +kernel)
theorem hy_X8_early : yX8_early.cls ≠ "java/lang/invoke/MethodHandle" ∧ yX8_early.cls ≠ "java/lang/invoke/VarHandle" ∧ (parseMethodDescriptor yX8_early.desc).map (fun d => d.parameters.length) = some 4 := ⟨by decide +kernel, by decide +kernel, by decide +kernel⟩
set_option maxRecDepth 100000 in
theorem wd_1228 : Cond.methodLink "LearnLoansLaw" 124 yX8_early ∈ am_ws := am_wt5 (List.mem_of_getElem? (i := 211) (by rfl)) (by decide +kernel)
set_option maxRecDepth 100000 in
theorem wd_1229 : Cond.instanceMethod yX8_early ∈ am_ws := am_wt5 (List.mem_of_getElem? (i := 212) (by rfl)) (by decide +kernel)
set_option maxRecDepth 100000 in
theorem wd_1230 : Cond.selects "LearnLoansModel" yX8_early yX8_early ∈ am_ws := am_wt5 (List.mem_of_getElem? (i := 213) (by rfl)) (by decide +kernel)
set_option maxRecDepth 100000 in
theorem wd_1231 : Cond.code yX8_early cX8_early 7 (some .int) ∈ am_ws := am_wt5 (List.mem_of_getElem? (i := 214) (by rfl)) (by decide +kernel)
def kL_c25 (Ln : Nat) (xs : Nat → Int32) : an_code := [(1299, an_lf (fun live => am_aload 1 1300)), (1300, an_lf (fun live => am_aload 0 1301)), (1301, an_lf (fun live => am_iload 3 1302)), (1302, an_lf (fun live => am_const (.int 1) 1303)), (1303, an_lf (fun live => am_i2 (fun x y => x + y) 1304)), (1304, an_sld Ln xs 1305), (1305, an_lf (fun live => am_aload 0 1306)), (1306, an_lf (fun live => am_iload 3 1307)), (1307, an_lf (fun live => am_const (.int 2) 1308)), (1308, an_lf (fun live => am_i2 (fun x y => x + y) 1309)), (1309, an_sld Ln xs 1310), (1310, an_lf (fun live => am_aload 0 1311)), (1311, an_lf (fun live => am_iload 3 1312)), (1312, an_lf (fun live => am_const (.int 3) 1313)), (1313, an_lf (fun live => am_i2 (fun x y => x + y) 1314)), (1314, an_sld Ln xs 1315), (1315, an_lf (fun live => am_aload 0 1316)), (1316, an_lf (fun live => am_iload 3 1317)), (1317, an_lf (fun live => am_const (.int 4) 1318)), (1318, an_lf (fun live => am_i2 (fun x y => x + y) 1319)), (1319, an_sld Ln xs 1320), (1320, an_lf (fun live => am_callV live 7 4 TW_early 1323)), (1323, an_lf (fun live => am_pop 1324)), (1324, an_lf (fun live => am_aload 2 1325)), (1325, an_lf (fun live => am_aload 0 1326)), (1326, an_lf (fun live => am_iload 3 1327)), (1327, an_lf (fun live => am_const (.int 1) 1328)), (1328, an_lf (fun live => am_i2 (fun x y => x + y) 1329)), (1329, an_sld Ln xs 1330), (1330, an_lf (fun live => am_aload 0 1331)), (1331, an_lf (fun live => am_iload 3 1332)), (1332, an_lf (fun live => am_const (.int 2) 1333)), (1333, an_lf (fun live => am_i2 (fun x y => x + y) 1334)), (1334, an_sld Ln xs 1335), (1335, an_lf (fun live => am_aload 0 1336)), (1336, an_lf (fun live => am_iload 3 1337)), (1337, an_lf (fun live => am_const (.int 3) 1338)), (1338, an_lf (fun live => am_i2 (fun x y => x + y) 1339)), (1339, an_sld Ln xs 1340), (1340, an_lf (fun live => am_aload 0 1341)), (1341, an_lf (fun live => am_iload 3 1342)), (1342, an_lf (fun live => am_const (.int 4) 1343)), (1343, an_lf (fun live => am_i2 (fun x y => x + y) 1344)), (1344, an_sld Ln xs 1345), (1345, an_lf (fun live => am_callV live 8 4 TV_early 1348)), (1348, an_lf (fun live => am_pop 1349)), (1349, an_lf (fun live => am_goto 1841))]
theorem koL_c25 (Ln : Nat) (xs : Nat → Int32) : ∀ q ∈ kL_c25 Ln xs, an_ok RL cL_law 4 (some .boolean) 2000 80000 600000 7302250 false (lawP Ln xs) an_noR q.1 q.2 :=
  am_kz dzL_c25 <|
  an_kd (fun d => an_lift (fun live => ak_aload_n d rfl rfl)) <|
  an_kd (fun d => an_lift (fun live => ak_aload_n d rfl rfl)) <|
  an_kd (fun d => an_lift (fun live => ak_iload_n d rfl rfl)) <|
  an_kd (fun d => an_lift (fun live => ak_iconst d (by decide +kernel) rfl)) <|
  an_kd (fun d => an_lift (fun live => ak_iadd d rfl)) <|
  an_kd (fun d => nk_sld d rfl) <|
  an_kd (fun d => an_lift (fun live => ak_aload_n d rfl rfl)) <|
  an_kd (fun d => an_lift (fun live => ak_iload_n d rfl rfl)) <|
  an_kd (fun d => an_lift (fun live => ak_iconst d (by decide +kernel) rfl)) <|
  an_kd (fun d => an_lift (fun live => ak_iadd d rfl)) <|
  an_kd (fun d => nk_sld d rfl) <|
  an_kd (fun d => an_lift (fun live => ak_aload_n d rfl rfl)) <|
  an_kd (fun d => an_lift (fun live => ak_iload_n d rfl rfl)) <|
  an_kd (fun d => an_lift (fun live => ak_iconst d (by decide +kernel) rfl)) <|
  an_kd (fun d => an_lift (fun live => ak_iadd d rfl)) <|
  an_kd (fun d => nk_sld d rfl) <|
  an_kd (fun d => an_lift (fun live => ak_aload_n d rfl rfl)) <|
  an_kd (fun d => an_lift (fun live => ak_iload_n d rfl rfl)) <|
  an_kd (fun d => an_lift (fun live => ak_iconst d (by decide +kernel) rfl)) <|
  an_kd (fun d => an_lift (fun live => ak_iadd d rfl)) <|
  an_kd (fun d => nk_sld d rfl) <|
  an_kd (fun d => an_lift (fun live => ak_callV (C := RX7) (F := TX7) (N := 4) metW_early rfl ⟨rfl, hy_X7_early⟩ (am_w5 wd_756 wd_757 wd_758 wd_58 wd_759) (by decide) d rfl)) <|
  an_kd (fun d => an_lift (fun live => ak_pop d rfl)) <|
  an_kd (fun d => an_lift (fun live => ak_aload_n d rfl rfl)) <|
  an_kd (fun d => an_lift (fun live => ak_aload_n d rfl rfl)) <|
  an_kd (fun d => an_lift (fun live => ak_iload_n d rfl rfl)) <|
  an_kd (fun d => an_lift (fun live => ak_iconst d (by decide +kernel) rfl)) <|
  an_kd (fun d => an_lift (fun live => ak_iadd d rfl)) <|
  an_kd (fun d => nk_sld d rfl) <|
  an_kd (fun d => an_lift (fun live => ak_aload_n d rfl rfl)) <|
  an_kd (fun d => an_lift (fun live => ak_iload_n d rfl rfl)) <|
  an_kd (fun d => an_lift (fun live => ak_iconst d (by decide +kernel) rfl)) <|
  an_kd (fun d => an_lift (fun live => ak_iadd d rfl)) <|
  an_kd (fun d => nk_sld d rfl) <|
  an_kd (fun d => an_lift (fun live => ak_aload_n d rfl rfl)) <|
  an_kd (fun d => an_lift (fun live => ak_iload_n d rfl rfl)) <|
  an_kd (fun d => an_lift (fun live => ak_iconst d (by decide +kernel) rfl)) <|
  an_kd (fun d => an_lift (fun live => ak_iadd d rfl)) <|
  an_kd (fun d => nk_sld d rfl) <|
  an_kd (fun d => an_lift (fun live => ak_aload_n d rfl rfl)) <|
  an_kd (fun d => an_lift (fun live => ak_iload_n d rfl rfl)) <|
  an_kd (fun d => an_lift (fun live => ak_iconst d (by decide +kernel) rfl)) <|
  an_kd (fun d => an_lift (fun live => ak_iadd d rfl)) <|
  an_kd (fun d => nk_sld d rfl) <|
  an_kd (fun d => an_lift (fun live => ak_callV (C := RX8) (F := TX8) (N := 27) metV_early rfl ⟨rfl, hy_X8_early⟩ (am_w5 wd_1228 wd_1229 wd_1230 wd_67 wd_1231) (by decide) d rfl)) <|
  an_kd (fun d => an_lift (fun live => ak_pop d rfl)) <|
  an_kd (fun d => an_lift (fun live => ak_goto d (by decide +kernel))) <| an_kdn
set_option maxRecDepth 100000 in
set_option maxHeartbeats 4000000 in
theorem caseL_c25 {Ln : Nat} (xs : Nat → Int32) {i : Int32} {i1 i2 : Bool} {kc kn : Nat} {M : am_M} (h : LI i1 i2 M) (hi : lawI Ln i kc kn) : an_wp (kL_c25 Ln xs) (lawC Ln i) 200 (an_go (kL_c25 Ln xs) 1299) (lawL i) [] ((am_lv i1 i2, am_q i1 i2), kc, kn, M) := by
    obtain ⟨⟨f1, f2, f3, f4, f5, f6, f7⟩, k1, k2, k3, k4⟩ := hi.f
    have hmn : am_mn (am_lv i1 i2, am_q i1 i2) := ⟨_, _, rfl⟩
    repeat' (first | (with_reducible exact f1) | (with_reducible exact f2) | (with_reducible exact f3) | (with_reducible exact f4) | (with_reducible exact f5) | (with_reducible exact f6) | (with_reducible exact f7) | (with_reducible exact hmn) | (with_reducible exact h) | (with_reducible exact k1) | (with_reducible exact k2) | (with_reducible exact k3) | (with_reducible exact k4) | apply And.intro | exact rfl | ((with_reducible change r_I _); (with_reducible assumption)) | (intro hx; exact absurd hx (by decide)) | (intro hx; exact absurd (by decide) hx) | decide | intro hx | (refine Exists.intro _ (And.intro rfl ?_)) | (refine Exists.intro _ (Exists.intro _ (And.intro rfl (And.intro rfl ?_)))) | ((with_reducible change LI _ _ _); (with_reducible assumption)) | ((with_reducible change _ = true); simp only [k1, k2, k3, k4, Bool.true_and]; rfl))
    all_goals try first | (with_reducible change am_tI _ _) | (change Ret _ _) | (change Ret _ _ _) | (change Exists _)
    all_goals try dsimp only at *
    all_goals try (with_reducible exact absurd ‹(1000 : Int64) = 0› am_z1000)
    all_goals first
      | exact ⟨_, _, rfl⟩
      | exact lawE.mk hi (by with_reducible assumption) (by omega) (by omega)
      | skip
def rwL_c26 : List dz_r := [(1352, .aload_n 1, 1), (1353, .aload_n 0, 1), (1354, .iload_n 3, 1), (1355, .iconst 1, 1), (1356, .iadd, 1), (1357, .iaload, 1), (1358, .aload_n 0, 1), (1359, .iload_n 3, 1), (1360, .iconst 2, 1), (1361, .iadd, 1), (1362, .iaload, 1), (1363, .aload_n 0, 1), (1364, .iload_n 3, 1), (1365, .iconst 3, 1), (1366, .iadd, 1), (1367, .iaload, 1), (1368, .aload_n 0, 1), (1369, .iload_n 3, 1), (1370, .iconst 4, 1), (1371, .iadd, 1), (1372, .iaload, 1), (1373, .aload_n 0, 1), (1374, .iload_n 3, 1), (1375, .iconst 5, 1), (1376, .iadd, 1), (1377, .iaload, 1), (1378, .invokevirtual 125, 3), (1381, .pop2, 1), (1382, .aload_n 2, 1), (1383, .aload_n 0, 1), (1384, .iload_n 3, 1), (1385, .iconst 1, 1), (1386, .iadd, 1), (1387, .iaload, 1), (1388, .aload_n 0, 1), (1389, .iload_n 3, 1), (1390, .iconst 2, 1), (1391, .iadd, 1), (1392, .iaload, 1), (1393, .aload_n 0, 1), (1394, .iload_n 3, 1), (1395, .iconst 3, 1), (1396, .iadd, 1), (1397, .iaload, 1), (1398, .aload_n 0, 1), (1399, .iload_n 3, 1), (1400, .iconst 4, 1), (1401, .iadd, 1), (1402, .iaload, 1), (1403, .aload_n 0, 1), (1404, .iload_n 3, 1), (1405, .iconst 5, 1), (1406, .iadd, 1), (1407, .iaload, 1), (1408, .invokevirtual 129, 3), (1411, .pop2, 1), (1412, .goto 429, 3)]
theorem dzL_c26 : dz cL_law rwL_c26 := dz_all 1352 (by decide +kernel)
theorem hy_X7_choice : yX7_choice.cls ≠ "java/lang/invoke/MethodHandle" ∧ yX7_choice.cls ≠ "java/lang/invoke/VarHandle" ∧ (parseMethodDescriptor yX7_choice.desc).map (fun d => d.parameters.length) = some 5 := ⟨by decide +kernel, by decide +kernel, by decide +kernel⟩
set_option maxRecDepth 100000 in
theorem wd_765 : Cond.methodLink "LearnLoansLaw" 125 yX7_choice ∈ am_ws := am_wt3 (List.mem_of_getElem? (i := 228) (by rfl)) (by decide +kernel)
set_option maxRecDepth 100000 in
theorem wd_766 : Cond.instanceMethod yX7_choice ∈ am_ws := am_wt3 (List.mem_of_getElem? (i := 229) (by rfl)) (by decide +kernel)
set_option maxRecDepth 100000 in
theorem wd_767 : Cond.selects "LearnLoans" yX7_choice yX7_choice ∈ am_ws := am_wt3 (List.mem_of_getElem? (i := 230) (by rfl)) (by decide +kernel)
set_option maxRecDepth 100000 in
theorem wd_768 : Cond.code yX7_choice cX7_choice 6 (some .long) ∈ am_ws := am_wt3 (List.mem_of_getElem? (i := 231) (by rfl)) (by decide +kernel)
theorem hy_X8_choice : yX8_choice.cls ≠ "java/lang/invoke/MethodHandle" ∧ yX8_choice.cls ≠ "java/lang/invoke/VarHandle" ∧ (parseMethodDescriptor yX8_choice.desc).map (fun d => d.parameters.length) = some 5 := ⟨by decide +kernel, by decide +kernel, by decide +kernel⟩
set_option maxRecDepth 100000 in
theorem wd_1236 : Cond.methodLink "LearnLoansLaw" 129 yX8_choice ∈ am_ws := am_wt5 (List.mem_of_getElem? (i := 219) (by rfl)) (by decide +kernel)
set_option maxRecDepth 100000 in
theorem wd_1237 : Cond.instanceMethod yX8_choice ∈ am_ws := am_wt5 (List.mem_of_getElem? (i := 220) (by rfl)) (by decide +kernel)
set_option maxRecDepth 100000 in
theorem wd_1238 : Cond.selects "LearnLoansModel" yX8_choice yX8_choice ∈ am_ws := am_wt5 (List.mem_of_getElem? (i := 221) (by rfl)) (by decide +kernel)
set_option maxRecDepth 100000 in
theorem wd_1239 : Cond.code yX8_choice cX8_choice 8 (some .long) ∈ am_ws := am_wt5 (List.mem_of_getElem? (i := 222) (by rfl)) (by decide +kernel)
def kL_c26 (Ln : Nat) (xs : Nat → Int32) : an_code := [(1352, an_lf (fun live => am_aload 1 1353)), (1353, an_lf (fun live => am_aload 0 1354)), (1354, an_lf (fun live => am_iload 3 1355)), (1355, an_lf (fun live => am_const (.int 1) 1356)), (1356, an_lf (fun live => am_i2 (fun x y => x + y) 1357)), (1357, an_sld Ln xs 1358), (1358, an_lf (fun live => am_aload 0 1359)), (1359, an_lf (fun live => am_iload 3 1360)), (1360, an_lf (fun live => am_const (.int 2) 1361)), (1361, an_lf (fun live => am_i2 (fun x y => x + y) 1362)), (1362, an_sld Ln xs 1363), (1363, an_lf (fun live => am_aload 0 1364)), (1364, an_lf (fun live => am_iload 3 1365)), (1365, an_lf (fun live => am_const (.int 3) 1366)), (1366, an_lf (fun live => am_i2 (fun x y => x + y) 1367)), (1367, an_sld Ln xs 1368), (1368, an_lf (fun live => am_aload 0 1369)), (1369, an_lf (fun live => am_iload 3 1370)), (1370, an_lf (fun live => am_const (.int 4) 1371)), (1371, an_lf (fun live => am_i2 (fun x y => x + y) 1372)), (1372, an_sld Ln xs 1373), (1373, an_lf (fun live => am_aload 0 1374)), (1374, an_lf (fun live => am_iload 3 1375)), (1375, an_lf (fun live => am_const (.int 5) 1376)), (1376, an_lf (fun live => am_i2 (fun x y => x + y) 1377)), (1377, an_sld Ln xs 1378), (1378, an_lf (fun live => am_callV live 7 5 TW_choice 1381)), (1381, an_lf (fun live => am_pop2 1382)), (1382, an_lf (fun live => am_aload 2 1383)), (1383, an_lf (fun live => am_aload 0 1384)), (1384, an_lf (fun live => am_iload 3 1385)), (1385, an_lf (fun live => am_const (.int 1) 1386)), (1386, an_lf (fun live => am_i2 (fun x y => x + y) 1387)), (1387, an_sld Ln xs 1388), (1388, an_lf (fun live => am_aload 0 1389)), (1389, an_lf (fun live => am_iload 3 1390)), (1390, an_lf (fun live => am_const (.int 2) 1391)), (1391, an_lf (fun live => am_i2 (fun x y => x + y) 1392)), (1392, an_sld Ln xs 1393), (1393, an_lf (fun live => am_aload 0 1394)), (1394, an_lf (fun live => am_iload 3 1395)), (1395, an_lf (fun live => am_const (.int 3) 1396)), (1396, an_lf (fun live => am_i2 (fun x y => x + y) 1397)), (1397, an_sld Ln xs 1398), (1398, an_lf (fun live => am_aload 0 1399)), (1399, an_lf (fun live => am_iload 3 1400)), (1400, an_lf (fun live => am_const (.int 4) 1401)), (1401, an_lf (fun live => am_i2 (fun x y => x + y) 1402)), (1402, an_sld Ln xs 1403), (1403, an_lf (fun live => am_aload 0 1404)), (1404, an_lf (fun live => am_iload 3 1405)), (1405, an_lf (fun live => am_const (.int 5) 1406)), (1406, an_lf (fun live => am_i2 (fun x y => x + y) 1407)), (1407, an_sld Ln xs 1408), (1408, an_lf (fun live => am_callV live 8 5 TV_choice 1411)), (1411, an_lf (fun live => am_pop2 1412)), (1412, an_lf (fun live => am_goto 1841))]
theorem koL_c26 (Ln : Nat) (xs : Nat → Int32) : ∀ q ∈ kL_c26 Ln xs, an_ok RL cL_law 4 (some .boolean) 2000 80000 600000 7302250 false (lawP Ln xs) an_noR q.1 q.2 :=
  am_kz dzL_c26 <|
  an_kd (fun d => an_lift (fun live => ak_aload_n d rfl rfl)) <|
  an_kd (fun d => an_lift (fun live => ak_aload_n d rfl rfl)) <|
  an_kd (fun d => an_lift (fun live => ak_iload_n d rfl rfl)) <|
  an_kd (fun d => an_lift (fun live => ak_iconst d (by decide +kernel) rfl)) <|
  an_kd (fun d => an_lift (fun live => ak_iadd d rfl)) <|
  an_kd (fun d => nk_sld d rfl) <|
  an_kd (fun d => an_lift (fun live => ak_aload_n d rfl rfl)) <|
  an_kd (fun d => an_lift (fun live => ak_iload_n d rfl rfl)) <|
  an_kd (fun d => an_lift (fun live => ak_iconst d (by decide +kernel) rfl)) <|
  an_kd (fun d => an_lift (fun live => ak_iadd d rfl)) <|
  an_kd (fun d => nk_sld d rfl) <|
  an_kd (fun d => an_lift (fun live => ak_aload_n d rfl rfl)) <|
  an_kd (fun d => an_lift (fun live => ak_iload_n d rfl rfl)) <|
  an_kd (fun d => an_lift (fun live => ak_iconst d (by decide +kernel) rfl)) <|
  an_kd (fun d => an_lift (fun live => ak_iadd d rfl)) <|
  an_kd (fun d => nk_sld d rfl) <|
  an_kd (fun d => an_lift (fun live => ak_aload_n d rfl rfl)) <|
  an_kd (fun d => an_lift (fun live => ak_iload_n d rfl rfl)) <|
  an_kd (fun d => an_lift (fun live => ak_iconst d (by decide +kernel) rfl)) <|
  an_kd (fun d => an_lift (fun live => ak_iadd d rfl)) <|
  an_kd (fun d => nk_sld d rfl) <|
  an_kd (fun d => an_lift (fun live => ak_aload_n d rfl rfl)) <|
  an_kd (fun d => an_lift (fun live => ak_iload_n d rfl rfl)) <|
  an_kd (fun d => an_lift (fun live => ak_iconst d (by decide +kernel) rfl)) <|
  an_kd (fun d => an_lift (fun live => ak_iadd d rfl)) <|
  an_kd (fun d => nk_sld d rfl) <|
  an_kd (fun d => an_lift (fun live => ak_callV (C := RX7) (F := TX7) (N := 4) metW_choice rfl ⟨rfl, hy_X7_choice⟩ (am_w5 wd_765 wd_766 wd_767 wd_58 wd_768) (by decide) d rfl)) <|
  an_kd (fun d => an_lift (fun live => ak_pop2 d rfl)) <|
  an_kd (fun d => an_lift (fun live => ak_aload_n d rfl rfl)) <|
  an_kd (fun d => an_lift (fun live => ak_aload_n d rfl rfl)) <|
  an_kd (fun d => an_lift (fun live => ak_iload_n d rfl rfl)) <|
  an_kd (fun d => an_lift (fun live => ak_iconst d (by decide +kernel) rfl)) <|
  an_kd (fun d => an_lift (fun live => ak_iadd d rfl)) <|
  an_kd (fun d => nk_sld d rfl) <|
  an_kd (fun d => an_lift (fun live => ak_aload_n d rfl rfl)) <|
  an_kd (fun d => an_lift (fun live => ak_iload_n d rfl rfl)) <|
  an_kd (fun d => an_lift (fun live => ak_iconst d (by decide +kernel) rfl)) <|
  an_kd (fun d => an_lift (fun live => ak_iadd d rfl)) <|
  an_kd (fun d => nk_sld d rfl) <|
  an_kd (fun d => an_lift (fun live => ak_aload_n d rfl rfl)) <|
  an_kd (fun d => an_lift (fun live => ak_iload_n d rfl rfl)) <|
  an_kd (fun d => an_lift (fun live => ak_iconst d (by decide +kernel) rfl)) <|
  an_kd (fun d => an_lift (fun live => ak_iadd d rfl)) <|
  an_kd (fun d => nk_sld d rfl) <|
  an_kd (fun d => an_lift (fun live => ak_aload_n d rfl rfl)) <|
  an_kd (fun d => an_lift (fun live => ak_iload_n d rfl rfl)) <|
  an_kd (fun d => an_lift (fun live => ak_iconst d (by decide +kernel) rfl)) <|
  an_kd (fun d => an_lift (fun live => ak_iadd d rfl)) <|
  an_kd (fun d => nk_sld d rfl) <|
  an_kd (fun d => an_lift (fun live => ak_aload_n d rfl rfl)) <|
  an_kd (fun d => an_lift (fun live => ak_iload_n d rfl rfl)) <|
  an_kd (fun d => an_lift (fun live => ak_iconst d (by decide +kernel) rfl)) <|
  an_kd (fun d => an_lift (fun live => ak_iadd d rfl)) <|
  an_kd (fun d => nk_sld d rfl) <|
  an_kd (fun d => an_lift (fun live => ak_callV (C := RX8) (F := TX8) (N := 27) metV_choice rfl ⟨rfl, hy_X8_choice⟩ (am_w5 wd_1236 wd_1237 wd_1238 wd_67 wd_1239) (by decide) d rfl)) <|
  an_kd (fun d => an_lift (fun live => ak_pop2 d rfl)) <|
  an_kd (fun d => an_lift (fun live => ak_goto d (by decide +kernel))) <| an_kdn
set_option maxRecDepth 100000 in
set_option maxHeartbeats 4000000 in
theorem caseL_c26 {Ln : Nat} (xs : Nat → Int32) {i : Int32} {i1 i2 : Bool} {kc kn : Nat} {M : am_M} (h : LI i1 i2 M) (hi : lawI Ln i kc kn) : an_wp (kL_c26 Ln xs) (lawC Ln i) 200 (an_go (kL_c26 Ln xs) 1352) (lawL i) [] ((am_lv i1 i2, am_q i1 i2), kc, kn, M) := by
    obtain ⟨⟨f1, f2, f3, f4, f5, f6, f7⟩, k1, k2, k3, k4⟩ := hi.f
    have hmn : am_mn (am_lv i1 i2, am_q i1 i2) := ⟨_, _, rfl⟩
    repeat' (first | (with_reducible exact f1) | (with_reducible exact f2) | (with_reducible exact f3) | (with_reducible exact f4) | (with_reducible exact f5) | (with_reducible exact f6) | (with_reducible exact f7) | (with_reducible exact hmn) | (with_reducible exact h) | (with_reducible exact k1) | (with_reducible exact k2) | (with_reducible exact k3) | (with_reducible exact k4) | apply And.intro | exact rfl | ((with_reducible change r_I _); (with_reducible assumption)) | (intro hx; exact absurd hx (by decide)) | (intro hx; exact absurd (by decide) hx) | decide | intro hx | (refine Exists.intro _ (And.intro rfl ?_)) | (refine Exists.intro _ (Exists.intro _ (And.intro rfl (And.intro rfl ?_)))) | ((with_reducible change LI _ _ _); (with_reducible assumption)) | ((with_reducible change _ = true); simp only [k1, k2, k3, k4, Bool.true_and]; rfl))
    all_goals try first | (with_reducible change am_tI _ _) | (change Ret _ _) | (change Ret _ _ _) | (change Exists _)
    all_goals try dsimp only at *
    all_goals try (with_reducible exact absurd ‹(1000 : Int64) = 0› am_z1000)
    all_goals first
      | exact ⟨_, _, rfl⟩
      | exact lawE.mk hi (by with_reducible assumption) (by omega) (by omega)
      | skip
def rwL_c27 : List dz_r := [(1415, .aload_n 1, 1), (1416, .aload_n 0, 1), (1417, .iload_n 3, 1), (1418, .iconst 1, 1), (1419, .iadd, 1), (1420, .iaload, 1), (1421, .aload_n 0, 1), (1422, .iload_n 3, 1), (1423, .iconst 2, 1), (1424, .iadd, 1), (1425, .iaload, 1), (1426, .aload_n 0, 1), (1427, .iload_n 3, 1), (1428, .iconst 3, 1), (1429, .iadd, 1), (1430, .iaload, 1), (1431, .aload_n 0, 1), (1432, .iload_n 3, 1), (1433, .iconst 4, 1), (1434, .iadd, 1), (1435, .iaload, 1), (1436, .aload_n 0, 1), (1437, .iload_n 3, 1), (1438, .iconst 5, 1), (1439, .iadd, 1), (1440, .iaload, 1), (1441, .invokevirtual 130, 3), (1444, .pop, 1), (1445, .aload_n 2, 1), (1446, .aload_n 0, 1), (1447, .iload_n 3, 1), (1448, .iconst 1, 1), (1449, .iadd, 1), (1450, .iaload, 1), (1451, .aload_n 0, 1), (1452, .iload_n 3, 1), (1453, .iconst 2, 1), (1454, .iadd, 1), (1455, .iaload, 1), (1456, .aload_n 0, 1), (1457, .iload_n 3, 1), (1458, .iconst 3, 1), (1459, .iadd, 1), (1460, .iaload, 1), (1461, .aload_n 0, 1), (1462, .iload_n 3, 1), (1463, .iconst 4, 1), (1464, .iadd, 1), (1465, .iaload, 1), (1466, .aload_n 0, 1), (1467, .iload_n 3, 1), (1468, .iconst 5, 1), (1469, .iadd, 1), (1470, .iaload, 1), (1471, .invokevirtual 134, 3), (1474, .pop, 1), (1475, .goto 366, 3)]
theorem dzL_c27 : dz cL_law rwL_c27 := dz_all 1415 (by decide +kernel)
theorem hy_X7_chances : yX7_chances.cls ≠ "java/lang/invoke/MethodHandle" ∧ yX7_chances.cls ≠ "java/lang/invoke/VarHandle" ∧ (parseMethodDescriptor yX7_chances.desc).map (fun d => d.parameters.length) = some 5 := ⟨by decide +kernel, by decide +kernel, by decide +kernel⟩
set_option maxRecDepth 100000 in
theorem wd_769 : Cond.methodLink "LearnLoansLaw" 130 yX7_chances ∈ am_ws := am_wt3 (List.mem_of_getElem? (i := 232) (by rfl)) (by decide +kernel)
set_option maxRecDepth 100000 in
theorem wd_770 : Cond.instanceMethod yX7_chances ∈ am_ws := am_wt3 (List.mem_of_getElem? (i := 233) (by rfl)) (by decide +kernel)
set_option maxRecDepth 100000 in
theorem wd_771 : Cond.selects "LearnLoans" yX7_chances yX7_chances ∈ am_ws := am_wt3 (List.mem_of_getElem? (i := 234) (by rfl)) (by decide +kernel)
set_option maxRecDepth 100000 in
theorem wd_772 : Cond.code yX7_chances cX7_chances 7 (some .int) ∈ am_ws := am_wt3 (List.mem_of_getElem? (i := 235) (by rfl)) (by decide +kernel)
theorem hy_X8_chances : yX8_chances.cls ≠ "java/lang/invoke/MethodHandle" ∧ yX8_chances.cls ≠ "java/lang/invoke/VarHandle" ∧ (parseMethodDescriptor yX8_chances.desc).map (fun d => d.parameters.length) = some 5 := ⟨by decide +kernel, by decide +kernel, by decide +kernel⟩
set_option maxRecDepth 100000 in
theorem wd_1240 : Cond.methodLink "LearnLoansLaw" 134 yX8_chances ∈ am_ws := am_wt5 (List.mem_of_getElem? (i := 223) (by rfl)) (by decide +kernel)
set_option maxRecDepth 100000 in
theorem wd_1241 : Cond.instanceMethod yX8_chances ∈ am_ws := am_wt5 (List.mem_of_getElem? (i := 224) (by rfl)) (by decide +kernel)
set_option maxRecDepth 100000 in
theorem wd_1242 : Cond.selects "LearnLoansModel" yX8_chances yX8_chances ∈ am_ws := am_wt5 (List.mem_of_getElem? (i := 225) (by rfl)) (by decide +kernel)
set_option maxRecDepth 100000 in
theorem wd_1243 : Cond.code yX8_chances cX8_chances 6 (some .int) ∈ am_ws := am_wt5 (List.mem_of_getElem? (i := 226) (by rfl)) (by decide +kernel)
def kL_c27 (Ln : Nat) (xs : Nat → Int32) : an_code := [(1415, an_lf (fun live => am_aload 1 1416)), (1416, an_lf (fun live => am_aload 0 1417)), (1417, an_lf (fun live => am_iload 3 1418)), (1418, an_lf (fun live => am_const (.int 1) 1419)), (1419, an_lf (fun live => am_i2 (fun x y => x + y) 1420)), (1420, an_sld Ln xs 1421), (1421, an_lf (fun live => am_aload 0 1422)), (1422, an_lf (fun live => am_iload 3 1423)), (1423, an_lf (fun live => am_const (.int 2) 1424)), (1424, an_lf (fun live => am_i2 (fun x y => x + y) 1425)), (1425, an_sld Ln xs 1426), (1426, an_lf (fun live => am_aload 0 1427)), (1427, an_lf (fun live => am_iload 3 1428)), (1428, an_lf (fun live => am_const (.int 3) 1429)), (1429, an_lf (fun live => am_i2 (fun x y => x + y) 1430)), (1430, an_sld Ln xs 1431), (1431, an_lf (fun live => am_aload 0 1432)), (1432, an_lf (fun live => am_iload 3 1433)), (1433, an_lf (fun live => am_const (.int 4) 1434)), (1434, an_lf (fun live => am_i2 (fun x y => x + y) 1435)), (1435, an_sld Ln xs 1436), (1436, an_lf (fun live => am_aload 0 1437)), (1437, an_lf (fun live => am_iload 3 1438)), (1438, an_lf (fun live => am_const (.int 5) 1439)), (1439, an_lf (fun live => am_i2 (fun x y => x + y) 1440)), (1440, an_sld Ln xs 1441), (1441, an_lf (fun live => am_callV live 7 5 TW_chances 1444)), (1444, an_lf (fun live => am_pop 1445)), (1445, an_lf (fun live => am_aload 2 1446)), (1446, an_lf (fun live => am_aload 0 1447)), (1447, an_lf (fun live => am_iload 3 1448)), (1448, an_lf (fun live => am_const (.int 1) 1449)), (1449, an_lf (fun live => am_i2 (fun x y => x + y) 1450)), (1450, an_sld Ln xs 1451), (1451, an_lf (fun live => am_aload 0 1452)), (1452, an_lf (fun live => am_iload 3 1453)), (1453, an_lf (fun live => am_const (.int 2) 1454)), (1454, an_lf (fun live => am_i2 (fun x y => x + y) 1455)), (1455, an_sld Ln xs 1456), (1456, an_lf (fun live => am_aload 0 1457)), (1457, an_lf (fun live => am_iload 3 1458)), (1458, an_lf (fun live => am_const (.int 3) 1459)), (1459, an_lf (fun live => am_i2 (fun x y => x + y) 1460)), (1460, an_sld Ln xs 1461), (1461, an_lf (fun live => am_aload 0 1462)), (1462, an_lf (fun live => am_iload 3 1463)), (1463, an_lf (fun live => am_const (.int 4) 1464)), (1464, an_lf (fun live => am_i2 (fun x y => x + y) 1465)), (1465, an_sld Ln xs 1466), (1466, an_lf (fun live => am_aload 0 1467)), (1467, an_lf (fun live => am_iload 3 1468)), (1468, an_lf (fun live => am_const (.int 5) 1469)), (1469, an_lf (fun live => am_i2 (fun x y => x + y) 1470)), (1470, an_sld Ln xs 1471), (1471, an_lf (fun live => am_callV live 8 5 TX8_chances 1474)), (1474, an_lf (fun live => am_pop 1475)), (1475, an_lf (fun live => am_goto 1841))]
theorem koL_c27 (Ln : Nat) (xs : Nat → Int32) : ∀ q ∈ kL_c27 Ln xs, an_ok RL cL_law 4 (some .boolean) 2000 80000 600000 7302250 false (lawP Ln xs) an_noR q.1 q.2 :=
  am_kz dzL_c27 <|
  an_kd (fun d => an_lift (fun live => ak_aload_n d rfl rfl)) <|
  an_kd (fun d => an_lift (fun live => ak_aload_n d rfl rfl)) <|
  an_kd (fun d => an_lift (fun live => ak_iload_n d rfl rfl)) <|
  an_kd (fun d => an_lift (fun live => ak_iconst d (by decide +kernel) rfl)) <|
  an_kd (fun d => an_lift (fun live => ak_iadd d rfl)) <|
  an_kd (fun d => nk_sld d rfl) <|
  an_kd (fun d => an_lift (fun live => ak_aload_n d rfl rfl)) <|
  an_kd (fun d => an_lift (fun live => ak_iload_n d rfl rfl)) <|
  an_kd (fun d => an_lift (fun live => ak_iconst d (by decide +kernel) rfl)) <|
  an_kd (fun d => an_lift (fun live => ak_iadd d rfl)) <|
  an_kd (fun d => nk_sld d rfl) <|
  an_kd (fun d => an_lift (fun live => ak_aload_n d rfl rfl)) <|
  an_kd (fun d => an_lift (fun live => ak_iload_n d rfl rfl)) <|
  an_kd (fun d => an_lift (fun live => ak_iconst d (by decide +kernel) rfl)) <|
  an_kd (fun d => an_lift (fun live => ak_iadd d rfl)) <|
  an_kd (fun d => nk_sld d rfl) <|
  an_kd (fun d => an_lift (fun live => ak_aload_n d rfl rfl)) <|
  an_kd (fun d => an_lift (fun live => ak_iload_n d rfl rfl)) <|
  an_kd (fun d => an_lift (fun live => ak_iconst d (by decide +kernel) rfl)) <|
  an_kd (fun d => an_lift (fun live => ak_iadd d rfl)) <|
  an_kd (fun d => nk_sld d rfl) <|
  an_kd (fun d => an_lift (fun live => ak_aload_n d rfl rfl)) <|
  an_kd (fun d => an_lift (fun live => ak_iload_n d rfl rfl)) <|
  an_kd (fun d => an_lift (fun live => ak_iconst d (by decide +kernel) rfl)) <|
  an_kd (fun d => an_lift (fun live => ak_iadd d rfl)) <|
  an_kd (fun d => nk_sld d rfl) <|
  an_kd (fun d => an_lift (fun live => ak_callV (C := RX7) (F := TX7) (N := 4) metW_chances rfl ⟨rfl, hy_X7_chances⟩ (am_w5 wd_769 wd_770 wd_771 wd_58 wd_772) (by decide) d rfl)) <|
  an_kd (fun d => an_lift (fun live => ak_pop d rfl)) <|
  an_kd (fun d => an_lift (fun live => ak_aload_n d rfl rfl)) <|
  an_kd (fun d => an_lift (fun live => ak_aload_n d rfl rfl)) <|
  an_kd (fun d => an_lift (fun live => ak_iload_n d rfl rfl)) <|
  an_kd (fun d => an_lift (fun live => ak_iconst d (by decide +kernel) rfl)) <|
  an_kd (fun d => an_lift (fun live => ak_iadd d rfl)) <|
  an_kd (fun d => nk_sld d rfl) <|
  an_kd (fun d => an_lift (fun live => ak_aload_n d rfl rfl)) <|
  an_kd (fun d => an_lift (fun live => ak_iload_n d rfl rfl)) <|
  an_kd (fun d => an_lift (fun live => ak_iconst d (by decide +kernel) rfl)) <|
  an_kd (fun d => an_lift (fun live => ak_iadd d rfl)) <|
  an_kd (fun d => nk_sld d rfl) <|
  an_kd (fun d => an_lift (fun live => ak_aload_n d rfl rfl)) <|
  an_kd (fun d => an_lift (fun live => ak_iload_n d rfl rfl)) <|
  an_kd (fun d => an_lift (fun live => ak_iconst d (by decide +kernel) rfl)) <|
  an_kd (fun d => an_lift (fun live => ak_iadd d rfl)) <|
  an_kd (fun d => nk_sld d rfl) <|
  an_kd (fun d => an_lift (fun live => ak_aload_n d rfl rfl)) <|
  an_kd (fun d => an_lift (fun live => ak_iload_n d rfl rfl)) <|
  an_kd (fun d => an_lift (fun live => ak_iconst d (by decide +kernel) rfl)) <|
  an_kd (fun d => an_lift (fun live => ak_iadd d rfl)) <|
  an_kd (fun d => nk_sld d rfl) <|
  an_kd (fun d => an_lift (fun live => ak_aload_n d rfl rfl)) <|
  an_kd (fun d => an_lift (fun live => ak_iload_n d rfl rfl)) <|
  an_kd (fun d => an_lift (fun live => ak_iconst d (by decide +kernel) rfl)) <|
  an_kd (fun d => an_lift (fun live => ak_iadd d rfl)) <|
  an_kd (fun d => nk_sld d rfl) <|
  an_kd (fun d => an_lift (fun live => ak_callV (C := RX8) (F := TX8) (N := 27) metX8_chances rfl ⟨rfl, hy_X8_chances⟩ (am_w5 wd_1240 wd_1241 wd_1242 wd_67 wd_1243) (by decide) d rfl)) <|
  an_kd (fun d => an_lift (fun live => ak_pop d rfl)) <|
  an_kd (fun d => an_lift (fun live => ak_goto d (by decide +kernel))) <| an_kdn
set_option maxRecDepth 100000 in
set_option maxHeartbeats 4000000 in
theorem caseL_c27 {Ln : Nat} (xs : Nat → Int32) {i : Int32} {i1 i2 : Bool} {kc kn : Nat} {M : am_M} (h : LI i1 i2 M) (hi : lawI Ln i kc kn) : an_wp (kL_c27 Ln xs) (lawC Ln i) 200 (an_go (kL_c27 Ln xs) 1415) (lawL i) [] ((am_lv i1 i2, am_q i1 i2), kc, kn, M) := by
    obtain ⟨⟨f1, f2, f3, f4, f5, f6, f7⟩, k1, k2, k3, k4⟩ := hi.f
    have hmn : am_mn (am_lv i1 i2, am_q i1 i2) := ⟨_, _, rfl⟩
    repeat' (first | (with_reducible exact f1) | (with_reducible exact f2) | (with_reducible exact f3) | (with_reducible exact f4) | (with_reducible exact f5) | (with_reducible exact f6) | (with_reducible exact f7) | (with_reducible exact hmn) | (with_reducible exact h) | (with_reducible exact k1) | (with_reducible exact k2) | (with_reducible exact k3) | (with_reducible exact k4) | apply And.intro | exact rfl | ((with_reducible change r_I _); (with_reducible assumption)) | (intro hx; exact absurd hx (by decide)) | (intro hx; exact absurd (by decide) hx) | decide | intro hx | (refine Exists.intro _ (And.intro rfl ?_)) | (refine Exists.intro _ (Exists.intro _ (And.intro rfl (And.intro rfl ?_)))) | ((with_reducible change LI _ _ _); (with_reducible assumption)) | ((with_reducible change _ = true); simp only [k1, k2, k3, k4, Bool.true_and]; rfl))
    all_goals try first | (with_reducible change am_tI _ _) | (change Ret _ _) | (change Ret _ _ _) | (change Exists _)
    all_goals try dsimp only at *
    all_goals try (with_reducible exact absurd ‹(1000 : Int64) = 0› am_z1000)
    all_goals first
      | exact ⟨_, _, rfl⟩
      | exact lawE.mk hi (by with_reducible assumption) (by omega) (by omega)
      | skip
def rwL_c28 : List dz_r := [(1478, .aload_n 1, 1), (1479, .aload_n 0, 1), (1480, .iload_n 3, 1), (1481, .iconst 1, 1), (1482, .iadd, 1), (1483, .iaload, 1), (1484, .aload_n 0, 1), (1485, .iload_n 3, 1), (1486, .iconst 2, 1), (1487, .iadd, 1), (1488, .iaload, 1), (1489, .aload_n 0, 1), (1490, .iload_n 3, 1), (1491, .iconst 3, 1), (1492, .iadd, 1), (1493, .iaload, 1), (1494, .aload_n 0, 1), (1495, .iload_n 3, 1), (1496, .iconst 4, 1), (1497, .iadd, 1), (1498, .iaload, 1), (1499, .aload_n 0, 1), (1500, .iload_n 3, 1), (1501, .iconst 5, 1), (1502, .iadd, 1), (1503, .iaload, 1), (1504, .aload_n 0, 1), (1505, .iload_n 3, 1), (1506, .bipush 6, 2), (1508, .iadd, 1), (1509, .iaload, 1), (1510, .invokevirtual 135, 3), (1513, .pop2, 1), (1514, .aload_n 2, 1), (1515, .aload_n 0, 1), (1516, .iload_n 3, 1), (1517, .iconst 1, 1), (1518, .iadd, 1), (1519, .iaload, 1), (1520, .aload_n 0, 1), (1521, .iload_n 3, 1), (1522, .iconst 2, 1), (1523, .iadd, 1), (1524, .iaload, 1), (1525, .aload_n 0, 1), (1526, .iload_n 3, 1), (1527, .iconst 3, 1), (1528, .iadd, 1), (1529, .iaload, 1), (1530, .aload_n 0, 1), (1531, .iload_n 3, 1), (1532, .iconst 4, 1), (1533, .iadd, 1), (1534, .iaload, 1), (1535, .aload_n 0, 1), (1536, .iload_n 3, 1), (1537, .iconst 5, 1), (1538, .iadd, 1), (1539, .iaload, 1), (1540, .aload_n 0, 1), (1541, .iload_n 3, 1), (1542, .bipush 6, 2), (1544, .iadd, 1), (1545, .iaload, 1), (1546, .invokevirtual 139, 3), (1549, .pop2, 1), (1550, .goto 291, 3)]
theorem dzL_c28 : dz cL_law rwL_c28 := dz_all 1478 (by decide +kernel)
theorem hy_X7_foretold : yX7_foretold.cls ≠ "java/lang/invoke/MethodHandle" ∧ yX7_foretold.cls ≠ "java/lang/invoke/VarHandle" ∧ (parseMethodDescriptor yX7_foretold.desc).map (fun d => d.parameters.length) = some 6 := ⟨by decide +kernel, by decide +kernel, by decide +kernel⟩
set_option maxRecDepth 100000 in
theorem wd_776 : Cond.methodLink "LearnLoansLaw" 135 yX7_foretold ∈ am_ws := am_wt3 (List.mem_of_getElem? (i := 239) (by rfl)) (by decide +kernel)
set_option maxRecDepth 100000 in
theorem wd_777 : Cond.instanceMethod yX7_foretold ∈ am_ws := am_wt4 (List.mem_of_getElem? (i := 0) (by rfl)) (by decide +kernel)
set_option maxRecDepth 100000 in
theorem wd_778 : Cond.selects "LearnLoans" yX7_foretold yX7_foretold ∈ am_ws := am_wt4 (List.mem_of_getElem? (i := 1) (by rfl)) (by decide +kernel)
set_option maxRecDepth 100000 in
theorem wd_779 : Cond.code yX7_foretold cX7_foretold 7 (some .long) ∈ am_ws := am_wt4 (List.mem_of_getElem? (i := 2) (by rfl)) (by decide +kernel)
theorem hy_X8_foretold : yX8_foretold.cls ≠ "java/lang/invoke/MethodHandle" ∧ yX8_foretold.cls ≠ "java/lang/invoke/VarHandle" ∧ (parseMethodDescriptor yX8_foretold.desc).map (fun d => d.parameters.length) = some 6 := ⟨by decide +kernel, by decide +kernel, by decide +kernel⟩
set_option maxRecDepth 100000 in
theorem wd_1245 : Cond.methodLink "LearnLoansLaw" 139 yX8_foretold ∈ am_ws := am_wt5 (List.mem_of_getElem? (i := 228) (by rfl)) (by decide +kernel)
set_option maxRecDepth 100000 in
theorem wd_1246 : Cond.instanceMethod yX8_foretold ∈ am_ws := am_wt5 (List.mem_of_getElem? (i := 229) (by rfl)) (by decide +kernel)
set_option maxRecDepth 100000 in
theorem wd_1247 : Cond.selects "LearnLoansModel" yX8_foretold yX8_foretold ∈ am_ws := am_wt5 (List.mem_of_getElem? (i := 230) (by rfl)) (by decide +kernel)
set_option maxRecDepth 100000 in
theorem wd_1248 : Cond.code yX8_foretold cX8_foretold 18 (some .long) ∈ am_ws := am_wt5 (List.mem_of_getElem? (i := 231) (by rfl)) (by decide +kernel)
def kL_c28 (Ln : Nat) (xs : Nat → Int32) : an_code := [(1478, an_lf (fun live => am_aload 1 1479)), (1479, an_lf (fun live => am_aload 0 1480)), (1480, an_lf (fun live => am_iload 3 1481)), (1481, an_lf (fun live => am_const (.int 1) 1482)), (1482, an_lf (fun live => am_i2 (fun x y => x + y) 1483)), (1483, an_sld Ln xs 1484), (1484, an_lf (fun live => am_aload 0 1485)), (1485, an_lf (fun live => am_iload 3 1486)), (1486, an_lf (fun live => am_const (.int 2) 1487)), (1487, an_lf (fun live => am_i2 (fun x y => x + y) 1488)), (1488, an_sld Ln xs 1489), (1489, an_lf (fun live => am_aload 0 1490)), (1490, an_lf (fun live => am_iload 3 1491)), (1491, an_lf (fun live => am_const (.int 3) 1492)), (1492, an_lf (fun live => am_i2 (fun x y => x + y) 1493)), (1493, an_sld Ln xs 1494), (1494, an_lf (fun live => am_aload 0 1495)), (1495, an_lf (fun live => am_iload 3 1496)), (1496, an_lf (fun live => am_const (.int 4) 1497)), (1497, an_lf (fun live => am_i2 (fun x y => x + y) 1498)), (1498, an_sld Ln xs 1499), (1499, an_lf (fun live => am_aload 0 1500)), (1500, an_lf (fun live => am_iload 3 1501)), (1501, an_lf (fun live => am_const (.int 5) 1502)), (1502, an_lf (fun live => am_i2 (fun x y => x + y) 1503)), (1503, an_sld Ln xs 1504), (1504, an_lf (fun live => am_aload 0 1505)), (1505, an_lf (fun live => am_iload 3 1506)), (1506, an_lf (fun live => am_const (.int 6) 1508)), (1508, an_lf (fun live => am_i2 (fun x y => x + y) 1509)), (1509, an_sld Ln xs 1510), (1510, an_lf (fun live => am_callV live 7 6 TW_foretold 1513)), (1513, an_lf (fun live => am_pop2 1514)), (1514, an_lf (fun live => am_aload 2 1515)), (1515, an_lf (fun live => am_aload 0 1516)), (1516, an_lf (fun live => am_iload 3 1517)), (1517, an_lf (fun live => am_const (.int 1) 1518)), (1518, an_lf (fun live => am_i2 (fun x y => x + y) 1519)), (1519, an_sld Ln xs 1520), (1520, an_lf (fun live => am_aload 0 1521)), (1521, an_lf (fun live => am_iload 3 1522)), (1522, an_lf (fun live => am_const (.int 2) 1523)), (1523, an_lf (fun live => am_i2 (fun x y => x + y) 1524)), (1524, an_sld Ln xs 1525), (1525, an_lf (fun live => am_aload 0 1526)), (1526, an_lf (fun live => am_iload 3 1527)), (1527, an_lf (fun live => am_const (.int 3) 1528)), (1528, an_lf (fun live => am_i2 (fun x y => x + y) 1529)), (1529, an_sld Ln xs 1530), (1530, an_lf (fun live => am_aload 0 1531)), (1531, an_lf (fun live => am_iload 3 1532)), (1532, an_lf (fun live => am_const (.int 4) 1533)), (1533, an_lf (fun live => am_i2 (fun x y => x + y) 1534)), (1534, an_sld Ln xs 1535), (1535, an_lf (fun live => am_aload 0 1536)), (1536, an_lf (fun live => am_iload 3 1537)), (1537, an_lf (fun live => am_const (.int 5) 1538)), (1538, an_lf (fun live => am_i2 (fun x y => x + y) 1539)), (1539, an_sld Ln xs 1540), (1540, an_lf (fun live => am_aload 0 1541)), (1541, an_lf (fun live => am_iload 3 1542)), (1542, an_lf (fun live => am_const (.int 6) 1544)), (1544, an_lf (fun live => am_i2 (fun x y => x + y) 1545)), (1545, an_sld Ln xs 1546), (1546, an_lf (fun live => am_callV live 8 6 TV_foretold 1549)), (1549, an_lf (fun live => am_pop2 1550)), (1550, an_lf (fun live => am_goto 1841))]
theorem koL_c28 (Ln : Nat) (xs : Nat → Int32) : ∀ q ∈ kL_c28 Ln xs, an_ok RL cL_law 4 (some .boolean) 2000 80000 600000 7302250 false (lawP Ln xs) an_noR q.1 q.2 :=
  am_kz dzL_c28 <|
  an_kd (fun d => an_lift (fun live => ak_aload_n d rfl rfl)) <|
  an_kd (fun d => an_lift (fun live => ak_aload_n d rfl rfl)) <|
  an_kd (fun d => an_lift (fun live => ak_iload_n d rfl rfl)) <|
  an_kd (fun d => an_lift (fun live => ak_iconst d (by decide +kernel) rfl)) <|
  an_kd (fun d => an_lift (fun live => ak_iadd d rfl)) <|
  an_kd (fun d => nk_sld d rfl) <|
  an_kd (fun d => an_lift (fun live => ak_aload_n d rfl rfl)) <|
  an_kd (fun d => an_lift (fun live => ak_iload_n d rfl rfl)) <|
  an_kd (fun d => an_lift (fun live => ak_iconst d (by decide +kernel) rfl)) <|
  an_kd (fun d => an_lift (fun live => ak_iadd d rfl)) <|
  an_kd (fun d => nk_sld d rfl) <|
  an_kd (fun d => an_lift (fun live => ak_aload_n d rfl rfl)) <|
  an_kd (fun d => an_lift (fun live => ak_iload_n d rfl rfl)) <|
  an_kd (fun d => an_lift (fun live => ak_iconst d (by decide +kernel) rfl)) <|
  an_kd (fun d => an_lift (fun live => ak_iadd d rfl)) <|
  an_kd (fun d => nk_sld d rfl) <|
  an_kd (fun d => an_lift (fun live => ak_aload_n d rfl rfl)) <|
  an_kd (fun d => an_lift (fun live => ak_iload_n d rfl rfl)) <|
  an_kd (fun d => an_lift (fun live => ak_iconst d (by decide +kernel) rfl)) <|
  an_kd (fun d => an_lift (fun live => ak_iadd d rfl)) <|
  an_kd (fun d => nk_sld d rfl) <|
  an_kd (fun d => an_lift (fun live => ak_aload_n d rfl rfl)) <|
  an_kd (fun d => an_lift (fun live => ak_iload_n d rfl rfl)) <|
  an_kd (fun d => an_lift (fun live => ak_iconst d (by decide +kernel) rfl)) <|
  an_kd (fun d => an_lift (fun live => ak_iadd d rfl)) <|
  an_kd (fun d => nk_sld d rfl) <|
  an_kd (fun d => an_lift (fun live => ak_aload_n d rfl rfl)) <|
  an_kd (fun d => an_lift (fun live => ak_iload_n d rfl rfl)) <|
  an_kd (fun d => an_lift (fun live => ak_bipush d (by decide +kernel) rfl)) <|
  an_kd (fun d => an_lift (fun live => ak_iadd d rfl)) <|
  an_kd (fun d => nk_sld d rfl) <|
  an_kd (fun d => an_lift (fun live => ak_callV (C := RX7) (F := TX7) (N := 4) metW_foretold rfl ⟨rfl, hy_X7_foretold⟩ (am_w5 wd_776 wd_777 wd_778 wd_58 wd_779) (by decide) d rfl)) <|
  an_kd (fun d => an_lift (fun live => ak_pop2 d rfl)) <|
  an_kd (fun d => an_lift (fun live => ak_aload_n d rfl rfl)) <|
  an_kd (fun d => an_lift (fun live => ak_aload_n d rfl rfl)) <|
  an_kd (fun d => an_lift (fun live => ak_iload_n d rfl rfl)) <|
  an_kd (fun d => an_lift (fun live => ak_iconst d (by decide +kernel) rfl)) <|
  an_kd (fun d => an_lift (fun live => ak_iadd d rfl)) <|
  an_kd (fun d => nk_sld d rfl) <|
  an_kd (fun d => an_lift (fun live => ak_aload_n d rfl rfl)) <|
  an_kd (fun d => an_lift (fun live => ak_iload_n d rfl rfl)) <|
  an_kd (fun d => an_lift (fun live => ak_iconst d (by decide +kernel) rfl)) <|
  an_kd (fun d => an_lift (fun live => ak_iadd d rfl)) <|
  an_kd (fun d => nk_sld d rfl) <|
  an_kd (fun d => an_lift (fun live => ak_aload_n d rfl rfl)) <|
  an_kd (fun d => an_lift (fun live => ak_iload_n d rfl rfl)) <|
  an_kd (fun d => an_lift (fun live => ak_iconst d (by decide +kernel) rfl)) <|
  an_kd (fun d => an_lift (fun live => ak_iadd d rfl)) <|
  an_kd (fun d => nk_sld d rfl) <|
  an_kd (fun d => an_lift (fun live => ak_aload_n d rfl rfl)) <|
  an_kd (fun d => an_lift (fun live => ak_iload_n d rfl rfl)) <|
  an_kd (fun d => an_lift (fun live => ak_iconst d (by decide +kernel) rfl)) <|
  an_kd (fun d => an_lift (fun live => ak_iadd d rfl)) <|
  an_kd (fun d => nk_sld d rfl) <|
  an_kd (fun d => an_lift (fun live => ak_aload_n d rfl rfl)) <|
  an_kd (fun d => an_lift (fun live => ak_iload_n d rfl rfl)) <|
  an_kd (fun d => an_lift (fun live => ak_iconst d (by decide +kernel) rfl)) <|
  an_kd (fun d => an_lift (fun live => ak_iadd d rfl)) <|
  an_kd (fun d => nk_sld d rfl) <|
  an_kd (fun d => an_lift (fun live => ak_aload_n d rfl rfl)) <|
  an_kd (fun d => an_lift (fun live => ak_iload_n d rfl rfl)) <|
  an_kd (fun d => an_lift (fun live => ak_bipush d (by decide +kernel) rfl)) <|
  an_kd (fun d => an_lift (fun live => ak_iadd d rfl)) <|
  an_kd (fun d => nk_sld d rfl) <|
  an_kd (fun d => an_lift (fun live => ak_callV (C := RX8) (F := TX8) (N := 27) metV_foretold rfl ⟨rfl, hy_X8_foretold⟩ (am_w5 wd_1245 wd_1246 wd_1247 wd_67 wd_1248) (by decide) d rfl)) <|
  an_kd (fun d => an_lift (fun live => ak_pop2 d rfl)) <|
  an_kd (fun d => an_lift (fun live => ak_goto d (by decide +kernel))) <| an_kdn
set_option maxRecDepth 100000 in
set_option maxHeartbeats 4000000 in
theorem caseL_c28 {Ln : Nat} (xs : Nat → Int32) {i : Int32} {i1 i2 : Bool} {kc kn : Nat} {M : am_M} (h : LI i1 i2 M) (hi : lawI Ln i kc kn) : an_wp (kL_c28 Ln xs) (lawC Ln i) 200 (an_go (kL_c28 Ln xs) 1478) (lawL i) [] ((am_lv i1 i2, am_q i1 i2), kc, kn, M) := by
    obtain ⟨⟨f1, f2, f3, f4, f5, f6, f7⟩, k1, k2, k3, k4⟩ := hi.f
    have hmn : am_mn (am_lv i1 i2, am_q i1 i2) := ⟨_, _, rfl⟩
    repeat' (first | (with_reducible exact f1) | (with_reducible exact f2) | (with_reducible exact f3) | (with_reducible exact f4) | (with_reducible exact f5) | (with_reducible exact f6) | (with_reducible exact f7) | (with_reducible exact hmn) | (with_reducible exact h) | (with_reducible exact k1) | (with_reducible exact k2) | (with_reducible exact k3) | (with_reducible exact k4) | apply And.intro | exact rfl | ((with_reducible change r_I _); (with_reducible assumption)) | (intro hx; exact absurd hx (by decide)) | (intro hx; exact absurd (by decide) hx) | decide | intro hx | (refine Exists.intro _ (And.intro rfl ?_)) | (refine Exists.intro _ (Exists.intro _ (And.intro rfl (And.intro rfl ?_)))) | ((with_reducible change LI _ _ _); (with_reducible assumption)) | ((with_reducible change _ = true); simp only [k1, k2, k3, k4, Bool.true_and]; rfl))
    all_goals try first | (with_reducible change am_tI _ _) | (change Ret _ _) | (change Ret _ _ _) | (change Exists _)
    all_goals try dsimp only at *
    all_goals try (with_reducible exact absurd ‹(1000 : Int64) = 0› am_z1000)
    all_goals first
      | exact ⟨_, _, rfl⟩
      | exact lawE.mk hi (by with_reducible assumption) (by omega) (by omega)
      | skip
def rwL_c29 : List dz_r := [(1553, .aload_n 1, 1), (1554, .aload_n 0, 1), (1555, .iload_n 3, 1), (1556, .iconst 1, 1), (1557, .iadd, 1), (1558, .iaload, 1), (1559, .aload_n 0, 1), (1560, .iload_n 3, 1), (1561, .iconst 2, 1), (1562, .iadd, 1), (1563, .iaload, 1), (1564, .aload_n 0, 1), (1565, .iload_n 3, 1), (1566, .iconst 3, 1), (1567, .iadd, 1), (1568, .iaload, 1), (1569, .aload_n 0, 1), (1570, .iload_n 3, 1), (1571, .iconst 4, 1), (1572, .iadd, 1), (1573, .iaload, 1), (1574, .aload_n 0, 1), (1575, .iload_n 3, 1), (1576, .iconst 5, 1), (1577, .iadd, 1), (1578, .iaload, 1), (1579, .invokevirtual 140, 3), (1582, .pop2, 1), (1583, .aload_n 2, 1), (1584, .aload_n 0, 1), (1585, .iload_n 3, 1), (1586, .iconst 1, 1), (1587, .iadd, 1), (1588, .iaload, 1), (1589, .aload_n 0, 1), (1590, .iload_n 3, 1), (1591, .iconst 2, 1), (1592, .iadd, 1), (1593, .iaload, 1), (1594, .aload_n 0, 1), (1595, .iload_n 3, 1), (1596, .iconst 3, 1), (1597, .iadd, 1), (1598, .iaload, 1), (1599, .aload_n 0, 1), (1600, .iload_n 3, 1), (1601, .iconst 4, 1), (1602, .iadd, 1), (1603, .iaload, 1), (1604, .aload_n 0, 1), (1605, .iload_n 3, 1), (1606, .iconst 5, 1), (1607, .iadd, 1), (1608, .iaload, 1), (1609, .invokevirtual 143, 3), (1612, .pop2, 1), (1613, .goto 228, 3)]
theorem dzL_c29 : dz cL_law rwL_c29 := dz_all 1553 (by decide +kernel)
theorem hy_X7_tried : yX7_tried.cls ≠ "java/lang/invoke/MethodHandle" ∧ yX7_tried.cls ≠ "java/lang/invoke/VarHandle" ∧ (parseMethodDescriptor yX7_tried.desc).map (fun d => d.parameters.length) = some 5 := ⟨by decide +kernel, by decide +kernel, by decide +kernel⟩
set_option maxRecDepth 100000 in
theorem wd_800 : Cond.methodLink "LearnLoansLaw" 140 yX7_tried ∈ am_ws := am_wt4 (List.mem_of_getElem? (i := 23) (by rfl)) (by decide +kernel)
set_option maxRecDepth 100000 in
theorem wd_801 : Cond.instanceMethod yX7_tried ∈ am_ws := am_wt4 (List.mem_of_getElem? (i := 24) (by rfl)) (by decide +kernel)
set_option maxRecDepth 100000 in
theorem wd_802 : Cond.selects "LearnLoans" yX7_tried yX7_tried ∈ am_ws := am_wt4 (List.mem_of_getElem? (i := 25) (by rfl)) (by decide +kernel)
set_option maxRecDepth 100000 in
theorem wd_803 : Cond.code yX7_tried cX7_tried 6 (some .long) ∈ am_ws := am_wt4 (List.mem_of_getElem? (i := 26) (by rfl)) (by decide +kernel)
theorem hy_X8_tried : yX8_tried.cls ≠ "java/lang/invoke/MethodHandle" ∧ yX8_tried.cls ≠ "java/lang/invoke/VarHandle" ∧ (parseMethodDescriptor yX8_tried.desc).map (fun d => d.parameters.length) = some 5 := ⟨by decide +kernel, by decide +kernel, by decide +kernel⟩
set_option maxRecDepth 100000 in
theorem wd_1266 : Cond.methodLink "LearnLoansLaw" 143 yX8_tried ∈ am_ws := am_wt6 (List.mem_of_getElem? (i := 9) (by rfl)) (by decide +kernel)
set_option maxRecDepth 100000 in
theorem wd_1267 : Cond.instanceMethod yX8_tried ∈ am_ws := am_wt6 (List.mem_of_getElem? (i := 10) (by rfl)) (by decide +kernel)
set_option maxRecDepth 100000 in
theorem wd_1268 : Cond.selects "LearnLoansModel" yX8_tried yX8_tried ∈ am_ws := am_wt6 (List.mem_of_getElem? (i := 11) (by rfl)) (by decide +kernel)
set_option maxRecDepth 100000 in
theorem wd_1269 : Cond.code yX8_tried cX8_tried 6 (some .long) ∈ am_ws := am_wt6 (List.mem_of_getElem? (i := 12) (by rfl)) (by decide +kernel)
def kL_c29 (Ln : Nat) (xs : Nat → Int32) : an_code := [(1553, an_lf (fun live => am_aload 1 1554)), (1554, an_lf (fun live => am_aload 0 1555)), (1555, an_lf (fun live => am_iload 3 1556)), (1556, an_lf (fun live => am_const (.int 1) 1557)), (1557, an_lf (fun live => am_i2 (fun x y => x + y) 1558)), (1558, an_sld Ln xs 1559), (1559, an_lf (fun live => am_aload 0 1560)), (1560, an_lf (fun live => am_iload 3 1561)), (1561, an_lf (fun live => am_const (.int 2) 1562)), (1562, an_lf (fun live => am_i2 (fun x y => x + y) 1563)), (1563, an_sld Ln xs 1564), (1564, an_lf (fun live => am_aload 0 1565)), (1565, an_lf (fun live => am_iload 3 1566)), (1566, an_lf (fun live => am_const (.int 3) 1567)), (1567, an_lf (fun live => am_i2 (fun x y => x + y) 1568)), (1568, an_sld Ln xs 1569), (1569, an_lf (fun live => am_aload 0 1570)), (1570, an_lf (fun live => am_iload 3 1571)), (1571, an_lf (fun live => am_const (.int 4) 1572)), (1572, an_lf (fun live => am_i2 (fun x y => x + y) 1573)), (1573, an_sld Ln xs 1574), (1574, an_lf (fun live => am_aload 0 1575)), (1575, an_lf (fun live => am_iload 3 1576)), (1576, an_lf (fun live => am_const (.int 5) 1577)), (1577, an_lf (fun live => am_i2 (fun x y => x + y) 1578)), (1578, an_sld Ln xs 1579), (1579, an_lf (fun live => am_callV live 7 5 TW_tried 1582)), (1582, an_lf (fun live => am_pop2 1583)), (1583, an_lf (fun live => am_aload 2 1584)), (1584, an_lf (fun live => am_aload 0 1585)), (1585, an_lf (fun live => am_iload 3 1586)), (1586, an_lf (fun live => am_const (.int 1) 1587)), (1587, an_lf (fun live => am_i2 (fun x y => x + y) 1588)), (1588, an_sld Ln xs 1589), (1589, an_lf (fun live => am_aload 0 1590)), (1590, an_lf (fun live => am_iload 3 1591)), (1591, an_lf (fun live => am_const (.int 2) 1592)), (1592, an_lf (fun live => am_i2 (fun x y => x + y) 1593)), (1593, an_sld Ln xs 1594), (1594, an_lf (fun live => am_aload 0 1595)), (1595, an_lf (fun live => am_iload 3 1596)), (1596, an_lf (fun live => am_const (.int 3) 1597)), (1597, an_lf (fun live => am_i2 (fun x y => x + y) 1598)), (1598, an_sld Ln xs 1599), (1599, an_lf (fun live => am_aload 0 1600)), (1600, an_lf (fun live => am_iload 3 1601)), (1601, an_lf (fun live => am_const (.int 4) 1602)), (1602, an_lf (fun live => am_i2 (fun x y => x + y) 1603)), (1603, an_sld Ln xs 1604), (1604, an_lf (fun live => am_aload 0 1605)), (1605, an_lf (fun live => am_iload 3 1606)), (1606, an_lf (fun live => am_const (.int 5) 1607)), (1607, an_lf (fun live => am_i2 (fun x y => x + y) 1608)), (1608, an_sld Ln xs 1609), (1609, an_lf (fun live => am_callV live 8 5 TV_tried 1612)), (1612, an_lf (fun live => am_pop2 1613)), (1613, an_lf (fun live => am_goto 1841))]
theorem koL_c29 (Ln : Nat) (xs : Nat → Int32) : ∀ q ∈ kL_c29 Ln xs, an_ok RL cL_law 4 (some .boolean) 2000 80000 600000 7302250 false (lawP Ln xs) an_noR q.1 q.2 :=
  am_kz dzL_c29 <|
  an_kd (fun d => an_lift (fun live => ak_aload_n d rfl rfl)) <|
  an_kd (fun d => an_lift (fun live => ak_aload_n d rfl rfl)) <|
  an_kd (fun d => an_lift (fun live => ak_iload_n d rfl rfl)) <|
  an_kd (fun d => an_lift (fun live => ak_iconst d (by decide +kernel) rfl)) <|
  an_kd (fun d => an_lift (fun live => ak_iadd d rfl)) <|
  an_kd (fun d => nk_sld d rfl) <|
  an_kd (fun d => an_lift (fun live => ak_aload_n d rfl rfl)) <|
  an_kd (fun d => an_lift (fun live => ak_iload_n d rfl rfl)) <|
  an_kd (fun d => an_lift (fun live => ak_iconst d (by decide +kernel) rfl)) <|
  an_kd (fun d => an_lift (fun live => ak_iadd d rfl)) <|
  an_kd (fun d => nk_sld d rfl) <|
  an_kd (fun d => an_lift (fun live => ak_aload_n d rfl rfl)) <|
  an_kd (fun d => an_lift (fun live => ak_iload_n d rfl rfl)) <|
  an_kd (fun d => an_lift (fun live => ak_iconst d (by decide +kernel) rfl)) <|
  an_kd (fun d => an_lift (fun live => ak_iadd d rfl)) <|
  an_kd (fun d => nk_sld d rfl) <|
  an_kd (fun d => an_lift (fun live => ak_aload_n d rfl rfl)) <|
  an_kd (fun d => an_lift (fun live => ak_iload_n d rfl rfl)) <|
  an_kd (fun d => an_lift (fun live => ak_iconst d (by decide +kernel) rfl)) <|
  an_kd (fun d => an_lift (fun live => ak_iadd d rfl)) <|
  an_kd (fun d => nk_sld d rfl) <|
  an_kd (fun d => an_lift (fun live => ak_aload_n d rfl rfl)) <|
  an_kd (fun d => an_lift (fun live => ak_iload_n d rfl rfl)) <|
  an_kd (fun d => an_lift (fun live => ak_iconst d (by decide +kernel) rfl)) <|
  an_kd (fun d => an_lift (fun live => ak_iadd d rfl)) <|
  an_kd (fun d => nk_sld d rfl) <|
  an_kd (fun d => an_lift (fun live => ak_callV (C := RX7) (F := TX7) (N := 4) metW_tried rfl ⟨rfl, hy_X7_tried⟩ (am_w5 wd_800 wd_801 wd_802 wd_58 wd_803) (by decide) d rfl)) <|
  an_kd (fun d => an_lift (fun live => ak_pop2 d rfl)) <|
  an_kd (fun d => an_lift (fun live => ak_aload_n d rfl rfl)) <|
  an_kd (fun d => an_lift (fun live => ak_aload_n d rfl rfl)) <|
  an_kd (fun d => an_lift (fun live => ak_iload_n d rfl rfl)) <|
  an_kd (fun d => an_lift (fun live => ak_iconst d (by decide +kernel) rfl)) <|
  an_kd (fun d => an_lift (fun live => ak_iadd d rfl)) <|
  an_kd (fun d => nk_sld d rfl) <|
  an_kd (fun d => an_lift (fun live => ak_aload_n d rfl rfl)) <|
  an_kd (fun d => an_lift (fun live => ak_iload_n d rfl rfl)) <|
  an_kd (fun d => an_lift (fun live => ak_iconst d (by decide +kernel) rfl)) <|
  an_kd (fun d => an_lift (fun live => ak_iadd d rfl)) <|
  an_kd (fun d => nk_sld d rfl) <|
  an_kd (fun d => an_lift (fun live => ak_aload_n d rfl rfl)) <|
  an_kd (fun d => an_lift (fun live => ak_iload_n d rfl rfl)) <|
  an_kd (fun d => an_lift (fun live => ak_iconst d (by decide +kernel) rfl)) <|
  an_kd (fun d => an_lift (fun live => ak_iadd d rfl)) <|
  an_kd (fun d => nk_sld d rfl) <|
  an_kd (fun d => an_lift (fun live => ak_aload_n d rfl rfl)) <|
  an_kd (fun d => an_lift (fun live => ak_iload_n d rfl rfl)) <|
  an_kd (fun d => an_lift (fun live => ak_iconst d (by decide +kernel) rfl)) <|
  an_kd (fun d => an_lift (fun live => ak_iadd d rfl)) <|
  an_kd (fun d => nk_sld d rfl) <|
  an_kd (fun d => an_lift (fun live => ak_aload_n d rfl rfl)) <|
  an_kd (fun d => an_lift (fun live => ak_iload_n d rfl rfl)) <|
  an_kd (fun d => an_lift (fun live => ak_iconst d (by decide +kernel) rfl)) <|
  an_kd (fun d => an_lift (fun live => ak_iadd d rfl)) <|
  an_kd (fun d => nk_sld d rfl) <|
  an_kd (fun d => an_lift (fun live => ak_callV (C := RX8) (F := TX8) (N := 27) metV_tried rfl ⟨rfl, hy_X8_tried⟩ (am_w5 wd_1266 wd_1267 wd_1268 wd_67 wd_1269) (by decide) d rfl)) <|
  an_kd (fun d => an_lift (fun live => ak_pop2 d rfl)) <|
  an_kd (fun d => an_lift (fun live => ak_goto d (by decide +kernel))) <| an_kdn
set_option maxRecDepth 100000 in
set_option maxHeartbeats 4000000 in
theorem caseL_c29 {Ln : Nat} (xs : Nat → Int32) {i : Int32} {i1 i2 : Bool} {kc kn : Nat} {M : am_M} (h : LI i1 i2 M) (hi : lawI Ln i kc kn) : an_wp (kL_c29 Ln xs) (lawC Ln i) 200 (an_go (kL_c29 Ln xs) 1553) (lawL i) [] ((am_lv i1 i2, am_q i1 i2), kc, kn, M) := by
    obtain ⟨⟨f1, f2, f3, f4, f5, f6, f7⟩, k1, k2, k3, k4⟩ := hi.f
    have hmn : am_mn (am_lv i1 i2, am_q i1 i2) := ⟨_, _, rfl⟩
    repeat' (first | (with_reducible exact f1) | (with_reducible exact f2) | (with_reducible exact f3) | (with_reducible exact f4) | (with_reducible exact f5) | (with_reducible exact f6) | (with_reducible exact f7) | (with_reducible exact hmn) | (with_reducible exact h) | (with_reducible exact k1) | (with_reducible exact k2) | (with_reducible exact k3) | (with_reducible exact k4) | apply And.intro | exact rfl | ((with_reducible change r_I _); (with_reducible assumption)) | (intro hx; exact absurd hx (by decide)) | (intro hx; exact absurd (by decide) hx) | decide | intro hx | (refine Exists.intro _ (And.intro rfl ?_)) | (refine Exists.intro _ (Exists.intro _ (And.intro rfl (And.intro rfl ?_)))) | ((with_reducible change LI _ _ _); (with_reducible assumption)) | ((with_reducible change _ = true); simp only [k1, k2, k3, k4, Bool.true_and]; rfl))
    all_goals try first | (with_reducible change am_tI _ _) | (change Ret _ _) | (change Ret _ _ _) | (change Exists _)
    all_goals try dsimp only at *
    all_goals try (with_reducible exact absurd ‹(1000 : Int64) = 0› am_z1000)
    all_goals first
      | exact ⟨_, _, rfl⟩
      | exact lawE.mk hi (by with_reducible assumption) (by omega) (by omega)
      | skip
