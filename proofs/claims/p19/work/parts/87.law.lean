/-! the law: cases 24 to 29 -/
def rwL_c24 : List dz_r := [(1247, .aload_n 1, 1), (1248, .aload_n 0, 1), (1249, .iload_n 3, 1), (1250, .iconst 1, 1), (1251, .iadd, 1), (1252, .iaload, 1), (1253, .aload_n 0, 1), (1254, .iload_n 3, 1), (1255, .iconst 2, 1), (1256, .iadd, 1), (1257, .iaload, 1), (1258, .aload_n 0, 1), (1259, .iload_n 3, 1), (1260, .iconst 3, 1), (1261, .iadd, 1), (1262, .iaload, 1), (1263, .aload_n 0, 1), (1264, .iload_n 3, 1), (1265, .iconst 4, 1), (1266, .iadd, 1), (1267, .iaload, 1), (1268, .invokevirtual 117, 3), (1271, .pop, 1), (1272, .aload_n 2, 1), (1273, .aload_n 0, 1), (1274, .iload_n 3, 1), (1275, .iconst 1, 1), (1276, .iadd, 1), (1277, .iaload, 1), (1278, .aload_n 0, 1), (1279, .iload_n 3, 1), (1280, .iconst 2, 1), (1281, .iadd, 1), (1282, .iaload, 1), (1283, .aload_n 0, 1), (1284, .iload_n 3, 1), (1285, .iconst 3, 1), (1286, .iadd, 1), (1287, .iaload, 1), (1288, .aload_n 0, 1), (1289, .iload_n 3, 1), (1290, .iconst 4, 1), (1291, .iadd, 1), (1292, .iaload, 1), (1293, .invokevirtual 120, 3), (1296, .pop, 1), (1297, .goto 545, 3)]
theorem dzL_c24 : dz cL_law rwL_c24 := dz_all 1247 (by decide +kernel)
theorem hy_X7_live : yX7_live.cls ≠ "java/lang/invoke/MethodHandle" ∧ yX7_live.cls ≠ "java/lang/invoke/VarHandle" ∧ (parseMethodDescriptor yX7_live.desc).map (fun d => d.parameters.length) = some 4 := ⟨by decide +kernel, by decide +kernel, by decide +kernel⟩
set_option maxRecDepth 100000 in
theorem wd_752 : Cond.methodLink "LearnLoansLaw" 117 yX7_live ∈ am_ws := am_wt3 (List.mem_of_getElem? (i := 215) (by rfl)) (by decide +kernel)
set_option maxRecDepth 100000 in
theorem wd_753 : Cond.instanceMethod yX7_live ∈ am_ws := am_wt3 (List.mem_of_getElem? (i := 216) (by rfl)) (by decide +kernel)
set_option maxRecDepth 100000 in
theorem wd_754 : Cond.selects "LearnLoans" yX7_live yX7_live ∈ am_ws := am_wt3 (List.mem_of_getElem? (i := 217) (by rfl)) (by decide +kernel)
set_option maxRecDepth 100000 in
theorem wd_755 : Cond.code yX7_live cX7_live 5 (some .int) ∈ am_ws := am_wt3 (List.mem_of_getElem? (i := 218) (by rfl)) (by decide +kernel)
theorem hy_X8_live : yX8_live.cls ≠ "java/lang/invoke/MethodHandle" ∧ yX8_live.cls ≠ "java/lang/invoke/VarHandle" ∧ (parseMethodDescriptor yX8_live.desc).map (fun d => d.parameters.length) = some 4 := ⟨by decide +kernel, by decide +kernel, by decide +kernel⟩
set_option maxRecDepth 100000 in
theorem wd_1221 : Cond.methodLink "LearnLoansLaw" 120 yX8_live ∈ am_ws := am_wt5 (List.mem_of_getElem? (i := 204) (by rfl)) (by decide +kernel)
set_option maxRecDepth 100000 in
theorem wd_1222 : Cond.instanceMethod yX8_live ∈ am_ws := am_wt5 (List.mem_of_getElem? (i := 205) (by rfl)) (by decide +kernel)
set_option maxRecDepth 100000 in
theorem wd_1223 : Cond.selects "LearnLoansModel" yX8_live yX8_live ∈ am_ws := am_wt5 (List.mem_of_getElem? (i := 206) (by rfl)) (by decide +kernel)
set_option maxRecDepth 100000 in
theorem wd_1224 : Cond.code yX8_live cX8_live 6 (some .int) ∈ am_ws := am_wt5 (List.mem_of_getElem? (i := 207) (by rfl)) (by decide +kernel)
def kL_c24 (Ln : Nat) (xs : Nat → Int32) : an_code := [(1247, an_lf (fun live => am_aload 1 1248)), (1248, an_lf (fun live => am_aload 0 1249)), (1249, an_lf (fun live => am_iload 3 1250)), (1250, an_lf (fun live => am_const (.int 1) 1251)), (1251, an_lf (fun live => am_i2 (fun x y => x + y) 1252)), (1252, an_sld Ln xs 1253), (1253, an_lf (fun live => am_aload 0 1254)), (1254, an_lf (fun live => am_iload 3 1255)), (1255, an_lf (fun live => am_const (.int 2) 1256)), (1256, an_lf (fun live => am_i2 (fun x y => x + y) 1257)), (1257, an_sld Ln xs 1258), (1258, an_lf (fun live => am_aload 0 1259)), (1259, an_lf (fun live => am_iload 3 1260)), (1260, an_lf (fun live => am_const (.int 3) 1261)), (1261, an_lf (fun live => am_i2 (fun x y => x + y) 1262)), (1262, an_sld Ln xs 1263), (1263, an_lf (fun live => am_aload 0 1264)), (1264, an_lf (fun live => am_iload 3 1265)), (1265, an_lf (fun live => am_const (.int 4) 1266)), (1266, an_lf (fun live => am_i2 (fun x y => x + y) 1267)), (1267, an_sld Ln xs 1268), (1268, an_lf (fun live => am_callV live 7 4 TW_live 1271)), (1271, an_lf (fun live => am_pop 1272)), (1272, an_lf (fun live => am_aload 2 1273)), (1273, an_lf (fun live => am_aload 0 1274)), (1274, an_lf (fun live => am_iload 3 1275)), (1275, an_lf (fun live => am_const (.int 1) 1276)), (1276, an_lf (fun live => am_i2 (fun x y => x + y) 1277)), (1277, an_sld Ln xs 1278), (1278, an_lf (fun live => am_aload 0 1279)), (1279, an_lf (fun live => am_iload 3 1280)), (1280, an_lf (fun live => am_const (.int 2) 1281)), (1281, an_lf (fun live => am_i2 (fun x y => x + y) 1282)), (1282, an_sld Ln xs 1283), (1283, an_lf (fun live => am_aload 0 1284)), (1284, an_lf (fun live => am_iload 3 1285)), (1285, an_lf (fun live => am_const (.int 3) 1286)), (1286, an_lf (fun live => am_i2 (fun x y => x + y) 1287)), (1287, an_sld Ln xs 1288), (1288, an_lf (fun live => am_aload 0 1289)), (1289, an_lf (fun live => am_iload 3 1290)), (1290, an_lf (fun live => am_const (.int 4) 1291)), (1291, an_lf (fun live => am_i2 (fun x y => x + y) 1292)), (1292, an_sld Ln xs 1293), (1293, an_lf (fun live => am_callV live 8 4 TX8_live 1296)), (1296, an_lf (fun live => am_pop 1297)), (1297, an_lf (fun live => am_goto 1842))]
theorem koL_c24 (Ln : Nat) (xs : Nat → Int32) : ∀ q ∈ kL_c24 Ln xs, an_ok RL cL_law 4 (some .boolean) 2000 80000 600000 7302250 false (lawP Ln xs) an_noR q.1 q.2 :=
  am_kz dzL_c24 <|
  an_kd (fun d => an_lift (fun live => ak_aload_n d rfl rfl)) <|
  an_kd (fun d => an_lift (fun live => ak_aload_n d rfl rfl)) <|
  an_kd (fun d => an_lift (fun live => ak_iload_n d rfl rfl)) <|
  an_kd (fun d => an_lift (fun live => ak_iconst d (by decide +kernel) rfl)) <|
  an_kd (fun d => an_lift (fun live => ak_iadd d rfl)) <|
  an_kd (fun d => nk_sld d rfl) <|
  an_kd (fun d => an_lift (fun live => ak_aload_n d rfl rfl)) <|
  an_kd (fun d => an_lift (fun live => ak_iload_n d rfl rfl)) <|
  an_kd (fun d => an_lift (fun live => ak_iconst d (by decide +kernel) rfl)) <|
  an_kd (fun d => an_lift (fun live => ak_iadd d rfl)) <|
  an_kd (fun d => nk_sld d rfl) <|
  an_kd (fun d => an_lift (fun live => ak_aload_n d rfl rfl)) <|
  an_kd (fun d => an_lift (fun live => ak_iload_n d rfl rfl)) <|
  an_kd (fun d => an_lift (fun live => ak_iconst d (by decide +kernel) rfl)) <|
  an_kd (fun d => an_lift (fun live => ak_iadd d rfl)) <|
  an_kd (fun d => nk_sld d rfl) <|
  an_kd (fun d => an_lift (fun live => ak_aload_n d rfl rfl)) <|
  an_kd (fun d => an_lift (fun live => ak_iload_n d rfl rfl)) <|
  an_kd (fun d => an_lift (fun live => ak_iconst d (by decide +kernel) rfl)) <|
  an_kd (fun d => an_lift (fun live => ak_iadd d rfl)) <|
  an_kd (fun d => nk_sld d rfl) <|
  an_kd (fun d => an_lift (fun live => ak_callV (C := RX7) (F := TX7) (N := 4) metW_live rfl ⟨rfl, hy_X7_live⟩ (am_w5 wd_752 wd_753 wd_754 wd_58 wd_755) (by decide) d rfl)) <|
  an_kd (fun d => an_lift (fun live => ak_pop d rfl)) <|
  an_kd (fun d => an_lift (fun live => ak_aload_n d rfl rfl)) <|
  an_kd (fun d => an_lift (fun live => ak_aload_n d rfl rfl)) <|
  an_kd (fun d => an_lift (fun live => ak_iload_n d rfl rfl)) <|
  an_kd (fun d => an_lift (fun live => ak_iconst d (by decide +kernel) rfl)) <|
  an_kd (fun d => an_lift (fun live => ak_iadd d rfl)) <|
  an_kd (fun d => nk_sld d rfl) <|
  an_kd (fun d => an_lift (fun live => ak_aload_n d rfl rfl)) <|
  an_kd (fun d => an_lift (fun live => ak_iload_n d rfl rfl)) <|
  an_kd (fun d => an_lift (fun live => ak_iconst d (by decide +kernel) rfl)) <|
  an_kd (fun d => an_lift (fun live => ak_iadd d rfl)) <|
  an_kd (fun d => nk_sld d rfl) <|
  an_kd (fun d => an_lift (fun live => ak_aload_n d rfl rfl)) <|
  an_kd (fun d => an_lift (fun live => ak_iload_n d rfl rfl)) <|
  an_kd (fun d => an_lift (fun live => ak_iconst d (by decide +kernel) rfl)) <|
  an_kd (fun d => an_lift (fun live => ak_iadd d rfl)) <|
  an_kd (fun d => nk_sld d rfl) <|
  an_kd (fun d => an_lift (fun live => ak_aload_n d rfl rfl)) <|
  an_kd (fun d => an_lift (fun live => ak_iload_n d rfl rfl)) <|
  an_kd (fun d => an_lift (fun live => ak_iconst d (by decide +kernel) rfl)) <|
  an_kd (fun d => an_lift (fun live => ak_iadd d rfl)) <|
  an_kd (fun d => nk_sld d rfl) <|
  an_kd (fun d => an_lift (fun live => ak_callV (C := RX8) (F := TX8) (N := 27) metX8_live rfl ⟨rfl, hy_X8_live⟩ (am_w5 wd_1221 wd_1222 wd_1223 wd_67 wd_1224) (by decide) d rfl)) <|
  an_kd (fun d => an_lift (fun live => ak_pop d rfl)) <|
  an_kd (fun d => an_lift (fun live => ak_goto d (by decide +kernel))) <| an_kdn
set_option maxRecDepth 100000 in
set_option maxHeartbeats 4000000 in
theorem caseL_c24 {Ln : Nat} (xs : Nat → Int32) {i : Int32} {i1 i2 : Bool} {kc kn : Nat} {M : am_M} (h : LX i1 i2 M) (hi : lawI Ln i kc kn) : an_wp (kL_c24 Ln xs) (lawC Ln i) 200 (an_go (kL_c24 Ln xs) 1247) (lawL i) [] ((am_lv i1 i2, am_q i1 i2), kc, kn, M) := by
    obtain ⟨⟨f1, f2, f3, f4, f5, f6, f7⟩, k1, k2, k3, k4⟩ := hi.f
    have hmn : am_mn (am_lv i1 i2, am_q i1 i2) := ⟨_, _, rfl⟩
    repeat' (first | (with_reducible exact f1) | (with_reducible exact f2) | (with_reducible exact f3) | (with_reducible exact f4) | (with_reducible exact f5) | (with_reducible exact f6) | (with_reducible exact f7) | (with_reducible exact hmn) | (with_reducible exact h) | (with_reducible exact k1) | (with_reducible exact k2) | (with_reducible exact k3) | (with_reducible exact k4) | apply And.intro | exact rfl | ((with_reducible change r_I _); (with_reducible assumption)) | (intro hx; exact absurd hx (by decide)) | (intro hx; exact absurd (by decide) hx) | decide | intro hx | (refine Exists.intro _ (And.intro rfl ?_)) | (refine Exists.intro _ (Exists.intro _ (And.intro rfl (And.intro rfl ?_)))) | ((with_reducible change LX _ _ _); (with_reducible assumption)) | ((with_reducible change _ = true); simp only [k1, k2, k3, k4, Bool.true_and]; rfl))
    all_goals try first | (with_reducible change am_tI _ _) | (change Ret _ _) | (change Ret _ _ _) | (change Exists _)
    all_goals try dsimp only at *
    all_goals try (with_reducible exact absurd ‹(1000 : Int64) = 0› am_z1000)
    all_goals first
      | exact ⟨_, _, rfl⟩
      | exact lawE.mk hi (by with_reducible assumption) (by omega) (by omega)
      | skip
def rwL_c25 : List dz_r := [(1300, .aload_n 1, 1), (1301, .aload_n 0, 1), (1302, .iload_n 3, 1), (1303, .iconst 1, 1), (1304, .iadd, 1), (1305, .iaload, 1), (1306, .aload_n 0, 1), (1307, .iload_n 3, 1), (1308, .iconst 2, 1), (1309, .iadd, 1), (1310, .iaload, 1), (1311, .aload_n 0, 1), (1312, .iload_n 3, 1), (1313, .iconst 3, 1), (1314, .iadd, 1), (1315, .iaload, 1), (1316, .aload_n 0, 1), (1317, .iload_n 3, 1), (1318, .iconst 4, 1), (1319, .iadd, 1), (1320, .iaload, 1), (1321, .invokevirtual 121, 3), (1324, .pop, 1), (1325, .aload_n 2, 1), (1326, .aload_n 0, 1), (1327, .iload_n 3, 1), (1328, .iconst 1, 1), (1329, .iadd, 1), (1330, .iaload, 1), (1331, .aload_n 0, 1), (1332, .iload_n 3, 1), (1333, .iconst 2, 1), (1334, .iadd, 1), (1335, .iaload, 1), (1336, .aload_n 0, 1), (1337, .iload_n 3, 1), (1338, .iconst 3, 1), (1339, .iadd, 1), (1340, .iaload, 1), (1341, .aload_n 0, 1), (1342, .iload_n 3, 1), (1343, .iconst 4, 1), (1344, .iadd, 1), (1345, .iaload, 1), (1346, .invokevirtual 124, 3), (1349, .pop, 1), (1350, .goto 492, 3)]
theorem dzL_c25 : dz cL_law rwL_c25 := dz_all 1300 (by decide +kernel)
theorem hy_X7_early : yX7_early.cls ≠ "java/lang/invoke/MethodHandle" ∧ yX7_early.cls ≠ "java/lang/invoke/VarHandle" ∧ (parseMethodDescriptor yX7_early.desc).map (fun d => d.parameters.length) = some 4 := ⟨by decide +kernel, by decide +kernel, by decide +kernel⟩
set_option maxRecDepth 100000 in
theorem wd_756 : Cond.methodLink "LearnLoansLaw" 121 yX7_early ∈ am_ws := am_wt3 (List.mem_of_getElem? (i := 219) (by rfl)) (by decide +kernel)
set_option maxRecDepth 100000 in
theorem wd_757 : Cond.instanceMethod yX7_early ∈ am_ws := am_wt3 (List.mem_of_getElem? (i := 220) (by rfl)) (by decide +kernel)
set_option maxRecDepth 100000 in
theorem wd_758 : Cond.selects "LearnLoans" yX7_early yX7_early ∈ am_ws := am_wt3 (List.mem_of_getElem? (i := 221) (by rfl)) (by decide +kernel)
set_option maxRecDepth 100000 in
theorem wd_759 : Cond.code yX7_early cX7_early 11 (some .int) ∈ am_ws := am_wt3 (List.mem_of_getElem? (i := 222) (by rfl)) (by decide +kernel)
theorem hy_X8_early : yX8_early.cls ≠ "java/lang/invoke/MethodHandle" ∧ yX8_early.cls ≠ "java/lang/invoke/VarHandle" ∧ (parseMethodDescriptor yX8_early.desc).map (fun d => d.parameters.length) = some 4 := ⟨by decide +kernel, by decide +kernel, by decide +kernel⟩
set_option maxRecDepth 100000 in
theorem wd_1228 : Cond.methodLink "LearnLoansLaw" 124 yX8_early ∈ am_ws := am_wt5 (List.mem_of_getElem? (i := 211) (by rfl)) (by decide +kernel)
set_option maxRecDepth 100000 in
theorem wd_1229 : Cond.instanceMethod yX8_early ∈ am_ws := am_wt5 (List.mem_of_getElem? (i := 212) (by rfl)) (by decide +kernel)
set_option maxRecDepth 100000 in
theorem wd_1230 : Cond.selects "LearnLoansModel" yX8_early yX8_early ∈ am_ws := am_wt5 (List.mem_of_getElem? (i := 213) (by rfl)) (by decide +kernel)
set_option maxRecDepth 100000 in
theorem wd_1231 : Cond.code yX8_early cX8_early 7 (some .int) ∈ am_ws := am_wt5 (List.mem_of_getElem? (i := 214) (by rfl)) (by decide +kernel)
def kL_c25 (Ln : Nat) (xs : Nat → Int32) : an_code := [(1300, an_lf (fun live => am_aload 1 1301)), (1301, an_lf (fun live => am_aload 0 1302)), (1302, an_lf (fun live => am_iload 3 1303)), (1303, an_lf (fun live => am_const (.int 1) 1304)), (1304, an_lf (fun live => am_i2 (fun x y => x + y) 1305)), (1305, an_sld Ln xs 1306), (1306, an_lf (fun live => am_aload 0 1307)), (1307, an_lf (fun live => am_iload 3 1308)), (1308, an_lf (fun live => am_const (.int 2) 1309)), (1309, an_lf (fun live => am_i2 (fun x y => x + y) 1310)), (1310, an_sld Ln xs 1311), (1311, an_lf (fun live => am_aload 0 1312)), (1312, an_lf (fun live => am_iload 3 1313)), (1313, an_lf (fun live => am_const (.int 3) 1314)), (1314, an_lf (fun live => am_i2 (fun x y => x + y) 1315)), (1315, an_sld Ln xs 1316), (1316, an_lf (fun live => am_aload 0 1317)), (1317, an_lf (fun live => am_iload 3 1318)), (1318, an_lf (fun live => am_const (.int 4) 1319)), (1319, an_lf (fun live => am_i2 (fun x y => x + y) 1320)), (1320, an_sld Ln xs 1321), (1321, an_lf (fun live => am_callV live 7 4 TW_early 1324)), (1324, an_lf (fun live => am_pop 1325)), (1325, an_lf (fun live => am_aload 2 1326)), (1326, an_lf (fun live => am_aload 0 1327)), (1327, an_lf (fun live => am_iload 3 1328)), (1328, an_lf (fun live => am_const (.int 1) 1329)), (1329, an_lf (fun live => am_i2 (fun x y => x + y) 1330)), (1330, an_sld Ln xs 1331), (1331, an_lf (fun live => am_aload 0 1332)), (1332, an_lf (fun live => am_iload 3 1333)), (1333, an_lf (fun live => am_const (.int 2) 1334)), (1334, an_lf (fun live => am_i2 (fun x y => x + y) 1335)), (1335, an_sld Ln xs 1336), (1336, an_lf (fun live => am_aload 0 1337)), (1337, an_lf (fun live => am_iload 3 1338)), (1338, an_lf (fun live => am_const (.int 3) 1339)), (1339, an_lf (fun live => am_i2 (fun x y => x + y) 1340)), (1340, an_sld Ln xs 1341), (1341, an_lf (fun live => am_aload 0 1342)), (1342, an_lf (fun live => am_iload 3 1343)), (1343, an_lf (fun live => am_const (.int 4) 1344)), (1344, an_lf (fun live => am_i2 (fun x y => x + y) 1345)), (1345, an_sld Ln xs 1346), (1346, an_lf (fun live => am_callV live 8 4 TV_early 1349)), (1349, an_lf (fun live => am_pop 1350)), (1350, an_lf (fun live => am_goto 1842))]
theorem koL_c25 (Ln : Nat) (xs : Nat → Int32) : ∀ q ∈ kL_c25 Ln xs, an_ok RL cL_law 4 (some .boolean) 2000 80000 600000 7302250 false (lawP Ln xs) an_noR q.1 q.2 :=
  am_kz dzL_c25 <|
  an_kd (fun d => an_lift (fun live => ak_aload_n d rfl rfl)) <|
  an_kd (fun d => an_lift (fun live => ak_aload_n d rfl rfl)) <|
  an_kd (fun d => an_lift (fun live => ak_iload_n d rfl rfl)) <|
  an_kd (fun d => an_lift (fun live => ak_iconst d (by decide +kernel) rfl)) <|
  an_kd (fun d => an_lift (fun live => ak_iadd d rfl)) <|
  an_kd (fun d => nk_sld d rfl) <|
  an_kd (fun d => an_lift (fun live => ak_aload_n d rfl rfl)) <|
  an_kd (fun d => an_lift (fun live => ak_iload_n d rfl rfl)) <|
  an_kd (fun d => an_lift (fun live => ak_iconst d (by decide +kernel) rfl)) <|
  an_kd (fun d => an_lift (fun live => ak_iadd d rfl)) <|
  an_kd (fun d => nk_sld d rfl) <|
  an_kd (fun d => an_lift (fun live => ak_aload_n d rfl rfl)) <|
  an_kd (fun d => an_lift (fun live => ak_iload_n d rfl rfl)) <|
  an_kd (fun d => an_lift (fun live => ak_iconst d (by decide +kernel) rfl)) <|
  an_kd (fun d => an_lift (fun live => ak_iadd d rfl)) <|
  an_kd (fun d => nk_sld d rfl) <|
  an_kd (fun d => an_lift (fun live => ak_aload_n d rfl rfl)) <|
  an_kd (fun d => an_lift (fun live => ak_iload_n d rfl rfl)) <|
  an_kd (fun d => an_lift (fun live => ak_iconst d (by decide +kernel) rfl)) <|
  an_kd (fun d => an_lift (fun live => ak_iadd d rfl)) <|
  an_kd (fun d => nk_sld d rfl) <|
  an_kd (fun d => an_lift (fun live => ak_callV (C := RX7) (F := TX7) (N := 4) metW_early rfl ⟨rfl, hy_X7_early⟩ (am_w5 wd_756 wd_757 wd_758 wd_58 wd_759) (by decide) d rfl)) <|
  an_kd (fun d => an_lift (fun live => ak_pop d rfl)) <|
  an_kd (fun d => an_lift (fun live => ak_aload_n d rfl rfl)) <|
  an_kd (fun d => an_lift (fun live => ak_aload_n d rfl rfl)) <|
  an_kd (fun d => an_lift (fun live => ak_iload_n d rfl rfl)) <|
  an_kd (fun d => an_lift (fun live => ak_iconst d (by decide +kernel) rfl)) <|
  an_kd (fun d => an_lift (fun live => ak_iadd d rfl)) <|
  an_kd (fun d => nk_sld d rfl) <|
  an_kd (fun d => an_lift (fun live => ak_aload_n d rfl rfl)) <|
  an_kd (fun d => an_lift (fun live => ak_iload_n d rfl rfl)) <|
  an_kd (fun d => an_lift (fun live => ak_iconst d (by decide +kernel) rfl)) <|
  an_kd (fun d => an_lift (fun live => ak_iadd d rfl)) <|
  an_kd (fun d => nk_sld d rfl) <|
  an_kd (fun d => an_lift (fun live => ak_aload_n d rfl rfl)) <|
  an_kd (fun d => an_lift (fun live => ak_iload_n d rfl rfl)) <|
  an_kd (fun d => an_lift (fun live => ak_iconst d (by decide +kernel) rfl)) <|
  an_kd (fun d => an_lift (fun live => ak_iadd d rfl)) <|
  an_kd (fun d => nk_sld d rfl) <|
  an_kd (fun d => an_lift (fun live => ak_aload_n d rfl rfl)) <|
  an_kd (fun d => an_lift (fun live => ak_iload_n d rfl rfl)) <|
  an_kd (fun d => an_lift (fun live => ak_iconst d (by decide +kernel) rfl)) <|
  an_kd (fun d => an_lift (fun live => ak_iadd d rfl)) <|
  an_kd (fun d => nk_sld d rfl) <|
  an_kd (fun d => an_lift (fun live => ak_callV (C := RX8) (F := TX8) (N := 27) metV_early rfl ⟨rfl, hy_X8_early⟩ (am_w5 wd_1228 wd_1229 wd_1230 wd_67 wd_1231) (by decide) d rfl)) <|
  an_kd (fun d => an_lift (fun live => ak_pop d rfl)) <|
  an_kd (fun d => an_lift (fun live => ak_goto d (by decide +kernel))) <| an_kdn
set_option maxRecDepth 100000 in
set_option maxHeartbeats 4000000 in
theorem caseL_c25 {Ln : Nat} (xs : Nat → Int32) {i : Int32} {i1 i2 : Bool} {kc kn : Nat} {M : am_M} (h : LX i1 i2 M) (hi : lawI Ln i kc kn) : an_wp (kL_c25 Ln xs) (lawC Ln i) 200 (an_go (kL_c25 Ln xs) 1300) (lawL i) [] ((am_lv i1 i2, am_q i1 i2), kc, kn, M) := by
    obtain ⟨⟨f1, f2, f3, f4, f5, f6, f7⟩, k1, k2, k3, k4⟩ := hi.f
    have hmn : am_mn (am_lv i1 i2, am_q i1 i2) := ⟨_, _, rfl⟩
    repeat' (first | (with_reducible exact f1) | (with_reducible exact f2) | (with_reducible exact f3) | (with_reducible exact f4) | (with_reducible exact f5) | (with_reducible exact f6) | (with_reducible exact f7) | (with_reducible exact hmn) | (with_reducible exact h) | (with_reducible exact k1) | (with_reducible exact k2) | (with_reducible exact k3) | (with_reducible exact k4) | apply And.intro | exact rfl | ((with_reducible change r_I _); (with_reducible assumption)) | (intro hx; exact absurd hx (by decide)) | (intro hx; exact absurd (by decide) hx) | decide | intro hx | (refine Exists.intro _ (And.intro rfl ?_)) | (refine Exists.intro _ (Exists.intro _ (And.intro rfl (And.intro rfl ?_)))) | ((with_reducible change LX _ _ _); (with_reducible assumption)) | ((with_reducible change _ = true); simp only [k1, k2, k3, k4, Bool.true_and]; rfl))
    all_goals try first | (with_reducible change am_tI _ _) | (change Ret _ _) | (change Ret _ _ _) | (change Exists _)
    all_goals try dsimp only at *
    all_goals try (with_reducible exact absurd ‹(1000 : Int64) = 0› am_z1000)
    all_goals first
      | exact ⟨_, _, rfl⟩
      | exact lawE.mk hi (by with_reducible assumption) (by omega) (by omega)
      | skip
def rwL_c26 : List dz_r := [(1353, .aload_n 1, 1), (1354, .aload_n 0, 1), (1355, .iload_n 3, 1), (1356, .iconst 1, 1), (1357, .iadd, 1), (1358, .iaload, 1), (1359, .aload_n 0, 1), (1360, .iload_n 3, 1), (1361, .iconst 2, 1), (1362, .iadd, 1), (1363, .iaload, 1), (1364, .aload_n 0, 1), (1365, .iload_n 3, 1), (1366, .iconst 3, 1), (1367, .iadd, 1), (1368, .iaload, 1), (1369, .aload_n 0, 1), (1370, .iload_n 3, 1), (1371, .iconst 4, 1), (1372, .iadd, 1), (1373, .iaload, 1), (1374, .aload_n 0, 1), (1375, .iload_n 3, 1), (1376, .iconst 5, 1), (1377, .iadd, 1), (1378, .iaload, 1), (1379, .invokevirtual 125, 3), (1382, .pop2, 1), (1383, .aload_n 2, 1), (1384, .aload_n 0, 1), (1385, .iload_n 3, 1), (1386, .iconst 1, 1), (1387, .iadd, 1), (1388, .iaload, 1), (1389, .aload_n 0, 1), (1390, .iload_n 3, 1), (1391, .iconst 2, 1), (1392, .iadd, 1), (1393, .iaload, 1), (1394, .aload_n 0, 1), (1395, .iload_n 3, 1), (1396, .iconst 3, 1), (1397, .iadd, 1), (1398, .iaload, 1), (1399, .aload_n 0, 1), (1400, .iload_n 3, 1), (1401, .iconst 4, 1), (1402, .iadd, 1), (1403, .iaload, 1), (1404, .aload_n 0, 1), (1405, .iload_n 3, 1), (1406, .iconst 5, 1), (1407, .iadd, 1), (1408, .iaload, 1), (1409, .invokevirtual 129, 3), (1412, .pop2, 1), (1413, .goto 429, 3)]
theorem dzL_c26 : dz cL_law rwL_c26 := dz_all 1353 (by decide +kernel)
theorem hy_X7_choice : yX7_choice.cls ≠ "java/lang/invoke/MethodHandle" ∧ yX7_choice.cls ≠ "java/lang/invoke/VarHandle" ∧ (parseMethodDescriptor yX7_choice.desc).map (fun d => d.parameters.length) = some 5 := ⟨by decide +kernel, by decide +kernel, by decide +kernel⟩
set_option maxRecDepth 100000 in
theorem wd_765 : Cond.methodLink "LearnLoansLaw" 125 yX7_choice ∈ am_ws := am_wt3 (List.mem_of_getElem? (i := 228) (by rfl)) (by decide +kernel)
set_option maxRecDepth 100000 in
theorem wd_766 : Cond.instanceMethod yX7_choice ∈ am_ws := am_wt3 (List.mem_of_getElem? (i := 229) (by rfl)) (by decide +kernel)
set_option maxRecDepth 100000 in
theorem wd_767 : Cond.selects "LearnLoans" yX7_choice yX7_choice ∈ am_ws := am_wt3 (List.mem_of_getElem? (i := 230) (by rfl)) (by decide +kernel)
set_option maxRecDepth 100000 in
theorem wd_768 : Cond.code yX7_choice cX7_choice 6 (some .long) ∈ am_ws := am_wt3 (List.mem_of_getElem? (i := 231) (by rfl)) (by decide +kernel)
theorem hy_X8_choice : yX8_choice.cls ≠ "java/lang/invoke/MethodHandle" ∧ yX8_choice.cls ≠ "java/lang/invoke/VarHandle" ∧ (parseMethodDescriptor yX8_choice.desc).map (fun d => d.parameters.length) = some 5 := ⟨by decide +kernel, by decide +kernel, by decide +kernel⟩
set_option maxRecDepth 100000 in
theorem wd_1236 : Cond.methodLink "LearnLoansLaw" 129 yX8_choice ∈ am_ws := am_wt5 (List.mem_of_getElem? (i := 219) (by rfl)) (by decide +kernel)
set_option maxRecDepth 100000 in
theorem wd_1237 : Cond.instanceMethod yX8_choice ∈ am_ws := am_wt5 (List.mem_of_getElem? (i := 220) (by rfl)) (by decide +kernel)
set_option maxRecDepth 100000 in
theorem wd_1238 : Cond.selects "LearnLoansModel" yX8_choice yX8_choice ∈ am_ws := am_wt5 (List.mem_of_getElem? (i := 221) (by rfl)) (by decide +kernel)
set_option maxRecDepth 100000 in
theorem wd_1239 : Cond.code yX8_choice cX8_choice 8 (some .long) ∈ am_ws := am_wt5 (List.mem_of_getElem? (i := 222) (by rfl)) (by decide +kernel)
def kL_c26 (Ln : Nat) (xs : Nat → Int32) : an_code := [(1353, an_lf (fun live => am_aload 1 1354)), (1354, an_lf (fun live => am_aload 0 1355)), (1355, an_lf (fun live => am_iload 3 1356)), (1356, an_lf (fun live => am_const (.int 1) 1357)), (1357, an_lf (fun live => am_i2 (fun x y => x + y) 1358)), (1358, an_sld Ln xs 1359), (1359, an_lf (fun live => am_aload 0 1360)), (1360, an_lf (fun live => am_iload 3 1361)), (1361, an_lf (fun live => am_const (.int 2) 1362)), (1362, an_lf (fun live => am_i2 (fun x y => x + y) 1363)), (1363, an_sld Ln xs 1364), (1364, an_lf (fun live => am_aload 0 1365)), (1365, an_lf (fun live => am_iload 3 1366)), (1366, an_lf (fun live => am_const (.int 3) 1367)), (1367, an_lf (fun live => am_i2 (fun x y => x + y) 1368)), (1368, an_sld Ln xs 1369), (1369, an_lf (fun live => am_aload 0 1370)), (1370, an_lf (fun live => am_iload 3 1371)), (1371, an_lf (fun live => am_const (.int 4) 1372)), (1372, an_lf (fun live => am_i2 (fun x y => x + y) 1373)), (1373, an_sld Ln xs 1374), (1374, an_lf (fun live => am_aload 0 1375)), (1375, an_lf (fun live => am_iload 3 1376)), (1376, an_lf (fun live => am_const (.int 5) 1377)), (1377, an_lf (fun live => am_i2 (fun x y => x + y) 1378)), (1378, an_sld Ln xs 1379), (1379, an_lf (fun live => am_callV live 7 5 TW_choice 1382)), (1382, an_lf (fun live => am_pop2 1383)), (1383, an_lf (fun live => am_aload 2 1384)), (1384, an_lf (fun live => am_aload 0 1385)), (1385, an_lf (fun live => am_iload 3 1386)), (1386, an_lf (fun live => am_const (.int 1) 1387)), (1387, an_lf (fun live => am_i2 (fun x y => x + y) 1388)), (1388, an_sld Ln xs 1389), (1389, an_lf (fun live => am_aload 0 1390)), (1390, an_lf (fun live => am_iload 3 1391)), (1391, an_lf (fun live => am_const (.int 2) 1392)), (1392, an_lf (fun live => am_i2 (fun x y => x + y) 1393)), (1393, an_sld Ln xs 1394), (1394, an_lf (fun live => am_aload 0 1395)), (1395, an_lf (fun live => am_iload 3 1396)), (1396, an_lf (fun live => am_const (.int 3) 1397)), (1397, an_lf (fun live => am_i2 (fun x y => x + y) 1398)), (1398, an_sld Ln xs 1399), (1399, an_lf (fun live => am_aload 0 1400)), (1400, an_lf (fun live => am_iload 3 1401)), (1401, an_lf (fun live => am_const (.int 4) 1402)), (1402, an_lf (fun live => am_i2 (fun x y => x + y) 1403)), (1403, an_sld Ln xs 1404), (1404, an_lf (fun live => am_aload 0 1405)), (1405, an_lf (fun live => am_iload 3 1406)), (1406, an_lf (fun live => am_const (.int 5) 1407)), (1407, an_lf (fun live => am_i2 (fun x y => x + y) 1408)), (1408, an_sld Ln xs 1409), (1409, an_lf (fun live => am_callV live 8 5 TV_choice 1412)), (1412, an_lf (fun live => am_pop2 1413)), (1413, an_lf (fun live => am_goto 1842))]
theorem koL_c26 (Ln : Nat) (xs : Nat → Int32) : ∀ q ∈ kL_c26 Ln xs, an_ok RL cL_law 4 (some .boolean) 2000 80000 600000 7302250 false (lawP Ln xs) an_noR q.1 q.2 :=
  am_kz dzL_c26 <|
  an_kd (fun d => an_lift (fun live => ak_aload_n d rfl rfl)) <|
  an_kd (fun d => an_lift (fun live => ak_aload_n d rfl rfl)) <|
  an_kd (fun d => an_lift (fun live => ak_iload_n d rfl rfl)) <|
  an_kd (fun d => an_lift (fun live => ak_iconst d (by decide +kernel) rfl)) <|
  an_kd (fun d => an_lift (fun live => ak_iadd d rfl)) <|
  an_kd (fun d => nk_sld d rfl) <|
  an_kd (fun d => an_lift (fun live => ak_aload_n d rfl rfl)) <|
  an_kd (fun d => an_lift (fun live => ak_iload_n d rfl rfl)) <|
  an_kd (fun d => an_lift (fun live => ak_iconst d (by decide +kernel) rfl)) <|
  an_kd (fun d => an_lift (fun live => ak_iadd d rfl)) <|
  an_kd (fun d => nk_sld d rfl) <|
  an_kd (fun d => an_lift (fun live => ak_aload_n d rfl rfl)) <|
  an_kd (fun d => an_lift (fun live => ak_iload_n d rfl rfl)) <|
  an_kd (fun d => an_lift (fun live => ak_iconst d (by decide +kernel) rfl)) <|
  an_kd (fun d => an_lift (fun live => ak_iadd d rfl)) <|
  an_kd (fun d => nk_sld d rfl) <|
  an_kd (fun d => an_lift (fun live => ak_aload_n d rfl rfl)) <|
  an_kd (fun d => an_lift (fun live => ak_iload_n d rfl rfl)) <|
  an_kd (fun d => an_lift (fun live => ak_iconst d (by decide +kernel) rfl)) <|
  an_kd (fun d => an_lift (fun live => ak_iadd d rfl)) <|
  an_kd (fun d => nk_sld d rfl) <|
  an_kd (fun d => an_lift (fun live => ak_aload_n d rfl rfl)) <|
  an_kd (fun d => an_lift (fun live => ak_iload_n d rfl rfl)) <|
  an_kd (fun d => an_lift (fun live => ak_iconst d (by decide +kernel) rfl)) <|
  an_kd (fun d => an_lift (fun live => ak_iadd d rfl)) <|
  an_kd (fun d => nk_sld d rfl) <|
  an_kd (fun d => an_lift (fun live => ak_callV (C := RX7) (F := TX7) (N := 4) metW_choice rfl ⟨rfl, hy_X7_choice⟩ (am_w5 wd_765 wd_766 wd_767 wd_58 wd_768) (by decide) d rfl)) <|
  an_kd (fun d => an_lift (fun live => ak_pop2 d rfl)) <|
  an_kd (fun d => an_lift (fun live => ak_aload_n d rfl rfl)) <|
  an_kd (fun d => an_lift (fun live => ak_aload_n d rfl rfl)) <|
  an_kd (fun d => an_lift (fun live => ak_iload_n d rfl rfl)) <|
  an_kd (fun d => an_lift (fun live => ak_iconst d (by decide +kernel) rfl)) <|
  an_kd (fun d => an_lift (fun live => ak_iadd d rfl)) <|
  an_kd (fun d => nk_sld d rfl) <|
  an_kd (fun d => an_lift (fun live => ak_aload_n d rfl rfl)) <|
  an_kd (fun d => an_lift (fun live => ak_iload_n d rfl rfl)) <|
  an_kd (fun d => an_lift (fun live => ak_iconst d (by decide +kernel) rfl)) <|
  an_kd (fun d => an_lift (fun live => ak_iadd d rfl)) <|
  an_kd (fun d => nk_sld d rfl) <|
  an_kd (fun d => an_lift (fun live => ak_aload_n d rfl rfl)) <|
  an_kd (fun d => an_lift (fun live => ak_iload_n d rfl rfl)) <|
  an_kd (fun d => an_lift (fun live => ak_iconst d (by decide +kernel) rfl)) <|
  an_kd (fun d => an_lift (fun live => ak_iadd d rfl)) <|
  an_kd (fun d => nk_sld d rfl) <|
  an_kd (fun d => an_lift (fun live => ak_aload_n d rfl rfl)) <|
  an_kd (fun d => an_lift (fun live => ak_iload_n d rfl rfl)) <|
  an_kd (fun d => an_lift (fun live => ak_iconst d (by decide +kernel) rfl)) <|
  an_kd (fun d => an_lift (fun live => ak_iadd d rfl)) <|
  an_kd (fun d => nk_sld d rfl) <|
  an_kd (fun d => an_lift (fun live => ak_aload_n d rfl rfl)) <|
  an_kd (fun d => an_lift (fun live => ak_iload_n d rfl rfl)) <|
  an_kd (fun d => an_lift (fun live => ak_iconst d (by decide +kernel) rfl)) <|
  an_kd (fun d => an_lift (fun live => ak_iadd d rfl)) <|
  an_kd (fun d => nk_sld d rfl) <|
  an_kd (fun d => an_lift (fun live => ak_callV (C := RX8) (F := TX8) (N := 27) metV_choice rfl ⟨rfl, hy_X8_choice⟩ (am_w5 wd_1236 wd_1237 wd_1238 wd_67 wd_1239) (by decide) d rfl)) <|
  an_kd (fun d => an_lift (fun live => ak_pop2 d rfl)) <|
  an_kd (fun d => an_lift (fun live => ak_goto d (by decide +kernel))) <| an_kdn
set_option maxRecDepth 100000 in
set_option maxHeartbeats 4000000 in
theorem caseL_c26 {Ln : Nat} (xs : Nat → Int32) {i : Int32} {i1 i2 : Bool} {kc kn : Nat} {M : am_M} (h : LX i1 i2 M) (hi : lawI Ln i kc kn) : an_wp (kL_c26 Ln xs) (lawC Ln i) 200 (an_go (kL_c26 Ln xs) 1353) (lawL i) [] ((am_lv i1 i2, am_q i1 i2), kc, kn, M) := by
    obtain ⟨⟨f1, f2, f3, f4, f5, f6, f7⟩, k1, k2, k3, k4⟩ := hi.f
    have hmn : am_mn (am_lv i1 i2, am_q i1 i2) := ⟨_, _, rfl⟩
    repeat' (first | (with_reducible exact f1) | (with_reducible exact f2) | (with_reducible exact f3) | (with_reducible exact f4) | (with_reducible exact f5) | (with_reducible exact f6) | (with_reducible exact f7) | (with_reducible exact hmn) | (with_reducible exact h) | (with_reducible exact k1) | (with_reducible exact k2) | (with_reducible exact k3) | (with_reducible exact k4) | apply And.intro | exact rfl | ((with_reducible change r_I _); (with_reducible assumption)) | (intro hx; exact absurd hx (by decide)) | (intro hx; exact absurd (by decide) hx) | decide | intro hx | (refine Exists.intro _ (And.intro rfl ?_)) | (refine Exists.intro _ (Exists.intro _ (And.intro rfl (And.intro rfl ?_)))) | ((with_reducible change LX _ _ _); (with_reducible assumption)) | ((with_reducible change _ = true); simp only [k1, k2, k3, k4, Bool.true_and]; rfl))
    all_goals try first | (with_reducible change am_tI _ _) | (change Ret _ _) | (change Ret _ _ _) | (change Exists _)
    all_goals try dsimp only at *
    all_goals try (with_reducible exact absurd ‹(1000 : Int64) = 0› am_z1000)
    all_goals first
      | exact ⟨_, _, rfl⟩
      | exact lawE.mk hi (by with_reducible assumption) (by omega) (by omega)
      | skip
def rwL_c27 : List dz_r := [(1416, .aload_n 1, 1), (1417, .aload_n 0, 1), (1418, .iload_n 3, 1), (1419, .iconst 1, 1), (1420, .iadd, 1), (1421, .iaload, 1), (1422, .aload_n 0, 1), (1423, .iload_n 3, 1), (1424, .iconst 2, 1), (1425, .iadd, 1), (1426, .iaload, 1), (1427, .aload_n 0, 1), (1428, .iload_n 3, 1), (1429, .iconst 3, 1), (1430, .iadd, 1), (1431, .iaload, 1), (1432, .aload_n 0, 1), (1433, .iload_n 3, 1), (1434, .iconst 4, 1), (1435, .iadd, 1), (1436, .iaload, 1), (1437, .aload_n 0, 1), (1438, .iload_n 3, 1), (1439, .iconst 5, 1), (1440, .iadd, 1), (1441, .iaload, 1), (1442, .invokevirtual 130, 3), (1445, .pop, 1), (1446, .aload_n 2, 1), (1447, .aload_n 0, 1), (1448, .iload_n 3, 1), (1449, .iconst 1, 1), (1450, .iadd, 1), (1451, .iaload, 1), (1452, .aload_n 0, 1), (1453, .iload_n 3, 1), (1454, .iconst 2, 1), (1455, .iadd, 1), (1456, .iaload, 1), (1457, .aload_n 0, 1), (1458, .iload_n 3, 1), (1459, .iconst 3, 1), (1460, .iadd, 1), (1461, .iaload, 1), (1462, .aload_n 0, 1), (1463, .iload_n 3, 1), (1464, .iconst 4, 1), (1465, .iadd, 1), (1466, .iaload, 1), (1467, .aload_n 0, 1), (1468, .iload_n 3, 1), (1469, .iconst 5, 1), (1470, .iadd, 1), (1471, .iaload, 1), (1472, .invokevirtual 134, 3), (1475, .pop, 1), (1476, .goto 366, 3)]
theorem dzL_c27 : dz cL_law rwL_c27 := dz_all 1416 (by decide +kernel)
theorem hy_X7_chances : yX7_chances.cls ≠ "java/lang/invoke/MethodHandle" ∧ yX7_chances.cls ≠ "java/lang/invoke/VarHandle" ∧ (parseMethodDescriptor yX7_chances.desc).map (fun d => d.parameters.length) = some 5 := ⟨by decide +kernel, by decide +kernel, by decide +kernel⟩
set_option maxRecDepth 100000 in
theorem wd_769 : Cond.methodLink "LearnLoansLaw" 130 yX7_chances ∈ am_ws := am_wt3 (List.mem_of_getElem? (i := 232) (by rfl)) (by decide +kernel)
set_option maxRecDepth 100000 in
theorem wd_770 : Cond.instanceMethod yX7_chances ∈ am_ws := am_wt3 (List.mem_of_getElem? (i := 233) (by rfl)) (by decide +kernel)
set_option maxRecDepth 100000 in
theorem wd_771 : Cond.selects "LearnLoans" yX7_chances yX7_chances ∈ am_ws := am_wt3 (List.mem_of_getElem? (i := 234) (by rfl)) (by decide +kernel)
set_option maxRecDepth 100000 in
theorem wd_772 : Cond.code yX7_chances cX7_chances 7 (some .int) ∈ am_ws := am_wt3 (List.mem_of_getElem? (i := 235) (by rfl)) (by decide +kernel)
theorem hy_X8_chances : yX8_chances.cls ≠ "java/lang/invoke/MethodHandle" ∧ yX8_chances.cls ≠ "java/lang/invoke/VarHandle" ∧ (parseMethodDescriptor yX8_chances.desc).map (fun d => d.parameters.length) = some 5 := ⟨by decide +kernel, by decide +kernel, by decide +kernel⟩
set_option maxRecDepth 100000 in
theorem wd_1240 : Cond.methodLink "LearnLoansLaw" 134 yX8_chances ∈ am_ws := am_wt5 (List.mem_of_getElem? (i := 223) (by rfl)) (by decide +kernel)
set_option maxRecDepth 100000 in
theorem wd_1241 : Cond.instanceMethod yX8_chances ∈ am_ws := am_wt5 (List.mem_of_getElem? (i := 224) (by rfl)) (by decide +kernel)
set_option maxRecDepth 100000 in
theorem wd_1242 : Cond.selects "LearnLoansModel" yX8_chances yX8_chances ∈ am_ws := am_wt5 (List.mem_of_getElem? (i := 225) (by rfl)) (by decide +kernel)
set_option maxRecDepth 100000 in
theorem wd_1243 : Cond.code yX8_chances cX8_chances 6 (some .int) ∈ am_ws := am_wt5 (List.mem_of_getElem? (i := 226) (by rfl)) (by decide +kernel)
def kL_c27 (Ln : Nat) (xs : Nat → Int32) : an_code := [(1416, an_lf (fun live => am_aload 1 1417)), (1417, an_lf (fun live => am_aload 0 1418)), (1418, an_lf (fun live => am_iload 3 1419)), (1419, an_lf (fun live => am_const (.int 1) 1420)), (1420, an_lf (fun live => am_i2 (fun x y => x + y) 1421)), (1421, an_sld Ln xs 1422), (1422, an_lf (fun live => am_aload 0 1423)), (1423, an_lf (fun live => am_iload 3 1424)), (1424, an_lf (fun live => am_const (.int 2) 1425)), (1425, an_lf (fun live => am_i2 (fun x y => x + y) 1426)), (1426, an_sld Ln xs 1427), (1427, an_lf (fun live => am_aload 0 1428)), (1428, an_lf (fun live => am_iload 3 1429)), (1429, an_lf (fun live => am_const (.int 3) 1430)), (1430, an_lf (fun live => am_i2 (fun x y => x + y) 1431)), (1431, an_sld Ln xs 1432), (1432, an_lf (fun live => am_aload 0 1433)), (1433, an_lf (fun live => am_iload 3 1434)), (1434, an_lf (fun live => am_const (.int 4) 1435)), (1435, an_lf (fun live => am_i2 (fun x y => x + y) 1436)), (1436, an_sld Ln xs 1437), (1437, an_lf (fun live => am_aload 0 1438)), (1438, an_lf (fun live => am_iload 3 1439)), (1439, an_lf (fun live => am_const (.int 5) 1440)), (1440, an_lf (fun live => am_i2 (fun x y => x + y) 1441)), (1441, an_sld Ln xs 1442), (1442, an_lf (fun live => am_callV live 7 5 TW_chances 1445)), (1445, an_lf (fun live => am_pop 1446)), (1446, an_lf (fun live => am_aload 2 1447)), (1447, an_lf (fun live => am_aload 0 1448)), (1448, an_lf (fun live => am_iload 3 1449)), (1449, an_lf (fun live => am_const (.int 1) 1450)), (1450, an_lf (fun live => am_i2 (fun x y => x + y) 1451)), (1451, an_sld Ln xs 1452), (1452, an_lf (fun live => am_aload 0 1453)), (1453, an_lf (fun live => am_iload 3 1454)), (1454, an_lf (fun live => am_const (.int 2) 1455)), (1455, an_lf (fun live => am_i2 (fun x y => x + y) 1456)), (1456, an_sld Ln xs 1457), (1457, an_lf (fun live => am_aload 0 1458)), (1458, an_lf (fun live => am_iload 3 1459)), (1459, an_lf (fun live => am_const (.int 3) 1460)), (1460, an_lf (fun live => am_i2 (fun x y => x + y) 1461)), (1461, an_sld Ln xs 1462), (1462, an_lf (fun live => am_aload 0 1463)), (1463, an_lf (fun live => am_iload 3 1464)), (1464, an_lf (fun live => am_const (.int 4) 1465)), (1465, an_lf (fun live => am_i2 (fun x y => x + y) 1466)), (1466, an_sld Ln xs 1467), (1467, an_lf (fun live => am_aload 0 1468)), (1468, an_lf (fun live => am_iload 3 1469)), (1469, an_lf (fun live => am_const (.int 5) 1470)), (1470, an_lf (fun live => am_i2 (fun x y => x + y) 1471)), (1471, an_sld Ln xs 1472), (1472, an_lf (fun live => am_callV live 8 5 TX8_chances 1475)), (1475, an_lf (fun live => am_pop 1476)), (1476, an_lf (fun live => am_goto 1842))]
theorem koL_c27 (Ln : Nat) (xs : Nat → Int32) : ∀ q ∈ kL_c27 Ln xs, an_ok RL cL_law 4 (some .boolean) 2000 80000 600000 7302250 false (lawP Ln xs) an_noR q.1 q.2 :=
  am_kz dzL_c27 <|
  an_kd (fun d => an_lift (fun live => ak_aload_n d rfl rfl)) <|
  an_kd (fun d => an_lift (fun live => ak_aload_n d rfl rfl)) <|
  an_kd (fun d => an_lift (fun live => ak_iload_n d rfl rfl)) <|
  an_kd (fun d => an_lift (fun live => ak_iconst d (by decide +kernel) rfl)) <|
  an_kd (fun d => an_lift (fun live => ak_iadd d rfl)) <|
  an_kd (fun d => nk_sld d rfl) <|
  an_kd (fun d => an_lift (fun live => ak_aload_n d rfl rfl)) <|
  an_kd (fun d => an_lift (fun live => ak_iload_n d rfl rfl)) <|
  an_kd (fun d => an_lift (fun live => ak_iconst d (by decide +kernel) rfl)) <|
  an_kd (fun d => an_lift (fun live => ak_iadd d rfl)) <|
  an_kd (fun d => nk_sld d rfl) <|
  an_kd (fun d => an_lift (fun live => ak_aload_n d rfl rfl)) <|
  an_kd (fun d => an_lift (fun live => ak_iload_n d rfl rfl)) <|
  an_kd (fun d => an_lift (fun live => ak_iconst d (by decide +kernel) rfl)) <|
  an_kd (fun d => an_lift (fun live => ak_iadd d rfl)) <|
  an_kd (fun d => nk_sld d rfl) <|
  an_kd (fun d => an_lift (fun live => ak_aload_n d rfl rfl)) <|
  an_kd (fun d => an_lift (fun live => ak_iload_n d rfl rfl)) <|
  an_kd (fun d => an_lift (fun live => ak_iconst d (by decide +kernel) rfl)) <|
  an_kd (fun d => an_lift (fun live => ak_iadd d rfl)) <|
  an_kd (fun d => nk_sld d rfl) <|
  an_kd (fun d => an_lift (fun live => ak_aload_n d rfl rfl)) <|
  an_kd (fun d => an_lift (fun live => ak_iload_n d rfl rfl)) <|
  an_kd (fun d => an_lift (fun live => ak_iconst d (by decide +kernel) rfl)) <|
  an_kd (fun d => an_lift (fun live => ak_iadd d rfl)) <|
  an_kd (fun d => nk_sld d rfl) <|
  an_kd (fun d => an_lift (fun live => ak_callV (C := RX7) (F := TX7) (N := 4) metW_chances rfl ⟨rfl, hy_X7_chances⟩ (am_w5 wd_769 wd_770 wd_771 wd_58 wd_772) (by decide) d rfl)) <|
  an_kd (fun d => an_lift (fun live => ak_pop d rfl)) <|
  an_kd (fun d => an_lift (fun live => ak_aload_n d rfl rfl)) <|
  an_kd (fun d => an_lift (fun live => ak_aload_n d rfl rfl)) <|
  an_kd (fun d => an_lift (fun live => ak_iload_n d rfl rfl)) <|
  an_kd (fun d => an_lift (fun live => ak_iconst d (by decide +kernel) rfl)) <|
  an_kd (fun d => an_lift (fun live => ak_iadd d rfl)) <|
  an_kd (fun d => nk_sld d rfl) <|
  an_kd (fun d => an_lift (fun live => ak_aload_n d rfl rfl)) <|
  an_kd (fun d => an_lift (fun live => ak_iload_n d rfl rfl)) <|
  an_kd (fun d => an_lift (fun live => ak_iconst d (by decide +kernel) rfl)) <|
  an_kd (fun d => an_lift (fun live => ak_iadd d rfl)) <|
  an_kd (fun d => nk_sld d rfl) <|
  an_kd (fun d => an_lift (fun live => ak_aload_n d rfl rfl)) <|
  an_kd (fun d => an_lift (fun live => ak_iload_n d rfl rfl)) <|
  an_kd (fun d => an_lift (fun live => ak_iconst d (by decide +kernel) rfl)) <|
  an_kd (fun d => an_lift (fun live => ak_iadd d rfl)) <|
  an_kd (fun d => nk_sld d rfl) <|
  an_kd (fun d => an_lift (fun live => ak_aload_n d rfl rfl)) <|
  an_kd (fun d => an_lift (fun live => ak_iload_n d rfl rfl)) <|
  an_kd (fun d => an_lift (fun live => ak_iconst d (by decide +kernel) rfl)) <|
  an_kd (fun d => an_lift (fun live => ak_iadd d rfl)) <|
  an_kd (fun d => nk_sld d rfl) <|
  an_kd (fun d => an_lift (fun live => ak_aload_n d rfl rfl)) <|
  an_kd (fun d => an_lift (fun live => ak_iload_n d rfl rfl)) <|
  an_kd (fun d => an_lift (fun live => ak_iconst d (by decide +kernel) rfl)) <|
  an_kd (fun d => an_lift (fun live => ak_iadd d rfl)) <|
  an_kd (fun d => nk_sld d rfl) <|
  an_kd (fun d => an_lift (fun live => ak_callV (C := RX8) (F := TX8) (N := 27) metX8_chances rfl ⟨rfl, hy_X8_chances⟩ (am_w5 wd_1240 wd_1241 wd_1242 wd_67 wd_1243) (by decide) d rfl)) <|
  an_kd (fun d => an_lift (fun live => ak_pop d rfl)) <|
  an_kd (fun d => an_lift (fun live => ak_goto d (by decide +kernel))) <| an_kdn
set_option maxRecDepth 100000 in
set_option maxHeartbeats 4000000 in
theorem caseL_c27 {Ln : Nat} (xs : Nat → Int32) {i : Int32} {i1 i2 : Bool} {kc kn : Nat} {M : am_M} (h : LX i1 i2 M) (hi : lawI Ln i kc kn) : an_wp (kL_c27 Ln xs) (lawC Ln i) 200 (an_go (kL_c27 Ln xs) 1416) (lawL i) [] ((am_lv i1 i2, am_q i1 i2), kc, kn, M) := by
    obtain ⟨⟨f1, f2, f3, f4, f5, f6, f7⟩, k1, k2, k3, k4⟩ := hi.f
    have hmn : am_mn (am_lv i1 i2, am_q i1 i2) := ⟨_, _, rfl⟩
    repeat' (first | (with_reducible exact f1) | (with_reducible exact f2) | (with_reducible exact f3) | (with_reducible exact f4) | (with_reducible exact f5) | (with_reducible exact f6) | (with_reducible exact f7) | (with_reducible exact hmn) | (with_reducible exact h) | (with_reducible exact k1) | (with_reducible exact k2) | (with_reducible exact k3) | (with_reducible exact k4) | apply And.intro | exact rfl | ((with_reducible change r_I _); (with_reducible assumption)) | (intro hx; exact absurd hx (by decide)) | (intro hx; exact absurd (by decide) hx) | decide | intro hx | (refine Exists.intro _ (And.intro rfl ?_)) | (refine Exists.intro _ (Exists.intro _ (And.intro rfl (And.intro rfl ?_)))) | ((with_reducible change LX _ _ _); (with_reducible assumption)) | ((with_reducible change _ = true); simp only [k1, k2, k3, k4, Bool.true_and]; rfl))
    all_goals try first | (with_reducible change am_tI _ _) | (change Ret _ _) | (change Ret _ _ _) | (change Exists _)
    all_goals try dsimp only at *
    all_goals try (with_reducible exact absurd ‹(1000 : Int64) = 0› am_z1000)
    all_goals first
      | exact ⟨_, _, rfl⟩
      | exact lawE.mk hi (by with_reducible assumption) (by omega) (by omega)
      | skip
def rwL_c28 : List dz_r := [(1479, .aload_n 1, 1), (1480, .aload_n 0, 1), (1481, .iload_n 3, 1), (1482, .iconst 1, 1), (1483, .iadd, 1), (1484, .iaload, 1), (1485, .aload_n 0, 1), (1486, .iload_n 3, 1), (1487, .iconst 2, 1), (1488, .iadd, 1), (1489, .iaload, 1), (1490, .aload_n 0, 1), (1491, .iload_n 3, 1), (1492, .iconst 3, 1), (1493, .iadd, 1), (1494, .iaload, 1), (1495, .aload_n 0, 1), (1496, .iload_n 3, 1), (1497, .iconst 4, 1), (1498, .iadd, 1), (1499, .iaload, 1), (1500, .aload_n 0, 1), (1501, .iload_n 3, 1), (1502, .iconst 5, 1), (1503, .iadd, 1), (1504, .iaload, 1), (1505, .aload_n 0, 1), (1506, .iload_n 3, 1), (1507, .bipush 6, 2), (1509, .iadd, 1), (1510, .iaload, 1), (1511, .invokevirtual 135, 3), (1514, .pop2, 1), (1515, .aload_n 2, 1), (1516, .aload_n 0, 1), (1517, .iload_n 3, 1), (1518, .iconst 1, 1), (1519, .iadd, 1), (1520, .iaload, 1), (1521, .aload_n 0, 1), (1522, .iload_n 3, 1), (1523, .iconst 2, 1), (1524, .iadd, 1), (1525, .iaload, 1), (1526, .aload_n 0, 1), (1527, .iload_n 3, 1), (1528, .iconst 3, 1), (1529, .iadd, 1), (1530, .iaload, 1), (1531, .aload_n 0, 1), (1532, .iload_n 3, 1), (1533, .iconst 4, 1), (1534, .iadd, 1), (1535, .iaload, 1), (1536, .aload_n 0, 1), (1537, .iload_n 3, 1), (1538, .iconst 5, 1), (1539, .iadd, 1), (1540, .iaload, 1), (1541, .aload_n 0, 1), (1542, .iload_n 3, 1), (1543, .bipush 6, 2), (1545, .iadd, 1), (1546, .iaload, 1), (1547, .invokevirtual 139, 3), (1550, .pop2, 1), (1551, .goto 291, 3)]
theorem dzL_c28 : dz cL_law rwL_c28 := dz_all 1479 (by decide +kernel)
theorem hy_X7_foretold : yX7_foretold.cls ≠ "java/lang/invoke/MethodHandle" ∧ yX7_foretold.cls ≠ "java/lang/invoke/VarHandle" ∧ (parseMethodDescriptor yX7_foretold.desc).map (fun d => d.parameters.length) = some 6 := ⟨by decide +kernel, by decide +kernel, by decide +kernel⟩
set_option maxRecDepth 100000 in
theorem wd_776 : Cond.methodLink "LearnLoansLaw" 135 yX7_foretold ∈ am_ws := am_wt3 (List.mem_of_getElem? (i := 239) (by rfl)) (by decide +kernel)
set_option maxRecDepth 100000 in
theorem wd_777 : Cond.instanceMethod yX7_foretold ∈ am_ws := am_wt4 (List.mem_of_getElem? (i := 0) (by rfl)) (by decide +kernel)
set_option maxRecDepth 100000 in
theorem wd_778 : Cond.selects "LearnLoans" yX7_foretold yX7_foretold ∈ am_ws := am_wt4 (List.mem_of_getElem? (i := 1) (by rfl)) (by decide +kernel)
set_option maxRecDepth 100000 in
theorem wd_779 : Cond.code yX7_foretold cX7_foretold 7 (some .long) ∈ am_ws := am_wt4 (List.mem_of_getElem? (i := 2) (by rfl)) (by decide +kernel)
theorem hy_X8_foretold : yX8_foretold.cls ≠ "java/lang/invoke/MethodHandle" ∧ yX8_foretold.cls ≠ "java/lang/invoke/VarHandle" ∧ (parseMethodDescriptor yX8_foretold.desc).map (fun d => d.parameters.length) = some 6 := ⟨by decide +kernel, by decide +kernel, by decide +kernel⟩
set_option maxRecDepth 100000 in
theorem wd_1245 : Cond.methodLink "LearnLoansLaw" 139 yX8_foretold ∈ am_ws := am_wt5 (List.mem_of_getElem? (i := 228) (by rfl)) (by decide +kernel)
set_option maxRecDepth 100000 in
theorem wd_1246 : Cond.instanceMethod yX8_foretold ∈ am_ws := am_wt5 (List.mem_of_getElem? (i := 229) (by rfl)) (by decide +kernel)
set_option maxRecDepth 100000 in
theorem wd_1247 : Cond.selects "LearnLoansModel" yX8_foretold yX8_foretold ∈ am_ws := am_wt5 (List.mem_of_getElem? (i := 230) (by rfl)) (by decide +kernel)
set_option maxRecDepth 100000 in
theorem wd_1248 : Cond.code yX8_foretold cX8_foretold 18 (some .long) ∈ am_ws := am_wt5 (List.mem_of_getElem? (i := 231) (by rfl)) (by decide +kernel)
def kL_c28 (Ln : Nat) (xs : Nat → Int32) : an_code := [(1479, an_lf (fun live => am_aload 1 1480)), (1480, an_lf (fun live => am_aload 0 1481)), (1481, an_lf (fun live => am_iload 3 1482)), (1482, an_lf (fun live => am_const (.int 1) 1483)), (1483, an_lf (fun live => am_i2 (fun x y => x + y) 1484)), (1484, an_sld Ln xs 1485), (1485, an_lf (fun live => am_aload 0 1486)), (1486, an_lf (fun live => am_iload 3 1487)), (1487, an_lf (fun live => am_const (.int 2) 1488)), (1488, an_lf (fun live => am_i2 (fun x y => x + y) 1489)), (1489, an_sld Ln xs 1490), (1490, an_lf (fun live => am_aload 0 1491)), (1491, an_lf (fun live => am_iload 3 1492)), (1492, an_lf (fun live => am_const (.int 3) 1493)), (1493, an_lf (fun live => am_i2 (fun x y => x + y) 1494)), (1494, an_sld Ln xs 1495), (1495, an_lf (fun live => am_aload 0 1496)), (1496, an_lf (fun live => am_iload 3 1497)), (1497, an_lf (fun live => am_const (.int 4) 1498)), (1498, an_lf (fun live => am_i2 (fun x y => x + y) 1499)), (1499, an_sld Ln xs 1500), (1500, an_lf (fun live => am_aload 0 1501)), (1501, an_lf (fun live => am_iload 3 1502)), (1502, an_lf (fun live => am_const (.int 5) 1503)), (1503, an_lf (fun live => am_i2 (fun x y => x + y) 1504)), (1504, an_sld Ln xs 1505), (1505, an_lf (fun live => am_aload 0 1506)), (1506, an_lf (fun live => am_iload 3 1507)), (1507, an_lf (fun live => am_const (.int 6) 1509)), (1509, an_lf (fun live => am_i2 (fun x y => x + y) 1510)), (1510, an_sld Ln xs 1511), (1511, an_lf (fun live => am_callV live 7 6 TW_foretold 1514)), (1514, an_lf (fun live => am_pop2 1515)), (1515, an_lf (fun live => am_aload 2 1516)), (1516, an_lf (fun live => am_aload 0 1517)), (1517, an_lf (fun live => am_iload 3 1518)), (1518, an_lf (fun live => am_const (.int 1) 1519)), (1519, an_lf (fun live => am_i2 (fun x y => x + y) 1520)), (1520, an_sld Ln xs 1521), (1521, an_lf (fun live => am_aload 0 1522)), (1522, an_lf (fun live => am_iload 3 1523)), (1523, an_lf (fun live => am_const (.int 2) 1524)), (1524, an_lf (fun live => am_i2 (fun x y => x + y) 1525)), (1525, an_sld Ln xs 1526), (1526, an_lf (fun live => am_aload 0 1527)), (1527, an_lf (fun live => am_iload 3 1528)), (1528, an_lf (fun live => am_const (.int 3) 1529)), (1529, an_lf (fun live => am_i2 (fun x y => x + y) 1530)), (1530, an_sld Ln xs 1531), (1531, an_lf (fun live => am_aload 0 1532)), (1532, an_lf (fun live => am_iload 3 1533)), (1533, an_lf (fun live => am_const (.int 4) 1534)), (1534, an_lf (fun live => am_i2 (fun x y => x + y) 1535)), (1535, an_sld Ln xs 1536), (1536, an_lf (fun live => am_aload 0 1537)), (1537, an_lf (fun live => am_iload 3 1538)), (1538, an_lf (fun live => am_const (.int 5) 1539)), (1539, an_lf (fun live => am_i2 (fun x y => x + y) 1540)), (1540, an_sld Ln xs 1541), (1541, an_lf (fun live => am_aload 0 1542)), (1542, an_lf (fun live => am_iload 3 1543)), (1543, an_lf (fun live => am_const (.int 6) 1545)), (1545, an_lf (fun live => am_i2 (fun x y => x + y) 1546)), (1546, an_sld Ln xs 1547), (1547, an_lf (fun live => am_callV live 8 6 TV_foretold 1550)), (1550, an_lf (fun live => am_pop2 1551)), (1551, an_lf (fun live => am_goto 1842))]
theorem koL_c28 (Ln : Nat) (xs : Nat → Int32) : ∀ q ∈ kL_c28 Ln xs, an_ok RL cL_law 4 (some .boolean) 2000 80000 600000 7302250 false (lawP Ln xs) an_noR q.1 q.2 :=
  am_kz dzL_c28 <|
  an_kd (fun d => an_lift (fun live => ak_aload_n d rfl rfl)) <|
  an_kd (fun d => an_lift (fun live => ak_aload_n d rfl rfl)) <|
  an_kd (fun d => an_lift (fun live => ak_iload_n d rfl rfl)) <|
  an_kd (fun d => an_lift (fun live => ak_iconst d (by decide +kernel) rfl)) <|
  an_kd (fun d => an_lift (fun live => ak_iadd d rfl)) <|
  an_kd (fun d => nk_sld d rfl) <|
  an_kd (fun d => an_lift (fun live => ak_aload_n d rfl rfl)) <|
  an_kd (fun d => an_lift (fun live => ak_iload_n d rfl rfl)) <|
  an_kd (fun d => an_lift (fun live => ak_iconst d (by decide +kernel) rfl)) <|
  an_kd (fun d => an_lift (fun live => ak_iadd d rfl)) <|
  an_kd (fun d => nk_sld d rfl) <|
  an_kd (fun d => an_lift (fun live => ak_aload_n d rfl rfl)) <|
  an_kd (fun d => an_lift (fun live => ak_iload_n d rfl rfl)) <|
  an_kd (fun d => an_lift (fun live => ak_iconst d (by decide +kernel) rfl)) <|
  an_kd (fun d => an_lift (fun live => ak_iadd d rfl)) <|
  an_kd (fun d => nk_sld d rfl) <|
  an_kd (fun d => an_lift (fun live => ak_aload_n d rfl rfl)) <|
  an_kd (fun d => an_lift (fun live => ak_iload_n d rfl rfl)) <|
  an_kd (fun d => an_lift (fun live => ak_iconst d (by decide +kernel) rfl)) <|
  an_kd (fun d => an_lift (fun live => ak_iadd d rfl)) <|
  an_kd (fun d => nk_sld d rfl) <|
  an_kd (fun d => an_lift (fun live => ak_aload_n d rfl rfl)) <|
  an_kd (fun d => an_lift (fun live => ak_iload_n d rfl rfl)) <|
  an_kd (fun d => an_lift (fun live => ak_iconst d (by decide +kernel) rfl)) <|
  an_kd (fun d => an_lift (fun live => ak_iadd d rfl)) <|
  an_kd (fun d => nk_sld d rfl) <|
  an_kd (fun d => an_lift (fun live => ak_aload_n d rfl rfl)) <|
  an_kd (fun d => an_lift (fun live => ak_iload_n d rfl rfl)) <|
  an_kd (fun d => an_lift (fun live => ak_bipush d (by decide +kernel) rfl)) <|
  an_kd (fun d => an_lift (fun live => ak_iadd d rfl)) <|
  an_kd (fun d => nk_sld d rfl) <|
  an_kd (fun d => an_lift (fun live => ak_callV (C := RX7) (F := TX7) (N := 4) metW_foretold rfl ⟨rfl, hy_X7_foretold⟩ (am_w5 wd_776 wd_777 wd_778 wd_58 wd_779) (by decide) d rfl)) <|
  an_kd (fun d => an_lift (fun live => ak_pop2 d rfl)) <|
  an_kd (fun d => an_lift (fun live => ak_aload_n d rfl rfl)) <|
  an_kd (fun d => an_lift (fun live => ak_aload_n d rfl rfl)) <|
  an_kd (fun d => an_lift (fun live => ak_iload_n d rfl rfl)) <|
  an_kd (fun d => an_lift (fun live => ak_iconst d (by decide +kernel) rfl)) <|
  an_kd (fun d => an_lift (fun live => ak_iadd d rfl)) <|
  an_kd (fun d => nk_sld d rfl) <|
  an_kd (fun d => an_lift (fun live => ak_aload_n d rfl rfl)) <|
  an_kd (fun d => an_lift (fun live => ak_iload_n d rfl rfl)) <|
  an_kd (fun d => an_lift (fun live => ak_iconst d (by decide +kernel) rfl)) <|
  an_kd (fun d => an_lift (fun live => ak_iadd d rfl)) <|
  an_kd (fun d => nk_sld d rfl) <|
  an_kd (fun d => an_lift (fun live => ak_aload_n d rfl rfl)) <|
  an_kd (fun d => an_lift (fun live => ak_iload_n d rfl rfl)) <|
  an_kd (fun d => an_lift (fun live => ak_iconst d (by decide +kernel) rfl)) <|
  an_kd (fun d => an_lift (fun live => ak_iadd d rfl)) <|
  an_kd (fun d => nk_sld d rfl) <|
  an_kd (fun d => an_lift (fun live => ak_aload_n d rfl rfl)) <|
  an_kd (fun d => an_lift (fun live => ak_iload_n d rfl rfl)) <|
  an_kd (fun d => an_lift (fun live => ak_iconst d (by decide +kernel) rfl)) <|
  an_kd (fun d => an_lift (fun live => ak_iadd d rfl)) <|
  an_kd (fun d => nk_sld d rfl) <|
  an_kd (fun d => an_lift (fun live => ak_aload_n d rfl rfl)) <|
  an_kd (fun d => an_lift (fun live => ak_iload_n d rfl rfl)) <|
  an_kd (fun d => an_lift (fun live => ak_iconst d (by decide +kernel) rfl)) <|
  an_kd (fun d => an_lift (fun live => ak_iadd d rfl)) <|
  an_kd (fun d => nk_sld d rfl) <|
  an_kd (fun d => an_lift (fun live => ak_aload_n d rfl rfl)) <|
  an_kd (fun d => an_lift (fun live => ak_iload_n d rfl rfl)) <|
  an_kd (fun d => an_lift (fun live => ak_bipush d (by decide +kernel) rfl)) <|
  an_kd (fun d => an_lift (fun live => ak_iadd d rfl)) <|
  an_kd (fun d => nk_sld d rfl) <|
  an_kd (fun d => an_lift (fun live => ak_callV (C := RX8) (F := TX8) (N := 27) metV_foretold rfl ⟨rfl, hy_X8_foretold⟩ (am_w5 wd_1245 wd_1246 wd_1247 wd_67 wd_1248) (by decide) d rfl)) <|
  an_kd (fun d => an_lift (fun live => ak_pop2 d rfl)) <|
  an_kd (fun d => an_lift (fun live => ak_goto d (by decide +kernel))) <| an_kdn
set_option maxRecDepth 100000 in
set_option maxHeartbeats 4000000 in
theorem caseL_c28 {Ln : Nat} (xs : Nat → Int32) {i : Int32} {i1 i2 : Bool} {kc kn : Nat} {M : am_M} (h : LX i1 i2 M) (hi : lawI Ln i kc kn) : an_wp (kL_c28 Ln xs) (lawC Ln i) 200 (an_go (kL_c28 Ln xs) 1479) (lawL i) [] ((am_lv i1 i2, am_q i1 i2), kc, kn, M) := by
    obtain ⟨⟨f1, f2, f3, f4, f5, f6, f7⟩, k1, k2, k3, k4⟩ := hi.f
    have hmn : am_mn (am_lv i1 i2, am_q i1 i2) := ⟨_, _, rfl⟩
    repeat' (first | (with_reducible exact f1) | (with_reducible exact f2) | (with_reducible exact f3) | (with_reducible exact f4) | (with_reducible exact f5) | (with_reducible exact f6) | (with_reducible exact f7) | (with_reducible exact hmn) | (with_reducible exact h) | (with_reducible exact k1) | (with_reducible exact k2) | (with_reducible exact k3) | (with_reducible exact k4) | apply And.intro | exact rfl | ((with_reducible change r_I _); (with_reducible assumption)) | (intro hx; exact absurd hx (by decide)) | (intro hx; exact absurd (by decide) hx) | decide | intro hx | (refine Exists.intro _ (And.intro rfl ?_)) | (refine Exists.intro _ (Exists.intro _ (And.intro rfl (And.intro rfl ?_)))) | ((with_reducible change LX _ _ _); (with_reducible assumption)) | ((with_reducible change _ = true); simp only [k1, k2, k3, k4, Bool.true_and]; rfl))
    all_goals try first | (with_reducible change am_tI _ _) | (change Ret _ _) | (change Ret _ _ _) | (change Exists _)
    all_goals try dsimp only at *
    all_goals try (with_reducible exact absurd ‹(1000 : Int64) = 0› am_z1000)
    all_goals first
      | exact ⟨_, _, rfl⟩
      | exact lawE.mk hi (by with_reducible assumption) (by omega) (by omega)
      | skip
def rwL_c29 : List dz_r := [(1554, .aload_n 1, 1), (1555, .aload_n 0, 1), (1556, .iload_n 3, 1), (1557, .iconst 1, 1), (1558, .iadd, 1), (1559, .iaload, 1), (1560, .aload_n 0, 1), (1561, .iload_n 3, 1), (1562, .iconst 2, 1), (1563, .iadd, 1), (1564, .iaload, 1), (1565, .aload_n 0, 1), (1566, .iload_n 3, 1), (1567, .iconst 3, 1), (1568, .iadd, 1), (1569, .iaload, 1), (1570, .aload_n 0, 1), (1571, .iload_n 3, 1), (1572, .iconst 4, 1), (1573, .iadd, 1), (1574, .iaload, 1), (1575, .aload_n 0, 1), (1576, .iload_n 3, 1), (1577, .iconst 5, 1), (1578, .iadd, 1), (1579, .iaload, 1), (1580, .invokevirtual 140, 3), (1583, .pop2, 1), (1584, .aload_n 2, 1), (1585, .aload_n 0, 1), (1586, .iload_n 3, 1), (1587, .iconst 1, 1), (1588, .iadd, 1), (1589, .iaload, 1), (1590, .aload_n 0, 1), (1591, .iload_n 3, 1), (1592, .iconst 2, 1), (1593, .iadd, 1), (1594, .iaload, 1), (1595, .aload_n 0, 1), (1596, .iload_n 3, 1), (1597, .iconst 3, 1), (1598, .iadd, 1), (1599, .iaload, 1), (1600, .aload_n 0, 1), (1601, .iload_n 3, 1), (1602, .iconst 4, 1), (1603, .iadd, 1), (1604, .iaload, 1), (1605, .aload_n 0, 1), (1606, .iload_n 3, 1), (1607, .iconst 5, 1), (1608, .iadd, 1), (1609, .iaload, 1), (1610, .invokevirtual 143, 3), (1613, .pop2, 1), (1614, .goto 228, 3)]
theorem dzL_c29 : dz cL_law rwL_c29 := dz_all 1554 (by decide +kernel)
theorem hy_X7_tried : yX7_tried.cls ≠ "java/lang/invoke/MethodHandle" ∧ yX7_tried.cls ≠ "java/lang/invoke/VarHandle" ∧ (parseMethodDescriptor yX7_tried.desc).map (fun d => d.parameters.length) = some 5 := ⟨by decide +kernel, by decide +kernel, by decide +kernel⟩
set_option maxRecDepth 100000 in
theorem wd_800 : Cond.methodLink "LearnLoansLaw" 140 yX7_tried ∈ am_ws := am_wt4 (List.mem_of_getElem? (i := 23) (by rfl)) (by decide +kernel)
set_option maxRecDepth 100000 in
theorem wd_801 : Cond.instanceMethod yX7_tried ∈ am_ws := am_wt4 (List.mem_of_getElem? (i := 24) (by rfl)) (by decide +kernel)
set_option maxRecDepth 100000 in
theorem wd_802 : Cond.selects "LearnLoans" yX7_tried yX7_tried ∈ am_ws := am_wt4 (List.mem_of_getElem? (i := 25) (by rfl)) (by decide +kernel)
set_option maxRecDepth 100000 in
theorem wd_803 : Cond.code yX7_tried cX7_tried 6 (some .long) ∈ am_ws := am_wt4 (List.mem_of_getElem? (i := 26) (by rfl)) (by decide +kernel)
theorem hy_X8_tried : yX8_tried.cls ≠ "java/lang/invoke/MethodHandle" ∧ yX8_tried.cls ≠ "java/lang/invoke/VarHandle" ∧ (parseMethodDescriptor yX8_tried.desc).map (fun d => d.parameters.length) = some 5 := ⟨by decide +kernel, by decide +kernel, by decide +kernel⟩
set_option maxRecDepth 100000 in
theorem wd_1266 : Cond.methodLink "LearnLoansLaw" 143 yX8_tried ∈ am_ws := am_wt6 (List.mem_of_getElem? (i := 9) (by rfl)) (by decide +kernel)
set_option maxRecDepth 100000 in
theorem wd_1267 : Cond.instanceMethod yX8_tried ∈ am_ws := am_wt6 (List.mem_of_getElem? (i := 10) (by rfl)) (by decide +kernel)
set_option maxRecDepth 100000 in
theorem wd_1268 : Cond.selects "LearnLoansModel" yX8_tried yX8_tried ∈ am_ws := am_wt6 (List.mem_of_getElem? (i := 11) (by rfl)) (by decide +kernel)
set_option maxRecDepth 100000 in
theorem wd_1269 : Cond.code yX8_tried cX8_tried 6 (some .long) ∈ am_ws := am_wt6 (List.mem_of_getElem? (i := 12) (by rfl)) (by decide +kernel)
def kL_c29 (Ln : Nat) (xs : Nat → Int32) : an_code := [(1554, an_lf (fun live => am_aload 1 1555)), (1555, an_lf (fun live => am_aload 0 1556)), (1556, an_lf (fun live => am_iload 3 1557)), (1557, an_lf (fun live => am_const (.int 1) 1558)), (1558, an_lf (fun live => am_i2 (fun x y => x + y) 1559)), (1559, an_sld Ln xs 1560), (1560, an_lf (fun live => am_aload 0 1561)), (1561, an_lf (fun live => am_iload 3 1562)), (1562, an_lf (fun live => am_const (.int 2) 1563)), (1563, an_lf (fun live => am_i2 (fun x y => x + y) 1564)), (1564, an_sld Ln xs 1565), (1565, an_lf (fun live => am_aload 0 1566)), (1566, an_lf (fun live => am_iload 3 1567)), (1567, an_lf (fun live => am_const (.int 3) 1568)), (1568, an_lf (fun live => am_i2 (fun x y => x + y) 1569)), (1569, an_sld Ln xs 1570), (1570, an_lf (fun live => am_aload 0 1571)), (1571, an_lf (fun live => am_iload 3 1572)), (1572, an_lf (fun live => am_const (.int 4) 1573)), (1573, an_lf (fun live => am_i2 (fun x y => x + y) 1574)), (1574, an_sld Ln xs 1575), (1575, an_lf (fun live => am_aload 0 1576)), (1576, an_lf (fun live => am_iload 3 1577)), (1577, an_lf (fun live => am_const (.int 5) 1578)), (1578, an_lf (fun live => am_i2 (fun x y => x + y) 1579)), (1579, an_sld Ln xs 1580), (1580, an_lf (fun live => am_callV live 7 5 TW_tried 1583)), (1583, an_lf (fun live => am_pop2 1584)), (1584, an_lf (fun live => am_aload 2 1585)), (1585, an_lf (fun live => am_aload 0 1586)), (1586, an_lf (fun live => am_iload 3 1587)), (1587, an_lf (fun live => am_const (.int 1) 1588)), (1588, an_lf (fun live => am_i2 (fun x y => x + y) 1589)), (1589, an_sld Ln xs 1590), (1590, an_lf (fun live => am_aload 0 1591)), (1591, an_lf (fun live => am_iload 3 1592)), (1592, an_lf (fun live => am_const (.int 2) 1593)), (1593, an_lf (fun live => am_i2 (fun x y => x + y) 1594)), (1594, an_sld Ln xs 1595), (1595, an_lf (fun live => am_aload 0 1596)), (1596, an_lf (fun live => am_iload 3 1597)), (1597, an_lf (fun live => am_const (.int 3) 1598)), (1598, an_lf (fun live => am_i2 (fun x y => x + y) 1599)), (1599, an_sld Ln xs 1600), (1600, an_lf (fun live => am_aload 0 1601)), (1601, an_lf (fun live => am_iload 3 1602)), (1602, an_lf (fun live => am_const (.int 4) 1603)), (1603, an_lf (fun live => am_i2 (fun x y => x + y) 1604)), (1604, an_sld Ln xs 1605), (1605, an_lf (fun live => am_aload 0 1606)), (1606, an_lf (fun live => am_iload 3 1607)), (1607, an_lf (fun live => am_const (.int 5) 1608)), (1608, an_lf (fun live => am_i2 (fun x y => x + y) 1609)), (1609, an_sld Ln xs 1610), (1610, an_lf (fun live => am_callV live 8 5 TV_tried 1613)), (1613, an_lf (fun live => am_pop2 1614)), (1614, an_lf (fun live => am_goto 1842))]
theorem koL_c29 (Ln : Nat) (xs : Nat → Int32) : ∀ q ∈ kL_c29 Ln xs, an_ok RL cL_law 4 (some .boolean) 2000 80000 600000 7302250 false (lawP Ln xs) an_noR q.1 q.2 :=
  am_kz dzL_c29 <|
  an_kd (fun d => an_lift (fun live => ak_aload_n d rfl rfl)) <|
  an_kd (fun d => an_lift (fun live => ak_aload_n d rfl rfl)) <|
  an_kd (fun d => an_lift (fun live => ak_iload_n d rfl rfl)) <|
  an_kd (fun d => an_lift (fun live => ak_iconst d (by decide +kernel) rfl)) <|
  an_kd (fun d => an_lift (fun live => ak_iadd d rfl)) <|
  an_kd (fun d => nk_sld d rfl) <|
  an_kd (fun d => an_lift (fun live => ak_aload_n d rfl rfl)) <|
  an_kd (fun d => an_lift (fun live => ak_iload_n d rfl rfl)) <|
  an_kd (fun d => an_lift (fun live => ak_iconst d (by decide +kernel) rfl)) <|
  an_kd (fun d => an_lift (fun live => ak_iadd d rfl)) <|
  an_kd (fun d => nk_sld d rfl) <|
  an_kd (fun d => an_lift (fun live => ak_aload_n d rfl rfl)) <|
  an_kd (fun d => an_lift (fun live => ak_iload_n d rfl rfl)) <|
  an_kd (fun d => an_lift (fun live => ak_iconst d (by decide +kernel) rfl)) <|
  an_kd (fun d => an_lift (fun live => ak_iadd d rfl)) <|
  an_kd (fun d => nk_sld d rfl) <|
  an_kd (fun d => an_lift (fun live => ak_aload_n d rfl rfl)) <|
  an_kd (fun d => an_lift (fun live => ak_iload_n d rfl rfl)) <|
  an_kd (fun d => an_lift (fun live => ak_iconst d (by decide +kernel) rfl)) <|
  an_kd (fun d => an_lift (fun live => ak_iadd d rfl)) <|
  an_kd (fun d => nk_sld d rfl) <|
  an_kd (fun d => an_lift (fun live => ak_aload_n d rfl rfl)) <|
  an_kd (fun d => an_lift (fun live => ak_iload_n d rfl rfl)) <|
  an_kd (fun d => an_lift (fun live => ak_iconst d (by decide +kernel) rfl)) <|
  an_kd (fun d => an_lift (fun live => ak_iadd d rfl)) <|
  an_kd (fun d => nk_sld d rfl) <|
  an_kd (fun d => an_lift (fun live => ak_callV (C := RX7) (F := TX7) (N := 4) metW_tried rfl ⟨rfl, hy_X7_tried⟩ (am_w5 wd_800 wd_801 wd_802 wd_58 wd_803) (by decide) d rfl)) <|
  an_kd (fun d => an_lift (fun live => ak_pop2 d rfl)) <|
  an_kd (fun d => an_lift (fun live => ak_aload_n d rfl rfl)) <|
  an_kd (fun d => an_lift (fun live => ak_aload_n d rfl rfl)) <|
  an_kd (fun d => an_lift (fun live => ak_iload_n d rfl rfl)) <|
  an_kd (fun d => an_lift (fun live => ak_iconst d (by decide +kernel) rfl)) <|
  an_kd (fun d => an_lift (fun live => ak_iadd d rfl)) <|
  an_kd (fun d => nk_sld d rfl) <|
  an_kd (fun d => an_lift (fun live => ak_aload_n d rfl rfl)) <|
  an_kd (fun d => an_lift (fun live => ak_iload_n d rfl rfl)) <|
  an_kd (fun d => an_lift (fun live => ak_iconst d (by decide +kernel) rfl)) <|
  an_kd (fun d => an_lift (fun live => ak_iadd d rfl)) <|
  an_kd (fun d => nk_sld d rfl) <|
  an_kd (fun d => an_lift (fun live => ak_aload_n d rfl rfl)) <|
  an_kd (fun d => an_lift (fun live => ak_iload_n d rfl rfl)) <|
  an_kd (fun d => an_lift (fun live => ak_iconst d (by decide +kernel) rfl)) <|
  an_kd (fun d => an_lift (fun live => ak_iadd d rfl)) <|
  an_kd (fun d => nk_sld d rfl) <|
  an_kd (fun d => an_lift (fun live => ak_aload_n d rfl rfl)) <|
  an_kd (fun d => an_lift (fun live => ak_iload_n d rfl rfl)) <|
  an_kd (fun d => an_lift (fun live => ak_iconst d (by decide +kernel) rfl)) <|
  an_kd (fun d => an_lift (fun live => ak_iadd d rfl)) <|
  an_kd (fun d => nk_sld d rfl) <|
  an_kd (fun d => an_lift (fun live => ak_aload_n d rfl rfl)) <|
  an_kd (fun d => an_lift (fun live => ak_iload_n d rfl rfl)) <|
  an_kd (fun d => an_lift (fun live => ak_iconst d (by decide +kernel) rfl)) <|
  an_kd (fun d => an_lift (fun live => ak_iadd d rfl)) <|
  an_kd (fun d => nk_sld d rfl) <|
  an_kd (fun d => an_lift (fun live => ak_callV (C := RX8) (F := TX8) (N := 27) metV_tried rfl ⟨rfl, hy_X8_tried⟩ (am_w5 wd_1266 wd_1267 wd_1268 wd_67 wd_1269) (by decide) d rfl)) <|
  an_kd (fun d => an_lift (fun live => ak_pop2 d rfl)) <|
  an_kd (fun d => an_lift (fun live => ak_goto d (by decide +kernel))) <| an_kdn
set_option maxRecDepth 100000 in
set_option maxHeartbeats 4000000 in
theorem caseL_c29 {Ln : Nat} (xs : Nat → Int32) {i : Int32} {i1 i2 : Bool} {kc kn : Nat} {M : am_M} (h : LX i1 i2 M) (hi : lawI Ln i kc kn) : an_wp (kL_c29 Ln xs) (lawC Ln i) 200 (an_go (kL_c29 Ln xs) 1554) (lawL i) [] ((am_lv i1 i2, am_q i1 i2), kc, kn, M) := by
    obtain ⟨⟨f1, f2, f3, f4, f5, f6, f7⟩, k1, k2, k3, k4⟩ := hi.f
    have hmn : am_mn (am_lv i1 i2, am_q i1 i2) := ⟨_, _, rfl⟩
    repeat' (first | (with_reducible exact f1) | (with_reducible exact f2) | (with_reducible exact f3) | (with_reducible exact f4) | (with_reducible exact f5) | (with_reducible exact f6) | (with_reducible exact f7) | (with_reducible exact hmn) | (with_reducible exact h) | (with_reducible exact k1) | (with_reducible exact k2) | (with_reducible exact k3) | (with_reducible exact k4) | apply And.intro | exact rfl | ((with_reducible change r_I _); (with_reducible assumption)) | (intro hx; exact absurd hx (by decide)) | (intro hx; exact absurd (by decide) hx) | decide | intro hx | (refine Exists.intro _ (And.intro rfl ?_)) | (refine Exists.intro _ (Exists.intro _ (And.intro rfl (And.intro rfl ?_)))) | ((with_reducible change LX _ _ _); (with_reducible assumption)) | ((with_reducible change _ = true); simp only [k1, k2, k3, k4, Bool.true_and]; rfl))
    all_goals try first | (with_reducible change am_tI _ _) | (change Ret _ _) | (change Ret _ _ _) | (change Exists _)
    all_goals try dsimp only at *
    all_goals try (with_reducible exact absurd ‹(1000 : Int64) = 0› am_z1000)
    all_goals first
      | exact ⟨_, _, rfl⟩
      | exact lawE.mk hi (by with_reducible assumption) (by omega) (by omega)
      | skip
