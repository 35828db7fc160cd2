/-! the law: cases 24 to 29 -/
theorem dL_law_1246 : decode cL_law 1246 = .ok (.aload_n 1, 1) := by decide +kernel
theorem dL_law_1247 : decode cL_law 1247 = .ok (.aload_n 0, 1) := by decide +kernel
theorem dL_law_1248 : decode cL_law 1248 = .ok (.iload_n 3, 1) := by decide +kernel
theorem dL_law_1249 : decode cL_law 1249 = .ok (.iconst 1, 1) := by decide +kernel
theorem dL_law_1250 : decode cL_law 1250 = .ok (.iadd, 1) := by decide +kernel
theorem dL_law_1251 : decode cL_law 1251 = .ok (.iaload, 1) := by decide +kernel
theorem dL_law_1252 : decode cL_law 1252 = .ok (.aload_n 0, 1) := by decide +kernel
theorem dL_law_1253 : decode cL_law 1253 = .ok (.iload_n 3, 1) := by decide +kernel
theorem dL_law_1254 : decode cL_law 1254 = .ok (.iconst 2, 1) := by decide +kernel
theorem dL_law_1255 : decode cL_law 1255 = .ok (.iadd, 1) := by decide +kernel
theorem dL_law_1256 : decode cL_law 1256 = .ok (.iaload, 1) := by decide +kernel
theorem dL_law_1257 : decode cL_law 1257 = .ok (.aload_n 0, 1) := by decide +kernel
theorem dL_law_1258 : decode cL_law 1258 = .ok (.iload_n 3, 1) := by decide +kernel
theorem dL_law_1259 : decode cL_law 1259 = .ok (.iconst 3, 1) := by decide +kernel
theorem dL_law_1260 : decode cL_law 1260 = .ok (.iadd, 1) := by decide +kernel
theorem dL_law_1261 : decode cL_law 1261 = .ok (.iaload, 1) := by decide +kernel
theorem dL_law_1262 : decode cL_law 1262 = .ok (.aload_n 0, 1) := by decide +kernel
theorem dL_law_1263 : decode cL_law 1263 = .ok (.iload_n 3, 1) := by decide +kernel
theorem dL_law_1264 : decode cL_law 1264 = .ok (.iconst 4, 1) := by decide +kernel
theorem dL_law_1265 : decode cL_law 1265 = .ok (.iadd, 1) := by decide +kernel
theorem dL_law_1266 : decode cL_law 1266 = .ok (.iaload, 1) := by decide +kernel
set_option maxRecDepth 100000 in
theorem wd_752 : Cond.methodLink "LearnLoansLaw" 117 yX7_live ∈ am_ws := am_wsi (List.mem_of_getElem? (i := 752) (by rfl)) (by decide +kernel)
set_option maxRecDepth 100000 in
theorem wd_753 : Cond.instanceMethod yX7_live ∈ am_ws := am_wsi (List.mem_of_getElem? (i := 753) (by rfl)) (by decide +kernel)
set_option maxRecDepth 100000 in
theorem wd_754 : Cond.selects "LearnLoans" yX7_live yX7_live ∈ am_ws := am_wsi (List.mem_of_getElem? (i := 754) (by rfl)) (by decide +kernel)
set_option maxRecDepth 100000 in
theorem wd_755 : Cond.code yX7_live cX7_live 5 (some .int) ∈ am_ws := am_wsi (List.mem_of_getElem? (i := 755) (by rfl)) (by decide +kernel)
theorem dL_law_1267 : decode cL_law 1267 = .ok (.invokevirtual 117, 3) := by decide +kernel
theorem dL_law_1270 : decode cL_law 1270 = .ok (.pop, 1) := by decide +kernel
theorem dL_law_1271 : decode cL_law 1271 = .ok (.aload_n 2, 1) := by decide +kernel
theorem dL_law_1272 : decode cL_law 1272 = .ok (.aload_n 0, 1) := by decide +kernel
theorem dL_law_1273 : decode cL_law 1273 = .ok (.iload_n 3, 1) := by decide +kernel
theorem dL_law_1274 : decode cL_law 1274 = .ok (.iconst 1, 1) := by decide +kernel
theorem dL_law_1275 : decode cL_law 1275 = .ok (.iadd, 1) := by decide +kernel
theorem dL_law_1276 : decode cL_law 1276 = .ok (.iaload, 1) := by decide +kernel
theorem dL_law_1277 : decode cL_law 1277 = .ok (.aload_n 0, 1) := by decide +kernel
theorem dL_law_1278 : decode cL_law 1278 = .ok (.iload_n 3, 1) := by decide +kernel
theorem dL_law_1279 : decode cL_law 1279 = .ok (.iconst 2, 1) := by decide +kernel
theorem dL_law_1280 : decode cL_law 1280 = .ok (.iadd, 1) := by decide +kernel
theorem dL_law_1281 : decode cL_law 1281 = .ok (.iaload, 1) := by decide +kernel
theorem dL_law_1282 : decode cL_law 1282 = .ok (.aload_n 0, 1) := by decide +kernel
theorem dL_law_1283 : decode cL_law 1283 = .ok (.iload_n 3, 1) := by decide +kernel
theorem dL_law_1284 : decode cL_law 1284 = .ok (.iconst 3, 1) := by decide +kernel
theorem dL_law_1285 : decode cL_law 1285 = .ok (.iadd, 1) := by decide +kernel
theorem dL_law_1286 : decode cL_law 1286 = .ok (.iaload, 1) := by decide +kernel
theorem dL_law_1287 : decode cL_law 1287 = .ok (.aload_n 0, 1) := by decide +kernel
theorem dL_law_1288 : decode cL_law 1288 = .ok (.iload_n 3, 1) := by decide +kernel
theorem dL_law_1289 : decode cL_law 1289 = .ok (.iconst 4, 1) := by decide +kernel
theorem dL_law_1290 : decode cL_law 1290 = .ok (.iadd, 1) := by decide +kernel
theorem dL_law_1291 : decode cL_law 1291 = .ok (.iaload, 1) := by decide +kernel
set_option maxRecDepth 100000 in
theorem wd_1221 : Cond.methodLink "LearnLoansLaw" 120 yX8_live ∈ am_ws := am_wsi (List.mem_of_getElem? (i := 1221) (by rfl)) (by decide +kernel)
set_option maxRecDepth 100000 in
theorem wd_1222 : Cond.instanceMethod yX8_live ∈ am_ws := am_wsi (List.mem_of_getElem? (i := 1222) (by rfl)) (by decide +kernel)
set_option maxRecDepth 100000 in
theorem wd_1223 : Cond.selects "LearnLoansModel" yX8_live yX8_live ∈ am_ws := am_wsi (List.mem_of_getElem? (i := 1223) (by rfl)) (by decide +kernel)
set_option maxRecDepth 100000 in
theorem wd_1224 : Cond.code yX8_live cX8_live 6 (some .int) ∈ am_ws := am_wsi (List.mem_of_getElem? (i := 1224) (by rfl)) (by decide +kernel)
theorem dL_law_1292 : decode cL_law 1292 = .ok (.invokevirtual 120, 3) := by decide +kernel
theorem dL_law_1295 : decode cL_law 1295 = .ok (.pop, 1) := by decide +kernel
theorem dL_law_1296 : decode cL_law 1296 = .ok (.goto 545, 3) := by decide +kernel
def kL_c24 (Ln : Nat) (xs : Nat → Int32) : an_code := [(1246, an_lf (fun live => am_aload 1 1247)), (1247, an_lf (fun live => am_aload 0 1248)), (1248, an_lf (fun live => am_iload 3 1249)), (1249, an_lf (fun live => am_const (.int 1) 1250)), (1250, an_lf (fun live => am_i2 (fun x y => x + y) 1251)), (1251, an_sld Ln xs 1252), (1252, an_lf (fun live => am_aload 0 1253)), (1253, an_lf (fun live => am_iload 3 1254)), (1254, an_lf (fun live => am_const (.int 2) 1255)), (1255, an_lf (fun live => am_i2 (fun x y => x + y) 1256)), (1256, an_sld Ln xs 1257), (1257, an_lf (fun live => am_aload 0 1258)), (1258, an_lf (fun live => am_iload 3 1259)), (1259, an_lf (fun live => am_const (.int 3) 1260)), (1260, an_lf (fun live => am_i2 (fun x y => x + y) 1261)), (1261, an_sld Ln xs 1262), (1262, an_lf (fun live => am_aload 0 1263)), (1263, an_lf (fun live => am_iload 3 1264)), (1264, an_lf (fun live => am_const (.int 4) 1265)), (1265, an_lf (fun live => am_i2 (fun x y => x + y) 1266)), (1266, an_sld Ln xs 1267), (1267, an_lf (fun live => am_callV live 7 4 TW_live 1270)), (1270, an_lf (fun live => am_pop 1271)), (1271, an_lf (fun live => am_aload 2 1272)), (1272, an_lf (fun live => am_aload 0 1273)), (1273, an_lf (fun live => am_iload 3 1274)), (1274, an_lf (fun live => am_const (.int 1) 1275)), (1275, an_lf (fun live => am_i2 (fun x y => x + y) 1276)), (1276, an_sld Ln xs 1277), (1277, an_lf (fun live => am_aload 0 1278)), (1278, an_lf (fun live => am_iload 3 1279)), (1279, an_lf (fun live => am_const (.int 2) 1280)), (1280, an_lf (fun live => am_i2 (fun x y => x + y) 1281)), (1281, an_sld Ln xs 1282), (1282, an_lf (fun live => am_aload 0 1283)), (1283, an_lf (fun live => am_iload 3 1284)), (1284, an_lf (fun live => am_const (.int 3) 1285)), (1285, an_lf (fun live => am_i2 (fun x y => x + y) 1286)), (1286, an_sld Ln xs 1287), (1287, an_lf (fun live => am_aload 0 1288)), (1288, an_lf (fun live => am_iload 3 1289)), (1289, an_lf (fun live => am_const (.int 4) 1290)), (1290, an_lf (fun live => am_i2 (fun x y => x + y) 1291)), (1291, an_sld Ln xs 1292), (1292, an_lf (fun live => am_callV live 8 4 TX8_live 1295)), (1295, an_lf (fun live => am_pop 1296)), (1296, an_lf (fun live => am_goto 1841))]
theorem koL_c24 (Ln : Nat) (xs : Nat → Int32) : ∀ q ∈ kL_c24 Ln xs, an_ok RL cL_law 4 (some .boolean) 2000 80000 600000 7302250 false (lawP Ln xs) an_noR q.1 q.2 :=
  an_kc (an_lift (fun live => ak_aload_n dL_law_1246 rfl rfl)) <|
  an_kc (an_lift (fun live => ak_aload_n dL_law_1247 rfl rfl)) <|
  an_kc (an_lift (fun live => ak_iload_n dL_law_1248 rfl rfl)) <|
  an_kc (an_lift (fun live => ak_iconst dL_law_1249 (by decide +kernel) rfl)) <|
  an_kc (an_lift (fun live => ak_iadd dL_law_1250 rfl)) <|
  an_kc (nk_sld dL_law_1251 rfl) <|
  an_kc (an_lift (fun live => ak_aload_n dL_law_1252 rfl rfl)) <|
  an_kc (an_lift (fun live => ak_iload_n dL_law_1253 rfl rfl)) <|
  an_kc (an_lift (fun live => ak_iconst dL_law_1254 (by decide +kernel) rfl)) <|
  an_kc (an_lift (fun live => ak_iadd dL_law_1255 rfl)) <|
  an_kc (nk_sld dL_law_1256 rfl) <|
  an_kc (an_lift (fun live => ak_aload_n dL_law_1257 rfl rfl)) <|
  an_kc (an_lift (fun live => ak_iload_n dL_law_1258 rfl rfl)) <|
  an_kc (an_lift (fun live => ak_iconst dL_law_1259 (by decide +kernel) rfl)) <|
  an_kc (an_lift (fun live => ak_iadd dL_law_1260 rfl)) <|
  an_kc (nk_sld dL_law_1261 rfl) <|
  an_kc (an_lift (fun live => ak_aload_n dL_law_1262 rfl rfl)) <|
  an_kc (an_lift (fun live => ak_iload_n dL_law_1263 rfl rfl)) <|
  an_kc (an_lift (fun live => ak_iconst dL_law_1264 (by decide +kernel) rfl)) <|
  an_kc (an_lift (fun live => ak_iadd dL_law_1265 rfl)) <|
  an_kc (nk_sld dL_law_1266 rfl) <|
  an_kc (an_lift (fun live => ak_callV (C := RX7) (F := TX7) (N := 4) metW_live rfl ⟨rfl, by decide +kernel, by decide +kernel, by decide +kernel⟩ (am_w5 wd_752 wd_753 wd_754 wd_58 wd_755) (by decide) dL_law_1267 rfl)) <|
  an_kc (an_lift (fun live => ak_pop dL_law_1270 rfl)) <|
  an_kc (an_lift (fun live => ak_aload_n dL_law_1271 rfl rfl)) <|
  an_kc (an_lift (fun live => ak_aload_n dL_law_1272 rfl rfl)) <|
  an_kc (an_lift (fun live => ak_iload_n dL_law_1273 rfl rfl)) <|
  an_kc (an_lift (fun live => ak_iconst dL_law_1274 (by decide +kernel) rfl)) <|
  an_kc (an_lift (fun live => ak_iadd dL_law_1275 rfl)) <|
  an_kc (nk_sld dL_law_1276 rfl) <|
  an_kc (an_lift (fun live => ak_aload_n dL_law_1277 rfl rfl)) <|
  an_kc (an_lift (fun live => ak_iload_n dL_law_1278 rfl rfl)) <|
  an_kc (an_lift (fun live => ak_iconst dL_law_1279 (by decide +kernel) rfl)) <|
  an_kc (an_lift (fun live => ak_iadd dL_law_1280 rfl)) <|
  an_kc (nk_sld dL_law_1281 rfl) <|
  an_kc (an_lift (fun live => ak_aload_n dL_law_1282 rfl rfl)) <|
  an_kc (an_lift (fun live => ak_iload_n dL_law_1283 rfl rfl)) <|
  an_kc (an_lift (fun live => ak_iconst dL_law_1284 (by decide +kernel) rfl)) <|
  an_kc (an_lift (fun live => ak_iadd dL_law_1285 rfl)) <|
  an_kc (nk_sld dL_law_1286 rfl) <|
  an_kc (an_lift (fun live => ak_aload_n dL_law_1287 rfl rfl)) <|
  an_kc (an_lift (fun live => ak_iload_n dL_law_1288 rfl rfl)) <|
  an_kc (an_lift (fun live => ak_iconst dL_law_1289 (by decide +kernel) rfl)) <|
  an_kc (an_lift (fun live => ak_iadd dL_law_1290 rfl)) <|
  an_kc (nk_sld dL_law_1291 rfl) <|
  an_kc (an_lift (fun live => ak_callV (C := RX8) (F := TX8) (N := 27) metX8_live rfl ⟨rfl, by decide +kernel, by decide +kernel, by decide +kernel⟩ (am_w5 wd_1221 wd_1222 wd_1223 wd_67 wd_1224) (by decide) dL_law_1292 rfl)) <|
  an_kc (an_lift (fun live => ak_pop dL_law_1295 rfl)) <|
  an_kc (an_lift (fun live => ak_goto dL_law_1296 (by decide +kernel))) <| an_kn
set_option maxRecDepth 100000 in
set_option maxHeartbeats 4000000 in
theorem caseL_c24 {Ln : Nat} (xs : Nat → Int32) {i : Int32} {i1 i2 : Bool} {kc kn : Nat} {M : am_M} (h : LX i1 i2 M) (hi : lawI Ln i kc kn) : an_wp (kL_c24 Ln xs) (lawC Ln i) 200 (an_go (kL_c24 Ln xs) 1246) (lawL i) [] ((am_lv i1 i2, am_q i1 i2), kc, kn, M) := by
    obtain ⟨⟨f1, f2, f3, f4, f5, f6, f7⟩, k1, k2, k3, k4⟩ := hi.f
    have hmn : am_mn (am_lv i1 i2, am_q i1 i2) := ⟨_, _, rfl⟩
    repeat' (first | (with_reducible exact f1) | (with_reducible exact f2) | (with_reducible exact f3) | (with_reducible exact f4) | (with_reducible exact f5) | (with_reducible exact f6) | (with_reducible exact f7) | (with_reducible exact hmn) | (with_reducible exact h) | (with_reducible exact k1) | (with_reducible exact k2) | (with_reducible exact k3) | (with_reducible exact k4) | apply And.intro | exact rfl | ((with_reducible change r_I _); (with_reducible assumption)) | (intro hx; exact absurd hx (by decide)) | (intro hx; exact absurd (by decide) hx) | decide | intro hx | (refine Exists.intro _ (And.intro rfl ?_)) | (refine Exists.intro _ (Exists.intro _ (And.intro rfl (And.intro rfl ?_)))) | ((with_reducible change LX _ _ _); (with_reducible assumption)) | ((with_reducible change _ = true); simp only [k1, k2, k3, k4, Bool.true_and]; rfl))
    all_goals try first | (with_reducible change am_tI _ _) | (change Ret _ _) | (change Ret _ _ _) | (change Exists _)
    all_goals try dsimp only at *
    all_goals try exact absurd ‹(1000 : Int64) = 0› (by decide)
    all_goals first
      | exact ⟨_, _, rfl⟩
      | exact lawE.mk hi (by with_reducible assumption) (by omega) (by omega)
      | skip
theorem dL_law_1299 : decode cL_law 1299 = .ok (.aload_n 1, 1) := by decide +kernel
theorem dL_law_1300 : decode cL_law 1300 = .ok (.aload_n 0, 1) := by decide +kernel
theorem dL_law_1301 : decode cL_law 1301 = .ok (.iload_n 3, 1) := by decide +kernel
theorem dL_law_1302 : decode cL_law 1302 = .ok (.iconst 1, 1) := by decide +kernel
theorem dL_law_1303 : decode cL_law 1303 = .ok (.iadd, 1) := by decide +kernel
theorem dL_law_1304 : decode cL_law 1304 = .ok (.iaload, 1) := by decide +kernel
theorem dL_law_1305 : decode cL_law 1305 = .ok (.aload_n 0, 1) := by decide +kernel
theorem dL_law_1306 : decode cL_law 1306 = .ok (.iload_n 3, 1) := by decide +kernel
theorem dL_law_1307 : decode cL_law 1307 = .ok (.iconst 2, 1) := by decide +kernel
theorem dL_law_1308 : decode cL_law 1308 = .ok (.iadd, 1) := by decide +kernel
theorem dL_law_1309 : decode cL_law 1309 = .ok (.iaload, 1) := by decide +kernel
theorem dL_law_1310 : decode cL_law 1310 = .ok (.aload_n 0, 1) := by decide +kernel
theorem dL_law_1311 : decode cL_law 1311 = .ok (.iload_n 3, 1) := by decide +kernel
theorem dL_law_1312 : decode cL_law 1312 = .ok (.iconst 3, 1) := by decide +kernel
theorem dL_law_1313 : decode cL_law 1313 = .ok (.iadd, 1) := by decide +kernel
theorem dL_law_1314 : decode cL_law 1314 = .ok (.iaload, 1) := by decide +kernel
theorem dL_law_1315 : decode cL_law 1315 = .ok (.aload_n 0, 1) := by decide +kernel
theorem dL_law_1316 : decode cL_law 1316 = .ok (.iload_n 3, 1) := by decide +kernel
theorem dL_law_1317 : decode cL_law 1317 = .ok (.iconst 4, 1) := by decide +kernel
theorem dL_law_1318 : decode cL_law 1318 = .ok (.iadd, 1) := by decide +kernel
theorem dL_law_1319 : decode cL_law 1319 = .ok (.iaload, 1) := by decide +kernel
set_option maxRecDepth 100000 in
theorem wd_756 : Cond.methodLink "LearnLoansLaw" 121 yX7_early ∈ am_ws := am_wsi (List.mem_of_getElem? (i := 756) (by rfl)) (by decide +kernel)
set_option maxRecDepth 100000 in
theorem wd_757 : Cond.instanceMethod yX7_early ∈ am_ws := am_wsi (List.mem_of_getElem? (i := 757) (by rfl)) (by decide +kernel)
set_option maxRecDepth 100000 in
theorem wd_758 : Cond.selects "LearnLoans" yX7_early yX7_early ∈ am_ws := am_wsi (List.mem_of_getElem? (i := 758) (by rfl)) (by decide +kernel)
set_option maxRecDepth 100000 in
theorem wd_759 : Cond.code yX7_early cX7_early 11 (some .int) ∈ am_ws := am_wsi (List.mem_of_getElem? (i := 759) (by rfl)) (by decide +kernel)
theorem dL_law_1320 : decode cL_law 1320 = .ok (.invokevirtual 121, 3) := by decide +kernel
theorem dL_law_1323 : decode cL_law 1323 = .ok (.pop, 1) := by decide +kernel
theorem dL_law_1324 : decode cL_law 1324 = .ok (.aload_n 2, 1) := by decide +kernel
theorem dL_law_1325 : decode cL_law 1325 = .ok (.aload_n 0, 1) := by decide +kernel
theorem dL_law_1326 : decode cL_law 1326 = .ok (.iload_n 3, 1) := by decide +kernel
theorem dL_law_1327 : decode cL_law 1327 = .ok (.iconst 1, 1) := by decide +kernel
theorem dL_law_1328 : decode cL_law 1328 = .ok (.iadd, 1) := by decide +kernel
theorem dL_law_1329 : decode cL_law 1329 = .ok (.iaload, 1) := by decide +kernel
theorem dL_law_1330 : decode cL_law 1330 = .ok (.aload_n 0, 1) := by decide +kernel
theorem dL_law_1331 : decode cL_law 1331 = .ok (.iload_n 3, 1) := by decide +kernel
theorem dL_law_1332 : decode cL_law 1332 = .ok (.iconst 2, 1) := by decide +kernel
theorem dL_law_1333 : decode cL_law 1333 = .ok (.iadd, 1) := by decide +kernel
theorem dL_law_1334 : decode cL_law 1334 = .ok (.iaload, 1) := by decide +kernel
theorem dL_law_1335 : decode cL_law 1335 = .ok (.aload_n 0, 1) := by decide +kernel
theorem dL_law_1336 : decode cL_law 1336 = .ok (.iload_n 3, 1) := by decide +kernel
theorem dL_law_1337 : decode cL_law 1337 = .ok (.iconst 3, 1) := by decide +kernel
theorem dL_law_1338 : decode cL_law 1338 = .ok (.iadd, 1) := by decide +kernel
theorem dL_law_1339 : decode cL_law 1339 = .ok (.iaload, 1) := by decide +kernel
theorem dL_law_1340 : decode cL_law 1340 = .ok (.aload_n 0, 1) := by decide +kernel
theorem dL_law_1341 : decode cL_law 1341 = .ok (.iload_n 3, 1) := by decide +kernel
theorem dL_law_1342 : decode cL_law 1342 = .ok (.iconst 4, 1) := by decide +kernel
theorem dL_law_1343 : decode cL_law 1343 = .ok (.iadd, 1) := by decide +kernel
theorem dL_law_1344 : decode cL_law 1344 = .ok (.iaload, 1) := by decide +kernel
set_option maxRecDepth 100000 in
theorem wd_1228 : Cond.methodLink "LearnLoansLaw" 124 yX8_early ∈ am_ws := am_wsi (List.mem_of_getElem? (i := 1228) (by rfl)) (by decide +kernel)
set_option maxRecDepth 100000 in
theorem wd_1229 : Cond.instanceMethod yX8_early ∈ am_ws := am_wsi (List.mem_of_getElem? (i := 1229) (by rfl)) (by decide +kernel)
set_option maxRecDepth 100000 in
theorem wd_1230 : Cond.selects "LearnLoansModel" yX8_early yX8_early ∈ am_ws := am_wsi (List.mem_of_getElem? (i := 1230) (by rfl)) (by decide +kernel)
set_option maxRecDepth 100000 in
theorem wd_1231 : Cond.code yX8_early cX8_early 7 (some .int) ∈ am_ws := am_wsi (List.mem_of_getElem? (i := 1231) (by rfl)) (by decide +kernel)
theorem dL_law_1345 : decode cL_law 1345 = .ok (.invokevirtual 124, 3) := by decide +kernel
theorem dL_law_1348 : decode cL_law 1348 = .ok (.pop, 1) := by decide +kernel
theorem dL_law_1349 : decode cL_law 1349 = .ok (.goto 492, 3) := by decide +kernel
def kL_c25 (Ln : Nat) (xs : Nat → Int32) : an_code := [(1299, an_lf (fun live => am_aload 1 1300)), (1300, an_lf (fun live => am_aload 0 1301)), (1301, an_lf (fun live => am_iload 3 1302)), (1302, an_lf (fun live => am_const (.int 1) 1303)), (1303, an_lf (fun live => am_i2 (fun x y => x + y) 1304)), (1304, an_sld Ln xs 1305), (1305, an_lf (fun live => am_aload 0 1306)), (1306, an_lf (fun live => am_iload 3 1307)), (1307, an_lf (fun live => am_const (.int 2) 1308)), (1308, an_lf (fun live => am_i2 (fun x y => x + y) 1309)), (1309, an_sld Ln xs 1310), (1310, an_lf (fun live => am_aload 0 1311)), (1311, an_lf (fun live => am_iload 3 1312)), (1312, an_lf (fun live => am_const (.int 3) 1313)), (1313, an_lf (fun live => am_i2 (fun x y => x + y) 1314)), (1314, an_sld Ln xs 1315), (1315, an_lf (fun live => am_aload 0 1316)), (1316, an_lf (fun live => am_iload 3 1317)), (1317, an_lf (fun live => am_const (.int 4) 1318)), (1318, an_lf (fun live => am_i2 (fun x y => x + y) 1319)), (1319, an_sld Ln xs 1320), (1320, an_lf (fun live => am_callV live 7 4 TW_early 1323)), (1323, an_lf (fun live => am_pop 1324)), (1324, an_lf (fun live => am_aload 2 1325)), (1325, an_lf (fun live => am_aload 0 1326)), (1326, an_lf (fun live => am_iload 3 1327)), (1327, an_lf (fun live => am_const (.int 1) 1328)), (1328, an_lf (fun live => am_i2 (fun x y => x + y) 1329)), (1329, an_sld Ln xs 1330), (1330, an_lf (fun live => am_aload 0 1331)), (1331, an_lf (fun live => am_iload 3 1332)), (1332, an_lf (fun live => am_const (.int 2) 1333)), (1333, an_lf (fun live => am_i2 (fun x y => x + y) 1334)), (1334, an_sld Ln xs 1335), (1335, an_lf (fun live => am_aload 0 1336)), (1336, an_lf (fun live => am_iload 3 1337)), (1337, an_lf (fun live => am_const (.int 3) 1338)), (1338, an_lf (fun live => am_i2 (fun x y => x + y) 1339)), (1339, an_sld Ln xs 1340), (1340, an_lf (fun live => am_aload 0 1341)), (1341, an_lf (fun live => am_iload 3 1342)), (1342, an_lf (fun live => am_const (.int 4) 1343)), (1343, an_lf (fun live => am_i2 (fun x y => x + y) 1344)), (1344, an_sld Ln xs 1345), (1345, an_lf (fun live => am_callV live 8 4 TV_early 1348)), (1348, an_lf (fun live => am_pop 1349)), (1349, an_lf (fun live => am_goto 1841))]
theorem koL_c25 (Ln : Nat) (xs : Nat → Int32) : ∀ q ∈ kL_c25 Ln xs, an_ok RL cL_law 4 (some .boolean) 2000 80000 600000 7302250 false (lawP Ln xs) an_noR q.1 q.2 :=
  an_kc (an_lift (fun live => ak_aload_n dL_law_1299 rfl rfl)) <|
  an_kc (an_lift (fun live => ak_aload_n dL_law_1300 rfl rfl)) <|
  an_kc (an_lift (fun live => ak_iload_n dL_law_1301 rfl rfl)) <|
  an_kc (an_lift (fun live => ak_iconst dL_law_1302 (by decide +kernel) rfl)) <|
  an_kc (an_lift (fun live => ak_iadd dL_law_1303 rfl)) <|
  an_kc (nk_sld dL_law_1304 rfl) <|
  an_kc (an_lift (fun live => ak_aload_n dL_law_1305 rfl rfl)) <|
  an_kc (an_lift (fun live => ak_iload_n dL_law_1306 rfl rfl)) <|
  an_kc (an_lift (fun live => ak_iconst dL_law_1307 (by decide +kernel) rfl)) <|
  an_kc (an_lift (fun live => ak_iadd dL_law_1308 rfl)) <|
  an_kc (nk_sld dL_law_1309 rfl) <|
  an_kc (an_lift (fun live => ak_aload_n dL_law_1310 rfl rfl)) <|
  an_kc (an_lift (fun live => ak_iload_n dL_law_1311 rfl rfl)) <|
  an_kc (an_lift (fun live => ak_iconst dL_law_1312 (by decide +kernel) rfl)) <|
  an_kc (an_lift (fun live => ak_iadd dL_law_1313 rfl)) <|
  an_kc (nk_sld dL_law_1314 rfl) <|
  an_kc (an_lift (fun live => ak_aload_n dL_law_1315 rfl rfl)) <|
  an_kc (an_lift (fun live => ak_iload_n dL_law_1316 rfl rfl)) <|
  an_kc (an_lift (fun live => ak_iconst dL_law_1317 (by decide +kernel) rfl)) <|
  an_kc (an_lift (fun live => ak_iadd dL_law_1318 rfl)) <|
  an_kc (nk_sld dL_law_1319 rfl) <|
  an_kc (an_lift (fun live => ak_callV (C := RX7) (F := TX7) (N := 4) metW_early rfl ⟨rfl, by decide +kernel, by decide +kernel, by decide +kernel⟩ (am_w5 wd_756 wd_757 wd_758 wd_58 wd_759) (by decide) dL_law_1320 rfl)) <|
  an_kc (an_lift (fun live => ak_pop dL_law_1323 rfl)) <|
  an_kc (an_lift (fun live => ak_aload_n dL_law_1324 rfl rfl)) <|
  an_kc (an_lift (fun live => ak_aload_n dL_law_1325 rfl rfl)) <|
  an_kc (an_lift (fun live => ak_iload_n dL_law_1326 rfl rfl)) <|
  an_kc (an_lift (fun live => ak_iconst dL_law_1327 (by decide +kernel) rfl)) <|
  an_kc (an_lift (fun live => ak_iadd dL_law_1328 rfl)) <|
  an_kc (nk_sld dL_law_1329 rfl) <|
  an_kc (an_lift (fun live => ak_aload_n dL_law_1330 rfl rfl)) <|
  an_kc (an_lift (fun live => ak_iload_n dL_law_1331 rfl rfl)) <|
  an_kc (an_lift (fun live => ak_iconst dL_law_1332 (by decide +kernel) rfl)) <|
  an_kc (an_lift (fun live => ak_iadd dL_law_1333 rfl)) <|
  an_kc (nk_sld dL_law_1334 rfl) <|
  an_kc (an_lift (fun live => ak_aload_n dL_law_1335 rfl rfl)) <|
  an_kc (an_lift (fun live => ak_iload_n dL_law_1336 rfl rfl)) <|
  an_kc (an_lift (fun live => ak_iconst dL_law_1337 (by decide +kernel) rfl)) <|
  an_kc (an_lift (fun live => ak_iadd dL_law_1338 rfl)) <|
  an_kc (nk_sld dL_law_1339 rfl) <|
  an_kc (an_lift (fun live => ak_aload_n dL_law_1340 rfl rfl)) <|
  an_kc (an_lift (fun live => ak_iload_n dL_law_1341 rfl rfl)) <|
  an_kc (an_lift (fun live => ak_iconst dL_law_1342 (by decide +kernel) rfl)) <|
  an_kc (an_lift (fun live => ak_iadd dL_law_1343 rfl)) <|
  an_kc (nk_sld dL_law_1344 rfl) <|
  an_kc (an_lift (fun live => ak_callV (C := RX8) (F := TX8) (N := 27) metV_early rfl ⟨rfl, by decide +kernel, by decide +kernel, by decide +kernel⟩ (am_w5 wd_1228 wd_1229 wd_1230 wd_67 wd_1231) (by decide) dL_law_1345 rfl)) <|
  an_kc (an_lift (fun live => ak_pop dL_law_1348 rfl)) <|
  an_kc (an_lift (fun live => ak_goto dL_law_1349 (by decide +kernel))) <| an_kn
set_option maxRecDepth 100000 in
set_option maxHeartbeats 4000000 in
theorem caseL_c25 {Ln : Nat} (xs : Nat → Int32) {i : Int32} {i1 i2 : Bool} {kc kn : Nat} {M : am_M} (h : LX i1 i2 M) (hi : lawI Ln i kc kn) : an_wp (kL_c25 Ln xs) (lawC Ln i) 200 (an_go (kL_c25 Ln xs) 1299) (lawL i) [] ((am_lv i1 i2, am_q i1 i2), kc, kn, M) := by
    obtain ⟨⟨f1, f2, f3, f4, f5, f6, f7⟩, k1, k2, k3, k4⟩ := hi.f
    have hmn : am_mn (am_lv i1 i2, am_q i1 i2) := ⟨_, _, rfl⟩
    repeat' (first | (with_reducible exact f1) | (with_reducible exact f2) | (with_reducible exact f3) | (with_reducible exact f4) | (with_reducible exact f5) | (with_reducible exact f6) | (with_reducible exact f7) | (with_reducible exact hmn) | (with_reducible exact h) | (with_reducible exact k1) | (with_reducible exact k2) | (with_reducible exact k3) | (with_reducible exact k4) | apply And.intro | exact rfl | ((with_reducible change r_I _); (with_reducible assumption)) | (intro hx; exact absurd hx (by decide)) | (intro hx; exact absurd (by decide) hx) | decide | intro hx | (refine Exists.intro _ (And.intro rfl ?_)) | (refine Exists.intro _ (Exists.intro _ (And.intro rfl (And.intro rfl ?_)))) | ((with_reducible change LX _ _ _); (with_reducible assumption)) | ((with_reducible change _ = true); simp only [k1, k2, k3, k4, Bool.true_and]; rfl))
    all_goals try first | (with_reducible change am_tI _ _) | (change Ret _ _) | (change Ret _ _ _) | (change Exists _)
    all_goals try dsimp only at *
    all_goals try exact absurd ‹(1000 : Int64) = 0› (by decide)
    all_goals first
      | exact ⟨_, _, rfl⟩
      | exact lawE.mk hi (by with_reducible assumption) (by omega) (by omega)
      | skip
theorem dL_law_1352 : decode cL_law 1352 = .ok (.aload_n 1, 1) := by decide +kernel
theorem dL_law_1353 : decode cL_law 1353 = .ok (.aload_n 0, 1) := by decide +kernel
theorem dL_law_1354 : decode cL_law 1354 = .ok (.iload_n 3, 1) := by decide +kernel
theorem dL_law_1355 : decode cL_law 1355 = .ok (.iconst 1, 1) := by decide +kernel
theorem dL_law_1356 : decode cL_law 1356 = .ok (.iadd, 1) := by decide +kernel
theorem dL_law_1357 : decode cL_law 1357 = .ok (.iaload, 1) := by decide +kernel
theorem dL_law_1358 : decode cL_law 1358 = .ok (.aload_n 0, 1) := by decide +kernel
theorem dL_law_1359 : decode cL_law 1359 = .ok (.iload_n 3, 1) := by decide +kernel
theorem dL_law_1360 : decode cL_law 1360 = .ok (.iconst 2, 1) := by decide +kernel
theorem dL_law_1361 : decode cL_law 1361 = .ok (.iadd, 1) := by decide +kernel
theorem dL_law_1362 : decode cL_law 1362 = .ok (.iaload, 1) := by decide +kernel
theorem dL_law_1363 : decode cL_law 1363 = .ok (.aload_n 0, 1) := by decide +kernel
theorem dL_law_1364 : decode cL_law 1364 = .ok (.iload_n 3, 1) := by decide +kernel
theorem dL_law_1365 : decode cL_law 1365 = .ok (.iconst 3, 1) := by decide +kernel
theorem dL_law_1366 : decode cL_law 1366 = .ok (.iadd, 1) := by decide +kernel
theorem dL_law_1367 : decode cL_law 1367 = .ok (.iaload, 1) := by decide +kernel
theorem dL_law_1368 : decode cL_law 1368 = .ok (.aload_n 0, 1) := by decide +kernel
theorem dL_law_1369 : decode cL_law 1369 = .ok (.iload_n 3, 1) := by decide +kernel
theorem dL_law_1370 : decode cL_law 1370 = .ok (.iconst 4, 1) := by decide +kernel
theorem dL_law_1371 : decode cL_law 1371 = .ok (.iadd, 1) := by decide +kernel
theorem dL_law_1372 : decode cL_law 1372 = .ok (.iaload, 1) := by decide +kernel
theorem dL_law_1373 : decode cL_law 1373 = .ok (.aload_n 0, 1) := by decide +kernel
theorem dL_law_1374 : decode cL_law 1374 = .ok (.iload_n 3, 1) := by decide +kernel
theorem dL_law_1375 : decode cL_law 1375 = .ok (.iconst 5, 1) := by decide +kernel
theorem dL_law_1376 : decode cL_law 1376 = .ok (.iadd, 1) := by decide +kernel
theorem dL_law_1377 : decode cL_law 1377 = .ok (.iaload, 1) := by decide +kernel
set_option maxRecDepth 100000 in
theorem wd_765 : Cond.methodLink "LearnLoansLaw" 125 yX7_choice ∈ am_ws := am_wsi (List.mem_of_getElem? (i := 765) (by rfl)) (by decide +kernel)
set_option maxRecDepth 100000 in
theorem wd_766 : Cond.instanceMethod yX7_choice ∈ am_ws := am_wsi (List.mem_of_getElem? (i := 766) (by rfl)) (by decide +kernel)
set_option maxRecDepth 100000 in
theorem wd_767 : Cond.selects "LearnLoans" yX7_choice yX7_choice ∈ am_ws := am_wsi (List.mem_of_getElem? (i := 767) (by rfl)) (by decide +kernel)
set_option maxRecDepth 100000 in
theorem wd_768 : Cond.code yX7_choice cX7_choice 6 (some .long) ∈ am_ws := am_wsi (List.mem_of_getElem? (i := 768) (by rfl)) (by decide +kernel)
theorem dL_law_1378 : decode cL_law 1378 = .ok (.invokevirtual 125, 3) := by decide +kernel
theorem dL_law_1381 : decode cL_law 1381 = .ok (.pop2, 1) := by decide +kernel
theorem dL_law_1382 : decode cL_law 1382 = .ok (.aload_n 2, 1) := by decide +kernel
theorem dL_law_1383 : decode cL_law 1383 = .ok (.aload_n 0, 1) := by decide +kernel
theorem dL_law_1384 : decode cL_law 1384 = .ok (.iload_n 3, 1) := by decide +kernel
theorem dL_law_1385 : decode cL_law 1385 = .ok (.iconst 1, 1) := by decide +kernel
theorem dL_law_1386 : decode cL_law 1386 = .ok (.iadd, 1) := by decide +kernel
theorem dL_law_1387 : decode cL_law 1387 = .ok (.iaload, 1) := by decide +kernel
theorem dL_law_1388 : decode cL_law 1388 = .ok (.aload_n 0, 1) := by decide +kernel
theorem dL_law_1389 : decode cL_law 1389 = .ok (.iload_n 3, 1) := by decide +kernel
theorem dL_law_1390 : decode cL_law 1390 = .ok (.iconst 2, 1) := by decide +kernel
theorem dL_law_1391 : decode cL_law 1391 = .ok (.iadd, 1) := by decide +kernel
theorem dL_law_1392 : decode cL_law 1392 = .ok (.iaload, 1) := by decide +kernel
theorem dL_law_1393 : decode cL_law 1393 = .ok (.aload_n 0, 1) := by decide +kernel
theorem dL_law_1394 : decode cL_law 1394 = .ok (.iload_n 3, 1) := by decide +kernel
theorem dL_law_1395 : decode cL_law 1395 = .ok (.iconst 3, 1) := by decide +kernel
theorem dL_law_1396 : decode cL_law 1396 = .ok (.iadd, 1) := by decide +kernel
theorem dL_law_1397 : decode cL_law 1397 = .ok (.iaload, 1) := by decide +kernel
theorem dL_law_1398 : decode cL_law 1398 = .ok (.aload_n 0, 1) := by decide +kernel
theorem dL_law_1399 : decode cL_law 1399 = .ok (.iload_n 3, 1) := by decide +kernel
theorem dL_law_1400 : decode cL_law 1400 = .ok (.iconst 4, 1) := by decide +kernel
theorem dL_law_1401 : decode cL_law 1401 = .ok (.iadd, 1) := by decide +kernel
theorem dL_law_1402 : decode cL_law 1402 = .ok (.iaload, 1) := by decide +kernel
theorem dL_law_1403 : decode cL_law 1403 = .ok (.aload_n 0, 1) := by decide +kernel
theorem dL_law_1404 : decode cL_law 1404 = .ok (.iload_n 3, 1) := by decide +kernel
theorem dL_law_1405 : decode cL_law 1405 = .ok (.iconst 5, 1) := by decide +kernel
theorem dL_law_1406 : decode cL_law 1406 = .ok (.iadd, 1) := by decide +kernel
theorem dL_law_1407 : decode cL_law 1407 = .ok (.iaload, 1) := by decide +kernel
set_option maxRecDepth 100000 in
theorem wd_1236 : Cond.methodLink "LearnLoansLaw" 129 yX8_choice ∈ am_ws := am_wsi (List.mem_of_getElem? (i := 1236) (by rfl)) (by decide +kernel)
set_option maxRecDepth 100000 in
theorem wd_1237 : Cond.instanceMethod yX8_choice ∈ am_ws := am_wsi (List.mem_of_getElem? (i := 1237) (by rfl)) (by decide +kernel)
set_option maxRecDepth 100000 in
theorem wd_1238 : Cond.selects "LearnLoansModel" yX8_choice yX8_choice ∈ am_ws := am_wsi (List.mem_of_getElem? (i := 1238) (by rfl)) (by decide +kernel)
set_option maxRecDepth 100000 in
theorem wd_1239 : Cond.code yX8_choice cX8_choice 8 (some .long) ∈ am_ws := am_wsi (List.mem_of_getElem? (i := 1239) (by rfl)) (by decide +kernel)
theorem dL_law_1408 : decode cL_law 1408 = .ok (.invokevirtual 129, 3) := by decide +kernel
theorem dL_law_1411 : decode cL_law 1411 = .ok (.pop2, 1) := by decide +kernel
theorem dL_law_1412 : decode cL_law 1412 = .ok (.goto 429, 3) := by decide +kernel
def kL_c26 (Ln : Nat) (xs : Nat → Int32) : an_code := [(1352, an_lf (fun live => am_aload 1 1353)), (1353, an_lf (fun live => am_aload 0 1354)), (1354, an_lf (fun live => am_iload 3 1355)), (1355, an_lf (fun live => am_const (.int 1) 1356)), (1356, an_lf (fun live => am_i2 (fun x y => x + y) 1357)), (1357, an_sld Ln xs 1358), (1358, an_lf (fun live => am_aload 0 1359)), (1359, an_lf (fun live => am_iload 3 1360)), (1360, an_lf (fun live => am_const (.int 2) 1361)), (1361, an_lf (fun live => am_i2 (fun x y => x + y) 1362)), (1362, an_sld Ln xs 1363), (1363, an_lf (fun live => am_aload 0 1364)), (1364, an_lf (fun live => am_iload 3 1365)), (1365, an_lf (fun live => am_const (.int 3) 1366)), (1366, an_lf (fun live => am_i2 (fun x y => x + y) 1367)), (1367, an_sld Ln xs 1368), (1368, an_lf (fun live => am_aload 0 1369)), (1369, an_lf (fun live => am_iload 3 1370)), (1370, an_lf (fun live => am_const (.int 4) 1371)), (1371, an_lf (fun live => am_i2 (fun x y => x + y) 1372)), (1372, an_sld Ln xs 1373), (1373, an_lf (fun live => am_aload 0 1374)), (1374, an_lf (fun live => am_iload 3 1375)), (1375, an_lf (fun live => am_const (.int 5) 1376)), (1376, an_lf (fun live => am_i2 (fun x y => x + y) 1377)), (1377, an_sld Ln xs 1378), (1378, an_lf (fun live => am_callV live 7 5 TW_choice 1381)), (1381, an_lf (fun live => am_pop2 1382)), (1382, an_lf (fun live => am_aload 2 1383)), (1383, an_lf (fun live => am_aload 0 1384)), (1384, an_lf (fun live => am_iload 3 1385)), (1385, an_lf (fun live => am_const (.int 1) 1386)), (1386, an_lf (fun live => am_i2 (fun x y => x + y) 1387)), (1387, an_sld Ln xs 1388), (1388, an_lf (fun live => am_aload 0 1389)), (1389, an_lf (fun live => am_iload 3 1390)), (1390, an_lf (fun live => am_const (.int 2) 1391)), (1391, an_lf (fun live => am_i2 (fun x y => x + y) 1392)), (1392, an_sld Ln xs 1393), (1393, an_lf (fun live => am_aload 0 1394)), (1394, an_lf (fun live => am_iload 3 1395)), (1395, an_lf (fun live => am_const (.int 3) 1396)), (1396, an_lf (fun live => am_i2 (fun x y => x + y) 1397)), (1397, an_sld Ln xs 1398), (1398, an_lf (fun live => am_aload 0 1399)), (1399, an_lf (fun live => am_iload 3 1400)), (1400, an_lf (fun live => am_const (.int 4) 1401)), (1401, an_lf (fun live => am_i2 (fun x y => x + y) 1402)), (1402, an_sld Ln xs 1403), (1403, an_lf (fun live => am_aload 0 1404)), (1404, an_lf (fun live => am_iload 3 1405)), (1405, an_lf (fun live => am_const (.int 5) 1406)), (1406, an_lf (fun live => am_i2 (fun x y => x + y) 1407)), (1407, an_sld Ln xs 1408), (1408, an_lf (fun live => am_callV live 8 5 TV_choice 1411)), (1411, an_lf (fun live => am_pop2 1412)), (1412, an_lf (fun live => am_goto 1841))]
theorem koL_c26 (Ln : Nat) (xs : Nat → Int32) : ∀ q ∈ kL_c26 Ln xs, an_ok RL cL_law 4 (some .boolean) 2000 80000 600000 7302250 false (lawP Ln xs) an_noR q.1 q.2 :=
  an_kc (an_lift (fun live => ak_aload_n dL_law_1352 rfl rfl)) <|
  an_kc (an_lift (fun live => ak_aload_n dL_law_1353 rfl rfl)) <|
  an_kc (an_lift (fun live => ak_iload_n dL_law_1354 rfl rfl)) <|
  an_kc (an_lift (fun live => ak_iconst dL_law_1355 (by decide +kernel) rfl)) <|
  an_kc (an_lift (fun live => ak_iadd dL_law_1356 rfl)) <|
  an_kc (nk_sld dL_law_1357 rfl) <|
  an_kc (an_lift (fun live => ak_aload_n dL_law_1358 rfl rfl)) <|
  an_kc (an_lift (fun live => ak_iload_n dL_law_1359 rfl rfl)) <|
  an_kc (an_lift (fun live => ak_iconst dL_law_1360 (by decide +kernel) rfl)) <|
  an_kc (an_lift (fun live => ak_iadd dL_law_1361 rfl)) <|
  an_kc (nk_sld dL_law_1362 rfl) <|
  an_kc (an_lift (fun live => ak_aload_n dL_law_1363 rfl rfl)) <|
  an_kc (an_lift (fun live => ak_iload_n dL_law_1364 rfl rfl)) <|
  an_kc (an_lift (fun live => ak_iconst dL_law_1365 (by decide +kernel) rfl)) <|
  an_kc (an_lift (fun live => ak_iadd dL_law_1366 rfl)) <|
  an_kc (nk_sld dL_law_1367 rfl) <|
  an_kc (an_lift (fun live => ak_aload_n dL_law_1368 rfl rfl)) <|
  an_kc (an_lift (fun live => ak_iload_n dL_law_1369 rfl rfl)) <|
  an_kc (an_lift (fun live => ak_iconst dL_law_1370 (by decide +kernel) rfl)) <|
  an_kc (an_lift (fun live => ak_iadd dL_law_1371 rfl)) <|
  an_kc (nk_sld dL_law_1372 rfl) <|
  an_kc (an_lift (fun live => ak_aload_n dL_law_1373 rfl rfl)) <|
  an_kc (an_lift (fun live => ak_iload_n dL_law_1374 rfl rfl)) <|
  an_kc (an_lift (fun live => ak_iconst dL_law_1375 (by decide +kernel) rfl)) <|
  an_kc (an_lift (fun live => ak_iadd dL_law_1376 rfl)) <|
  an_kc (nk_sld dL_law_1377 rfl) <|
  an_kc (an_lift (fun live => ak_callV (C := RX7) (F := TX7) (N := 4) metW_choice rfl ⟨rfl, by decide +kernel, by decide +kernel, by decide +kernel⟩ (am_w5 wd_765 wd_766 wd_767 wd_58 wd_768) (by decide) dL_law_1378 rfl)) <|
  an_kc (an_lift (fun live => ak_pop2 dL_law_1381 rfl)) <|
  an_kc (an_lift (fun live => ak_aload_n dL_law_1382 rfl rfl)) <|
  an_kc (an_lift (fun live => ak_aload_n dL_law_1383 rfl rfl)) <|
  an_kc (an_lift (fun live => ak_iload_n dL_law_1384 rfl rfl)) <|
  an_kc (an_lift (fun live => ak_iconst dL_law_1385 (by decide +kernel) rfl)) <|
  an_kc (an_lift (fun live => ak_iadd dL_law_1386 rfl)) <|
  an_kc (nk_sld dL_law_1387 rfl) <|
  an_kc (an_lift (fun live => ak_aload_n dL_law_1388 rfl rfl)) <|
  an_kc (an_lift (fun live => ak_iload_n dL_law_1389 rfl rfl)) <|
  an_kc (an_lift (fun live => ak_iconst dL_law_1390 (by decide +kernel) rfl)) <|
  an_kc (an_lift (fun live => ak_iadd dL_law_1391 rfl)) <|
  an_kc (nk_sld dL_law_1392 rfl) <|
  an_kc (an_lift (fun live => ak_aload_n dL_law_1393 rfl rfl)) <|
  an_kc (an_lift (fun live => ak_iload_n dL_law_1394 rfl rfl)) <|
  an_kc (an_lift (fun live => ak_iconst dL_law_1395 (by decide +kernel) rfl)) <|
  an_kc (an_lift (fun live => ak_iadd dL_law_1396 rfl)) <|
  an_kc (nk_sld dL_law_1397 rfl) <|
  an_kc (an_lift (fun live => ak_aload_n dL_law_1398 rfl rfl)) <|
  an_kc (an_lift (fun live => ak_iload_n dL_law_1399 rfl rfl)) <|
  an_kc (an_lift (fun live => ak_iconst dL_law_1400 (by decide +kernel) rfl)) <|
  an_kc (an_lift (fun live => ak_iadd dL_law_1401 rfl)) <|
  an_kc (nk_sld dL_law_1402 rfl) <|
  an_kc (an_lift (fun live => ak_aload_n dL_law_1403 rfl rfl)) <|
  an_kc (an_lift (fun live => ak_iload_n dL_law_1404 rfl rfl)) <|
  an_kc (an_lift (fun live => ak_iconst dL_law_1405 (by decide +kernel) rfl)) <|
  an_kc (an_lift (fun live => ak_iadd dL_law_1406 rfl)) <|
  an_kc (nk_sld dL_law_1407 rfl) <|
  an_kc (an_lift (fun live => ak_callV (C := RX8) (F := TX8) (N := 27) metV_choice rfl ⟨rfl, by decide +kernel, by decide +kernel, by decide +kernel⟩ (am_w5 wd_1236 wd_1237 wd_1238 wd_67 wd_1239) (by decide) dL_law_1408 rfl)) <|
  an_kc (an_lift (fun live => ak_pop2 dL_law_1411 rfl)) <|
  an_kc (an_lift (fun live => ak_goto dL_law_1412 (by decide +kernel))) <| an_kn
set_option maxRecDepth 100000 in
set_option maxHeartbeats 4000000 in
theorem caseL_c26 {Ln : Nat} (xs : Nat → Int32) {i : Int32} {i1 i2 : Bool} {kc kn : Nat} {M : am_M} (h : LX i1 i2 M) (hi : lawI Ln i kc kn) : an_wp (kL_c26 Ln xs) (lawC Ln i) 200 (an_go (kL_c26 Ln xs) 1352) (lawL i) [] ((am_lv i1 i2, am_q i1 i2), kc, kn, M) := by
    obtain ⟨⟨f1, f2, f3, f4, f5, f6, f7⟩, k1, k2, k3, k4⟩ := hi.f
    have hmn : am_mn (am_lv i1 i2, am_q i1 i2) := ⟨_, _, rfl⟩
    repeat' (first | (with_reducible exact f1) | (with_reducible exact f2) | (with_reducible exact f3) | (with_reducible exact f4) | (with_reducible exact f5) | (with_reducible exact f6) | (with_reducible exact f7) | (with_reducible exact hmn) | (with_reducible exact h) | (with_reducible exact k1) | (with_reducible exact k2) | (with_reducible exact k3) | (with_reducible exact k4) | apply And.intro | exact rfl | ((with_reducible change r_I _); (with_reducible assumption)) | (intro hx; exact absurd hx (by decide)) | (intro hx; exact absurd (by decide) hx) | decide | intro hx | (refine Exists.intro _ (And.intro rfl ?_)) | (refine Exists.intro _ (Exists.intro _ (And.intro rfl (And.intro rfl ?_)))) | ((with_reducible change LX _ _ _); (with_reducible assumption)) | ((with_reducible change _ = true); simp only [k1, k2, k3, k4, Bool.true_and]; rfl))
    all_goals try first | (with_reducible change am_tI _ _) | (change Ret _ _) | (change Ret _ _ _) | (change Exists _)
    all_goals try dsimp only at *
    all_goals try exact absurd ‹(1000 : Int64) = 0› (by decide)
    all_goals first
      | exact ⟨_, _, rfl⟩
      | exact lawE.mk hi (by with_reducible assumption) (by omega) (by omega)
      | skip
theorem dL_law_1415 : decode cL_law 1415 = .ok (.aload_n 1, 1) := by decide +kernel
theorem dL_law_1416 : decode cL_law 1416 = .ok (.aload_n 0, 1) := by decide +kernel
theorem dL_law_1417 : decode cL_law 1417 = .ok (.iload_n 3, 1) := by decide +kernel
theorem dL_law_1418 : decode cL_law 1418 = .ok (.iconst 1, 1) := by decide +kernel
theorem dL_law_1419 : decode cL_law 1419 = .ok (.iadd, 1) := by decide +kernel
theorem dL_law_1420 : decode cL_law 1420 = .ok (.iaload, 1) := by decide +kernel
theorem dL_law_1421 : decode cL_law 1421 = .ok (.aload_n 0, 1) := by decide +kernel
theorem dL_law_1422 : decode cL_law 1422 = .ok (.iload_n 3, 1) := by decide +kernel
theorem dL_law_1423 : decode cL_law 1423 = .ok (.iconst 2, 1) := by decide +kernel
theorem dL_law_1424 : decode cL_law 1424 = .ok (.iadd, 1) := by decide +kernel
theorem dL_law_1425 : decode cL_law 1425 = .ok (.iaload, 1) := by decide +kernel
theorem dL_law_1426 : decode cL_law 1426 = .ok (.aload_n 0, 1) := by decide +kernel
theorem dL_law_1427 : decode cL_law 1427 = .ok (.iload_n 3, 1) := by decide +kernel
theorem dL_law_1428 : decode cL_law 1428 = .ok (.iconst 3, 1) := by decide +kernel
theorem dL_law_1429 : decode cL_law 1429 = .ok (.iadd, 1) := by decide +kernel
theorem dL_law_1430 : decode cL_law 1430 = .ok (.iaload, 1) := by decide +kernel
theorem dL_law_1431 : decode cL_law 1431 = .ok (.aload_n 0, 1) := by decide +kernel
theorem dL_law_1432 : decode cL_law 1432 = .ok (.iload_n 3, 1) := by decide +kernel
theorem dL_law_1433 : decode cL_law 1433 = .ok (.iconst 4, 1) := by decide +kernel
theorem dL_law_1434 : decode cL_law 1434 = .ok (.iadd, 1) := by decide +kernel
theorem dL_law_1435 : decode cL_law 1435 = .ok (.iaload, 1) := by decide +kernel
theorem dL_law_1436 : decode cL_law 1436 = .ok (.aload_n 0, 1) := by decide +kernel
theorem dL_law_1437 : decode cL_law 1437 = .ok (.iload_n 3, 1) := by decide +kernel
theorem dL_law_1438 : decode cL_law 1438 = .ok (.iconst 5, 1) := by decide +kernel
theorem dL_law_1439 : decode cL_law 1439 = .ok (.iadd, 1) := by decide +kernel
theorem dL_law_1440 : decode cL_law 1440 = .ok (.iaload, 1) := by decide +kernel
set_option maxRecDepth 100000 in
theorem wd_769 : Cond.methodLink "LearnLoansLaw" 130 yX7_chances ∈ am_ws := am_wsi (List.mem_of_getElem? (i := 769) (by rfl)) (by decide +kernel)
set_option maxRecDepth 100000 in
theorem wd_770 : Cond.instanceMethod yX7_chances ∈ am_ws := am_wsi (List.mem_of_getElem? (i := 770) (by rfl)) (by decide +kernel)
set_option maxRecDepth 100000 in
theorem wd_771 : Cond.selects "LearnLoans" yX7_chances yX7_chances ∈ am_ws := am_wsi (List.mem_of_getElem? (i := 771) (by rfl)) (by decide +kernel)
set_option maxRecDepth 100000 in
theorem wd_772 : Cond.code yX7_chances cX7_chances 7 (some .int) ∈ am_ws := am_wsi (List.mem_of_getElem? (i := 772) (by rfl)) (by decide +kernel)
theorem dL_law_1441 : decode cL_law 1441 = .ok (.invokevirtual 130, 3) := by decide +kernel
theorem dL_law_1444 : decode cL_law 1444 = .ok (.pop, 1) := by decide +kernel
theorem dL_law_1445 : decode cL_law 1445 = .ok (.aload_n 2, 1) := by decide +kernel
theorem dL_law_1446 : decode cL_law 1446 = .ok (.aload_n 0, 1) := by decide +kernel
theorem dL_law_1447 : decode cL_law 1447 = .ok (.iload_n 3, 1) := by decide +kernel
theorem dL_law_1448 : decode cL_law 1448 = .ok (.iconst 1, 1) := by decide +kernel
theorem dL_law_1449 : decode cL_law 1449 = .ok (.iadd, 1) := by decide +kernel
theorem dL_law_1450 : decode cL_law 1450 = .ok (.iaload, 1) := by decide +kernel
theorem dL_law_1451 : decode cL_law 1451 = .ok (.aload_n 0, 1) := by decide +kernel
theorem dL_law_1452 : decode cL_law 1452 = .ok (.iload_n 3, 1) := by decide +kernel
theorem dL_law_1453 : decode cL_law 1453 = .ok (.iconst 2, 1) := by decide +kernel
theorem dL_law_1454 : decode cL_law 1454 = .ok (.iadd, 1) := by decide +kernel
theorem dL_law_1455 : decode cL_law 1455 = .ok (.iaload, 1) := by decide +kernel
theorem dL_law_1456 : decode cL_law 1456 = .ok (.aload_n 0, 1) := by decide +kernel
theorem dL_law_1457 : decode cL_law 1457 = .ok (.iload_n 3, 1) := by decide +kernel
theorem dL_law_1458 : decode cL_law 1458 = .ok (.iconst 3, 1) := by decide +kernel
theorem dL_law_1459 : decode cL_law 1459 = .ok (.iadd, 1) := by decide +kernel
theorem dL_law_1460 : decode cL_law 1460 = .ok (.iaload, 1) := by decide +kernel
theorem dL_law_1461 : decode cL_law 1461 = .ok (.aload_n 0, 1) := by decide +kernel
theorem dL_law_1462 : decode cL_law 1462 = .ok (.iload_n 3, 1) := by decide +kernel
theorem dL_law_1463 : decode cL_law 1463 = .ok (.iconst 4, 1) := by decide +kernel
theorem dL_law_1464 : decode cL_law 1464 = .ok (.iadd, 1) := by decide +kernel
theorem dL_law_1465 : decode cL_law 1465 = .ok (.iaload, 1) := by decide +kernel
theorem dL_law_1466 : decode cL_law 1466 = .ok (.aload_n 0, 1) := by decide +kernel
theorem dL_law_1467 : decode cL_law 1467 = .ok (.iload_n 3, 1) := by decide +kernel
theorem dL_law_1468 : decode cL_law 1468 = .ok (.iconst 5, 1) := by decide +kernel
theorem dL_law_1469 : decode cL_law 1469 = .ok (.iadd, 1) := by decide +kernel
theorem dL_law_1470 : decode cL_law 1470 = .ok (.iaload, 1) := by decide +kernel
set_option maxRecDepth 100000 in
theorem wd_1240 : Cond.methodLink "LearnLoansLaw" 134 yX8_chances ∈ am_ws := am_wsi (List.mem_of_getElem? (i := 1240) (by rfl)) (by decide +kernel)
set_option maxRecDepth 100000 in
theorem wd_1241 : Cond.instanceMethod yX8_chances ∈ am_ws := am_wsi (List.mem_of_getElem? (i := 1241) (by rfl)) (by decide +kernel)
set_option maxRecDepth 100000 in
theorem wd_1242 : Cond.selects "LearnLoansModel" yX8_chances yX8_chances ∈ am_ws := am_wsi (List.mem_of_getElem? (i := 1242) (by rfl)) (by decide +kernel)
set_option maxRecDepth 100000 in
theorem wd_1243 : Cond.code yX8_chances cX8_chances 6 (some .int) ∈ am_ws := am_wsi (List.mem_of_getElem? (i := 1243) (by rfl)) (by decide +kernel)
theorem dL_law_1471 : decode cL_law 1471 = .ok (.invokevirtual 134, 3) := by decide +kernel
theorem dL_law_1474 : decode cL_law 1474 = .ok (.pop, 1) := by decide +kernel
theorem dL_law_1475 : decode cL_law 1475 = .ok (.goto 366, 3) := by decide +kernel
def kL_c27 (Ln : Nat) (xs : Nat → Int32) : an_code := [(1415, an_lf (fun live => am_aload 1 1416)), (1416, an_lf (fun live => am_aload 0 1417)), (1417, an_lf (fun live => am_iload 3 1418)), (1418, an_lf (fun live => am_const (.int 1) 1419)), (1419, an_lf (fun live => am_i2 (fun x y => x + y) 1420)), (1420, an_sld Ln xs 1421), (1421, an_lf (fun live => am_aload 0 1422)), (1422, an_lf (fun live => am_iload 3 1423)), (1423, an_lf (fun live => am_const (.int 2) 1424)), (1424, an_lf (fun live => am_i2 (fun x y => x + y) 1425)), (1425, an_sld Ln xs 1426), (1426, an_lf (fun live => am_aload 0 1427)), (1427, an_lf (fun live => am_iload 3 1428)), (1428, an_lf (fun live => am_const (.int 3) 1429)), (1429, an_lf (fun live => am_i2 (fun x y => x + y) 1430)), (1430, an_sld Ln xs 1431), (1431, an_lf (fun live => am_aload 0 1432)), (1432, an_lf (fun live => am_iload 3 1433)), (1433, an_lf (fun live => am_const (.int 4) 1434)), (1434, an_lf (fun live => am_i2 (fun x y => x + y) 1435)), (1435, an_sld Ln xs 1436), (1436, an_lf (fun live => am_aload 0 1437)), (1437, an_lf (fun live => am_iload 3 1438)), (1438, an_lf (fun live => am_const (.int 5) 1439)), (1439, an_lf (fun live => am_i2 (fun x y => x + y) 1440)), (1440, an_sld Ln xs 1441), (1441, an_lf (fun live => am_callV live 7 5 TW_chances 1444)), (1444, an_lf (fun live => am_pop 1445)), (1445, an_lf (fun live => am_aload 2 1446)), (1446, an_lf (fun live => am_aload 0 1447)), (1447, an_lf (fun live => am_iload 3 1448)), (1448, an_lf (fun live => am_const (.int 1) 1449)), (1449, an_lf (fun live => am_i2 (fun x y => x + y) 1450)), (1450, an_sld Ln xs 1451), (1451, an_lf (fun live => am_aload 0 1452)), (1452, an_lf (fun live => am_iload 3 1453)), (1453, an_lf (fun live => am_const (.int 2) 1454)), (1454, an_lf (fun live => am_i2 (fun x y => x + y) 1455)), (1455, an_sld Ln xs 1456), (1456, an_lf (fun live => am_aload 0 1457)), (1457, an_lf (fun live => am_iload 3 1458)), (1458, an_lf (fun live => am_const (.int 3) 1459)), (1459, an_lf (fun live => am_i2 (fun x y => x + y) 1460)), (1460, an_sld Ln xs 1461), (1461, an_lf (fun live => am_aload 0 1462)), (1462, an_lf (fun live => am_iload 3 1463)), (1463, an_lf (fun live => am_const (.int 4) 1464)), (1464, an_lf (fun live => am_i2 (fun x y => x + y) 1465)), (1465, an_sld Ln xs 1466), (1466, an_lf (fun live => am_aload 0 1467)), (1467, an_lf (fun live => am_iload 3 1468)), (1468, an_lf (fun live => am_const (.int 5) 1469)), (1469, an_lf (fun live => am_i2 (fun x y => x + y) 1470)), (1470, an_sld Ln xs 1471), (1471, an_lf (fun live => am_callV live 8 5 TX8_chances 1474)), (1474, an_lf (fun live => am_pop 1475)), (1475, an_lf (fun live => am_goto 1841))]
theorem koL_c27 (Ln : Nat) (xs : Nat → Int32) : ∀ q ∈ kL_c27 Ln xs, an_ok RL cL_law 4 (some .boolean) 2000 80000 600000 7302250 false (lawP Ln xs) an_noR q.1 q.2 :=
  an_kc (an_lift (fun live => ak_aload_n dL_law_1415 rfl rfl)) <|
  an_kc (an_lift (fun live => ak_aload_n dL_law_1416 rfl rfl)) <|
  an_kc (an_lift (fun live => ak_iload_n dL_law_1417 rfl rfl)) <|
  an_kc (an_lift (fun live => ak_iconst dL_law_1418 (by decide +kernel) rfl)) <|
  an_kc (an_lift (fun live => ak_iadd dL_law_1419 rfl)) <|
  an_kc (nk_sld dL_law_1420 rfl) <|
  an_kc (an_lift (fun live => ak_aload_n dL_law_1421 rfl rfl)) <|
  an_kc (an_lift (fun live => ak_iload_n dL_law_1422 rfl rfl)) <|
  an_kc (an_lift (fun live => ak_iconst dL_law_1423 (by decide +kernel) rfl)) <|
  an_kc (an_lift (fun live => ak_iadd dL_law_1424 rfl)) <|
  an_kc (nk_sld dL_law_1425 rfl) <|
  an_kc (an_lift (fun live => ak_aload_n dL_law_1426 rfl rfl)) <|
  an_kc (an_lift (fun live => ak_iload_n dL_law_1427 rfl rfl)) <|
  an_kc (an_lift (fun live => ak_iconst dL_law_1428 (by decide +kernel) rfl)) <|
  an_kc (an_lift (fun live => ak_iadd dL_law_1429 rfl)) <|
  an_kc (nk_sld dL_law_1430 rfl) <|
  an_kc (an_lift (fun live => ak_aload_n dL_law_1431 rfl rfl)) <|
  an_kc (an_lift (fun live => ak_iload_n dL_law_1432 rfl rfl)) <|
  an_kc (an_lift (fun live => ak_iconst dL_law_1433 (by decide +kernel) rfl)) <|
  an_kc (an_lift (fun live => ak_iadd dL_law_1434 rfl)) <|
  an_kc (nk_sld dL_law_1435 rfl) <|
  an_kc (an_lift (fun live => ak_aload_n dL_law_1436 rfl rfl)) <|
  an_kc (an_lift (fun live => ak_iload_n dL_law_1437 rfl rfl)) <|
  an_kc (an_lift (fun live => ak_iconst dL_law_1438 (by decide +kernel) rfl)) <|
  an_kc (an_lift (fun live => ak_iadd dL_law_1439 rfl)) <|
  an_kc (nk_sld dL_law_1440 rfl) <|
  an_kc (an_lift (fun live => ak_callV (C := RX7) (F := TX7) (N := 4) metW_chances rfl ⟨rfl, by decide +kernel, by decide +kernel, by decide +kernel⟩ (am_w5 wd_769 wd_770 wd_771 wd_58 wd_772) (by decide) dL_law_1441 rfl)) <|
  an_kc (an_lift (fun live => ak_pop dL_law_1444 rfl)) <|
  an_kc (an_lift (fun live => ak_aload_n dL_law_1445 rfl rfl)) <|
  an_kc (an_lift (fun live => ak_aload_n dL_law_1446 rfl rfl)) <|
  an_kc (an_lift (fun live => ak_iload_n dL_law_1447 rfl rfl)) <|
  an_kc (an_lift (fun live => ak_iconst dL_law_1448 (by decide +kernel) rfl)) <|
  an_kc (an_lift (fun live => ak_iadd dL_law_1449 rfl)) <|
  an_kc (nk_sld dL_law_1450 rfl) <|
  an_kc (an_lift (fun live => ak_aload_n dL_law_1451 rfl rfl)) <|
  an_kc (an_lift (fun live => ak_iload_n dL_law_1452 rfl rfl)) <|
  an_kc (an_lift (fun live => ak_iconst dL_law_1453 (by decide +kernel) rfl)) <|
  an_kc (an_lift (fun live => ak_iadd dL_law_1454 rfl)) <|
  an_kc (nk_sld dL_law_1455 rfl) <|
  an_kc (an_lift (fun live => ak_aload_n dL_law_1456 rfl rfl)) <|
  an_kc (an_lift (fun live => ak_iload_n dL_law_1457 rfl rfl)) <|
  an_kc (an_lift (fun live => ak_iconst dL_law_1458 (by decide +kernel) rfl)) <|
  an_kc (an_lift (fun live => ak_iadd dL_law_1459 rfl)) <|
  an_kc (nk_sld dL_law_1460 rfl) <|
  an_kc (an_lift (fun live => ak_aload_n dL_law_1461 rfl rfl)) <|
  an_kc (an_lift (fun live => ak_iload_n dL_law_1462 rfl rfl)) <|
  an_kc (an_lift (fun live => ak_iconst dL_law_1463 (by decide +kernel) rfl)) <|
  an_kc (an_lift (fun live => ak_iadd dL_law_1464 rfl)) <|
  an_kc (nk_sld dL_law_1465 rfl) <|
  an_kc (an_lift (fun live => ak_aload_n dL_law_1466 rfl rfl)) <|
  an_kc (an_lift (fun live => ak_iload_n dL_law_1467 rfl rfl)) <|
  an_kc (an_lift (fun live => ak_iconst dL_law_1468 (by decide +kernel) rfl)) <|
  an_kc (an_lift (fun live => ak_iadd dL_law_1469 rfl)) <|
  an_kc (nk_sld dL_law_1470 rfl) <|
  an_kc (an_lift (fun live => ak_callV (C := RX8) (F := TX8) (N := 27) metX8_chances rfl ⟨rfl, by decide +kernel, by decide +kernel, by decide +kernel⟩ (am_w5 wd_1240 wd_1241 wd_1242 wd_67 wd_1243) (by decide) dL_law_1471 rfl)) <|
  an_kc (an_lift (fun live => ak_pop dL_law_1474 rfl)) <|
  an_kc (an_lift (fun live => ak_goto dL_law_1475 (by decide +kernel))) <| an_kn
set_option maxRecDepth 100000 in
set_option maxHeartbeats 4000000 in
theorem caseL_c27 {Ln : Nat} (xs : Nat → Int32) {i : Int32} {i1 i2 : Bool} {kc kn : Nat} {M : am_M} (h : LX i1 i2 M) (hi : lawI Ln i kc kn) : an_wp (kL_c27 Ln xs) (lawC Ln i) 200 (an_go (kL_c27 Ln xs) 1415) (lawL i) [] ((am_lv i1 i2, am_q i1 i2), kc, kn, M) := by
    obtain ⟨⟨f1, f2, f3, f4, f5, f6, f7⟩, k1, k2, k3, k4⟩ := hi.f
    have hmn : am_mn (am_lv i1 i2, am_q i1 i2) := ⟨_, _, rfl⟩
    repeat' (first | (with_reducible exact f1) | (with_reducible exact f2) | (with_reducible exact f3) | (with_reducible exact f4) | (with_reducible exact f5) | (with_reducible exact f6) | (with_reducible exact f7) | (with_reducible exact hmn) | (with_reducible exact h) | (with_reducible exact k1) | (with_reducible exact k2) | (with_reducible exact k3) | (with_reducible exact k4) | apply And.intro | exact rfl | ((with_reducible change r_I _); (with_reducible assumption)) | (intro hx; exact absurd hx (by decide)) | (intro hx; exact absurd (by decide) hx) | decide | intro hx | (refine Exists.intro _ (And.intro rfl ?_)) | (refine Exists.intro _ (Exists.intro _ (And.intro rfl (And.intro rfl ?_)))) | ((with_reducible change LX _ _ _); (with_reducible assumption)) | ((with_reducible change _ = true); simp only [k1, k2, k3, k4, Bool.true_and]; rfl))
    all_goals try first | (with_reducible change am_tI _ _) | (change Ret _ _) | (change Ret _ _ _) | (change Exists _)
    all_goals try dsimp only at *
    all_goals try exact absurd ‹(1000 : Int64) = 0› (by decide)
    all_goals first
      | exact ⟨_, _, rfl⟩
      | exact lawE.mk hi (by with_reducible assumption) (by omega) (by omega)
      | skip
theorem dL_law_1478 : decode cL_law 1478 = .ok (.aload_n 1, 1) := by decide +kernel
theorem dL_law_1479 : decode cL_law 1479 = .ok (.aload_n 0, 1) := by decide +kernel
theorem dL_law_1480 : decode cL_law 1480 = .ok (.iload_n 3, 1) := by decide +kernel
theorem dL_law_1481 : decode cL_law 1481 = .ok (.iconst 1, 1) := by decide +kernel
theorem dL_law_1482 : decode cL_law 1482 = .ok (.iadd, 1) := by decide +kernel
theorem dL_law_1483 : decode cL_law 1483 = .ok (.iaload, 1) := by decide +kernel
theorem dL_law_1484 : decode cL_law 1484 = .ok (.aload_n 0, 1) := by decide +kernel
theorem dL_law_1485 : decode cL_law 1485 = .ok (.iload_n 3, 1) := by decide +kernel
theorem dL_law_1486 : decode cL_law 1486 = .ok (.iconst 2, 1) := by decide +kernel
theorem dL_law_1487 : decode cL_law 1487 = .ok (.iadd, 1) := by decide +kernel
theorem dL_law_1488 : decode cL_law 1488 = .ok (.iaload, 1) := by decide +kernel
theorem dL_law_1489 : decode cL_law 1489 = .ok (.aload_n 0, 1) := by decide +kernel
theorem dL_law_1490 : decode cL_law 1490 = .ok (.iload_n 3, 1) := by decide +kernel
theorem dL_law_1491 : decode cL_law 1491 = .ok (.iconst 3, 1) := by decide +kernel
theorem dL_law_1492 : decode cL_law 1492 = .ok (.iadd, 1) := by decide +kernel
theorem dL_law_1493 : decode cL_law 1493 = .ok (.iaload, 1) := by decide +kernel
theorem dL_law_1494 : decode cL_law 1494 = .ok (.aload_n 0, 1) := by decide +kernel
theorem dL_law_1495 : decode cL_law 1495 = .ok (.iload_n 3, 1) := by decide +kernel
theorem dL_law_1496 : decode cL_law 1496 = .ok (.iconst 4, 1) := by decide +kernel
theorem dL_law_1497 : decode cL_law 1497 = .ok (.iadd, 1) := by decide +kernel
theorem dL_law_1498 : decode cL_law 1498 = .ok (.iaload, 1) := by decide +kernel
theorem dL_law_1499 : decode cL_law 1499 = .ok (.aload_n 0, 1) := by decide +kernel
theorem dL_law_1500 : decode cL_law 1500 = .ok (.iload_n 3, 1) := by decide +kernel
theorem dL_law_1501 : decode cL_law 1501 = .ok (.iconst 5, 1) := by decide +kernel
theorem dL_law_1502 : decode cL_law 1502 = .ok (.iadd, 1) := by decide +kernel
theorem dL_law_1503 : decode cL_law 1503 = .ok (.iaload, 1) := by decide +kernel
theorem dL_law_1504 : decode cL_law 1504 = .ok (.aload_n 0, 1) := by decide +kernel
theorem dL_law_1505 : decode cL_law 1505 = .ok (.iload_n 3, 1) := by decide +kernel
theorem dL_law_1506 : decode cL_law 1506 = .ok (.bipush 6, 2) := by decide +kernel
theorem dL_law_1508 : decode cL_law 1508 = .ok (.iadd, 1) := by decide +kernel
theorem dL_law_1509 : decode cL_law 1509 = .ok (.iaload, 1) := by decide +kernel
set_option maxRecDepth 100000 in
theorem wd_776 : Cond.methodLink "LearnLoansLaw" 135 yX7_foretold ∈ am_ws := am_wsi (List.mem_of_getElem? (i := 776) (by rfl)) (by decide +kernel)
set_option maxRecDepth 100000 in
theorem wd_777 : Cond.instanceMethod yX7_foretold ∈ am_ws := am_wsi (List.mem_of_getElem? (i := 777) (by rfl)) (by decide +kernel)
set_option maxRecDepth 100000 in
theorem wd_778 : Cond.selects "LearnLoans" yX7_foretold yX7_foretold ∈ am_ws := am_wsi (List.mem_of_getElem? (i := 778) (by rfl)) (by decide +kernel)
set_option maxRecDepth 100000 in
theorem wd_779 : Cond.code yX7_foretold cX7_foretold 7 (some .long) ∈ am_ws := am_wsi (List.mem_of_getElem? (i := 779) (by rfl)) (by decide +kernel)
theorem dL_law_1510 : decode cL_law 1510 = .ok (.invokevirtual 135, 3) := by decide +kernel
theorem dL_law_1513 : decode cL_law 1513 = .ok (.pop2, 1) := by decide +kernel
theorem dL_law_1514 : decode cL_law 1514 = .ok (.aload_n 2, 1) := by decide +kernel
theorem dL_law_1515 : decode cL_law 1515 = .ok (.aload_n 0, 1) := by decide +kernel
theorem dL_law_1516 : decode cL_law 1516 = .ok (.iload_n 3, 1) := by decide +kernel
theorem dL_law_1517 : decode cL_law 1517 = .ok (.iconst 1, 1) := by decide +kernel
theorem dL_law_1518 : decode cL_law 1518 = .ok (.iadd, 1) := by decide +kernel
theorem dL_law_1519 : decode cL_law 1519 = .ok (.iaload, 1) := by decide +kernel
theorem dL_law_1520 : decode cL_law 1520 = .ok (.aload_n 0, 1) := by decide +kernel
theorem dL_law_1521 : decode cL_law 1521 = .ok (.iload_n 3, 1) := by decide +kernel
theorem dL_law_1522 : decode cL_law 1522 = .ok (.iconst 2, 1) := by decide +kernel
theorem dL_law_1523 : decode cL_law 1523 = .ok (.iadd, 1) := by decide +kernel
theorem dL_law_1524 : decode cL_law 1524 = .ok (.iaload, 1) := by decide +kernel
theorem dL_law_1525 : decode cL_law 1525 = .ok (.aload_n 0, 1) := by decide +kernel
theorem dL_law_1526 : decode cL_law 1526 = .ok (.iload_n 3, 1) := by decide +kernel
theorem dL_law_1527 : decode cL_law 1527 = .ok (.iconst 3, 1) := by decide +kernel
theorem dL_law_1528 : decode cL_law 1528 = .ok (.iadd, 1) := by decide +kernel
theorem dL_law_1529 : decode cL_law 1529 = .ok (.iaload, 1) := by decide +kernel
theorem dL_law_1530 : decode cL_law 1530 = .ok (.aload_n 0, 1) := by decide +kernel
theorem dL_law_1531 : decode cL_law 1531 = .ok (.iload_n 3, 1) := by decide +kernel
theorem dL_law_1532 : decode cL_law 1532 = .ok (.iconst 4, 1) := by decide +kernel
theorem dL_law_1533 : decode cL_law 1533 = .ok (.iadd, 1) := by decide +kernel
theorem dL_law_1534 : decode cL_law 1534 = .ok (.iaload, 1) := by decide +kernel
theorem dL_law_1535 : decode cL_law 1535 = .ok (.aload_n 0, 1) := by decide +kernel
theorem dL_law_1536 : decode cL_law 1536 = .ok (.iload_n 3, 1) := by decide +kernel
theorem dL_law_1537 : decode cL_law 1537 = .ok (.iconst 5, 1) := by decide +kernel
theorem dL_law_1538 : decode cL_law 1538 = .ok (.iadd, 1) := by decide +kernel
theorem dL_law_1539 : decode cL_law 1539 = .ok (.iaload, 1) := by decide +kernel
theorem dL_law_1540 : decode cL_law 1540 = .ok (.aload_n 0, 1) := by decide +kernel
theorem dL_law_1541 : decode cL_law 1541 = .ok (.iload_n 3, 1) := by decide +kernel
theorem dL_law_1542 : decode cL_law 1542 = .ok (.bipush 6, 2) := by decide +kernel
theorem dL_law_1544 : decode cL_law 1544 = .ok (.iadd, 1) := by decide +kernel
theorem dL_law_1545 : decode cL_law 1545 = .ok (.iaload, 1) := by decide +kernel
set_option maxRecDepth 100000 in
theorem wd_1245 : Cond.methodLink "LearnLoansLaw" 139 yX8_foretold ∈ am_ws := am_wsi (List.mem_of_getElem? (i := 1245) (by rfl)) (by decide +kernel)
set_option maxRecDepth 100000 in
theorem wd_1246 : Cond.instanceMethod yX8_foretold ∈ am_ws := am_wsi (List.mem_of_getElem? (i := 1246) (by rfl)) (by decide +kernel)
set_option maxRecDepth 100000 in
theorem wd_1247 : Cond.selects "LearnLoansModel" yX8_foretold yX8_foretold ∈ am_ws := am_wsi (List.mem_of_getElem? (i := 1247) (by rfl)) (by decide +kernel)
set_option maxRecDepth 100000 in
theorem wd_1248 : Cond.code yX8_foretold cX8_foretold 18 (some .long) ∈ am_ws := am_wsi (List.mem_of_getElem? (i := 1248) (by rfl)) (by decide +kernel)
theorem dL_law_1546 : decode cL_law 1546 = .ok (.invokevirtual 139, 3) := by decide +kernel
theorem dL_law_1549 : decode cL_law 1549 = .ok (.pop2, 1) := by decide +kernel
theorem dL_law_1550 : decode cL_law 1550 = .ok (.goto 291, 3) := by decide +kernel
def kL_c28 (Ln : Nat) (xs : Nat → Int32) : an_code := [(1478, an_lf (fun live => am_aload 1 1479)), (1479, an_lf (fun live => am_aload 0 1480)), (1480, an_lf (fun live => am_iload 3 1481)), (1481, an_lf (fun live => am_const (.int 1) 1482)), (1482, an_lf (fun live => am_i2 (fun x y => x + y) 1483)), (1483, an_sld Ln xs 1484), (1484, an_lf (fun live => am_aload 0 1485)), (1485, an_lf (fun live => am_iload 3 1486)), (1486, an_lf (fun live => am_const (.int 2) 1487)), (1487, an_lf (fun live => am_i2 (fun x y => x + y) 1488)), (1488, an_sld Ln xs 1489), (1489, an_lf (fun live => am_aload 0 1490)), (1490, an_lf (fun live => am_iload 3 1491)), (1491, an_lf (fun live => am_const (.int 3) 1492)), (1492, an_lf (fun live => am_i2 (fun x y => x + y) 1493)), (1493, an_sld Ln xs 1494), (1494, an_lf (fun live => am_aload 0 1495)), (1495, an_lf (fun live => am_iload 3 1496)), (1496, an_lf (fun live => am_const (.int 4) 1497)), (1497, an_lf (fun live => am_i2 (fun x y => x + y) 1498)), (1498, an_sld Ln xs 1499), (1499, an_lf (fun live => am_aload 0 1500)), (1500, an_lf (fun live => am_iload 3 1501)), (1501, an_lf (fun live => am_const (.int 5) 1502)), (1502, an_lf (fun live => am_i2 (fun x y => x + y) 1503)), (1503, an_sld Ln xs 1504), (1504, an_lf (fun live => am_aload 0 1505)), (1505, an_lf (fun live => am_iload 3 1506)), (1506, an_lf (fun live => am_const (.int 6) 1508)), (1508, an_lf (fun live => am_i2 (fun x y => x + y) 1509)), (1509, an_sld Ln xs 1510), (1510, an_lf (fun live => am_callV live 7 6 TW_foretold 1513)), (1513, an_lf (fun live => am_pop2 1514)), (1514, an_lf (fun live => am_aload 2 1515)), (1515, an_lf (fun live => am_aload 0 1516)), (1516, an_lf (fun live => am_iload 3 1517)), (1517, an_lf (fun live => am_const (.int 1) 1518)), (1518, an_lf (fun live => am_i2 (fun x y => x + y) 1519)), (1519, an_sld Ln xs 1520), (1520, an_lf (fun live => am_aload 0 1521)), (1521, an_lf (fun live => am_iload 3 1522)), (1522, an_lf (fun live => am_const (.int 2) 1523)), (1523, an_lf (fun live => am_i2 (fun x y => x + y) 1524)), (1524, an_sld Ln xs 1525), (1525, an_lf (fun live => am_aload 0 1526)), (1526, an_lf (fun live => am_iload 3 1527)), (1527, an_lf (fun live => am_const (.int 3) 1528)), (1528, an_lf (fun live => am_i2 (fun x y => x + y) 1529)), (1529, an_sld Ln xs 1530), (1530, an_lf (fun live => am_aload 0 1531)), (1531, an_lf (fun live => am_iload 3 1532)), (1532, an_lf (fun live => am_const (.int 4) 1533)), (1533, an_lf (fun live => am_i2 (fun x y => x + y) 1534)), (1534, an_sld Ln xs 1535), (1535, an_lf (fun live => am_aload 0 1536)), (1536, an_lf (fun live => am_iload 3 1537)), (1537, an_lf (fun live => am_const (.int 5) 1538)), (1538, an_lf (fun live => am_i2 (fun x y => x + y) 1539)), (1539, an_sld Ln xs 1540), (1540, an_lf (fun live => am_aload 0 1541)), (1541, an_lf (fun live => am_iload 3 1542)), (1542, an_lf (fun live => am_const (.int 6) 1544)), (1544, an_lf (fun live => am_i2 (fun x y => x + y) 1545)), (1545, an_sld Ln xs 1546), (1546, an_lf (fun live => am_callV live 8 6 TV_foretold 1549)), (1549, an_lf (fun live => am_pop2 1550)), (1550, an_lf (fun live => am_goto 1841))]
theorem koL_c28 (Ln : Nat) (xs : Nat → Int32) : ∀ q ∈ kL_c28 Ln xs, an_ok RL cL_law 4 (some .boolean) 2000 80000 600000 7302250 false (lawP Ln xs) an_noR q.1 q.2 :=
  an_kc (an_lift (fun live => ak_aload_n dL_law_1478 rfl rfl)) <|
  an_kc (an_lift (fun live => ak_aload_n dL_law_1479 rfl rfl)) <|
  an_kc (an_lift (fun live => ak_iload_n dL_law_1480 rfl rfl)) <|
  an_kc (an_lift (fun live => ak_iconst dL_law_1481 (by decide +kernel) rfl)) <|
  an_kc (an_lift (fun live => ak_iadd dL_law_1482 rfl)) <|
  an_kc (nk_sld dL_law_1483 rfl) <|
  an_kc (an_lift (fun live => ak_aload_n dL_law_1484 rfl rfl)) <|
  an_kc (an_lift (fun live => ak_iload_n dL_law_1485 rfl rfl)) <|
  an_kc (an_lift (fun live => ak_iconst dL_law_1486 (by decide +kernel) rfl)) <|
  an_kc (an_lift (fun live => ak_iadd dL_law_1487 rfl)) <|
  an_kc (nk_sld dL_law_1488 rfl) <|
  an_kc (an_lift (fun live => ak_aload_n dL_law_1489 rfl rfl)) <|
  an_kc (an_lift (fun live => ak_iload_n dL_law_1490 rfl rfl)) <|
  an_kc (an_lift (fun live => ak_iconst dL_law_1491 (by decide +kernel) rfl)) <|
  an_kc (an_lift (fun live => ak_iadd dL_law_1492 rfl)) <|
  an_kc (nk_sld dL_law_1493 rfl) <|
  an_kc (an_lift (fun live => ak_aload_n dL_law_1494 rfl rfl)) <|
  an_kc (an_lift (fun live => ak_iload_n dL_law_1495 rfl rfl)) <|
  an_kc (an_lift (fun live => ak_iconst dL_law_1496 (by decide +kernel) rfl)) <|
  an_kc (an_lift (fun live => ak_iadd dL_law_1497 rfl)) <|
  an_kc (nk_sld dL_law_1498 rfl) <|
  an_kc (an_lift (fun live => ak_aload_n dL_law_1499 rfl rfl)) <|
  an_kc (an_lift (fun live => ak_iload_n dL_law_1500 rfl rfl)) <|
  an_kc (an_lift (fun live => ak_iconst dL_law_1501 (by decide +kernel) rfl)) <|
  an_kc (an_lift (fun live => ak_iadd dL_law_1502 rfl)) <|
  an_kc (nk_sld dL_law_1503 rfl) <|
  an_kc (an_lift (fun live => ak_aload_n dL_law_1504 rfl rfl)) <|
  an_kc (an_lift (fun live => ak_iload_n dL_law_1505 rfl rfl)) <|
  an_kc (an_lift (fun live => ak_bipush dL_law_1506 (by decide +kernel) rfl)) <|
  an_kc (an_lift (fun live => ak_iadd dL_law_1508 rfl)) <|
  an_kc (nk_sld dL_law_1509 rfl) <|
  an_kc (an_lift (fun live => ak_callV (C := RX7) (F := TX7) (N := 4) metW_foretold rfl ⟨rfl, by decide +kernel, by decide +kernel, by decide +kernel⟩ (am_w5 wd_776 wd_777 wd_778 wd_58 wd_779) (by decide) dL_law_1510 rfl)) <|
  an_kc (an_lift (fun live => ak_pop2 dL_law_1513 rfl)) <|
  an_kc (an_lift (fun live => ak_aload_n dL_law_1514 rfl rfl)) <|
  an_kc (an_lift (fun live => ak_aload_n dL_law_1515 rfl rfl)) <|
  an_kc (an_lift (fun live => ak_iload_n dL_law_1516 rfl rfl)) <|
  an_kc (an_lift (fun live => ak_iconst dL_law_1517 (by decide +kernel) rfl)) <|
  an_kc (an_lift (fun live => ak_iadd dL_law_1518 rfl)) <|
  an_kc (nk_sld dL_law_1519 rfl) <|
  an_kc (an_lift (fun live => ak_aload_n dL_law_1520 rfl rfl)) <|
  an_kc (an_lift (fun live => ak_iload_n dL_law_1521 rfl rfl)) <|
  an_kc (an_lift (fun live => ak_iconst dL_law_1522 (by decide +kernel) rfl)) <|
  an_kc (an_lift (fun live => ak_iadd dL_law_1523 rfl)) <|
  an_kc (nk_sld dL_law_1524 rfl) <|
  an_kc (an_lift (fun live => ak_aload_n dL_law_1525 rfl rfl)) <|
  an_kc (an_lift (fun live => ak_iload_n dL_law_1526 rfl rfl)) <|
  an_kc (an_lift (fun live => ak_iconst dL_law_1527 (by decide +kernel) rfl)) <|
  an_kc (an_lift (fun live => ak_iadd dL_law_1528 rfl)) <|
  an_kc (nk_sld dL_law_1529 rfl) <|
  an_kc (an_lift (fun live => ak_aload_n dL_law_1530 rfl rfl)) <|
  an_kc (an_lift (fun live => ak_iload_n dL_law_1531 rfl rfl)) <|
  an_kc (an_lift (fun live => ak_iconst dL_law_1532 (by decide +kernel) rfl)) <|
  an_kc (an_lift (fun live => ak_iadd dL_law_1533 rfl)) <|
  an_kc (nk_sld dL_law_1534 rfl) <|
  an_kc (an_lift (fun live => ak_aload_n dL_law_1535 rfl rfl)) <|
  an_kc (an_lift (fun live => ak_iload_n dL_law_1536 rfl rfl)) <|
  an_kc (an_lift (fun live => ak_iconst dL_law_1537 (by decide +kernel) rfl)) <|
  an_kc (an_lift (fun live => ak_iadd dL_law_1538 rfl)) <|
  an_kc (nk_sld dL_law_1539 rfl) <|
  an_kc (an_lift (fun live => ak_aload_n dL_law_1540 rfl rfl)) <|
  an_kc (an_lift (fun live => ak_iload_n dL_law_1541 rfl rfl)) <|
  an_kc (an_lift (fun live => ak_bipush dL_law_1542 (by decide +kernel) rfl)) <|
  an_kc (an_lift (fun live => ak_iadd dL_law_1544 rfl)) <|
  an_kc (nk_sld dL_law_1545 rfl) <|
  an_kc (an_lift (fun live => ak_callV (C := RX8) (F := TX8) (N := 27) metV_foretold rfl ⟨rfl, by decide +kernel, by decide +kernel, by decide +kernel⟩ (am_w5 wd_1245 wd_1246 wd_1247 wd_67 wd_1248) (by decide) dL_law_1546 rfl)) <|
  an_kc (an_lift (fun live => ak_pop2 dL_law_1549 rfl)) <|
  an_kc (an_lift (fun live => ak_goto dL_law_1550 (by decide +kernel))) <| an_kn
set_option maxRecDepth 100000 in
set_option maxHeartbeats 4000000 in
theorem caseL_c28 {Ln : Nat} (xs : Nat → Int32) {i : Int32} {i1 i2 : Bool} {kc kn : Nat} {M : am_M} (h : LX i1 i2 M) (hi : lawI Ln i kc kn) : an_wp (kL_c28 Ln xs) (lawC Ln i) 200 (an_go (kL_c28 Ln xs) 1478) (lawL i) [] ((am_lv i1 i2, am_q i1 i2), kc, kn, M) := by
    obtain ⟨⟨f1, f2, f3, f4, f5, f6, f7⟩, k1, k2, k3, k4⟩ := hi.f
    have hmn : am_mn (am_lv i1 i2, am_q i1 i2) := ⟨_, _, rfl⟩
    repeat' (first | (with_reducible exact f1) | (with_reducible exact f2) | (with_reducible exact f3) | (with_reducible exact f4) | (with_reducible exact f5) | (with_reducible exact f6) | (with_reducible exact f7) | (with_reducible exact hmn) | (with_reducible exact h) | (with_reducible exact k1) | (with_reducible exact k2) | (with_reducible exact k3) | (with_reducible exact k4) | apply And.intro | exact rfl | ((with_reducible change r_I _); (with_reducible assumption)) | (intro hx; exact absurd hx (by decide)) | (intro hx; exact absurd (by decide) hx) | decide | intro hx | (refine Exists.intro _ (And.intro rfl ?_)) | (refine Exists.intro _ (Exists.intro _ (And.intro rfl (And.intro rfl ?_)))) | ((with_reducible change LX _ _ _); (with_reducible assumption)) | ((with_reducible change _ = true); simp only [k1, k2, k3, k4, Bool.true_and]; rfl))
    all_goals try first | (with_reducible change am_tI _ _) | (change Ret _ _) | (change Ret _ _ _) | (change Exists _)
    all_goals try dsimp only at *
    all_goals try exact absurd ‹(1000 : Int64) = 0› (by decide)
    all_goals first
      | exact ⟨_, _, rfl⟩
      | exact lawE.mk hi (by with_reducible assumption) (by omega) (by omega)
      | skip
theorem dL_law_1553 : decode cL_law 1553 = .ok (.aload_n 1, 1) := by decide +kernel
theorem dL_law_1554 : decode cL_law 1554 = .ok (.aload_n 0, 1) := by decide +kernel
theorem dL_law_1555 : decode cL_law 1555 = .ok (.iload_n 3, 1) := by decide +kernel
theorem dL_law_1556 : decode cL_law 1556 = .ok (.iconst 1, 1) := by decide +kernel
theorem dL_law_1557 : decode cL_law 1557 = .ok (.iadd, 1) := by decide +kernel
theorem dL_law_1558 : decode cL_law 1558 = .ok (.iaload, 1) := by decide +kernel
theorem dL_law_1559 : decode cL_law 1559 = .ok (.aload_n 0, 1) := by decide +kernel
theorem dL_law_1560 : decode cL_law 1560 = .ok (.iload_n 3, 1) := by decide +kernel
theorem dL_law_1561 : decode cL_law 1561 = .ok (.iconst 2, 1) := by decide +kernel
theorem dL_law_1562 : decode cL_law 1562 = .ok (.iadd, 1) := by decide +kernel
theorem dL_law_1563 : decode cL_law 1563 = .ok (.iaload, 1) := by decide +kernel
theorem dL_law_1564 : decode cL_law 1564 = .ok (.aload_n 0, 1) := by decide +kernel
theorem dL_law_1565 : decode cL_law 1565 = .ok (.iload_n 3, 1) := by decide +kernel
theorem dL_law_1566 : decode cL_law 1566 = .ok (.iconst 3, 1) := by decide +kernel
theorem dL_law_1567 : decode cL_law 1567 = .ok (.iadd, 1) := by decide +kernel
theorem dL_law_1568 : decode cL_law 1568 = .ok (.iaload, 1) := by decide +kernel
theorem dL_law_1569 : decode cL_law 1569 = .ok (.aload_n 0, 1) := by decide +kernel
theorem dL_law_1570 : decode cL_law 1570 = .ok (.iload_n 3, 1) := by decide +kernel
theorem dL_law_1571 : decode cL_law 1571 = .ok (.iconst 4, 1) := by decide +kernel
theorem dL_law_1572 : decode cL_law 1572 = .ok (.iadd, 1) := by decide +kernel
theorem dL_law_1573 : decode cL_law 1573 = .ok (.iaload, 1) := by decide +kernel
theorem dL_law_1574 : decode cL_law 1574 = .ok (.aload_n 0, 1) := by decide +kernel
theorem dL_law_1575 : decode cL_law 1575 = .ok (.iload_n 3, 1) := by decide +kernel
theorem dL_law_1576 : decode cL_law 1576 = .ok (.iconst 5, 1) := by decide +kernel
theorem dL_law_1577 : decode cL_law 1577 = .ok (.iadd, 1) := by decide +kernel
theorem dL_law_1578 : decode cL_law 1578 = .ok (.iaload, 1) := by decide +kernel
set_option maxRecDepth 100000 in
theorem wd_800 : Cond.methodLink "LearnLoansLaw" 140 yX7_tried ∈ am_ws := am_wsi (List.mem_of_getElem? (i := 800) (by rfl)) (by decide +kernel)
set_option maxRecDepth 100000 in
theorem wd_801 : Cond.instanceMethod yX7_tried ∈ am_ws := am_wsi (List.mem_of_getElem? (i := 801) (by rfl)) (by decide +kernel)
set_option maxRecDepth 100000 in
theorem wd_802 : Cond.selects "LearnLoans" yX7_tried yX7_tried ∈ am_ws := am_wsi (List.mem_of_getElem? (i := 802) (by rfl)) (by decide +kernel)
set_option maxRecDepth 100000 in
theorem wd_803 : Cond.code yX7_tried cX7_tried 6 (some .long) ∈ am_ws := am_wsi (List.mem_of_getElem? (i := 803) (by rfl)) (by decide +kernel)
theorem dL_law_1579 : decode cL_law 1579 = .ok (.invokevirtual 140, 3) := by decide +kernel
theorem dL_law_1582 : decode cL_law 1582 = .ok (.pop2, 1) := by decide +kernel
theorem dL_law_1583 : decode cL_law 1583 = .ok (.aload_n 2, 1) := by decide +kernel
theorem dL_law_1584 : decode cL_law 1584 = .ok (.aload_n 0, 1) := by decide +kernel
theorem dL_law_1585 : decode cL_law 1585 = .ok (.iload_n 3, 1) := by decide +kernel
theorem dL_law_1586 : decode cL_law 1586 = .ok (.iconst 1, 1) := by decide +kernel
theorem dL_law_1587 : decode cL_law 1587 = .ok (.iadd, 1) := by decide +kernel
theorem dL_law_1588 : decode cL_law 1588 = .ok (.iaload, 1) := by decide +kernel
theorem dL_law_1589 : decode cL_law 1589 = .ok (.aload_n 0, 1) := by decide +kernel
theorem dL_law_1590 : decode cL_law 1590 = .ok (.iload_n 3, 1) := by decide +kernel
theorem dL_law_1591 : decode cL_law 1591 = .ok (.iconst 2, 1) := by decide +kernel
theorem dL_law_1592 : decode cL_law 1592 = .ok (.iadd, 1) := by decide +kernel
theorem dL_law_1593 : decode cL_law 1593 = .ok (.iaload, 1) := by decide +kernel
theorem dL_law_1594 : decode cL_law 1594 = .ok (.aload_n 0, 1) := by decide +kernel
theorem dL_law_1595 : decode cL_law 1595 = .ok (.iload_n 3, 1) := by decide +kernel
theorem dL_law_1596 : decode cL_law 1596 = .ok (.iconst 3, 1) := by decide +kernel
theorem dL_law_1597 : decode cL_law 1597 = .ok (.iadd, 1) := by decide +kernel
theorem dL_law_1598 : decode cL_law 1598 = .ok (.iaload, 1) := by decide +kernel
theorem dL_law_1599 : decode cL_law 1599 = .ok (.aload_n 0, 1) := by decide +kernel
theorem dL_law_1600 : decode cL_law 1600 = .ok (.iload_n 3, 1) := by decide +kernel
theorem dL_law_1601 : decode cL_law 1601 = .ok (.iconst 4, 1) := by decide +kernel
theorem dL_law_1602 : decode cL_law 1602 = .ok (.iadd, 1) := by decide +kernel
theorem dL_law_1603 : decode cL_law 1603 = .ok (.iaload, 1) := by decide +kernel
theorem dL_law_1604 : decode cL_law 1604 = .ok (.aload_n 0, 1) := by decide +kernel
theorem dL_law_1605 : decode cL_law 1605 = .ok (.iload_n 3, 1) := by decide +kernel
theorem dL_law_1606 : decode cL_law 1606 = .ok (.iconst 5, 1) := by decide +kernel
theorem dL_law_1607 : decode cL_law 1607 = .ok (.iadd, 1) := by decide +kernel
theorem dL_law_1608 : decode cL_law 1608 = .ok (.iaload, 1) := by decide +kernel
set_option maxRecDepth 100000 in
theorem wd_1266 : Cond.methodLink "LearnLoansLaw" 143 yX8_tried ∈ am_ws := am_wsi (List.mem_of_getElem? (i := 1266) (by rfl)) (by decide +kernel)
set_option maxRecDepth 100000 in
theorem wd_1267 : Cond.instanceMethod yX8_tried ∈ am_ws := am_wsi (List.mem_of_getElem? (i := 1267) (by rfl)) (by decide +kernel)
set_option maxRecDepth 100000 in
theorem wd_1268 : Cond.selects "LearnLoansModel" yX8_tried yX8_tried ∈ am_ws := am_wsi (List.mem_of_getElem? (i := 1268) (by rfl)) (by decide +kernel)
set_option maxRecDepth 100000 in
theorem wd_1269 : Cond.code yX8_tried cX8_tried 6 (some .long) ∈ am_ws := am_wsi (List.mem_of_getElem? (i := 1269) (by rfl)) (by decide +kernel)
theorem dL_law_1609 : decode cL_law 1609 = .ok (.invokevirtual 143, 3) := by decide +kernel
theorem dL_law_1612 : decode cL_law 1612 = .ok (.pop2, 1) := by decide +kernel
theorem dL_law_1613 : decode cL_law 1613 = .ok (.goto 228, 3) := by decide +kernel
def kL_c29 (Ln : Nat) (xs : Nat → Int32) : an_code := [(1553, an_lf (fun live => am_aload 1 1554)), (1554, an_lf (fun live => am_aload 0 1555)), (1555, an_lf (fun live => am_iload 3 1556)), (1556, an_lf (fun live => am_const (.int 1) 1557)), (1557, an_lf (fun live => am_i2 (fun x y => x + y) 1558)), (1558, an_sld Ln xs 1559), (1559, an_lf (fun live => am_aload 0 1560)), (1560, an_lf (fun live => am_iload 3 1561)), (1561, an_lf (fun live => am_const (.int 2) 1562)), (1562, an_lf (fun live => am_i2 (fun x y => x + y) 1563)), (1563, an_sld Ln xs 1564), (1564, an_lf (fun live => am_aload 0 1565)), (1565, an_lf (fun live => am_iload 3 1566)), (1566, an_lf (fun live => am_const (.int 3) 1567)), (1567, an_lf (fun live => am_i2 (fun x y => x + y) 1568)), (1568, an_sld Ln xs 1569), (1569, an_lf (fun live => am_aload 0 1570)), (1570, an_lf (fun live => am_iload 3 1571)), (1571, an_lf (fun live => am_const (.int 4) 1572)), (1572, an_lf (fun live => am_i2 (fun x y => x + y) 1573)), (1573, an_sld Ln xs 1574), (1574, an_lf (fun live => am_aload 0 1575)), (1575, an_lf (fun live => am_iload 3 1576)), (1576, an_lf (fun live => am_const (.int 5) 1577)), (1577, an_lf (fun live => am_i2 (fun x y => x + y) 1578)), (1578, an_sld Ln xs 1579), (1579, an_lf (fun live => am_callV live 7 5 TW_tried 1582)), (1582, an_lf (fun live => am_pop2 1583)), (1583, an_lf (fun live => am_aload 2 1584)), (1584, an_lf (fun live => am_aload 0 1585)), (1585, an_lf (fun live => am_iload 3 1586)), (1586, an_lf (fun live => am_const (.int 1) 1587)), (1587, an_lf (fun live => am_i2 (fun x y => x + y) 1588)), (1588, an_sld Ln xs 1589), (1589, an_lf (fun live => am_aload 0 1590)), (1590, an_lf (fun live => am_iload 3 1591)), (1591, an_lf (fun live => am_const (.int 2) 1592)), (1592, an_lf (fun live => am_i2 (fun x y => x + y) 1593)), (1593, an_sld Ln xs 1594), (1594, an_lf (fun live => am_aload 0 1595)), (1595, an_lf (fun live => am_iload 3 1596)), (1596, an_lf (fun live => am_const (.int 3) 1597)), (1597, an_lf (fun live => am_i2 (fun x y => x + y) 1598)), (1598, an_sld Ln xs 1599), (1599, an_lf (fun live => am_aload 0 1600)), (1600, an_lf (fun live => am_iload 3 1601)), (1601, an_lf (fun live => am_const (.int 4) 1602)), (1602, an_lf (fun live => am_i2 (fun x y => x + y) 1603)), (1603, an_sld Ln xs 1604), (1604, an_lf (fun live => am_aload 0 1605)), (1605, an_lf (fun live => am_iload 3 1606)), (1606, an_lf (fun live => am_const (.int 5) 1607)), (1607, an_lf (fun live => am_i2 (fun x y => x + y) 1608)), (1608, an_sld Ln xs 1609), (1609, an_lf (fun live => am_callV live 8 5 TV_tried 1612)), (1612, an_lf (fun live => am_pop2 1613)), (1613, an_lf (fun live => am_goto 1841))]
theorem koL_c29 (Ln : Nat) (xs : Nat → Int32) : ∀ q ∈ kL_c29 Ln xs, an_ok RL cL_law 4 (some .boolean) 2000 80000 600000 7302250 false (lawP Ln xs) an_noR q.1 q.2 :=
  an_kc (an_lift (fun live => ak_aload_n dL_law_1553 rfl rfl)) <|
  an_kc (an_lift (fun live => ak_aload_n dL_law_1554 rfl rfl)) <|
  an_kc (an_lift (fun live => ak_iload_n dL_law_1555 rfl rfl)) <|
  an_kc (an_lift (fun live => ak_iconst dL_law_1556 (by decide +kernel) rfl)) <|
  an_kc (an_lift (fun live => ak_iadd dL_law_1557 rfl)) <|
  an_kc (nk_sld dL_law_1558 rfl) <|
  an_kc (an_lift (fun live => ak_aload_n dL_law_1559 rfl rfl)) <|
  an_kc (an_lift (fun live => ak_iload_n dL_law_1560 rfl rfl)) <|
  an_kc (an_lift (fun live => ak_iconst dL_law_1561 (by decide +kernel) rfl)) <|
  an_kc (an_lift (fun live => ak_iadd dL_law_1562 rfl)) <|
  an_kc (nk_sld dL_law_1563 rfl) <|
  an_kc (an_lift (fun live => ak_aload_n dL_law_1564 rfl rfl)) <|
  an_kc (an_lift (fun live => ak_iload_n dL_law_1565 rfl rfl)) <|
  an_kc (an_lift (fun live => ak_iconst dL_law_1566 (by decide +kernel) rfl)) <|
  an_kc (an_lift (fun live => ak_iadd dL_law_1567 rfl)) <|
  an_kc (nk_sld dL_law_1568 rfl) <|
  an_kc (an_lift (fun live => ak_aload_n dL_law_1569 rfl rfl)) <|
  an_kc (an_lift (fun live => ak_iload_n dL_law_1570 rfl rfl)) <|
  an_kc (an_lift (fun live => ak_iconst dL_law_1571 (by decide +kernel) rfl)) <|
  an_kc (an_lift (fun live => ak_iadd dL_law_1572 rfl)) <|
  an_kc (nk_sld dL_law_1573 rfl) <|
  an_kc (an_lift (fun live => ak_aload_n dL_law_1574 rfl rfl)) <|
  an_kc (an_lift (fun live => ak_iload_n dL_law_1575 rfl rfl)) <|
  an_kc (an_lift (fun live => ak_iconst dL_law_1576 (by decide +kernel) rfl)) <|
  an_kc (an_lift (fun live => ak_iadd dL_law_1577 rfl)) <|
  an_kc (nk_sld dL_law_1578 rfl) <|
  an_kc (an_lift (fun live => ak_callV (C := RX7) (F := TX7) (N := 4) metW_tried rfl ⟨rfl, by decide +kernel, by decide +kernel, by decide +kernel⟩ (am_w5 wd_800 wd_801 wd_802 wd_58 wd_803) (by decide) dL_law_1579 rfl)) <|
  an_kc (an_lift (fun live => ak_pop2 dL_law_1582 rfl)) <|
  an_kc (an_lift (fun live => ak_aload_n dL_law_1583 rfl rfl)) <|
  an_kc (an_lift (fun live => ak_aload_n dL_law_1584 rfl rfl)) <|
  an_kc (an_lift (fun live => ak_iload_n dL_law_1585 rfl rfl)) <|
  an_kc (an_lift (fun live => ak_iconst dL_law_1586 (by decide +kernel) rfl)) <|
  an_kc (an_lift (fun live => ak_iadd dL_law_1587 rfl)) <|
  an_kc (nk_sld dL_law_1588 rfl) <|
  an_kc (an_lift (fun live => ak_aload_n dL_law_1589 rfl rfl)) <|
  an_kc (an_lift (fun live => ak_iload_n dL_law_1590 rfl rfl)) <|
  an_kc (an_lift (fun live => ak_iconst dL_law_1591 (by decide +kernel) rfl)) <|
  an_kc (an_lift (fun live => ak_iadd dL_law_1592 rfl)) <|
  an_kc (nk_sld dL_law_1593 rfl) <|
  an_kc (an_lift (fun live => ak_aload_n dL_law_1594 rfl rfl)) <|
  an_kc (an_lift (fun live => ak_iload_n dL_law_1595 rfl rfl)) <|
  an_kc (an_lift (fun live => ak_iconst dL_law_1596 (by decide +kernel) rfl)) <|
  an_kc (an_lift (fun live => ak_iadd dL_law_1597 rfl)) <|
  an_kc (nk_sld dL_law_1598 rfl) <|
  an_kc (an_lift (fun live => ak_aload_n dL_law_1599 rfl rfl)) <|
  an_kc (an_lift (fun live => ak_iload_n dL_law_1600 rfl rfl)) <|
  an_kc (an_lift (fun live => ak_iconst dL_law_1601 (by decide +kernel) rfl)) <|
  an_kc (an_lift (fun live => ak_iadd dL_law_1602 rfl)) <|
  an_kc (nk_sld dL_law_1603 rfl) <|
  an_kc (an_lift (fun live => ak_aload_n dL_law_1604 rfl rfl)) <|
  an_kc (an_lift (fun live => ak_iload_n dL_law_1605 rfl rfl)) <|
  an_kc (an_lift (fun live => ak_iconst dL_law_1606 (by decide +kernel) rfl)) <|
  an_kc (an_lift (fun live => ak_iadd dL_law_1607 rfl)) <|
  an_kc (nk_sld dL_law_1608 rfl) <|
  an_kc (an_lift (fun live => ak_callV (C := RX8) (F := TX8) (N := 27) metV_tried rfl ⟨rfl, by decide +kernel, by decide +kernel, by decide +kernel⟩ (am_w5 wd_1266 wd_1267 wd_1268 wd_67 wd_1269) (by decide) dL_law_1609 rfl)) <|
  an_kc (an_lift (fun live => ak_pop2 dL_law_1612 rfl)) <|
  an_kc (an_lift (fun live => ak_goto dL_law_1613 (by decide +kernel))) <| an_kn
set_option maxRecDepth 100000 in
set_option maxHeartbeats 4000000 in
theorem caseL_c29 {Ln : Nat} (xs : Nat → Int32) {i : Int32} {i1 i2 : Bool} {kc kn : Nat} {M : am_M} (h : LX i1 i2 M) (hi : lawI Ln i kc kn) : an_wp (kL_c29 Ln xs) (lawC Ln i) 200 (an_go (kL_c29 Ln xs) 1553) (lawL i) [] ((am_lv i1 i2, am_q i1 i2), kc, kn, M) := by
    obtain ⟨⟨f1, f2, f3, f4, f5, f6, f7⟩, k1, k2, k3, k4⟩ := hi.f
    have hmn : am_mn (am_lv i1 i2, am_q i1 i2) := ⟨_, _, rfl⟩
    repeat' (first | (with_reducible exact f1) | (with_reducible exact f2) | (with_reducible exact f3) | (with_reducible exact f4) | (with_reducible exact f5) | (with_reducible exact f6) | (with_reducible exact f7) | (with_reducible exact hmn) | (with_reducible exact h) | (with_reducible exact k1) | (with_reducible exact k2) | (with_reducible exact k3) | (with_reducible exact k4) | apply And.intro | exact rfl | ((with_reducible change r_I _); (with_reducible assumption)) | (intro hx; exact absurd hx (by decide)) | (intro hx; exact absurd (by decide) hx) | decide | intro hx | (refine Exists.intro _ (And.intro rfl ?_)) | (refine Exists.intro _ (Exists.intro _ (And.intro rfl (And.intro rfl ?_)))) | ((with_reducible change LX _ _ _); (with_reducible assumption)) | ((with_reducible change _ = true); simp only [k1, k2, k3, k4, Bool.true_and]; rfl))
    all_goals try first | (with_reducible change am_tI _ _) | (change Ret _ _) | (change Ret _ _ _) | (change Exists _)
    all_goals try dsimp only at *
    all_goals try exact absurd ‹(1000 : Int64) = 0› (by decide)
    all_goals first
      | exact ⟨_, _, rfl⟩
      | exact lawE.mk hi (by with_reducible assumption) (by omega) (by omega)
      | skip
