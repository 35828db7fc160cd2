/-! p1: the law, cases from 3 -/
theorem dL_law_305 : decode cL_law 305 = .ok (.aload_n 1, 1) := by decide +kernel
theorem dL_law_306 : decode cL_law 306 = .ok (.aload_n 0, 1) := by decide +kernel
theorem dL_law_307 : decode cL_law 307 = .ok (.iload_n 3, 1) := by decide +kernel
theorem dL_law_308 : decode cL_law 308 = .ok (.iconst 1, 1) := by decide +kernel
theorem dL_law_309 : decode cL_law 309 = .ok (.iadd, 1) := by decide +kernel
theorem dL_law_310 : decode cL_law 310 = .ok (.iaload, 1) := by decide +kernel
theorem dL_law_311 : decode cL_law 311 = .ok (.aload_n 0, 1) := by decide +kernel
theorem dL_law_312 : decode cL_law 312 = .ok (.iload_n 3, 1) := by decide +kernel
theorem dL_law_313 : decode cL_law 313 = .ok (.iconst 2, 1) := by decide +kernel
theorem dL_law_314 : decode cL_law 314 = .ok (.iadd, 1) := by decide +kernel
theorem dL_law_315 : decode cL_law 315 = .ok (.iaload, 1) := by decide +kernel
theorem wd_434 : Cond.methodLink "LearnLoansLaw" 28 yX7_prices ∈ am_ws := am_wsi (List.mem_of_getElem? (i := 434) (by decide +kernel)) (by decide +kernel)
theorem wd_435 : Cond.instanceMethod yX7_prices ∈ am_ws := am_wsi (List.mem_of_getElem? (i := 435) (by decide +kernel)) (by decide +kernel)
theorem wd_436 : Cond.selects "LearnLoans" yX7_prices yX7_prices ∈ am_ws := am_wsi (List.mem_of_getElem? (i := 436) (by decide +kernel)) (by decide +kernel)
theorem wd_437 : Cond.code yX7_prices cX7_prices 4 (some .int) ∈ am_ws := am_wsi (List.mem_of_getElem? (i := 437) (by decide +kernel)) (by decide +kernel)
theorem dL_law_316 : decode cL_law 316 = .ok (.invokevirtual 28, 3) := by decide +kernel
theorem dL_law_319 : decode cL_law 319 = .ok (.aload_n 2, 1) := by decide +kernel
theorem dL_law_320 : decode cL_law 320 = .ok (.aload_n 0, 1) := by decide +kernel
theorem dL_law_321 : decode cL_law 321 = .ok (.iload_n 3, 1) := by decide +kernel
theorem dL_law_322 : decode cL_law 322 = .ok (.iconst 1, 1) := by decide +kernel
theorem dL_law_323 : decode cL_law 323 = .ok (.iadd, 1) := by decide +kernel
theorem dL_law_324 : decode cL_law 324 = .ok (.iaload, 1) := by decide +kernel
theorem dL_law_325 : decode cL_law 325 = .ok (.aload_n 0, 1) := by decide +kernel
theorem dL_law_326 : decode cL_law 326 = .ok (.iload_n 3, 1) := by decide +kernel
theorem dL_law_327 : decode cL_law 327 = .ok (.iconst 2, 1) := by decide +kernel
theorem dL_law_328 : decode cL_law 328 = .ok (.iadd, 1) := by decide +kernel
theorem dL_law_329 : decode cL_law 329 = .ok (.iaload, 1) := by decide +kernel
theorem wd_1003 : Cond.methodLink "LearnLoansLaw" 31 yX8_prices ∈ am_ws := am_wsi (List.mem_of_getElem? (i := 1003) (by decide +kernel)) (by decide +kernel)
theorem wd_1004 : Cond.instanceMethod yX8_prices ∈ am_ws := am_wsi (List.mem_of_getElem? (i := 1004) (by decide +kernel)) (by decide +kernel)
theorem wd_1005 : Cond.selects "LearnLoansModel" yX8_prices yX8_prices ∈ am_ws := am_wsi (List.mem_of_getElem? (i := 1005) (by decide +kernel)) (by decide +kernel)
theorem wd_1006 : Cond.code yX8_prices cX8_prices 4 (some .int) ∈ am_ws := am_wsi (List.mem_of_getElem? (i := 1006) (by decide +kernel)) (by decide +kernel)
theorem dL_law_330 : decode cL_law 330 = .ok (.invokevirtual 31, 3) := by decide +kernel
theorem dL_law_333 : decode cL_law 333 = .ok (.if_icmp .eq 1516, 3) := by decide +kernel
def kL_c3 (Ln : Nat) (xs : Nat → Int32) : an_code := [(305, an_lf (fun live => am_aload 1 306)), (306, an_lf (fun live => am_aload 0 307)), (307, an_lf (fun live => am_iload 3 308)), (308, an_lf (fun live => am_const (.int 1) 309)), (309, an_lf (fun live => am_i2 (fun x y => x + y) 310)), (310, an_sld Ln xs 311), (311, an_lf (fun live => am_aload 0 312)), (312, an_lf (fun live => am_iload 3 313)), (313, an_lf (fun live => am_const (.int 2) 314)), (314, an_lf (fun live => am_i2 (fun x y => x + y) 315)), (315, an_sld Ln xs 316), (316, an_lf (fun live => am_callV live 7 2 TX7_prices 319)), (319, an_lf (fun live => am_aload 2 320)), (320, an_lf (fun live => am_aload 0 321)), (321, an_lf (fun live => am_iload 3 322)), (322, an_lf (fun live => am_const (.int 1) 323)), (323, an_lf (fun live => am_i2 (fun x y => x + y) 324)), (324, an_sld Ln xs 325), (325, an_lf (fun live => am_aload 0 326)), (326, an_lf (fun live => am_iload 3 327)), (327, an_lf (fun live => am_const (.int 2) 328)), (328, an_lf (fun live => am_i2 (fun x y => x + y) 329)), (329, an_sld Ln xs 330), (330, an_lf (fun live => am_callV live 8 2 TX8_prices 333)), (333, an_lf (fun live => am_if2 (fun x y => x = y) 1849 336))]
theorem koL_c3 (Ln : Nat) (xs : Nat → Int32) : ∀ q ∈ kL_c3 Ln xs, an_ok RL cL_law 4 (some .boolean) 2000 80000 600000 7302250 false (lawP Ln xs) an_noR q.1 q.2 :=
  an_kc (an_lift (fun live => ak_aload_n dL_law_305 rfl rfl)) <|
  an_kc (an_lift (fun live => ak_aload_n dL_law_306 rfl rfl)) <|
  an_kc (an_lift (fun live => ak_iload_n dL_law_307 rfl rfl)) <|
  an_kc (an_lift (fun live => ak_iconst dL_law_308 (by decide +kernel) rfl)) <|
  an_kc (an_lift (fun live => ak_iadd dL_law_309 rfl)) <|
  an_kc (nk_sld dL_law_310 rfl) <|
  an_kc (an_lift (fun live => ak_aload_n dL_law_311 rfl rfl)) <|
  an_kc (an_lift (fun live => ak_iload_n dL_law_312 rfl rfl)) <|
  an_kc (an_lift (fun live => ak_iconst dL_law_313 (by decide +kernel) rfl)) <|
  an_kc (an_lift (fun live => ak_iadd dL_law_314 rfl)) <|
  an_kc (nk_sld dL_law_315 rfl) <|
  an_kc (an_lift (fun live => ak_callV (C := RX7) (F := TX7) (N := 4) metX7_prices rfl ⟨rfl, by decide +kernel, by decide +kernel, by decide +kernel⟩ (am_w5 wd_434 wd_435 wd_436 wd_58 wd_437) (by decide) dL_law_316 rfl)) <|
  an_kc (an_lift (fun live => ak_aload_n dL_law_319 rfl rfl)) <|
  an_kc (an_lift (fun live => ak_aload_n dL_law_320 rfl rfl)) <|
  an_kc (an_lift (fun live => ak_iload_n dL_law_321 rfl rfl)) <|
  an_kc (an_lift (fun live => ak_iconst dL_law_322 (by decide +kernel) rfl)) <|
  an_kc (an_lift (fun live => ak_iadd dL_law_323 rfl)) <|
  an_kc (nk_sld dL_law_324 rfl) <|
  an_kc (an_lift (fun live => ak_aload_n dL_law_325 rfl rfl)) <|
  an_kc (an_lift (fun live => ak_iload_n dL_law_326 rfl rfl)) <|
  an_kc (an_lift (fun live => ak_iconst dL_law_327 (by decide +kernel) rfl)) <|
  an_kc (an_lift (fun live => ak_iadd dL_law_328 rfl)) <|
  an_kc (nk_sld dL_law_329 rfl) <|
  an_kc (an_lift (fun live => ak_callV (C := RX8) (F := TX8) (N := 27) metX8_prices rfl ⟨rfl, by decide +kernel, by decide +kernel, by decide +kernel⟩ (am_w5 wd_1003 wd_1004 wd_1005 wd_67 wd_1006) (by decide) dL_law_330 rfl)) <|
  an_kc (an_lift (fun live => ak_icmp_eq dL_law_333 (by decide +kernel) rfl)) <| an_kn
set_option maxRecDepth 100000 in
set_option maxHeartbeats 4000000 in
theorem caseL_c3 (xs : Nat → Int32) : an_wp (kL_c3 8 xs) lawC 200 (an_go (kL_c3 8 xs) 305) lawL [] lawX := by
    have f7 := an_Mf7
    have f8 := an_Mf8
    repeat' (first | (with_reducible exact f7) | (with_reducible exact f8) | apply And.intro | exact rfl | (intro hx; with_reducible exact absurd rfl hx) | (intro hx; with_reducible exact absurd ((lg_cmp_eq _ _).mpr rfl) hx) | (intro hx; exact absurd hx (by decide)) | (intro hx; exact absurd (by decide) hx) | decide | intro hx | (refine Exists.intro _ (And.intro rfl ?_)))
    all_goals try first | (with_reducible change am_tI _ _) | (change Ret _ _) | (change Ret _ _ _) | (change Exists _)
    all_goals try dsimp only at *
    all_goals try exact absurd ‹(1000 : Int64) = 0› (by decide)
    all_goals first
      | exact ⟨_, _, rfl⟩
      | exact f8.lo ‹am_ch am_lo _ _›
      | exact (f8.lo ‹am_ch am_lo _ _›).1 _ ‹_›
      | exact (f8.lo ‹am_ch am_lo _ _›).2.1 _ ‹_›
      | exact (f8.lo ‹am_ch am_lo _ _›).2.2.1 _ ‹_›
      | exact (f8.lo ‹am_ch am_lo _ _›).2.2.2.1 _ ‹_›
      | exact (f8.lo ‹am_ch am_lo _ _›).2.2.2.2 _ ‹_›
      | exact (f8.hi ‹∀ a k, 200 ≤ a → _›).1 _ ‹_›
      | exact (f8.hi ‹∀ a k, 200 ≤ a → _›).2.1 _ ‹_›
      | exact (f8.hi ‹∀ a k, 200 ≤ a → _›).2.2.1 _ ‹_›
      | exact (f8.hi ‹∀ a k, 200 ≤ a → _›).2.2.2.1 _ ‹_›
      | exact (f8.hi ‹∀ a k, 200 ≤ a → _›).2.2.2.2 _ ‹_›
      | decide
theorem dL_law_338 : decode cL_law 338 = .ok (.aload_n 1, 1) := by decide +kernel
theorem dL_law_339 : decode cL_law 339 = .ok (.aload_n 0, 1) := by decide +kernel
theorem dL_law_340 : decode cL_law 340 = .ok (.iload_n 3, 1) := by decide +kernel
theorem dL_law_341 : decode cL_law 341 = .ok (.iconst 1, 1) := by decide +kernel
theorem dL_law_342 : decode cL_law 342 = .ok (.iadd, 1) := by decide +kernel
theorem dL_law_343 : decode cL_law 343 = .ok (.iaload, 1) := by decide +kernel
theorem dL_law_344 : decode cL_law 344 = .ok (.aload_n 0, 1) := by decide +kernel
theorem dL_law_345 : decode cL_law 345 = .ok (.iload_n 3, 1) := by decide +kernel
theorem dL_law_346 : decode cL_law 346 = .ok (.iconst 2, 1) := by decide +kernel
theorem dL_law_347 : decode cL_law 347 = .ok (.iadd, 1) := by decide +kernel
theorem dL_law_348 : decode cL_law 348 = .ok (.iaload, 1) := by decide +kernel
theorem wd_438 : Cond.methodLink "LearnLoansLaw" 32 yX7_dies ∈ am_ws := am_wsi (List.mem_of_getElem? (i := 438) (by decide +kernel)) (by decide +kernel)
theorem wd_439 : Cond.instanceMethod yX7_dies ∈ am_ws := am_wsi (List.mem_of_getElem? (i := 439) (by decide +kernel)) (by decide +kernel)
theorem wd_440 : Cond.selects "LearnLoans" yX7_dies yX7_dies ∈ am_ws := am_wsi (List.mem_of_getElem? (i := 440) (by decide +kernel)) (by decide +kernel)
theorem wd_441 : Cond.code yX7_dies cX7_dies 3 (some .int) ∈ am_ws := am_wsi (List.mem_of_getElem? (i := 441) (by decide +kernel)) (by decide +kernel)
theorem dL_law_349 : decode cL_law 349 = .ok (.invokevirtual 32, 3) := by decide +kernel
theorem dL_law_352 : decode cL_law 352 = .ok (.aload_n 2, 1) := by decide +kernel
theorem dL_law_353 : decode cL_law 353 = .ok (.aload_n 0, 1) := by decide +kernel
theorem dL_law_354 : decode cL_law 354 = .ok (.iload_n 3, 1) := by decide +kernel
theorem dL_law_355 : decode cL_law 355 = .ok (.iconst 1, 1) := by decide +kernel
theorem dL_law_356 : decode cL_law 356 = .ok (.iadd, 1) := by decide +kernel
theorem dL_law_357 : decode cL_law 357 = .ok (.iaload, 1) := by decide +kernel
theorem dL_law_358 : decode cL_law 358 = .ok (.aload_n 0, 1) := by decide +kernel
theorem dL_law_359 : decode cL_law 359 = .ok (.iload_n 3, 1) := by decide +kernel
theorem dL_law_360 : decode cL_law 360 = .ok (.iconst 2, 1) := by decide +kernel
theorem dL_law_361 : decode cL_law 361 = .ok (.iadd, 1) := by decide +kernel
theorem dL_law_362 : decode cL_law 362 = .ok (.iaload, 1) := by decide +kernel
theorem wd_1009 : Cond.methodLink "LearnLoansLaw" 35 yX8_dies ∈ am_ws := am_wsi (List.mem_of_getElem? (i := 1009) (by decide +kernel)) (by decide +kernel)
theorem wd_1010 : Cond.instanceMethod yX8_dies ∈ am_ws := am_wsi (List.mem_of_getElem? (i := 1010) (by decide +kernel)) (by decide +kernel)
theorem wd_1011 : Cond.selects "LearnLoansModel" yX8_dies yX8_dies ∈ am_ws := am_wsi (List.mem_of_getElem? (i := 1011) (by decide +kernel)) (by decide +kernel)
theorem wd_1012 : Cond.code yX8_dies cX8_dies 3 (some .int) ∈ am_ws := am_wsi (List.mem_of_getElem? (i := 1012) (by decide +kernel)) (by decide +kernel)
theorem dL_law_363 : decode cL_law 363 = .ok (.invokevirtual 35, 3) := by decide +kernel
theorem dL_law_366 : decode cL_law 366 = .ok (.if_icmp .eq 1483, 3) := by decide +kernel
def kL_c4 (Ln : Nat) (xs : Nat → Int32) : an_code := [(338, an_lf (fun live => am_aload 1 339)), (339, an_lf (fun live => am_aload 0 340)), (340, an_lf (fun live => am_iload 3 341)), (341, an_lf (fun live => am_const (.int 1) 342)), (342, an_lf (fun live => am_i2 (fun x y => x + y) 343)), (343, an_sld Ln xs 344), (344, an_lf (fun live => am_aload 0 345)), (345, an_lf (fun live => am_iload 3 346)), (346, an_lf (fun live => am_const (.int 2) 347)), (347, an_lf (fun live => am_i2 (fun x y => x + y) 348)), (348, an_sld Ln xs 349), (349, an_lf (fun live => am_callV live 7 2 TX7_dies 352)), (352, an_lf (fun live => am_aload 2 353)), (353, an_lf (fun live => am_aload 0 354)), (354, an_lf (fun live => am_iload 3 355)), (355, an_lf (fun live => am_const (.int 1) 356)), (356, an_lf (fun live => am_i2 (fun x y => x + y) 357)), (357, an_sld Ln xs 358), (358, an_lf (fun live => am_aload 0 359)), (359, an_lf (fun live => am_iload 3 360)), (360, an_lf (fun live => am_const (.int 2) 361)), (361, an_lf (fun live => am_i2 (fun x y => x + y) 362)), (362, an_sld Ln xs 363), (363, an_lf (fun live => am_callV live 8 2 TX8_dies 366)), (366, an_lf (fun live => am_if2 (fun x y => x = y) 1849 369))]
theorem koL_c4 (Ln : Nat) (xs : Nat → Int32) : ∀ q ∈ kL_c4 Ln xs, an_ok RL cL_law 4 (some .boolean) 2000 80000 600000 7302250 false (lawP Ln xs) an_noR q.1 q.2 :=
  an_kc (an_lift (fun live => ak_aload_n dL_law_338 rfl rfl)) <|
  an_kc (an_lift (fun live => ak_aload_n dL_law_339 rfl rfl)) <|
  an_kc (an_lift (fun live => ak_iload_n dL_law_340 rfl rfl)) <|
  an_kc (an_lift (fun live => ak_iconst dL_law_341 (by decide +kernel) rfl)) <|
  an_kc (an_lift (fun live => ak_iadd dL_law_342 rfl)) <|
  an_kc (nk_sld dL_law_343 rfl) <|
  an_kc (an_lift (fun live => ak_aload_n dL_law_344 rfl rfl)) <|
  an_kc (an_lift (fun live => ak_iload_n dL_law_345 rfl rfl)) <|
  an_kc (an_lift (fun live => ak_iconst dL_law_346 (by decide +kernel) rfl)) <|
  an_kc (an_lift (fun live => ak_iadd dL_law_347 rfl)) <|
  an_kc (nk_sld dL_law_348 rfl) <|
  an_kc (an_lift (fun live => ak_callV (C := RX7) (F := TX7) (N := 4) metX7_dies rfl ⟨rfl, by decide +kernel, by decide +kernel, by decide +kernel⟩ (am_w5 wd_438 wd_439 wd_440 wd_58 wd_441) (by decide) dL_law_349 rfl)) <|
  an_kc (an_lift (fun live => ak_aload_n dL_law_352 rfl rfl)) <|
  an_kc (an_lift (fun live => ak_aload_n dL_law_353 rfl rfl)) <|
  an_kc (an_lift (fun live => ak_iload_n dL_law_354 rfl rfl)) <|
  an_kc (an_lift (fun live => ak_iconst dL_law_355 (by decide +kernel) rfl)) <|
  an_kc (an_lift (fun live => ak_iadd dL_law_356 rfl)) <|
  an_kc (nk_sld dL_law_357 rfl) <|
  an_kc (an_lift (fun live => ak_aload_n dL_law_358 rfl rfl)) <|
  an_kc (an_lift (fun live => ak_iload_n dL_law_359 rfl rfl)) <|
  an_kc (an_lift (fun live => ak_iconst dL_law_360 (by decide +kernel) rfl)) <|
  an_kc (an_lift (fun live => ak_iadd dL_law_361 rfl)) <|
  an_kc (nk_sld dL_law_362 rfl) <|
  an_kc (an_lift (fun live => ak_callV (C := RX8) (F := TX8) (N := 27) metX8_dies rfl ⟨rfl, by decide +kernel, by decide +kernel, by decide +kernel⟩ (am_w5 wd_1009 wd_1010 wd_1011 wd_67 wd_1012) (by decide) dL_law_363 rfl)) <|
  an_kc (an_lift (fun live => ak_icmp_eq dL_law_366 (by decide +kernel) rfl)) <| an_kn
set_option maxRecDepth 100000 in
set_option maxHeartbeats 4000000 in
theorem caseL_c4 (xs : Nat → Int32) : an_wp (kL_c4 8 xs) lawC 200 (an_go (kL_c4 8 xs) 338) lawL [] lawX := by
    have f7 := an_Mf7
    have f8 := an_Mf8
    repeat' (first | (with_reducible exact f7) | (with_reducible exact f8) | apply And.intro | exact rfl | (intro hx; with_reducible exact absurd rfl hx) | (intro hx; with_reducible exact absurd ((lg_cmp_eq _ _).mpr rfl) hx) | (intro hx; exact absurd hx (by decide)) | (intro hx; exact absurd (by decide) hx) | decide | intro hx | (refine Exists.intro _ (And.intro rfl ?_)))
    all_goals try first | (with_reducible change am_tI _ _) | (change Ret _ _) | (change Ret _ _ _) | (change Exists _)
    all_goals try dsimp only at *
    all_goals try exact absurd ‹(1000 : Int64) = 0› (by decide)
    all_goals first
      | exact ⟨_, _, rfl⟩
      | exact f8.lo ‹am_ch am_lo _ _›
      | exact (f8.lo ‹am_ch am_lo _ _›).1 _ ‹_›
      | exact (f8.lo ‹am_ch am_lo _ _›).2.1 _ ‹_›
      | exact (f8.lo ‹am_ch am_lo _ _›).2.2.1 _ ‹_›
      | exact (f8.lo ‹am_ch am_lo _ _›).2.2.2.1 _ ‹_›
      | exact (f8.lo ‹am_ch am_lo _ _›).2.2.2.2 _ ‹_›
      | exact (f8.hi ‹∀ a k, 200 ≤ a → _›).1 _ ‹_›
      | exact (f8.hi ‹∀ a k, 200 ≤ a → _›).2.1 _ ‹_›
      | exact (f8.hi ‹∀ a k, 200 ≤ a → _›).2.2.1 _ ‹_›
      | exact (f8.hi ‹∀ a k, 200 ≤ a → _›).2.2.2.1 _ ‹_›
      | exact (f8.hi ‹∀ a k, 200 ≤ a → _›).2.2.2.2 _ ‹_›
      | decide
theorem dL_law_371 : decode cL_law 371 = .ok (.aload_n 1, 1) := by decide +kernel
theorem dL_law_372 : decode cL_law 372 = .ok (.aload_n 0, 1) := by decide +kernel
theorem dL_law_373 : decode cL_law 373 = .ok (.iload_n 3, 1) := by decide +kernel
theorem dL_law_374 : decode cL_law 374 = .ok (.iconst 1, 1) := by decide +kernel
theorem dL_law_375 : decode cL_law 375 = .ok (.iadd, 1) := by decide +kernel
theorem dL_law_376 : decode cL_law 376 = .ok (.iaload, 1) := by decide +kernel
theorem dL_law_377 : decode cL_law 377 = .ok (.aload_n 0, 1) := by decide +kernel
theorem dL_law_378 : decode cL_law 378 = .ok (.iload_n 3, 1) := by decide +kernel
theorem dL_law_379 : decode cL_law 379 = .ok (.iconst 2, 1) := by decide +kernel
theorem dL_law_380 : decode cL_law 380 = .ok (.iadd, 1) := by decide +kernel
theorem dL_law_381 : decode cL_law 381 = .ok (.iaload, 1) := by decide +kernel
theorem dL_law_382 : decode cL_law 382 = .ok (.aload_n 0, 1) := by decide +kernel
theorem dL_law_383 : decode cL_law 383 = .ok (.iload_n 3, 1) := by decide +kernel
theorem dL_law_384 : decode cL_law 384 = .ok (.iconst 3, 1) := by decide +kernel
theorem dL_law_385 : decode cL_law 385 = .ok (.iadd, 1) := by decide +kernel
theorem dL_law_386 : decode cL_law 386 = .ok (.iaload, 1) := by decide +kernel
theorem dL_law_387 : decode cL_law 387 = .ok (.aload_n 0, 1) := by decide +kernel
theorem dL_law_388 : decode cL_law 388 = .ok (.iload_n 3, 1) := by decide +kernel
theorem dL_law_389 : decode cL_law 389 = .ok (.iconst 4, 1) := by decide +kernel
theorem dL_law_390 : decode cL_law 390 = .ok (.iadd, 1) := by decide +kernel
theorem dL_law_391 : decode cL_law 391 = .ok (.iaload, 1) := by decide +kernel
theorem wd_442 : Cond.methodLink "LearnLoansLaw" 36 yX7_earn ∈ am_ws := am_wsi (List.mem_of_getElem? (i := 442) (by decide +kernel)) (by decide +kernel)
theorem wd_443 : Cond.instanceMethod yX7_earn ∈ am_ws := am_wsi (List.mem_of_getElem? (i := 443) (by decide +kernel)) (by decide +kernel)
theorem wd_444 : Cond.selects "LearnLoans" yX7_earn yX7_earn ∈ am_ws := am_wsi (List.mem_of_getElem? (i := 444) (by decide +kernel)) (by decide +kernel)
theorem wd_445 : Cond.code yX7_earn cX7_earn 7 (some .int) ∈ am_ws := am_wsi (List.mem_of_getElem? (i := 445) (by decide +kernel)) (by decide +kernel)
theorem dL_law_392 : decode cL_law 392 = .ok (.invokevirtual 36, 3) := by decide +kernel
theorem dL_law_395 : decode cL_law 395 = .ok (.aload_n 2, 1) := by decide +kernel
theorem dL_law_396 : decode cL_law 396 = .ok (.aload_n 0, 1) := by decide +kernel
theorem dL_law_397 : decode cL_law 397 = .ok (.iload_n 3, 1) := by decide +kernel
theorem dL_law_398 : decode cL_law 398 = .ok (.iconst 1, 1) := by decide +kernel
theorem dL_law_399 : decode cL_law 399 = .ok (.iadd, 1) := by decide +kernel
theorem dL_law_400 : decode cL_law 400 = .ok (.iaload, 1) := by decide +kernel
theorem dL_law_401 : decode cL_law 401 = .ok (.aload_n 0, 1) := by decide +kernel
theorem dL_law_402 : decode cL_law 402 = .ok (.iload_n 3, 1) := by decide +kernel
theorem dL_law_403 : decode cL_law 403 = .ok (.iconst 2, 1) := by decide +kernel
theorem dL_law_404 : decode cL_law 404 = .ok (.iadd, 1) := by decide +kernel
theorem dL_law_405 : decode cL_law 405 = .ok (.iaload, 1) := by decide +kernel
theorem dL_law_406 : decode cL_law 406 = .ok (.aload_n 0, 1) := by decide +kernel
theorem dL_law_407 : decode cL_law 407 = .ok (.iload_n 3, 1) := by decide +kernel
theorem dL_law_408 : decode cL_law 408 = .ok (.iconst 3, 1) := by decide +kernel
theorem dL_law_409 : decode cL_law 409 = .ok (.iadd, 1) := by decide +kernel
theorem dL_law_410 : decode cL_law 410 = .ok (.iaload, 1) := by decide +kernel
theorem dL_law_411 : decode cL_law 411 = .ok (.aload_n 0, 1) := by decide +kernel
theorem dL_law_412 : decode cL_law 412 = .ok (.iload_n 3, 1) := by decide +kernel
theorem dL_law_413 : decode cL_law 413 = .ok (.iconst 4, 1) := by decide +kernel
theorem dL_law_414 : decode cL_law 414 = .ok (.iadd, 1) := by decide +kernel
theorem dL_law_415 : decode cL_law 415 = .ok (.iaload, 1) := by decide +kernel
theorem wd_1013 : Cond.methodLink "LearnLoansLaw" 39 yX8_earn ∈ am_ws := am_wsi (List.mem_of_getElem? (i := 1013) (by decide +kernel)) (by decide +kernel)
theorem wd_1014 : Cond.instanceMethod yX8_earn ∈ am_ws := am_wsi (List.mem_of_getElem? (i := 1014) (by decide +kernel)) (by decide +kernel)
theorem wd_1015 : Cond.selects "LearnLoansModel" yX8_earn yX8_earn ∈ am_ws := am_wsi (List.mem_of_getElem? (i := 1015) (by decide +kernel)) (by decide +kernel)
theorem wd_1016 : Cond.code yX8_earn cX8_earn 6 (some .int) ∈ am_ws := am_wsi (List.mem_of_getElem? (i := 1016) (by decide +kernel)) (by decide +kernel)
theorem dL_law_416 : decode cL_law 416 = .ok (.invokevirtual 39, 3) := by decide +kernel
theorem dL_law_419 : decode cL_law 419 = .ok (.if_icmp .eq 1430, 3) := by decide +kernel
def kL_c5 (Ln : Nat) (xs : Nat → Int32) : an_code := [(371, an_lf (fun live => am_aload 1 372)), (372, an_lf (fun live => am_aload 0 373)), (373, an_lf (fun live => am_iload 3 374)), (374, an_lf (fun live => am_const (.int 1) 375)), (375, an_lf (fun live => am_i2 (fun x y => x + y) 376)), (376, an_sld Ln xs 377), (377, an_lf (fun live => am_aload 0 378)), (378, an_lf (fun live => am_iload 3 379)), (379, an_lf (fun live => am_const (.int 2) 380)), (380, an_lf (fun live => am_i2 (fun x y => x + y) 381)), (381, an_sld Ln xs 382), (382, an_lf (fun live => am_aload 0 383)), (383, an_lf (fun live => am_iload 3 384)), (384, an_lf (fun live => am_const (.int 3) 385)), (385, an_lf (fun live => am_i2 (fun x y => x + y) 386)), (386, an_sld Ln xs 387), (387, an_lf (fun live => am_aload 0 388)), (388, an_lf (fun live => am_iload 3 389)), (389, an_lf (fun live => am_const (.int 4) 390)), (390, an_lf (fun live => am_i2 (fun x y => x + y) 391)), (391, an_sld Ln xs 392), (392, an_lf (fun live => am_callV live 7 4 TX7_earn 395)), (395, an_lf (fun live => am_aload 2 396)), (396, an_lf (fun live => am_aload 0 397)), (397, an_lf (fun live => am_iload 3 398)), (398, an_lf (fun live => am_const (.int 1) 399)), (399, an_lf (fun live => am_i2 (fun x y => x + y) 400)), (400, an_sld Ln xs 401), (401, an_lf (fun live => am_aload 0 402)), (402, an_lf (fun live => am_iload 3 403)), (403, an_lf (fun live => am_const (.int 2) 404)), (404, an_lf (fun live => am_i2 (fun x y => x + y) 405)), (405, an_sld Ln xs 406), (406, an_lf (fun live => am_aload 0 407)), (407, an_lf (fun live => am_iload 3 408)), (408, an_lf (fun live => am_const (.int 3) 409)), (409, an_lf (fun live => am_i2 (fun x y => x + y) 410)), (410, an_sld Ln xs 411), (411, an_lf (fun live => am_aload 0 412)), (412, an_lf (fun live => am_iload 3 413)), (413, an_lf (fun live => am_const (.int 4) 414)), (414, an_lf (fun live => am_i2 (fun x y => x + y) 415)), (415, an_sld Ln xs 416), (416, an_lf (fun live => am_callV live 8 4 TX8_earn 419)), (419, an_lf (fun live => am_if2 (fun x y => x = y) 1849 422))]
theorem koL_c5 (Ln : Nat) (xs : Nat → Int32) : ∀ q ∈ kL_c5 Ln xs, an_ok RL cL_law 4 (some .boolean) 2000 80000 600000 7302250 false (lawP Ln xs) an_noR q.1 q.2 :=
  an_kc (an_lift (fun live => ak_aload_n dL_law_371 rfl rfl)) <|
  an_kc (an_lift (fun live => ak_aload_n dL_law_372 rfl rfl)) <|
  an_kc (an_lift (fun live => ak_iload_n dL_law_373 rfl rfl)) <|
  an_kc (an_lift (fun live => ak_iconst dL_law_374 (by decide +kernel) rfl)) <|
  an_kc (an_lift (fun live => ak_iadd dL_law_375 rfl)) <|
  an_kc (nk_sld dL_law_376 rfl) <|
  an_kc (an_lift (fun live => ak_aload_n dL_law_377 rfl rfl)) <|
  an_kc (an_lift (fun live => ak_iload_n dL_law_378 rfl rfl)) <|
  an_kc (an_lift (fun live => ak_iconst dL_law_379 (by decide +kernel) rfl)) <|
  an_kc (an_lift (fun live => ak_iadd dL_law_380 rfl)) <|
  an_kc (nk_sld dL_law_381 rfl) <|
  an_kc (an_lift (fun live => ak_aload_n dL_law_382 rfl rfl)) <|
  an_kc (an_lift (fun live => ak_iload_n dL_law_383 rfl rfl)) <|
  an_kc (an_lift (fun live => ak_iconst dL_law_384 (by decide +kernel) rfl)) <|
  an_kc (an_lift (fun live => ak_iadd dL_law_385 rfl)) <|
  an_kc (nk_sld dL_law_386 rfl) <|
  an_kc (an_lift (fun live => ak_aload_n dL_law_387 rfl rfl)) <|
  an_kc (an_lift (fun live => ak_iload_n dL_law_388 rfl rfl)) <|
  an_kc (an_lift (fun live => ak_iconst dL_law_389 (by decide +kernel) rfl)) <|
  an_kc (an_lift (fun live => ak_iadd dL_law_390 rfl)) <|
  an_kc (nk_sld dL_law_391 rfl) <|
  an_kc (an_lift (fun live => ak_callV (C := RX7) (F := TX7) (N := 4) metX7_earn rfl ⟨rfl, by decide +kernel, by decide +kernel, by decide +kernel⟩ (am_w5 wd_442 wd_443 wd_444 wd_58 wd_445) (by decide) dL_law_392 rfl)) <|
  an_kc (an_lift (fun live => ak_aload_n dL_law_395 rfl rfl)) <|
  an_kc (an_lift (fun live => ak_aload_n dL_law_396 rfl rfl)) <|
  an_kc (an_lift (fun live => ak_iload_n dL_law_397 rfl rfl)) <|
  an_kc (an_lift (fun live => ak_iconst dL_law_398 (by decide +kernel) rfl)) <|
  an_kc (an_lift (fun live => ak_iadd dL_law_399 rfl)) <|
  an_kc (nk_sld dL_law_400 rfl) <|
  an_kc (an_lift (fun live => ak_aload_n dL_law_401 rfl rfl)) <|
  an_kc (an_lift (fun live => ak_iload_n dL_law_402 rfl rfl)) <|
  an_kc (an_lift (fun live => ak_iconst dL_law_403 (by decide +kernel) rfl)) <|
  an_kc (an_lift (fun live => ak_iadd dL_law_404 rfl)) <|
  an_kc (nk_sld dL_law_405 rfl) <|
  an_kc (an_lift (fun live => ak_aload_n dL_law_406 rfl rfl)) <|
  an_kc (an_lift (fun live => ak_iload_n dL_law_407 rfl rfl)) <|
  an_kc (an_lift (fun live => ak_iconst dL_law_408 (by decide +kernel) rfl)) <|
  an_kc (an_lift (fun live => ak_iadd dL_law_409 rfl)) <|
  an_kc (nk_sld dL_law_410 rfl) <|
  an_kc (an_lift (fun live => ak_aload_n dL_law_411 rfl rfl)) <|
  an_kc (an_lift (fun live => ak_iload_n dL_law_412 rfl rfl)) <|
  an_kc (an_lift (fun live => ak_iconst dL_law_413 (by decide +kernel) rfl)) <|
  an_kc (an_lift (fun live => ak_iadd dL_law_414 rfl)) <|
  an_kc (nk_sld dL_law_415 rfl) <|
  an_kc (an_lift (fun live => ak_callV (C := RX8) (F := TX8) (N := 27) metX8_earn rfl ⟨rfl, by decide +kernel, by decide +kernel, by decide +kernel⟩ (am_w5 wd_1013 wd_1014 wd_1015 wd_67 wd_1016) (by decide) dL_law_416 rfl)) <|
  an_kc (an_lift (fun live => ak_icmp_eq dL_law_419 (by decide +kernel) rfl)) <| an_kn
set_option maxRecDepth 100000 in
set_option maxHeartbeats 4000000 in
theorem caseL_c5 (xs : Nat → Int32) : an_wp (kL_c5 8 xs) lawC 200 (an_go (kL_c5 8 xs) 371) lawL [] lawX := by
    have f7 := an_Mf7
    have f8 := an_Mf8
    repeat' (first | (with_reducible exact f7) | (with_reducible exact f8) | apply And.intro | exact rfl | (intro hx; with_reducible exact absurd rfl hx) | (intro hx; with_reducible exact absurd ((lg_cmp_eq _ _).mpr rfl) hx) | (intro hx; exact absurd hx (by decide)) | (intro hx; exact absurd (by decide) hx) | decide | intro hx | (refine Exists.intro _ (And.intro rfl ?_)))
    all_goals try first | (with_reducible change am_tI _ _) | (change Ret _ _) | (change Ret _ _ _) | (change Exists _)
    all_goals try dsimp only at *
    all_goals try exact absurd ‹(1000 : Int64) = 0› (by decide)
    all_goals first
      | exact ⟨_, _, rfl⟩
      | exact f8.lo ‹am_ch am_lo _ _›
      | exact (f8.lo ‹am_ch am_lo _ _›).1 _ ‹_›
      | exact (f8.lo ‹am_ch am_lo _ _›).2.1 _ ‹_›
      | exact (f8.lo ‹am_ch am_lo _ _›).2.2.1 _ ‹_›
      | exact (f8.lo ‹am_ch am_lo _ _›).2.2.2.1 _ ‹_›
      | exact (f8.lo ‹am_ch am_lo _ _›).2.2.2.2 _ ‹_›
      | exact (f8.hi ‹∀ a k, 200 ≤ a → _›).1 _ ‹_›
      | exact (f8.hi ‹∀ a k, 200 ≤ a → _›).2.1 _ ‹_›
      | exact (f8.hi ‹∀ a k, 200 ≤ a → _›).2.2.1 _ ‹_›
      | exact (f8.hi ‹∀ a k, 200 ≤ a → _›).2.2.2.1 _ ‹_›
      | exact (f8.hi ‹∀ a k, 200 ≤ a → _›).2.2.2.2 _ ‹_›
      | decide
theorem dL_law_424 : decode cL_law 424 = .ok (.aload_n 1, 1) := by decide +kernel
theorem dL_law_425 : decode cL_law 425 = .ok (.aload_n 0, 1) := by decide +kernel
theorem dL_law_426 : decode cL_law 426 = .ok (.iload_n 3, 1) := by decide +kernel
theorem dL_law_427 : decode cL_law 427 = .ok (.iconst 1, 1) := by decide +kernel
theorem dL_law_428 : decode cL_law 428 = .ok (.iadd, 1) := by decide +kernel
theorem dL_law_429 : decode cL_law 429 = .ok (.iaload, 1) := by decide +kernel
theorem dL_law_430 : decode cL_law 430 = .ok (.aload_n 0, 1) := by decide +kernel
theorem dL_law_431 : decode cL_law 431 = .ok (.iload_n 3, 1) := by decide +kernel
theorem dL_law_432 : decode cL_law 432 = .ok (.iconst 2, 1) := by decide +kernel
theorem dL_law_433 : decode cL_law 433 = .ok (.iadd, 1) := by decide +kernel
theorem dL_law_434 : decode cL_law 434 = .ok (.iaload, 1) := by decide +kernel
theorem dL_law_435 : decode cL_law 435 = .ok (.aload_n 0, 1) := by decide +kernel
theorem dL_law_436 : decode cL_law 436 = .ok (.iload_n 3, 1) := by decide +kernel
theorem dL_law_437 : decode cL_law 437 = .ok (.iconst 3, 1) := by decide +kernel
theorem dL_law_438 : decode cL_law 438 = .ok (.iadd, 1) := by decide +kernel
theorem dL_law_439 : decode cL_law 439 = .ok (.iaload, 1) := by decide +kernel
theorem dL_law_440 : decode cL_law 440 = .ok (.aload_n 0, 1) := by decide +kernel
theorem dL_law_441 : decode cL_law 441 = .ok (.iload_n 3, 1) := by decide +kernel
theorem dL_law_442 : decode cL_law 442 = .ok (.iconst 4, 1) := by decide +kernel
theorem dL_law_443 : decode cL_law 443 = .ok (.iadd, 1) := by decide +kernel
theorem dL_law_444 : decode cL_law 444 = .ok (.iaload, 1) := by decide +kernel
theorem wd_450 : Cond.methodLink "LearnLoansLaw" 40 yX7_right ∈ am_ws := am_wsi (List.mem_of_getElem? (i := 450) (by decide +kernel)) (by decide +kernel)
theorem wd_451 : Cond.instanceMethod yX7_right ∈ am_ws := am_wsi (List.mem_of_getElem? (i := 451) (by decide +kernel)) (by decide +kernel)
theorem wd_452 : Cond.selects "LearnLoans" yX7_right yX7_right ∈ am_ws := am_wsi (List.mem_of_getElem? (i := 452) (by decide +kernel)) (by decide +kernel)
theorem wd_453 : Cond.code yX7_right cX7_right 7 (some .int) ∈ am_ws := am_wsi (List.mem_of_getElem? (i := 453) (by decide +kernel)) (by decide +kernel)
theorem dL_law_445 : decode cL_law 445 = .ok (.invokevirtual 40, 3) := by decide +kernel
theorem dL_law_448 : decode cL_law 448 = .ok (.aload_n 2, 1) := by decide +kernel
theorem dL_law_449 : decode cL_law 449 = .ok (.aload_n 0, 1) := by decide +kernel
theorem dL_law_450 : decode cL_law 450 = .ok (.iload_n 3, 1) := by decide +kernel
theorem dL_law_451 : decode cL_law 451 = .ok (.iconst 1, 1) := by decide +kernel
theorem dL_law_452 : decode cL_law 452 = .ok (.iadd, 1) := by decide +kernel
theorem dL_law_453 : decode cL_law 453 = .ok (.iaload, 1) := by decide +kernel
theorem dL_law_454 : decode cL_law 454 = .ok (.aload_n 0, 1) := by decide +kernel
theorem dL_law_455 : decode cL_law 455 = .ok (.iload_n 3, 1) := by decide +kernel
theorem dL_law_456 : decode cL_law 456 = .ok (.iconst 2, 1) := by decide +kernel
theorem dL_law_457 : decode cL_law 457 = .ok (.iadd, 1) := by decide +kernel
theorem dL_law_458 : decode cL_law 458 = .ok (.iaload, 1) := by decide +kernel
theorem dL_law_459 : decode cL_law 459 = .ok (.aload_n 0, 1) := by decide +kernel
theorem dL_law_460 : decode cL_law 460 = .ok (.iload_n 3, 1) := by decide +kernel
theorem dL_law_461 : decode cL_law 461 = .ok (.iconst 3, 1) := by decide +kernel
theorem dL_law_462 : decode cL_law 462 = .ok (.iadd, 1) := by decide +kernel
theorem dL_law_463 : decode cL_law 463 = .ok (.iaload, 1) := by decide +kernel
theorem dL_law_464 : decode cL_law 464 = .ok (.aload_n 0, 1) := by decide +kernel
theorem dL_law_465 : decode cL_law 465 = .ok (.iload_n 3, 1) := by decide +kernel
theorem dL_law_466 : decode cL_law 466 = .ok (.iconst 4, 1) := by decide +kernel
theorem dL_law_467 : decode cL_law 467 = .ok (.iadd, 1) := by decide +kernel
theorem dL_law_468 : decode cL_law 468 = .ok (.iaload, 1) := by decide +kernel
theorem wd_1018 : Cond.methodLink "LearnLoansLaw" 43 yX8_right ∈ am_ws := am_wsi (List.mem_of_getElem? (i := 1018) (by decide +kernel)) (by decide +kernel)
theorem wd_1019 : Cond.instanceMethod yX8_right ∈ am_ws := am_wsi (List.mem_of_getElem? (i := 1019) (by decide +kernel)) (by decide +kernel)
theorem wd_1020 : Cond.selects "LearnLoansModel" yX8_right yX8_right ∈ am_ws := am_wsi (List.mem_of_getElem? (i := 1020) (by decide +kernel)) (by decide +kernel)
theorem wd_1021 : Cond.code yX8_right cX8_right 7 (some .int) ∈ am_ws := am_wsi (List.mem_of_getElem? (i := 1021) (by decide +kernel)) (by decide +kernel)
theorem dL_law_469 : decode cL_law 469 = .ok (.invokevirtual 43, 3) := by decide +kernel
theorem dL_law_472 : decode cL_law 472 = .ok (.if_icmp .eq 1377, 3) := by decide +kernel
def kL_c6 (Ln : Nat) (xs : Nat → Int32) : an_code := [(424, an_lf (fun live => am_aload 1 425)), (425, an_lf (fun live => am_aload 0 426)), (426, an_lf (fun live => am_iload 3 427)), (427, an_lf (fun live => am_const (.int 1) 428)), (428, an_lf (fun live => am_i2 (fun x y => x + y) 429)), (429, an_sld Ln xs 430), (430, an_lf (fun live => am_aload 0 431)), (431, an_lf (fun live => am_iload 3 432)), (432, an_lf (fun live => am_const (.int 2) 433)), (433, an_lf (fun live => am_i2 (fun x y => x + y) 434)), (434, an_sld Ln xs 435), (435, an_lf (fun live => am_aload 0 436)), (436, an_lf (fun live => am_iload 3 437)), (437, an_lf (fun live => am_const (.int 3) 438)), (438, an_lf (fun live => am_i2 (fun x y => x + y) 439)), (439, an_sld Ln xs 440), (440, an_lf (fun live => am_aload 0 441)), (441, an_lf (fun live => am_iload 3 442)), (442, an_lf (fun live => am_const (.int 4) 443)), (443, an_lf (fun live => am_i2 (fun x y => x + y) 444)), (444, an_sld Ln xs 445), (445, an_lf (fun live => am_callV live 7 4 TX7_right 448)), (448, an_lf (fun live => am_aload 2 449)), (449, an_lf (fun live => am_aload 0 450)), (450, an_lf (fun live => am_iload 3 451)), (451, an_lf (fun live => am_const (.int 1) 452)), (452, an_lf (fun live => am_i2 (fun x y => x + y) 453)), (453, an_sld Ln xs 454), (454, an_lf (fun live => am_aload 0 455)), (455, an_lf (fun live => am_iload 3 456)), (456, an_lf (fun live => am_const (.int 2) 457)), (457, an_lf (fun live => am_i2 (fun x y => x + y) 458)), (458, an_sld Ln xs 459), (459, an_lf (fun live => am_aload 0 460)), (460, an_lf (fun live => am_iload 3 461)), (461, an_lf (fun live => am_const (.int 3) 462)), (462, an_lf (fun live => am_i2 (fun x y => x + y) 463)), (463, an_sld Ln xs 464), (464, an_lf (fun live => am_aload 0 465)), (465, an_lf (fun live => am_iload 3 466)), (466, an_lf (fun live => am_const (.int 4) 467)), (467, an_lf (fun live => am_i2 (fun x y => x + y) 468)), (468, an_sld Ln xs 469), (469, an_lf (fun live => am_callV live 8 4 TX8_right 472)), (472, an_lf (fun live => am_if2 (fun x y => x = y) 1849 475))]
theorem koL_c6 (Ln : Nat) (xs : Nat → Int32) : ∀ q ∈ kL_c6 Ln xs, an_ok RL cL_law 4 (some .boolean) 2000 80000 600000 7302250 false (lawP Ln xs) an_noR q.1 q.2 :=
  an_kc (an_lift (fun live => ak_aload_n dL_law_424 rfl rfl)) <|
  an_kc (an_lift (fun live => ak_aload_n dL_law_425 rfl rfl)) <|
  an_kc (an_lift (fun live => ak_iload_n dL_law_426 rfl rfl)) <|
  an_kc (an_lift (fun live => ak_iconst dL_law_427 (by decide +kernel) rfl)) <|
  an_kc (an_lift (fun live => ak_iadd dL_law_428 rfl)) <|
  an_kc (nk_sld dL_law_429 rfl) <|
  an_kc (an_lift (fun live => ak_aload_n dL_law_430 rfl rfl)) <|
  an_kc (an_lift (fun live => ak_iload_n dL_law_431 rfl rfl)) <|
  an_kc (an_lift (fun live => ak_iconst dL_law_432 (by decide +kernel) rfl)) <|
  an_kc (an_lift (fun live => ak_iadd dL_law_433 rfl)) <|
  an_kc (nk_sld dL_law_434 rfl) <|
  an_kc (an_lift (fun live => ak_aload_n dL_law_435 rfl rfl)) <|
  an_kc (an_lift (fun live => ak_iload_n dL_law_436 rfl rfl)) <|
  an_kc (an_lift (fun live => ak_iconst dL_law_437 (by decide +kernel) rfl)) <|
  an_kc (an_lift (fun live => ak_iadd dL_law_438 rfl)) <|
  an_kc (nk_sld dL_law_439 rfl) <|
  an_kc (an_lift (fun live => ak_aload_n dL_law_440 rfl rfl)) <|
  an_kc (an_lift (fun live => ak_iload_n dL_law_441 rfl rfl)) <|
  an_kc (an_lift (fun live => ak_iconst dL_law_442 (by decide +kernel) rfl)) <|
  an_kc (an_lift (fun live => ak_iadd dL_law_443 rfl)) <|
  an_kc (nk_sld dL_law_444 rfl) <|
  an_kc (an_lift (fun live => ak_callV (C := RX7) (F := TX7) (N := 4) metX7_right rfl ⟨rfl, by decide +kernel, by decide +kernel, by decide +kernel⟩ (am_w5 wd_450 wd_451 wd_452 wd_58 wd_453) (by decide) dL_law_445 rfl)) <|
  an_kc (an_lift (fun live => ak_aload_n dL_law_448 rfl rfl)) <|
  an_kc (an_lift (fun live => ak_aload_n dL_law_449 rfl rfl)) <|
  an_kc (an_lift (fun live => ak_iload_n dL_law_450 rfl rfl)) <|
  an_kc (an_lift (fun live => ak_iconst dL_law_451 (by decide +kernel) rfl)) <|
  an_kc (an_lift (fun live => ak_iadd dL_law_452 rfl)) <|
  an_kc (nk_sld dL_law_453 rfl) <|
  an_kc (an_lift (fun live => ak_aload_n dL_law_454 rfl rfl)) <|
  an_kc (an_lift (fun live => ak_iload_n dL_law_455 rfl rfl)) <|
  an_kc (an_lift (fun live => ak_iconst dL_law_456 (by decide +kernel) rfl)) <|
  an_kc (an_lift (fun live => ak_iadd dL_law_457 rfl)) <|
  an_kc (nk_sld dL_law_458 rfl) <|
  an_kc (an_lift (fun live => ak_aload_n dL_law_459 rfl rfl)) <|
  an_kc (an_lift (fun live => ak_iload_n dL_law_460 rfl rfl)) <|
  an_kc (an_lift (fun live => ak_iconst dL_law_461 (by decide +kernel) rfl)) <|
  an_kc (an_lift (fun live => ak_iadd dL_law_462 rfl)) <|
  an_kc (nk_sld dL_law_463 rfl) <|
  an_kc (an_lift (fun live => ak_aload_n dL_law_464 rfl rfl)) <|
  an_kc (an_lift (fun live => ak_iload_n dL_law_465 rfl rfl)) <|
  an_kc (an_lift (fun live => ak_iconst dL_law_466 (by decide +kernel) rfl)) <|
  an_kc (an_lift (fun live => ak_iadd dL_law_467 rfl)) <|
  an_kc (nk_sld dL_law_468 rfl) <|
  an_kc (an_lift (fun live => ak_callV (C := RX8) (F := TX8) (N := 27) metX8_right rfl ⟨rfl, by decide +kernel, by decide +kernel, by decide +kernel⟩ (am_w5 wd_1018 wd_1019 wd_1020 wd_67 wd_1021) (by decide) dL_law_469 rfl)) <|
  an_kc (an_lift (fun live => ak_icmp_eq dL_law_472 (by decide +kernel) rfl)) <| an_kn
set_option maxRecDepth 100000 in
set_option maxHeartbeats 4000000 in
theorem caseL_c6 (xs : Nat → Int32) : an_wp (kL_c6 8 xs) lawC 200 (an_go (kL_c6 8 xs) 424) lawL [] lawX := by
    have f7 := an_Mf7
    have f8 := an_Mf8
    repeat' (first | (with_reducible exact f7) | (with_reducible exact f8) | apply And.intro | exact rfl | (intro hx; with_reducible exact absurd rfl hx) | (intro hx; with_reducible exact absurd ((lg_cmp_eq _ _).mpr rfl) hx) | (intro hx; exact absurd hx (by decide)) | (intro hx; exact absurd (by decide) hx) | decide | intro hx | (refine Exists.intro _ (And.intro rfl ?_)))
    all_goals try first | (with_reducible change am_tI _ _) | (change Ret _ _) | (change Ret _ _ _) | (change Exists _)
    all_goals try dsimp only at *
    all_goals try exact absurd ‹(1000 : Int64) = 0› (by decide)
    all_goals first
      | exact ⟨_, _, rfl⟩
      | exact f8.lo ‹am_ch am_lo _ _›
      | exact (f8.lo ‹am_ch am_lo _ _›).1 _ ‹_›
      | exact (f8.lo ‹am_ch am_lo _ _›).2.1 _ ‹_›
      | exact (f8.lo ‹am_ch am_lo _ _›).2.2.1 _ ‹_›
      | exact (f8.lo ‹am_ch am_lo _ _›).2.2.2.1 _ ‹_›
      | exact (f8.lo ‹am_ch am_lo _ _›).2.2.2.2 _ ‹_›
      | exact (f8.hi ‹∀ a k, 200 ≤ a → _›).1 _ ‹_›
      | exact (f8.hi ‹∀ a k, 200 ≤ a → _›).2.1 _ ‹_›
      | exact (f8.hi ‹∀ a k, 200 ≤ a → _›).2.2.1 _ ‹_›
      | exact (f8.hi ‹∀ a k, 200 ≤ a → _›).2.2.2.1 _ ‹_›
      | exact (f8.hi ‹∀ a k, 200 ≤ a → _›).2.2.2.2 _ ‹_›
      | decide
theorem dL_law_477 : decode cL_law 477 = .ok (.aload_n 1, 1) := by decide +kernel
theorem dL_law_478 : decode cL_law 478 = .ok (.aload_n 0, 1) := by decide +kernel
theorem dL_law_479 : decode cL_law 479 = .ok (.iload_n 3, 1) := by decide +kernel
theorem dL_law_480 : decode cL_law 480 = .ok (.iconst 1, 1) := by decide +kernel
theorem dL_law_481 : decode cL_law 481 = .ok (.iadd, 1) := by decide +kernel
theorem dL_law_482 : decode cL_law 482 = .ok (.iaload, 1) := by decide +kernel
theorem dL_law_483 : decode cL_law 483 = .ok (.aload_n 0, 1) := by decide +kernel
theorem dL_law_484 : decode cL_law 484 = .ok (.iload_n 3, 1) := by decide +kernel
theorem dL_law_485 : decode cL_law 485 = .ok (.iconst 2, 1) := by decide +kernel
theorem dL_law_486 : decode cL_law 486 = .ok (.iadd, 1) := by decide +kernel
theorem dL_law_487 : decode cL_law 487 = .ok (.iaload, 1) := by decide +kernel
theorem dL_law_488 : decode cL_law 488 = .ok (.aload_n 0, 1) := by decide +kernel
theorem dL_law_489 : decode cL_law 489 = .ok (.iload_n 3, 1) := by decide +kernel
theorem dL_law_490 : decode cL_law 490 = .ok (.iconst 3, 1) := by decide +kernel
theorem dL_law_491 : decode cL_law 491 = .ok (.iadd, 1) := by decide +kernel
theorem dL_law_492 : decode cL_law 492 = .ok (.iaload, 1) := by decide +kernel
theorem wd_454 : Cond.methodLink "LearnLoansLaw" 44 yX7_earnings ∈ am_ws := am_wsi (List.mem_of_getElem? (i := 454) (by decide +kernel)) (by decide +kernel)
theorem wd_455 : Cond.instanceMethod yX7_earnings ∈ am_ws := am_wsi (List.mem_of_getElem? (i := 455) (by decide +kernel)) (by decide +kernel)
theorem wd_456 : Cond.selects "LearnLoans" yX7_earnings yX7_earnings ∈ am_ws := am_wsi (List.mem_of_getElem? (i := 456) (by decide +kernel)) (by decide +kernel)
theorem wd_457 : Cond.code yX7_earnings cX7_earnings 4 (some .int) ∈ am_ws := am_wsi (List.mem_of_getElem? (i := 457) (by decide +kernel)) (by decide +kernel)
theorem dL_law_493 : decode cL_law 493 = .ok (.invokevirtual 44, 3) := by decide +kernel
theorem dL_law_496 : decode cL_law 496 = .ok (.aload_n 2, 1) := by decide +kernel
theorem dL_law_497 : decode cL_law 497 = .ok (.aload_n 0, 1) := by decide +kernel
theorem dL_law_498 : decode cL_law 498 = .ok (.iload_n 3, 1) := by decide +kernel
theorem dL_law_499 : decode cL_law 499 = .ok (.iconst 1, 1) := by decide +kernel
theorem dL_law_500 : decode cL_law 500 = .ok (.iadd, 1) := by decide +kernel
theorem dL_law_501 : decode cL_law 501 = .ok (.iaload, 1) := by decide +kernel
theorem dL_law_502 : decode cL_law 502 = .ok (.aload_n 0, 1) := by decide +kernel
theorem dL_law_503 : decode cL_law 503 = .ok (.iload_n 3, 1) := by decide +kernel
theorem dL_law_504 : decode cL_law 504 = .ok (.iconst 2, 1) := by decide +kernel
theorem dL_law_505 : decode cL_law 505 = .ok (.iadd, 1) := by decide +kernel
theorem dL_law_506 : decode cL_law 506 = .ok (.iaload, 1) := by decide +kernel
theorem dL_law_507 : decode cL_law 507 = .ok (.aload_n 0, 1) := by decide +kernel
theorem dL_law_508 : decode cL_law 508 = .ok (.iload_n 3, 1) := by decide +kernel
theorem dL_law_509 : decode cL_law 509 = .ok (.iconst 3, 1) := by decide +kernel
theorem dL_law_510 : decode cL_law 510 = .ok (.iadd, 1) := by decide +kernel
theorem dL_law_511 : decode cL_law 511 = .ok (.iaload, 1) := by decide +kernel
theorem wd_1022 : Cond.methodLink "LearnLoansLaw" 48 yX8_earnings ∈ am_ws := am_wsi (List.mem_of_getElem? (i := 1022) (by decide +kernel)) (by decide +kernel)
theorem wd_1023 : Cond.instanceMethod yX8_earnings ∈ am_ws := am_wsi (List.mem_of_getElem? (i := 1023) (by decide +kernel)) (by decide +kernel)
theorem wd_1024 : Cond.selects "LearnLoansModel" yX8_earnings yX8_earnings ∈ am_ws := am_wsi (List.mem_of_getElem? (i := 1024) (by decide +kernel)) (by decide +kernel)
theorem wd_1025 : Cond.code yX8_earnings cX8_earnings 4 (some .int) ∈ am_ws := am_wsi (List.mem_of_getElem? (i := 1025) (by decide +kernel)) (by decide +kernel)
theorem dL_law_512 : decode cL_law 512 = .ok (.invokevirtual 48, 3) := by decide +kernel
theorem dL_law_515 : decode cL_law 515 = .ok (.if_icmp .eq 1334, 3) := by decide +kernel
def kL_c7 (Ln : Nat) (xs : Nat → Int32) : an_code := [(477, an_lf (fun live => am_aload 1 478)), (478, an_lf (fun live => am_aload 0 479)), (479, an_lf (fun live => am_iload 3 480)), (480, an_lf (fun live => am_const (.int 1) 481)), (481, an_lf (fun live => am_i2 (fun x y => x + y) 482)), (482, an_sld Ln xs 483), (483, an_lf (fun live => am_aload 0 484)), (484, an_lf (fun live => am_iload 3 485)), (485, an_lf (fun live => am_const (.int 2) 486)), (486, an_lf (fun live => am_i2 (fun x y => x + y) 487)), (487, an_sld Ln xs 488), (488, an_lf (fun live => am_aload 0 489)), (489, an_lf (fun live => am_iload 3 490)), (490, an_lf (fun live => am_const (.int 3) 491)), (491, an_lf (fun live => am_i2 (fun x y => x + y) 492)), (492, an_sld Ln xs 493), (493, an_lf (fun live => am_callV live 7 3 TX7_earnings 496)), (496, an_lf (fun live => am_aload 2 497)), (497, an_lf (fun live => am_aload 0 498)), (498, an_lf (fun live => am_iload 3 499)), (499, an_lf (fun live => am_const (.int 1) 500)), (500, an_lf (fun live => am_i2 (fun x y => x + y) 501)), (501, an_sld Ln xs 502), (502, an_lf (fun live => am_aload 0 503)), (503, an_lf (fun live => am_iload 3 504)), (504, an_lf (fun live => am_const (.int 2) 505)), (505, an_lf (fun live => am_i2 (fun x y => x + y) 506)), (506, an_sld Ln xs 507), (507, an_lf (fun live => am_aload 0 508)), (508, an_lf (fun live => am_iload 3 509)), (509, an_lf (fun live => am_const (.int 3) 510)), (510, an_lf (fun live => am_i2 (fun x y => x + y) 511)), (511, an_sld Ln xs 512), (512, an_lf (fun live => am_callV live 8 3 TX8_earnings 515)), (515, an_lf (fun live => am_if2 (fun x y => x = y) 1849 518))]
theorem koL_c7 (Ln : Nat) (xs : Nat → Int32) : ∀ q ∈ kL_c7 Ln xs, an_ok RL cL_law 4 (some .boolean) 2000 80000 600000 7302250 false (lawP Ln xs) an_noR q.1 q.2 :=
  an_kc (an_lift (fun live => ak_aload_n dL_law_477 rfl rfl)) <|
  an_kc (an_lift (fun live => ak_aload_n dL_law_478 rfl rfl)) <|
  an_kc (an_lift (fun live => ak_iload_n dL_law_479 rfl rfl)) <|
  an_kc (an_lift (fun live => ak_iconst dL_law_480 (by decide +kernel) rfl)) <|
  an_kc (an_lift (fun live => ak_iadd dL_law_481 rfl)) <|
  an_kc (nk_sld dL_law_482 rfl) <|
  an_kc (an_lift (fun live => ak_aload_n dL_law_483 rfl rfl)) <|
  an_kc (an_lift (fun live => ak_iload_n dL_law_484 rfl rfl)) <|
  an_kc (an_lift (fun live => ak_iconst dL_law_485 (by decide +kernel) rfl)) <|
  an_kc (an_lift (fun live => ak_iadd dL_law_486 rfl)) <|
  an_kc (nk_sld dL_law_487 rfl) <|
  an_kc (an_lift (fun live => ak_aload_n dL_law_488 rfl rfl)) <|
  an_kc (an_lift (fun live => ak_iload_n dL_law_489 rfl rfl)) <|
  an_kc (an_lift (fun live => ak_iconst dL_law_490 (by decide +kernel) rfl)) <|
  an_kc (an_lift (fun live => ak_iadd dL_law_491 rfl)) <|
  an_kc (nk_sld dL_law_492 rfl) <|
  an_kc (an_lift (fun live => ak_callV (C := RX7) (F := TX7) (N := 4) metX7_earnings rfl ⟨rfl, by decide +kernel, by decide +kernel, by decide +kernel⟩ (am_w5 wd_454 wd_455 wd_456 wd_58 wd_457) (by decide) dL_law_493 rfl)) <|
  an_kc (an_lift (fun live => ak_aload_n dL_law_496 rfl rfl)) <|
  an_kc (an_lift (fun live => ak_aload_n dL_law_497 rfl rfl)) <|
  an_kc (an_lift (fun live => ak_iload_n dL_law_498 rfl rfl)) <|
  an_kc (an_lift (fun live => ak_iconst dL_law_499 (by decide +kernel) rfl)) <|
  an_kc (an_lift (fun live => ak_iadd dL_law_500 rfl)) <|
  an_kc (nk_sld dL_law_501 rfl) <|
  an_kc (an_lift (fun live => ak_aload_n dL_law_502 rfl rfl)) <|
  an_kc (an_lift (fun live => ak_iload_n dL_law_503 rfl rfl)) <|
  an_kc (an_lift (fun live => ak_iconst dL_law_504 (by decide +kernel) rfl)) <|
  an_kc (an_lift (fun live => ak_iadd dL_law_505 rfl)) <|
  an_kc (nk_sld dL_law_506 rfl) <|
  an_kc (an_lift (fun live => ak_aload_n dL_law_507 rfl rfl)) <|
  an_kc (an_lift (fun live => ak_iload_n dL_law_508 rfl rfl)) <|
  an_kc (an_lift (fun live => ak_iconst dL_law_509 (by decide +kernel) rfl)) <|
  an_kc (an_lift (fun live => ak_iadd dL_law_510 rfl)) <|
  an_kc (nk_sld dL_law_511 rfl) <|
  an_kc (an_lift (fun live => ak_callV (C := RX8) (F := TX8) (N := 27) metX8_earnings rfl ⟨rfl, by decide +kernel, by decide +kernel, by decide +kernel⟩ (am_w5 wd_1022 wd_1023 wd_1024 wd_67 wd_1025) (by decide) dL_law_512 rfl)) <|
  an_kc (an_lift (fun live => ak_icmp_eq dL_law_515 (by decide +kernel) rfl)) <| an_kn
set_option maxRecDepth 100000 in
set_option maxHeartbeats 4000000 in
theorem caseL_c7 (xs : Nat → Int32) : an_wp (kL_c7 8 xs) lawC 200 (an_go (kL_c7 8 xs) 477) lawL [] lawX := by
    have f7 := an_Mf7
    have f8 := an_Mf8
    repeat' (first | (with_reducible exact f7) | (with_reducible exact f8) | apply And.intro | exact rfl | (intro hx; with_reducible exact absurd rfl hx) | (intro hx; with_reducible exact absurd ((lg_cmp_eq _ _).mpr rfl) hx) | (intro hx; exact absurd hx (by decide)) | (intro hx; exact absurd (by decide) hx) | decide | intro hx | (refine Exists.intro _ (And.intro rfl ?_)))
    all_goals try first | (with_reducible change am_tI _ _) | (change Ret _ _) | (change Ret _ _ _) | (change Exists _)
    all_goals try dsimp only at *
    all_goals try exact absurd ‹(1000 : Int64) = 0› (by decide)
    all_goals first
      | exact ⟨_, _, rfl⟩
      | exact f8.lo ‹am_ch am_lo _ _›
      | exact (f8.lo ‹am_ch am_lo _ _›).1 _ ‹_›
      | exact (f8.lo ‹am_ch am_lo _ _›).2.1 _ ‹_›
      | exact (f8.lo ‹am_ch am_lo _ _›).2.2.1 _ ‹_›
      | exact (f8.lo ‹am_ch am_lo _ _›).2.2.2.1 _ ‹_›
      | exact (f8.lo ‹am_ch am_lo _ _›).2.2.2.2 _ ‹_›
      | exact (f8.hi ‹∀ a k, 200 ≤ a → _›).1 _ ‹_›
      | exact (f8.hi ‹∀ a k, 200 ≤ a → _›).2.1 _ ‹_›
      | exact (f8.hi ‹∀ a k, 200 ≤ a → _›).2.2.1 _ ‹_›
      | exact (f8.hi ‹∀ a k, 200 ≤ a → _›).2.2.2.1 _ ‹_›
      | exact (f8.hi ‹∀ a k, 200 ≤ a → _›).2.2.2.2 _ ‹_›
      | decide
theorem dL_law_520 : decode cL_law 520 = .ok (.aload_n 1, 1) := by decide +kernel
theorem dL_law_521 : decode cL_law 521 = .ok (.aload_n 0, 1) := by decide +kernel
theorem dL_law_522 : decode cL_law 522 = .ok (.iload_n 3, 1) := by decide +kernel
theorem dL_law_523 : decode cL_law 523 = .ok (.iconst 1, 1) := by decide +kernel
theorem dL_law_524 : decode cL_law 524 = .ok (.iadd, 1) := by decide +kernel
theorem dL_law_525 : decode cL_law 525 = .ok (.iaload, 1) := by decide +kernel
theorem dL_law_526 : decode cL_law 526 = .ok (.aload_n 0, 1) := by decide +kernel
theorem dL_law_527 : decode cL_law 527 = .ok (.iload_n 3, 1) := by decide +kernel
theorem dL_law_528 : decode cL_law 528 = .ok (.iconst 2, 1) := by decide +kernel
theorem dL_law_529 : decode cL_law 529 = .ok (.iadd, 1) := by decide +kernel
theorem dL_law_530 : decode cL_law 530 = .ok (.iaload, 1) := by decide +kernel
theorem dL_law_531 : decode cL_law 531 = .ok (.aload_n 0, 1) := by decide +kernel
theorem dL_law_532 : decode cL_law 532 = .ok (.iload_n 3, 1) := by decide +kernel
theorem dL_law_533 : decode cL_law 533 = .ok (.iconst 3, 1) := by decide +kernel
theorem dL_law_534 : decode cL_law 534 = .ok (.iadd, 1) := by decide +kernel
theorem dL_law_535 : decode cL_law 535 = .ok (.iaload, 1) := by decide +kernel
theorem dL_law_536 : decode cL_law 536 = .ok (.aload_n 0, 1) := by decide +kernel
theorem dL_law_537 : decode cL_law 537 = .ok (.iload_n 3, 1) := by decide +kernel
theorem dL_law_538 : decode cL_law 538 = .ok (.iconst 4, 1) := by decide +kernel
theorem dL_law_539 : decode cL_law 539 = .ok (.iadd, 1) := by decide +kernel
theorem dL_law_540 : decode cL_law 540 = .ok (.iaload, 1) := by decide +kernel
theorem dL_law_541 : decode cL_law 541 = .ok (.aload_n 0, 1) := by decide +kernel
theorem dL_law_542 : decode cL_law 542 = .ok (.iload_n 3, 1) := by decide +kernel
theorem dL_law_543 : decode cL_law 543 = .ok (.iconst 5, 1) := by decide +kernel
theorem dL_law_544 : decode cL_law 544 = .ok (.iadd, 1) := by decide +kernel
theorem dL_law_545 : decode cL_law 545 = .ok (.iaload, 1) := by decide +kernel
theorem dL_law_546 : decode cL_law 546 = .ok (.aload_n 0, 1) := by decide +kernel
theorem dL_law_547 : decode cL_law 547 = .ok (.iload_n 3, 1) := by decide +kernel
theorem dL_law_548 : decode cL_law 548 = .ok (.bipush 6, 2) := by decide +kernel
theorem dL_law_550 : decode cL_law 550 = .ok (.iadd, 1) := by decide +kernel
theorem dL_law_551 : decode cL_law 551 = .ok (.iaload, 1) := by decide +kernel
theorem wd_462 : Cond.methodLink "LearnLoansLaw" 49 yX7_act ∈ am_ws := am_wsi (List.mem_of_getElem? (i := 462) (by decide +kernel)) (by decide +kernel)
theorem wd_463 : Cond.instanceMethod yX7_act ∈ am_ws := am_wsi (List.mem_of_getElem? (i := 463) (by decide +kernel)) (by decide +kernel)
theorem wd_464 : Cond.selects "LearnLoans" yX7_act yX7_act ∈ am_ws := am_wsi (List.mem_of_getElem? (i := 464) (by decide +kernel)) (by decide +kernel)
theorem wd_465 : Cond.code yX7_act cX7_act 7 (some .int) ∈ am_ws := am_wsi (List.mem_of_getElem? (i := 465) (by decide +kernel)) (by decide +kernel)
theorem dL_law_552 : decode cL_law 552 = .ok (.invokevirtual 49, 3) := by decide +kernel
theorem dL_law_555 : decode cL_law 555 = .ok (.aload_n 2, 1) := by decide +kernel
theorem dL_law_556 : decode cL_law 556 = .ok (.aload_n 0, 1) := by decide +kernel
theorem dL_law_557 : decode cL_law 557 = .ok (.iload_n 3, 1) := by decide +kernel
theorem dL_law_558 : decode cL_law 558 = .ok (.iconst 1, 1) := by decide +kernel
theorem dL_law_559 : decode cL_law 559 = .ok (.iadd, 1) := by decide +kernel
theorem dL_law_560 : decode cL_law 560 = .ok (.iaload, 1) := by decide +kernel
theorem dL_law_561 : decode cL_law 561 = .ok (.aload_n 0, 1) := by decide +kernel
theorem dL_law_562 : decode cL_law 562 = .ok (.iload_n 3, 1) := by decide +kernel
theorem dL_law_563 : decode cL_law 563 = .ok (.iconst 2, 1) := by decide +kernel
theorem dL_law_564 : decode cL_law 564 = .ok (.iadd, 1) := by decide +kernel
theorem dL_law_565 : decode cL_law 565 = .ok (.iaload, 1) := by decide +kernel
theorem dL_law_566 : decode cL_law 566 = .ok (.aload_n 0, 1) := by decide +kernel
theorem dL_law_567 : decode cL_law 567 = .ok (.iload_n 3, 1) := by decide +kernel
theorem dL_law_568 : decode cL_law 568 = .ok (.iconst 3, 1) := by decide +kernel
theorem dL_law_569 : decode cL_law 569 = .ok (.iadd, 1) := by decide +kernel
theorem dL_law_570 : decode cL_law 570 = .ok (.iaload, 1) := by decide +kernel
theorem dL_law_571 : decode cL_law 571 = .ok (.aload_n 0, 1) := by decide +kernel
theorem dL_law_572 : decode cL_law 572 = .ok (.iload_n 3, 1) := by decide +kernel
theorem dL_law_573 : decode cL_law 573 = .ok (.iconst 4, 1) := by decide +kernel
theorem dL_law_574 : decode cL_law 574 = .ok (.iadd, 1) := by decide +kernel
theorem dL_law_575 : decode cL_law 575 = .ok (.iaload, 1) := by decide +kernel
theorem dL_law_576 : decode cL_law 576 = .ok (.aload_n 0, 1) := by decide +kernel
theorem dL_law_577 : decode cL_law 577 = .ok (.iload_n 3, 1) := by decide +kernel
theorem dL_law_578 : decode cL_law 578 = .ok (.iconst 5, 1) := by decide +kernel
theorem dL_law_579 : decode cL_law 579 = .ok (.iadd, 1) := by decide +kernel
theorem dL_law_580 : decode cL_law 580 = .ok (.iaload, 1) := by decide +kernel
theorem dL_law_581 : decode cL_law 581 = .ok (.aload_n 0, 1) := by decide +kernel
theorem dL_law_582 : decode cL_law 582 = .ok (.iload_n 3, 1) := by decide +kernel
theorem dL_law_583 : decode cL_law 583 = .ok (.bipush 6, 2) := by decide +kernel
theorem dL_law_585 : decode cL_law 585 = .ok (.iadd, 1) := by decide +kernel
theorem dL_law_586 : decode cL_law 586 = .ok (.iaload, 1) := by decide +kernel
theorem wd_1030 : Cond.methodLink "LearnLoansLaw" 53 yX8_act ∈ am_ws := am_wsi (List.mem_of_getElem? (i := 1030) (by decide +kernel)) (by decide +kernel)
theorem wd_1031 : Cond.instanceMethod yX8_act ∈ am_ws := am_wsi (List.mem_of_getElem? (i := 1031) (by decide +kernel)) (by decide +kernel)
theorem wd_1032 : Cond.selects "LearnLoansModel" yX8_act yX8_act ∈ am_ws := am_wsi (List.mem_of_getElem? (i := 1032) (by decide +kernel)) (by decide +kernel)
theorem wd_1033 : Cond.code yX8_act cX8_act 8 (some .int) ∈ am_ws := am_wsi (List.mem_of_getElem? (i := 1033) (by decide +kernel)) (by decide +kernel)
theorem dL_law_587 : decode cL_law 587 = .ok (.invokevirtual 53, 3) := by decide +kernel
theorem dL_law_590 : decode cL_law 590 = .ok (.if_icmp .eq 1259, 3) := by decide +kernel
def kL_c8 (Ln : Nat) (xs : Nat → Int32) : an_code := [(520, an_lf (fun live => am_aload 1 521)), (521, an_lf (fun live => am_aload 0 522)), (522, an_lf (fun live => am_iload 3 523)), (523, an_lf (fun live => am_const (.int 1) 524)), (524, an_lf (fun live => am_i2 (fun x y => x + y) 525)), (525, an_sld Ln xs 526), (526, an_lf (fun live => am_aload 0 527)), (527, an_lf (fun live => am_iload 3 528)), (528, an_lf (fun live => am_const (.int 2) 529)), (529, an_lf (fun live => am_i2 (fun x y => x + y) 530)), (530, an_sld Ln xs 531), (531, an_lf (fun live => am_aload 0 532)), (532, an_lf (fun live => am_iload 3 533)), (533, an_lf (fun live => am_const (.int 3) 534)), (534, an_lf (fun live => am_i2 (fun x y => x + y) 535)), (535, an_sld Ln xs 536), (536, an_lf (fun live => am_aload 0 537)), (537, an_lf (fun live => am_iload 3 538)), (538, an_lf (fun live => am_const (.int 4) 539)), (539, an_lf (fun live => am_i2 (fun x y => x + y) 540)), (540, an_sld Ln xs 541), (541, an_lf (fun live => am_aload 0 542)), (542, an_lf (fun live => am_iload 3 543)), (543, an_lf (fun live => am_const (.int 5) 544)), (544, an_lf (fun live => am_i2 (fun x y => x + y) 545)), (545, an_sld Ln xs 546), (546, an_lf (fun live => am_aload 0 547)), (547, an_lf (fun live => am_iload 3 548)), (548, an_lf (fun live => am_const (.int 6) 550)), (550, an_lf (fun live => am_i2 (fun x y => x + y) 551)), (551, an_sld Ln xs 552), (552, an_lf (fun live => am_callV live 7 6 TX7_act 555)), (555, an_lf (fun live => am_aload 2 556)), (556, an_lf (fun live => am_aload 0 557)), (557, an_lf (fun live => am_iload 3 558)), (558, an_lf (fun live => am_const (.int 1) 559)), (559, an_lf (fun live => am_i2 (fun x y => x + y) 560)), (560, an_sld Ln xs 561), (561, an_lf (fun live => am_aload 0 562)), (562, an_lf (fun live => am_iload 3 563)), (563, an_lf (fun live => am_const (.int 2) 564)), (564, an_lf (fun live => am_i2 (fun x y => x + y) 565)), (565, an_sld Ln xs 566), (566, an_lf (fun live => am_aload 0 567)), (567, an_lf (fun live => am_iload 3 568)), (568, an_lf (fun live => am_const (.int 3) 569)), (569, an_lf (fun live => am_i2 (fun x y => x + y) 570)), (570, an_sld Ln xs 571), (571, an_lf (fun live => am_aload 0 572)), (572, an_lf (fun live => am_iload 3 573)), (573, an_lf (fun live => am_const (.int 4) 574)), (574, an_lf (fun live => am_i2 (fun x y => x + y) 575)), (575, an_sld Ln xs 576), (576, an_lf (fun live => am_aload 0 577)), (577, an_lf (fun live => am_iload 3 578)), (578, an_lf (fun live => am_const (.int 5) 579)), (579, an_lf (fun live => am_i2 (fun x y => x + y) 580)), (580, an_sld Ln xs 581), (581, an_lf (fun live => am_aload 0 582)), (582, an_lf (fun live => am_iload 3 583)), (583, an_lf (fun live => am_const (.int 6) 585)), (585, an_lf (fun live => am_i2 (fun x y => x + y) 586)), (586, an_sld Ln xs 587), (587, an_lf (fun live => am_callV live 8 6 TX8_act 590)), (590, an_lf (fun live => am_if2 (fun x y => x = y) 1849 593))]
theorem koL_c8 (Ln : Nat) (xs : Nat → Int32) : ∀ q ∈ kL_c8 Ln xs, an_ok RL cL_law 4 (some .boolean) 2000 80000 600000 7302250 false (lawP Ln xs) an_noR q.1 q.2 :=
  an_kc (an_lift (fun live => ak_aload_n dL_law_520 rfl rfl)) <|
  an_kc (an_lift (fun live => ak_aload_n dL_law_521 rfl rfl)) <|
  an_kc (an_lift (fun live => ak_iload_n dL_law_522 rfl rfl)) <|
  an_kc (an_lift (fun live => ak_iconst dL_law_523 (by decide +kernel) rfl)) <|
  an_kc (an_lift (fun live => ak_iadd dL_law_524 rfl)) <|
  an_kc (nk_sld dL_law_525 rfl) <|
  an_kc (an_lift (fun live => ak_aload_n dL_law_526 rfl rfl)) <|
  an_kc (an_lift (fun live => ak_iload_n dL_law_527 rfl rfl)) <|
  an_kc (an_lift (fun live => ak_iconst dL_law_528 (by decide +kernel) rfl)) <|
  an_kc (an_lift (fun live => ak_iadd dL_law_529 rfl)) <|
  an_kc (nk_sld dL_law_530 rfl) <|
  an_kc (an_lift (fun live => ak_aload_n dL_law_531 rfl rfl)) <|
  an_kc (an_lift (fun live => ak_iload_n dL_law_532 rfl rfl)) <|
  an_kc (an_lift (fun live => ak_iconst dL_law_533 (by decide +kernel) rfl)) <|
  an_kc (an_lift (fun live => ak_iadd dL_law_534 rfl)) <|
  an_kc (nk_sld dL_law_535 rfl) <|
  an_kc (an_lift (fun live => ak_aload_n dL_law_536 rfl rfl)) <|
  an_kc (an_lift (fun live => ak_iload_n dL_law_537 rfl rfl)) <|
  an_kc (an_lift (fun live => ak_iconst dL_law_538 (by decide +kernel) rfl)) <|
  an_kc (an_lift (fun live => ak_iadd dL_law_539 rfl)) <|
  an_kc (nk_sld dL_law_540 rfl) <|
  an_kc (an_lift (fun live => ak_aload_n dL_law_541 rfl rfl)) <|
  an_kc (an_lift (fun live => ak_iload_n dL_law_542 rfl rfl)) <|
  an_kc (an_lift (fun live => ak_iconst dL_law_543 (by decide +kernel) rfl)) <|
  an_kc (an_lift (fun live => ak_iadd dL_law_544 rfl)) <|
  an_kc (nk_sld dL_law_545 rfl) <|
  an_kc (an_lift (fun live => ak_aload_n dL_law_546 rfl rfl)) <|
  an_kc (an_lift (fun live => ak_iload_n dL_law_547 rfl rfl)) <|
  an_kc (an_lift (fun live => ak_bipush dL_law_548 (by decide +kernel) rfl)) <|
  an_kc (an_lift (fun live => ak_iadd dL_law_550 rfl)) <|
  an_kc (nk_sld dL_law_551 rfl) <|
  an_kc (an_lift (fun live => ak_callV (C := RX7) (F := TX7) (N := 4) metX7_act rfl ⟨rfl, by decide +kernel, by decide +kernel, by decide +kernel⟩ (am_w5 wd_462 wd_463 wd_464 wd_58 wd_465) (by decide) dL_law_552 rfl)) <|
  an_kc (an_lift (fun live => ak_aload_n dL_law_555 rfl rfl)) <|
  an_kc (an_lift (fun live => ak_aload_n dL_law_556 rfl rfl)) <|
  an_kc (an_lift (fun live => ak_iload_n dL_law_557 rfl rfl)) <|
  an_kc (an_lift (fun live => ak_iconst dL_law_558 (by decide +kernel) rfl)) <|
  an_kc (an_lift (fun live => ak_iadd dL_law_559 rfl)) <|
  an_kc (nk_sld dL_law_560 rfl) <|
  an_kc (an_lift (fun live => ak_aload_n dL_law_561 rfl rfl)) <|
  an_kc (an_lift (fun live => ak_iload_n dL_law_562 rfl rfl)) <|
  an_kc (an_lift (fun live => ak_iconst dL_law_563 (by decide +kernel) rfl)) <|
  an_kc (an_lift (fun live => ak_iadd dL_law_564 rfl)) <|
  an_kc (nk_sld dL_law_565 rfl) <|
  an_kc (an_lift (fun live => ak_aload_n dL_law_566 rfl rfl)) <|
  an_kc (an_lift (fun live => ak_iload_n dL_law_567 rfl rfl)) <|
  an_kc (an_lift (fun live => ak_iconst dL_law_568 (by decide +kernel) rfl)) <|
  an_kc (an_lift (fun live => ak_iadd dL_law_569 rfl)) <|
  an_kc (nk_sld dL_law_570 rfl) <|
  an_kc (an_lift (fun live => ak_aload_n dL_law_571 rfl rfl)) <|
  an_kc (an_lift (fun live => ak_iload_n dL_law_572 rfl rfl)) <|
  an_kc (an_lift (fun live => ak_iconst dL_law_573 (by decide +kernel) rfl)) <|
  an_kc (an_lift (fun live => ak_iadd dL_law_574 rfl)) <|
  an_kc (nk_sld dL_law_575 rfl) <|
  an_kc (an_lift (fun live => ak_aload_n dL_law_576 rfl rfl)) <|
  an_kc (an_lift (fun live => ak_iload_n dL_law_577 rfl rfl)) <|
  an_kc (an_lift (fun live => ak_iconst dL_law_578 (by decide +kernel) rfl)) <|
  an_kc (an_lift (fun live => ak_iadd dL_law_579 rfl)) <|
  an_kc (nk_sld dL_law_580 rfl) <|
  an_kc (an_lift (fun live => ak_aload_n dL_law_581 rfl rfl)) <|
  an_kc (an_lift (fun live => ak_iload_n dL_law_582 rfl rfl)) <|
  an_kc (an_lift (fun live => ak_bipush dL_law_583 (by decide +kernel) rfl)) <|
  an_kc (an_lift (fun live => ak_iadd dL_law_585 rfl)) <|
  an_kc (nk_sld dL_law_586 rfl) <|
  an_kc (an_lift (fun live => ak_callV (C := RX8) (F := TX8) (N := 27) metX8_act rfl ⟨rfl, by decide +kernel, by decide +kernel, by decide +kernel⟩ (am_w5 wd_1030 wd_1031 wd_1032 wd_67 wd_1033) (by decide) dL_law_587 rfl)) <|
  an_kc (an_lift (fun live => ak_icmp_eq dL_law_590 (by decide +kernel) rfl)) <| an_kn
set_option maxRecDepth 100000 in
set_option maxHeartbeats 4000000 in
theorem caseL_c8 (xs : Nat → Int32) : an_wp (kL_c8 8 xs) lawC 200 (an_go (kL_c8 8 xs) 520) lawL [] lawX := by
    have f7 := an_Mf7
    have f8 := an_Mf8
    repeat' (first | (with_reducible exact f7) | (with_reducible exact f8) | apply And.intro | exact rfl | (intro hx; with_reducible exact absurd rfl hx) | (intro hx; with_reducible exact absurd ((lg_cmp_eq _ _).mpr rfl) hx) | (intro hx; exact absurd hx (by decide)) | (intro hx; exact absurd (by decide) hx) | decide | intro hx | (refine Exists.intro _ (And.intro rfl ?_)))
    all_goals try first | (with_reducible change am_tI _ _) | (change Ret _ _) | (change Ret _ _ _) | (change Exists _)
    all_goals try dsimp only at *
    all_goals try exact absurd ‹(1000 : Int64) = 0› (by decide)
    all_goals first
      | exact ⟨_, _, rfl⟩
      | exact f8.lo ‹am_ch am_lo _ _›
      | exact (f8.lo ‹am_ch am_lo _ _›).1 _ ‹_›
      | exact (f8.lo ‹am_ch am_lo _ _›).2.1 _ ‹_›
      | exact (f8.lo ‹am_ch am_lo _ _›).2.2.1 _ ‹_›
      | exact (f8.lo ‹am_ch am_lo _ _›).2.2.2.1 _ ‹_›
      | exact (f8.lo ‹am_ch am_lo _ _›).2.2.2.2 _ ‹_›
      | exact (f8.hi ‹∀ a k, 200 ≤ a → _›).1 _ ‹_›
      | exact (f8.hi ‹∀ a k, 200 ≤ a → _›).2.1 _ ‹_›
      | exact (f8.hi ‹∀ a k, 200 ≤ a → _›).2.2.1 _ ‹_›
      | exact (f8.hi ‹∀ a k, 200 ≤ a → _›).2.2.2.1 _ ‹_›
      | exact (f8.hi ‹∀ a k, 200 ≤ a → _›).2.2.2.2 _ ‹_›
      | decide
