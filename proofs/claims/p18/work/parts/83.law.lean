/-! the law: cases 4 to 7 -/
theorem dL_law_338 : decode cL_law 338 = .ok (.aload_n 1, 1) := by decide +kernel
theorem dL_law_339 : decode cL_law 339 = .ok (.aload_n 0, 1) := by decide +kernel
theorem dL_law_340 : decode cL_law 340 = .ok (.iload_n 3, 1) := by decide +kernel
theorem dL_law_341 : decode cL_law 341 = .ok (.iconst 1, 1) := by decide +kernel
theorem dL_law_342 : decode cL_law 342 = .ok (.iadd, 1) := by decide +kernel
theorem dL_law_343 : decode cL_law 343 = .ok (.iaload, 1) := by decide +kernel
theorem dL_law_344 : decode cL_law 344 = .ok (.aload_n 0, 1) := by decide +kernel
theorem dL_law_345 : decode cL_law 345 = .ok (.iload_n 3, 1) := by decide +kernel
theorem dL_law_346 : decode cL_law 346 = .ok (.iconst 2, 1) := by decide +kernel
theorem dL_law_347 : decode cL_law 347 = .ok (.iadd, 1) := by decide +kernel
theorem dL_law_348 : decode cL_law 348 = .ok (.iaload, 1) := by decide +kernel
set_option maxRecDepth 100000 in
theorem wd_438 : Cond.methodLink "LearnLoansLaw" 32 yX7_dies ∈ am_ws := am_wsi (List.mem_of_getElem? (i := 438) (by rfl)) (by decide +kernel)
set_option maxRecDepth 100000 in
theorem wd_439 : Cond.instanceMethod yX7_dies ∈ am_ws := am_wsi (List.mem_of_getElem? (i := 439) (by rfl)) (by decide +kernel)
set_option maxRecDepth 100000 in
theorem wd_440 : Cond.selects "LearnLoans" yX7_dies yX7_dies ∈ am_ws := am_wsi (List.mem_of_getElem? (i := 440) (by rfl)) (by decide +kernel)
set_option maxRecDepth 100000 in
theorem wd_441 : Cond.code yX7_dies cX7_dies 3 (some .int) ∈ am_ws := am_wsi (List.mem_of_getElem? (i := 441) (by rfl)) (by decide +kernel)
theorem dL_law_349 : decode cL_law 349 = .ok (.invokevirtual 32, 3) := by decide +kernel
theorem dL_law_352 : decode cL_law 352 = .ok (.pop, 1) := by decide +kernel
theorem dL_law_353 : decode cL_law 353 = .ok (.aload_n 2, 1) := by decide +kernel
theorem dL_law_354 : decode cL_law 354 = .ok (.aload_n 0, 1) := by decide +kernel
theorem dL_law_355 : decode cL_law 355 = .ok (.iload_n 3, 1) := by decide +kernel
theorem dL_law_356 : decode cL_law 356 = .ok (.iconst 1, 1) := by decide +kernel
theorem dL_law_357 : decode cL_law 357 = .ok (.iadd, 1) := by decide +kernel
theorem dL_law_358 : decode cL_law 358 = .ok (.iaload, 1) := by decide +kernel
theorem dL_law_359 : decode cL_law 359 = .ok (.aload_n 0, 1) := by decide +kernel
theorem dL_law_360 : decode cL_law 360 = .ok (.iload_n 3, 1) := by decide +kernel
theorem dL_law_361 : decode cL_law 361 = .ok (.iconst 2, 1) := by decide +kernel
theorem dL_law_362 : decode cL_law 362 = .ok (.iadd, 1) := by decide +kernel
theorem dL_law_363 : decode cL_law 363 = .ok (.iaload, 1) := by decide +kernel
set_option maxRecDepth 100000 in
theorem wd_1009 : Cond.methodLink "LearnLoansLaw" 35 yX8_dies ∈ am_ws := am_wsi (List.mem_of_getElem? (i := 1009) (by rfl)) (by decide +kernel)
set_option maxRecDepth 100000 in
theorem wd_1010 : Cond.instanceMethod yX8_dies ∈ am_ws := am_wsi (List.mem_of_getElem? (i := 1010) (by rfl)) (by decide +kernel)
set_option maxRecDepth 100000 in
theorem wd_1011 : Cond.selects "LearnLoansModel" yX8_dies yX8_dies ∈ am_ws := am_wsi (List.mem_of_getElem? (i := 1011) (by rfl)) (by decide +kernel)
set_option maxRecDepth 100000 in
theorem wd_1012 : Cond.code yX8_dies cX8_dies 3 (some .int) ∈ am_ws := am_wsi (List.mem_of_getElem? (i := 1012) (by rfl)) (by decide +kernel)
theorem dL_law_364 : decode cL_law 364 = .ok (.invokevirtual 35, 3) := by decide +kernel
theorem dL_law_367 : decode cL_law 367 = .ok (.pop, 1) := by decide +kernel
theorem dL_law_368 : decode cL_law 368 = .ok (.goto 1473, 3) := by decide +kernel
def kL_c4 (Ln : Nat) (xs : Nat → Int32) : an_code := [(338, an_lf (fun live => am_aload 1 339)), (339, an_lf (fun live => am_aload 0 340)), (340, an_lf (fun live => am_iload 3 341)), (341, an_lf (fun live => am_const (.int 1) 342)), (342, an_lf (fun live => am_i2 (fun x y => x + y) 343)), (343, an_sld Ln xs 344), (344, an_lf (fun live => am_aload 0 345)), (345, an_lf (fun live => am_iload 3 346)), (346, an_lf (fun live => am_const (.int 2) 347)), (347, an_lf (fun live => am_i2 (fun x y => x + y) 348)), (348, an_sld Ln xs 349), (349, an_lf (fun live => am_callV live 7 2 TW_dies 352)), (352, an_lf (fun live => am_pop 353)), (353, an_lf (fun live => am_aload 2 354)), (354, an_lf (fun live => am_aload 0 355)), (355, an_lf (fun live => am_iload 3 356)), (356, an_lf (fun live => am_const (.int 1) 357)), (357, an_lf (fun live => am_i2 (fun x y => x + y) 358)), (358, an_sld Ln xs 359), (359, an_lf (fun live => am_aload 0 360)), (360, an_lf (fun live => am_iload 3 361)), (361, an_lf (fun live => am_const (.int 2) 362)), (362, an_lf (fun live => am_i2 (fun x y => x + y) 363)), (363, an_sld Ln xs 364), (364, an_lf (fun live => am_callV live 8 2 TX8_dies 367)), (367, an_lf (fun live => am_pop 368)), (368, an_lf (fun live => am_goto 1841))]
theorem koL_c4 (Ln : Nat) (xs : Nat → Int32) : ∀ q ∈ kL_c4 Ln xs, an_ok RL cL_law 4 (some .boolean) 2000 80000 600000 7302250 false (lawP Ln xs) an_noR q.1 q.2 :=
  an_kc (an_lift (fun live => ak_aload_n dL_law_338 rfl rfl)) <|
  an_kc (an_lift (fun live => ak_aload_n dL_law_339 rfl rfl)) <|
  an_kc (an_lift (fun live => ak_iload_n dL_law_340 rfl rfl)) <|
  an_kc (an_lift (fun live => ak_iconst dL_law_341 (by decide +kernel) rfl)) <|
  an_kc (an_lift (fun live => ak_iadd dL_law_342 rfl)) <|
  an_kc (nk_sld dL_law_343 rfl) <|
  an_kc (an_lift (fun live => ak_aload_n dL_law_344 rfl rfl)) <|
  an_kc (an_lift (fun live => ak_iload_n dL_law_345 rfl rfl)) <|
  an_kc (an_lift (fun live => ak_iconst dL_law_346 (by decide +kernel) rfl)) <|
  an_kc (an_lift (fun live => ak_iadd dL_law_347 rfl)) <|
  an_kc (nk_sld dL_law_348 rfl) <|
  an_kc (an_lift (fun live => ak_callV (C := RX7) (F := TX7) (N := 4) metW_dies rfl ⟨rfl, by decide +kernel, by decide +kernel, by decide +kernel⟩ (am_w5 wd_438 wd_439 wd_440 wd_58 wd_441) (by decide) dL_law_349 rfl)) <|
  an_kc (an_lift (fun live => ak_pop dL_law_352 rfl)) <|
  an_kc (an_lift (fun live => ak_aload_n dL_law_353 rfl rfl)) <|
  an_kc (an_lift (fun live => ak_aload_n dL_law_354 rfl rfl)) <|
  an_kc (an_lift (fun live => ak_iload_n dL_law_355 rfl rfl)) <|
  an_kc (an_lift (fun live => ak_iconst dL_law_356 (by decide +kernel) rfl)) <|
  an_kc (an_lift (fun live => ak_iadd dL_law_357 rfl)) <|
  an_kc (nk_sld dL_law_358 rfl) <|
  an_kc (an_lift (fun live => ak_aload_n dL_law_359 rfl rfl)) <|
  an_kc (an_lift (fun live => ak_iload_n dL_law_360 rfl rfl)) <|
  an_kc (an_lift (fun live => ak_iconst dL_law_361 (by decide +kernel) rfl)) <|
  an_kc (an_lift (fun live => ak_iadd dL_law_362 rfl)) <|
  an_kc (nk_sld dL_law_363 rfl) <|
  an_kc (an_lift (fun live => ak_callV (C := RX8) (F := TX8) (N := 27) metX8_dies rfl ⟨rfl, by decide +kernel, by decide +kernel, by decide +kernel⟩ (am_w5 wd_1009 wd_1010 wd_1011 wd_67 wd_1012) (by decide) dL_law_364 rfl)) <|
  an_kc (an_lift (fun live => ak_pop dL_law_367 rfl)) <|
  an_kc (an_lift (fun live => ak_goto dL_law_368 (by decide +kernel))) <| an_kn
set_option maxRecDepth 100000 in
set_option maxHeartbeats 4000000 in
theorem caseL_c4 {Ln : Nat} (xs : Nat → Int32) {i : Int32} {i1 i2 : Bool} {kc kn : Nat} {M : am_M} (h : LX i1 i2 M) (hi : lawI Ln i kc kn) : an_wp (kL_c4 Ln xs) (lawC Ln i) 200 (an_go (kL_c4 Ln xs) 338) (lawL i) [] ((am_lv i1 i2, am_q i1 i2), kc, kn, M) := by
    obtain ⟨⟨f1, f2, f3, f4, f5, f6, f7⟩, k1, k2, k3, k4⟩ := hi.f
    have hmn : am_mn (am_lv i1 i2, am_q i1 i2) := ⟨_, _, rfl⟩
    repeat' (first | (with_reducible exact f1) | (with_reducible exact f2) | (with_reducible exact f3) | (with_reducible exact f4) | (with_reducible exact f5) | (with_reducible exact f6) | (with_reducible exact f7) | (with_reducible exact hmn) | (with_reducible exact h) | (with_reducible exact k1) | (with_reducible exact k2) | (with_reducible exact k3) | (with_reducible exact k4) | apply And.intro | exact rfl | ((with_reducible change r_I _); (with_reducible assumption)) | (intro hx; exact absurd hx (by decide)) | (intro hx; exact absurd (by decide) hx) | decide | intro hx | (refine Exists.intro _ (And.intro rfl ?_)) | (refine Exists.intro _ (Exists.intro _ (And.intro rfl (And.intro rfl ?_)))) | ((with_reducible change LX _ _ _); (with_reducible assumption)) | ((with_reducible change _ = true); simp only [k1, k2, k3, k4, Bool.true_and]; rfl))
    all_goals try first | (with_reducible change am_tI _ _) | (change Ret _ _) | (change Ret _ _ _) | (change Exists _)
    all_goals try dsimp only at *
    all_goals try exact absurd ‹(1000 : Int64) = 0› (by decide)
    all_goals first
      | exact ⟨_, _, rfl⟩
      | exact lawE.mk hi (by with_reducible assumption) (by omega) (by omega)
      | skip
theorem dL_law_371 : decode cL_law 371 = .ok (.aload_n 1, 1) := by decide +kernel
theorem dL_law_372 : decode cL_law 372 = .ok (.aload_n 0, 1) := by decide +kernel
theorem dL_law_373 : decode cL_law 373 = .ok (.iload_n 3, 1) := by decide +kernel
theorem dL_law_374 : decode cL_law 374 = .ok (.iconst 1, 1) := by decide +kernel
theorem dL_law_375 : decode cL_law 375 = .ok (.iadd, 1) := by decide +kernel
theorem dL_law_376 : decode cL_law 376 = .ok (.iaload, 1) := by decide +kernel
theorem dL_law_377 : decode cL_law 377 = .ok (.aload_n 0, 1) := by decide +kernel
theorem dL_law_378 : decode cL_law 378 = .ok (.iload_n 3, 1) := by decide +kernel
theorem dL_law_379 : decode cL_law 379 = .ok (.iconst 2, 1) := by decide +kernel
theorem dL_law_380 : decode cL_law 380 = .ok (.iadd, 1) := by decide +kernel
theorem dL_law_381 : decode cL_law 381 = .ok (.iaload, 1) := by decide +kernel
theorem dL_law_382 : decode cL_law 382 = .ok (.aload_n 0, 1) := by decide +kernel
theorem dL_law_383 : decode cL_law 383 = .ok (.iload_n 3, 1) := by decide +kernel
theorem dL_law_384 : decode cL_law 384 = .ok (.iconst 3, 1) := by decide +kernel
theorem dL_law_385 : decode cL_law 385 = .ok (.iadd, 1) := by decide +kernel
theorem dL_law_386 : decode cL_law 386 = .ok (.iaload, 1) := by decide +kernel
theorem dL_law_387 : decode cL_law 387 = .ok (.aload_n 0, 1) := by decide +kernel
theorem dL_law_388 : decode cL_law 388 = .ok (.iload_n 3, 1) := by decide +kernel
theorem dL_law_389 : decode cL_law 389 = .ok (.iconst 4, 1) := by decide +kernel
theorem dL_law_390 : decode cL_law 390 = .ok (.iadd, 1) := by decide +kernel
theorem dL_law_391 : decode cL_law 391 = .ok (.iaload, 1) := by decide +kernel
set_option maxRecDepth 100000 in
theorem wd_442 : Cond.methodLink "LearnLoansLaw" 36 yX7_earn ∈ am_ws := am_wsi (List.mem_of_getElem? (i := 442) (by rfl)) (by decide +kernel)
set_option maxRecDepth 100000 in
theorem wd_443 : Cond.instanceMethod yX7_earn ∈ am_ws := am_wsi (List.mem_of_getElem? (i := 443) (by rfl)) (by decide +kernel)
set_option maxRecDepth 100000 in
theorem wd_444 : Cond.selects "LearnLoans" yX7_earn yX7_earn ∈ am_ws := am_wsi (List.mem_of_getElem? (i := 444) (by rfl)) (by decide +kernel)
set_option maxRecDepth 100000 in
theorem wd_445 : Cond.code yX7_earn cX7_earn 7 (some .int) ∈ am_ws := am_wsi (List.mem_of_getElem? (i := 445) (by rfl)) (by decide +kernel)
theorem dL_law_392 : decode cL_law 392 = .ok (.invokevirtual 36, 3) := by decide +kernel
theorem dL_law_395 : decode cL_law 395 = .ok (.pop, 1) := by decide +kernel
theorem dL_law_396 : decode cL_law 396 = .ok (.aload_n 2, 1) := by decide +kernel
theorem dL_law_397 : decode cL_law 397 = .ok (.aload_n 0, 1) := by decide +kernel
theorem dL_law_398 : decode cL_law 398 = .ok (.iload_n 3, 1) := by decide +kernel
theorem dL_law_399 : decode cL_law 399 = .ok (.iconst 1, 1) := by decide +kernel
theorem dL_law_400 : decode cL_law 400 = .ok (.iadd, 1) := by decide +kernel
theorem dL_law_401 : decode cL_law 401 = .ok (.iaload, 1) := by decide +kernel
theorem dL_law_402 : decode cL_law 402 = .ok (.aload_n 0, 1) := by decide +kernel
theorem dL_law_403 : decode cL_law 403 = .ok (.iload_n 3, 1) := by decide +kernel
theorem dL_law_404 : decode cL_law 404 = .ok (.iconst 2, 1) := by decide +kernel
theorem dL_law_405 : decode cL_law 405 = .ok (.iadd, 1) := by decide +kernel
theorem dL_law_406 : decode cL_law 406 = .ok (.iaload, 1) := by decide +kernel
theorem dL_law_407 : decode cL_law 407 = .ok (.aload_n 0, 1) := by decide +kernel
theorem dL_law_408 : decode cL_law 408 = .ok (.iload_n 3, 1) := by decide +kernel
theorem dL_law_409 : decode cL_law 409 = .ok (.iconst 3, 1) := by decide +kernel
theorem dL_law_410 : decode cL_law 410 = .ok (.iadd, 1) := by decide +kernel
theorem dL_law_411 : decode cL_law 411 = .ok (.iaload, 1) := by decide +kernel
theorem dL_law_412 : decode cL_law 412 = .ok (.aload_n 0, 1) := by decide +kernel
theorem dL_law_413 : decode cL_law 413 = .ok (.iload_n 3, 1) := by decide +kernel
theorem dL_law_414 : decode cL_law 414 = .ok (.iconst 4, 1) := by decide +kernel
theorem dL_law_415 : decode cL_law 415 = .ok (.iadd, 1) := by decide +kernel
theorem dL_law_416 : decode cL_law 416 = .ok (.iaload, 1) := by decide +kernel
set_option maxRecDepth 100000 in
theorem wd_1013 : Cond.methodLink "LearnLoansLaw" 39 yX8_earn ∈ am_ws := am_wsi (List.mem_of_getElem? (i := 1013) (by rfl)) (by decide +kernel)
set_option maxRecDepth 100000 in
theorem wd_1014 : Cond.instanceMethod yX8_earn ∈ am_ws := am_wsi (List.mem_of_getElem? (i := 1014) (by rfl)) (by decide +kernel)
set_option maxRecDepth 100000 in
theorem wd_1015 : Cond.selects "LearnLoansModel" yX8_earn yX8_earn ∈ am_ws := am_wsi (List.mem_of_getElem? (i := 1015) (by rfl)) (by decide +kernel)
set_option maxRecDepth 100000 in
theorem wd_1016 : Cond.code yX8_earn cX8_earn 6 (some .int) ∈ am_ws := am_wsi (List.mem_of_getElem? (i := 1016) (by rfl)) (by decide +kernel)
theorem dL_law_417 : decode cL_law 417 = .ok (.invokevirtual 39, 3) := by decide +kernel
theorem dL_law_420 : decode cL_law 420 = .ok (.pop, 1) := by decide +kernel
theorem dL_law_421 : decode cL_law 421 = .ok (.goto 1420, 3) := by decide +kernel
def kL_c5 (Ln : Nat) (xs : Nat → Int32) : an_code := [(371, an_lf (fun live => am_aload 1 372)), (372, an_lf (fun live => am_aload 0 373)), (373, an_lf (fun live => am_iload 3 374)), (374, an_lf (fun live => am_const (.int 1) 375)), (375, an_lf (fun live => am_i2 (fun x y => x + y) 376)), (376, an_sld Ln xs 377), (377, an_lf (fun live => am_aload 0 378)), (378, an_lf (fun live => am_iload 3 379)), (379, an_lf (fun live => am_const (.int 2) 380)), (380, an_lf (fun live => am_i2 (fun x y => x + y) 381)), (381, an_sld Ln xs 382), (382, an_lf (fun live => am_aload 0 383)), (383, an_lf (fun live => am_iload 3 384)), (384, an_lf (fun live => am_const (.int 3) 385)), (385, an_lf (fun live => am_i2 (fun x y => x + y) 386)), (386, an_sld Ln xs 387), (387, an_lf (fun live => am_aload 0 388)), (388, an_lf (fun live => am_iload 3 389)), (389, an_lf (fun live => am_const (.int 4) 390)), (390, an_lf (fun live => am_i2 (fun x y => x + y) 391)), (391, an_sld Ln xs 392), (392, an_lf (fun live => am_callV live 7 4 TW_earn 395)), (395, an_lf (fun live => am_pop 396)), (396, an_lf (fun live => am_aload 2 397)), (397, an_lf (fun live => am_aload 0 398)), (398, an_lf (fun live => am_iload 3 399)), (399, an_lf (fun live => am_const (.int 1) 400)), (400, an_lf (fun live => am_i2 (fun x y => x + y) 401)), (401, an_sld Ln xs 402), (402, an_lf (fun live => am_aload 0 403)), (403, an_lf (fun live => am_iload 3 404)), (404, an_lf (fun live => am_const (.int 2) 405)), (405, an_lf (fun live => am_i2 (fun x y => x + y) 406)), (406, an_sld Ln xs 407), (407, an_lf (fun live => am_aload 0 408)), (408, an_lf (fun live => am_iload 3 409)), (409, an_lf (fun live => am_const (.int 3) 410)), (410, an_lf (fun live => am_i2 (fun x y => x + y) 411)), (411, an_sld Ln xs 412), (412, an_lf (fun live => am_aload 0 413)), (413, an_lf (fun live => am_iload 3 414)), (414, an_lf (fun live => am_const (.int 4) 415)), (415, an_lf (fun live => am_i2 (fun x y => x + y) 416)), (416, an_sld Ln xs 417), (417, an_lf (fun live => am_callV live 8 4 TX8_earn 420)), (420, an_lf (fun live => am_pop 421)), (421, an_lf (fun live => am_goto 1841))]
theorem koL_c5 (Ln : Nat) (xs : Nat → Int32) : ∀ q ∈ kL_c5 Ln xs, an_ok RL cL_law 4 (some .boolean) 2000 80000 600000 7302250 false (lawP Ln xs) an_noR q.1 q.2 :=
  an_kc (an_lift (fun live => ak_aload_n dL_law_371 rfl rfl)) <|
  an_kc (an_lift (fun live => ak_aload_n dL_law_372 rfl rfl)) <|
  an_kc (an_lift (fun live => ak_iload_n dL_law_373 rfl rfl)) <|
  an_kc (an_lift (fun live => ak_iconst dL_law_374 (by decide +kernel) rfl)) <|
  an_kc (an_lift (fun live => ak_iadd dL_law_375 rfl)) <|
  an_kc (nk_sld dL_law_376 rfl) <|
  an_kc (an_lift (fun live => ak_aload_n dL_law_377 rfl rfl)) <|
  an_kc (an_lift (fun live => ak_iload_n dL_law_378 rfl rfl)) <|
  an_kc (an_lift (fun live => ak_iconst dL_law_379 (by decide +kernel) rfl)) <|
  an_kc (an_lift (fun live => ak_iadd dL_law_380 rfl)) <|
  an_kc (nk_sld dL_law_381 rfl) <|
  an_kc (an_lift (fun live => ak_aload_n dL_law_382 rfl rfl)) <|
  an_kc (an_lift (fun live => ak_iload_n dL_law_383 rfl rfl)) <|
  an_kc (an_lift (fun live => ak_iconst dL_law_384 (by decide +kernel) rfl)) <|
  an_kc (an_lift (fun live => ak_iadd dL_law_385 rfl)) <|
  an_kc (nk_sld dL_law_386 rfl) <|
  an_kc (an_lift (fun live => ak_aload_n dL_law_387 rfl rfl)) <|
  an_kc (an_lift (fun live => ak_iload_n dL_law_388 rfl rfl)) <|
  an_kc (an_lift (fun live => ak_iconst dL_law_389 (by decide +kernel) rfl)) <|
  an_kc (an_lift (fun live => ak_iadd dL_law_390 rfl)) <|
  an_kc (nk_sld dL_law_391 rfl) <|
  an_kc (an_lift (fun live => ak_callV (C := RX7) (F := TX7) (N := 4) metW_earn rfl ⟨rfl, by decide +kernel, by decide +kernel, by decide +kernel⟩ (am_w5 wd_442 wd_443 wd_444 wd_58 wd_445) (by decide) dL_law_392 rfl)) <|
  an_kc (an_lift (fun live => ak_pop dL_law_395 rfl)) <|
  an_kc (an_lift (fun live => ak_aload_n dL_law_396 rfl rfl)) <|
  an_kc (an_lift (fun live => ak_aload_n dL_law_397 rfl rfl)) <|
  an_kc (an_lift (fun live => ak_iload_n dL_law_398 rfl rfl)) <|
  an_kc (an_lift (fun live => ak_iconst dL_law_399 (by decide +kernel) rfl)) <|
  an_kc (an_lift (fun live => ak_iadd dL_law_400 rfl)) <|
  an_kc (nk_sld dL_law_401 rfl) <|
  an_kc (an_lift (fun live => ak_aload_n dL_law_402 rfl rfl)) <|
  an_kc (an_lift (fun live => ak_iload_n dL_law_403 rfl rfl)) <|
  an_kc (an_lift (fun live => ak_iconst dL_law_404 (by decide +kernel) rfl)) <|
  an_kc (an_lift (fun live => ak_iadd dL_law_405 rfl)) <|
  an_kc (nk_sld dL_law_406 rfl) <|
  an_kc (an_lift (fun live => ak_aload_n dL_law_407 rfl rfl)) <|
  an_kc (an_lift (fun live => ak_iload_n dL_law_408 rfl rfl)) <|
  an_kc (an_lift (fun live => ak_iconst dL_law_409 (by decide +kernel) rfl)) <|
  an_kc (an_lift (fun live => ak_iadd dL_law_410 rfl)) <|
  an_kc (nk_sld dL_law_411 rfl) <|
  an_kc (an_lift (fun live => ak_aload_n dL_law_412 rfl rfl)) <|
  an_kc (an_lift (fun live => ak_iload_n dL_law_413 rfl rfl)) <|
  an_kc (an_lift (fun live => ak_iconst dL_law_414 (by decide +kernel) rfl)) <|
  an_kc (an_lift (fun live => ak_iadd dL_law_415 rfl)) <|
  an_kc (nk_sld dL_law_416 rfl) <|
  an_kc (an_lift (fun live => ak_callV (C := RX8) (F := TX8) (N := 27) metX8_earn rfl ⟨rfl, by decide +kernel, by decide +kernel, by decide +kernel⟩ (am_w5 wd_1013 wd_1014 wd_1015 wd_67 wd_1016) (by decide) dL_law_417 rfl)) <|
  an_kc (an_lift (fun live => ak_pop dL_law_420 rfl)) <|
  an_kc (an_lift (fun live => ak_goto dL_law_421 (by decide +kernel))) <| an_kn
set_option maxRecDepth 100000 in
set_option maxHeartbeats 4000000 in
theorem caseL_c5 {Ln : Nat} (xs : Nat → Int32) {i : Int32} {i1 i2 : Bool} {kc kn : Nat} {M : am_M} (h : LX i1 i2 M) (hi : lawI Ln i kc kn) : an_wp (kL_c5 Ln xs) (lawC Ln i) 200 (an_go (kL_c5 Ln xs) 371) (lawL i) [] ((am_lv i1 i2, am_q i1 i2), kc, kn, M) := by
    obtain ⟨⟨f1, f2, f3, f4, f5, f6, f7⟩, k1, k2, k3, k4⟩ := hi.f
    have hmn : am_mn (am_lv i1 i2, am_q i1 i2) := ⟨_, _, rfl⟩
    repeat' (first | (with_reducible exact f1) | (with_reducible exact f2) | (with_reducible exact f3) | (with_reducible exact f4) | (with_reducible exact f5) | (with_reducible exact f6) | (with_reducible exact f7) | (with_reducible exact hmn) | (with_reducible exact h) | (with_reducible exact k1) | (with_reducible exact k2) | (with_reducible exact k3) | (with_reducible exact k4) | apply And.intro | exact rfl | ((with_reducible change r_I _); (with_reducible assumption)) | (intro hx; exact absurd hx (by decide)) | (intro hx; exact absurd (by decide) hx) | decide | intro hx | (refine Exists.intro _ (And.intro rfl ?_)) | (refine Exists.intro _ (Exists.intro _ (And.intro rfl (And.intro rfl ?_)))) | ((with_reducible change LX _ _ _); (with_reducible assumption)) | ((with_reducible change _ = true); simp only [k1, k2, k3, k4, Bool.true_and]; rfl))
    all_goals try first | (with_reducible change am_tI _ _) | (change Ret _ _) | (change Ret _ _ _) | (change Exists _)
    all_goals try dsimp only at *
    all_goals try exact absurd ‹(1000 : Int64) = 0› (by decide)
    all_goals first
      | exact ⟨_, _, rfl⟩
      | exact lawE.mk hi (by with_reducible assumption) (by omega) (by omega)
      | skip
theorem dL_law_424 : decode cL_law 424 = .ok (.aload_n 1, 1) := by decide +kernel
theorem dL_law_425 : decode cL_law 425 = .ok (.aload_n 0, 1) := by decide +kernel
theorem dL_law_426 : decode cL_law 426 = .ok (.iload_n 3, 1) := by decide +kernel
theorem dL_law_427 : decode cL_law 427 = .ok (.iconst 1, 1) := by decide +kernel
theorem dL_law_428 : decode cL_law 428 = .ok (.iadd, 1) := by decide +kernel
theorem dL_law_429 : decode cL_law 429 = .ok (.iaload, 1) := by decide +kernel
theorem dL_law_430 : decode cL_law 430 = .ok (.aload_n 0, 1) := by decide +kernel
theorem dL_law_431 : decode cL_law 431 = .ok (.iload_n 3, 1) := by decide +kernel
theorem dL_law_432 : decode cL_law 432 = .ok (.iconst 2, 1) := by decide +kernel
theorem dL_law_433 : decode cL_law 433 = .ok (.iadd, 1) := by decide +kernel
theorem dL_law_434 : decode cL_law 434 = .ok (.iaload, 1) := by decide +kernel
theorem dL_law_435 : decode cL_law 435 = .ok (.aload_n 0, 1) := by decide +kernel
theorem dL_law_436 : decode cL_law 436 = .ok (.iload_n 3, 1) := by decide +kernel
theorem dL_law_437 : decode cL_law 437 = .ok (.iconst 3, 1) := by decide +kernel
theorem dL_law_438 : decode cL_law 438 = .ok (.iadd, 1) := by decide +kernel
theorem dL_law_439 : decode cL_law 439 = .ok (.iaload, 1) := by decide +kernel
theorem dL_law_440 : decode cL_law 440 = .ok (.aload_n 0, 1) := by decide +kernel
theorem dL_law_441 : decode cL_law 441 = .ok (.iload_n 3, 1) := by decide +kernel
theorem dL_law_442 : decode cL_law 442 = .ok (.iconst 4, 1) := by decide +kernel
theorem dL_law_443 : decode cL_law 443 = .ok (.iadd, 1) := by decide +kernel
theorem dL_law_444 : decode cL_law 444 = .ok (.iaload, 1) := by decide +kernel
set_option maxRecDepth 100000 in
theorem wd_450 : Cond.methodLink "LearnLoansLaw" 40 yX7_right ∈ am_ws := am_wsi (List.mem_of_getElem? (i := 450) (by rfl)) (by decide +kernel)
set_option maxRecDepth 100000 in
theorem wd_451 : Cond.instanceMethod yX7_right ∈ am_ws := am_wsi (List.mem_of_getElem? (i := 451) (by rfl)) (by decide +kernel)
set_option maxRecDepth 100000 in
theorem wd_452 : Cond.selects "LearnLoans" yX7_right yX7_right ∈ am_ws := am_wsi (List.mem_of_getElem? (i := 452) (by rfl)) (by decide +kernel)
set_option maxRecDepth 100000 in
theorem wd_453 : Cond.code yX7_right cX7_right 7 (some .int) ∈ am_ws := am_wsi (List.mem_of_getElem? (i := 453) (by rfl)) (by decide +kernel)
theorem dL_law_445 : decode cL_law 445 = .ok (.invokevirtual 40, 3) := by decide +kernel
theorem dL_law_448 : decode cL_law 448 = .ok (.pop, 1) := by decide +kernel
theorem dL_law_449 : decode cL_law 449 = .ok (.aload_n 2, 1) := by decide +kernel
theorem dL_law_450 : decode cL_law 450 = .ok (.aload_n 0, 1) := by decide +kernel
theorem dL_law_451 : decode cL_law 451 = .ok (.iload_n 3, 1) := by decide +kernel
theorem dL_law_452 : decode cL_law 452 = .ok (.iconst 1, 1) := by decide +kernel
theorem dL_law_453 : decode cL_law 453 = .ok (.iadd, 1) := by decide +kernel
theorem dL_law_454 : decode cL_law 454 = .ok (.iaload, 1) := by decide +kernel
theorem dL_law_455 : decode cL_law 455 = .ok (.aload_n 0, 1) := by decide +kernel
theorem dL_law_456 : decode cL_law 456 = .ok (.iload_n 3, 1) := by decide +kernel
theorem dL_law_457 : decode cL_law 457 = .ok (.iconst 2, 1) := by decide +kernel
theorem dL_law_458 : decode cL_law 458 = .ok (.iadd, 1) := by decide +kernel
theorem dL_law_459 : decode cL_law 459 = .ok (.iaload, 1) := by decide +kernel
theorem dL_law_460 : decode cL_law 460 = .ok (.aload_n 0, 1) := by decide +kernel
theorem dL_law_461 : decode cL_law 461 = .ok (.iload_n 3, 1) := by decide +kernel
theorem dL_law_462 : decode cL_law 462 = .ok (.iconst 3, 1) := by decide +kernel
theorem dL_law_463 : decode cL_law 463 = .ok (.iadd, 1) := by decide +kernel
theorem dL_law_464 : decode cL_law 464 = .ok (.iaload, 1) := by decide +kernel
theorem dL_law_465 : decode cL_law 465 = .ok (.aload_n 0, 1) := by decide +kernel
theorem dL_law_466 : decode cL_law 466 = .ok (.iload_n 3, 1) := by decide +kernel
theorem dL_law_467 : decode cL_law 467 = .ok (.iconst 4, 1) := by decide +kernel
theorem dL_law_468 : decode cL_law 468 = .ok (.iadd, 1) := by decide +kernel
theorem dL_law_469 : decode cL_law 469 = .ok (.iaload, 1) := by decide +kernel
set_option maxRecDepth 100000 in
theorem wd_1018 : Cond.methodLink "LearnLoansLaw" 43 yX8_right ∈ am_ws := am_wsi (List.mem_of_getElem? (i := 1018) (by rfl)) (by decide +kernel)
set_option maxRecDepth 100000 in
theorem wd_1019 : Cond.instanceMethod yX8_right ∈ am_ws := am_wsi (List.mem_of_getElem? (i := 1019) (by rfl)) (by decide +kernel)
set_option maxRecDepth 100000 in
theorem wd_1020 : Cond.selects "LearnLoansModel" yX8_right yX8_right ∈ am_ws := am_wsi (List.mem_of_getElem? (i := 1020) (by rfl)) (by decide +kernel)
set_option maxRecDepth 100000 in
theorem wd_1021 : Cond.code yX8_right cX8_right 7 (some .int) ∈ am_ws := am_wsi (List.mem_of_getElem? (i := 1021) (by rfl)) (by decide +kernel)
theorem dL_law_470 : decode cL_law 470 = .ok (.invokevirtual 43, 3) := by decide +kernel
theorem dL_law_473 : decode cL_law 473 = .ok (.pop, 1) := by decide +kernel
theorem dL_law_474 : decode cL_law 474 = .ok (.goto 1367, 3) := by decide +kernel
def kL_c6 (Ln : Nat) (xs : Nat → Int32) : an_code := [(424, an_lf (fun live => am_aload 1 425)), (425, an_lf (fun live => am_aload 0 426)), (426, an_lf (fun live => am_iload 3 427)), (427, an_lf (fun live => am_const (.int 1) 428)), (428, an_lf (fun live => am_i2 (fun x y => x + y) 429)), (429, an_sld Ln xs 430), (430, an_lf (fun live => am_aload 0 431)), (431, an_lf (fun live => am_iload 3 432)), (432, an_lf (fun live => am_const (.int 2) 433)), (433, an_lf (fun live => am_i2 (fun x y => x + y) 434)), (434, an_sld Ln xs 435), (435, an_lf (fun live => am_aload 0 436)), (436, an_lf (fun live => am_iload 3 437)), (437, an_lf (fun live => am_const (.int 3) 438)), (438, an_lf (fun live => am_i2 (fun x y => x + y) 439)), (439, an_sld Ln xs 440), (440, an_lf (fun live => am_aload 0 441)), (441, an_lf (fun live => am_iload 3 442)), (442, an_lf (fun live => am_const (.int 4) 443)), (443, an_lf (fun live => am_i2 (fun x y => x + y) 444)), (444, an_sld Ln xs 445), (445, an_lf (fun live => am_callV live 7 4 TW_right 448)), (448, an_lf (fun live => am_pop 449)), (449, an_lf (fun live => am_aload 2 450)), (450, an_lf (fun live => am_aload 0 451)), (451, an_lf (fun live => am_iload 3 452)), (452, an_lf (fun live => am_const (.int 1) 453)), (453, an_lf (fun live => am_i2 (fun x y => x + y) 454)), (454, an_sld Ln xs 455), (455, an_lf (fun live => am_aload 0 456)), (456, an_lf (fun live => am_iload 3 457)), (457, an_lf (fun live => am_const (.int 2) 458)), (458, an_lf (fun live => am_i2 (fun x y => x + y) 459)), (459, an_sld Ln xs 460), (460, an_lf (fun live => am_aload 0 461)), (461, an_lf (fun live => am_iload 3 462)), (462, an_lf (fun live => am_const (.int 3) 463)), (463, an_lf (fun live => am_i2 (fun x y => x + y) 464)), (464, an_sld Ln xs 465), (465, an_lf (fun live => am_aload 0 466)), (466, an_lf (fun live => am_iload 3 467)), (467, an_lf (fun live => am_const (.int 4) 468)), (468, an_lf (fun live => am_i2 (fun x y => x + y) 469)), (469, an_sld Ln xs 470), (470, an_lf (fun live => am_callV live 8 4 TX8_right 473)), (473, an_lf (fun live => am_pop 474)), (474, an_lf (fun live => am_goto 1841))]
theorem koL_c6 (Ln : Nat) (xs : Nat → Int32) : ∀ q ∈ kL_c6 Ln xs, an_ok RL cL_law 4 (some .boolean) 2000 80000 600000 7302250 false (lawP Ln xs) an_noR q.1 q.2 :=
  an_kc (an_lift (fun live => ak_aload_n dL_law_424 rfl rfl)) <|
  an_kc (an_lift (fun live => ak_aload_n dL_law_425 rfl rfl)) <|
  an_kc (an_lift (fun live => ak_iload_n dL_law_426 rfl rfl)) <|
  an_kc (an_lift (fun live => ak_iconst dL_law_427 (by decide +kernel) rfl)) <|
  an_kc (an_lift (fun live => ak_iadd dL_law_428 rfl)) <|
  an_kc (nk_sld dL_law_429 rfl) <|
  an_kc (an_lift (fun live => ak_aload_n dL_law_430 rfl rfl)) <|
  an_kc (an_lift (fun live => ak_iload_n dL_law_431 rfl rfl)) <|
  an_kc (an_lift (fun live => ak_iconst dL_law_432 (by decide +kernel) rfl)) <|
  an_kc (an_lift (fun live => ak_iadd dL_law_433 rfl)) <|
  an_kc (nk_sld dL_law_434 rfl) <|
  an_kc (an_lift (fun live => ak_aload_n dL_law_435 rfl rfl)) <|
  an_kc (an_lift (fun live => ak_iload_n dL_law_436 rfl rfl)) <|
  an_kc (an_lift (fun live => ak_iconst dL_law_437 (by decide +kernel) rfl)) <|
  an_kc (an_lift (fun live => ak_iadd dL_law_438 rfl)) <|
  an_kc (nk_sld dL_law_439 rfl) <|
  an_kc (an_lift (fun live => ak_aload_n dL_law_440 rfl rfl)) <|
  an_kc (an_lift (fun live => ak_iload_n dL_law_441 rfl rfl)) <|
  an_kc (an_lift (fun live => ak_iconst dL_law_442 (by decide +kernel) rfl)) <|
  an_kc (an_lift (fun live => ak_iadd dL_law_443 rfl)) <|
  an_kc (nk_sld dL_law_444 rfl) <|
  an_kc (an_lift (fun live => ak_callV (C := RX7) (F := TX7) (N := 4) metW_right rfl ⟨rfl, by decide +kernel, by decide +kernel, by decide +kernel⟩ (am_w5 wd_450 wd_451 wd_452 wd_58 wd_453) (by decide) dL_law_445 rfl)) <|
  an_kc (an_lift (fun live => ak_pop dL_law_448 rfl)) <|
  an_kc (an_lift (fun live => ak_aload_n dL_law_449 rfl rfl)) <|
  an_kc (an_lift (fun live => ak_aload_n dL_law_450 rfl rfl)) <|
  an_kc (an_lift (fun live => ak_iload_n dL_law_451 rfl rfl)) <|
  an_kc (an_lift (fun live => ak_iconst dL_law_452 (by decide +kernel) rfl)) <|
  an_kc (an_lift (fun live => ak_iadd dL_law_453 rfl)) <|
  an_kc (nk_sld dL_law_454 rfl) <|
  an_kc (an_lift (fun live => ak_aload_n dL_law_455 rfl rfl)) <|
  an_kc (an_lift (fun live => ak_iload_n dL_law_456 rfl rfl)) <|
  an_kc (an_lift (fun live => ak_iconst dL_law_457 (by decide +kernel) rfl)) <|
  an_kc (an_lift (fun live => ak_iadd dL_law_458 rfl)) <|
  an_kc (nk_sld dL_law_459 rfl) <|
  an_kc (an_lift (fun live => ak_aload_n dL_law_460 rfl rfl)) <|
  an_kc (an_lift (fun live => ak_iload_n dL_law_461 rfl rfl)) <|
  an_kc (an_lift (fun live => ak_iconst dL_law_462 (by decide +kernel) rfl)) <|
  an_kc (an_lift (fun live => ak_iadd dL_law_463 rfl)) <|
  an_kc (nk_sld dL_law_464 rfl) <|
  an_kc (an_lift (fun live => ak_aload_n dL_law_465 rfl rfl)) <|
  an_kc (an_lift (fun live => ak_iload_n dL_law_466 rfl rfl)) <|
  an_kc (an_lift (fun live => ak_iconst dL_law_467 (by decide +kernel) rfl)) <|
  an_kc (an_lift (fun live => ak_iadd dL_law_468 rfl)) <|
  an_kc (nk_sld dL_law_469 rfl) <|
  an_kc (an_lift (fun live => ak_callV (C := RX8) (F := TX8) (N := 27) metX8_right rfl ⟨rfl, by decide +kernel, by decide +kernel, by decide +kernel⟩ (am_w5 wd_1018 wd_1019 wd_1020 wd_67 wd_1021) (by decide) dL_law_470 rfl)) <|
  an_kc (an_lift (fun live => ak_pop dL_law_473 rfl)) <|
  an_kc (an_lift (fun live => ak_goto dL_law_474 (by decide +kernel))) <| an_kn
set_option maxRecDepth 100000 in
set_option maxHeartbeats 4000000 in
theorem caseL_c6 {Ln : Nat} (xs : Nat → Int32) {i : Int32} {i1 i2 : Bool} {kc kn : Nat} {M : am_M} (h : LX i1 i2 M) (hi : lawI Ln i kc kn) : an_wp (kL_c6 Ln xs) (lawC Ln i) 200 (an_go (kL_c6 Ln xs) 424) (lawL i) [] ((am_lv i1 i2, am_q i1 i2), kc, kn, M) := by
    obtain ⟨⟨f1, f2, f3, f4, f5, f6, f7⟩, k1, k2, k3, k4⟩ := hi.f
    have hmn : am_mn (am_lv i1 i2, am_q i1 i2) := ⟨_, _, rfl⟩
    repeat' (first | (with_reducible exact f1) | (with_reducible exact f2) | (with_reducible exact f3) | (with_reducible exact f4) | (with_reducible exact f5) | (with_reducible exact f6) | (with_reducible exact f7) | (with_reducible exact hmn) | (with_reducible exact h) | (with_reducible exact k1) | (with_reducible exact k2) | (with_reducible exact k3) | (with_reducible exact k4) | apply And.intro | exact rfl | ((with_reducible change r_I _); (with_reducible assumption)) | (intro hx; exact absurd hx (by decide)) | (intro hx; exact absurd (by decide) hx) | decide | intro hx | (refine Exists.intro _ (And.intro rfl ?_)) | (refine Exists.intro _ (Exists.intro _ (And.intro rfl (And.intro rfl ?_)))) | ((with_reducible change LX _ _ _); (with_reducible assumption)) | ((with_reducible change _ = true); simp only [k1, k2, k3, k4, Bool.true_and]; rfl))
    all_goals try first | (with_reducible change am_tI _ _) | (change Ret _ _) | (change Ret _ _ _) | (change Exists _)
    all_goals try dsimp only at *
    all_goals try exact absurd ‹(1000 : Int64) = 0› (by decide)
    all_goals first
      | exact ⟨_, _, rfl⟩
      | exact lawE.mk hi (by with_reducible assumption) (by omega) (by omega)
      | skip
theorem dL_law_477 : decode cL_law 477 = .ok (.aload_n 1, 1) := by decide +kernel
theorem dL_law_478 : decode cL_law 478 = .ok (.aload_n 0, 1) := by decide +kernel
theorem dL_law_479 : decode cL_law 479 = .ok (.iload_n 3, 1) := by decide +kernel
theorem dL_law_480 : decode cL_law 480 = .ok (.iconst 1, 1) := by decide +kernel
theorem dL_law_481 : decode cL_law 481 = .ok (.iadd, 1) := by decide +kernel
theorem dL_law_482 : decode cL_law 482 = .ok (.iaload, 1) := by decide +kernel
theorem dL_law_483 : decode cL_law 483 = .ok (.aload_n 0, 1) := by decide +kernel
theorem dL_law_484 : decode cL_law 484 = .ok (.iload_n 3, 1) := by decide +kernel
theorem dL_law_485 : decode cL_law 485 = .ok (.iconst 2, 1) := by decide +kernel
theorem dL_law_486 : decode cL_law 486 = .ok (.iadd, 1) := by decide +kernel
theorem dL_law_487 : decode cL_law 487 = .ok (.iaload, 1) := by decide +kernel
theorem dL_law_488 : decode cL_law 488 = .ok (.aload_n 0, 1) := by decide +kernel
theorem dL_law_489 : decode cL_law 489 = .ok (.iload_n 3, 1) := by decide +kernel
theorem dL_law_490 : decode cL_law 490 = .ok (.iconst 3, 1) := by decide +kernel
theorem dL_law_491 : decode cL_law 491 = .ok (.iadd, 1) := by decide +kernel
theorem dL_law_492 : decode cL_law 492 = .ok (.iaload, 1) := by decide +kernel
set_option maxRecDepth 100000 in
theorem wd_454 : Cond.methodLink "LearnLoansLaw" 44 yX7_earnings ∈ am_ws := am_wsi (List.mem_of_getElem? (i := 454) (by rfl)) (by decide +kernel)
set_option maxRecDepth 100000 in
theorem wd_455 : Cond.instanceMethod yX7_earnings ∈ am_ws := am_wsi (List.mem_of_getElem? (i := 455) (by rfl)) (by decide +kernel)
set_option maxRecDepth 100000 in
theorem wd_456 : Cond.selects "LearnLoans" yX7_earnings yX7_earnings ∈ am_ws := am_wsi (List.mem_of_getElem? (i := 456) (by rfl)) (by decide +kernel)
set_option maxRecDepth 100000 in
theorem wd_457 : Cond.code yX7_earnings cX7_earnings 4 (some .int) ∈ am_ws := am_wsi (List.mem_of_getElem? (i := 457) (by rfl)) (by decide +kernel)
theorem dL_law_493 : decode cL_law 493 = .ok (.invokevirtual 44, 3) := by decide +kernel
theorem dL_law_496 : decode cL_law 496 = .ok (.pop, 1) := by decide +kernel
theorem dL_law_497 : decode cL_law 497 = .ok (.aload_n 2, 1) := by decide +kernel
theorem dL_law_498 : decode cL_law 498 = .ok (.aload_n 0, 1) := by decide +kernel
theorem dL_law_499 : decode cL_law 499 = .ok (.iload_n 3, 1) := by decide +kernel
theorem dL_law_500 : decode cL_law 500 = .ok (.iconst 1, 1) := by decide +kernel
theorem dL_law_501 : decode cL_law 501 = .ok (.iadd, 1) := by decide +kernel
theorem dL_law_502 : decode cL_law 502 = .ok (.iaload, 1) := by decide +kernel
theorem dL_law_503 : decode cL_law 503 = .ok (.aload_n 0, 1) := by decide +kernel
theorem dL_law_504 : decode cL_law 504 = .ok (.iload_n 3, 1) := by decide +kernel
theorem dL_law_505 : decode cL_law 505 = .ok (.iconst 2, 1) := by decide +kernel
theorem dL_law_506 : decode cL_law 506 = .ok (.iadd, 1) := by decide +kernel
theorem dL_law_507 : decode cL_law 507 = .ok (.iaload, 1) := by decide +kernel
theorem dL_law_508 : decode cL_law 508 = .ok (.aload_n 0, 1) := by decide +kernel
theorem dL_law_509 : decode cL_law 509 = .ok (.iload_n 3, 1) := by decide +kernel
theorem dL_law_510 : decode cL_law 510 = .ok (.iconst 3, 1) := by decide +kernel
theorem dL_law_511 : decode cL_law 511 = .ok (.iadd, 1) := by decide +kernel
theorem dL_law_512 : decode cL_law 512 = .ok (.iaload, 1) := by decide +kernel
set_option maxRecDepth 100000 in
theorem wd_1022 : Cond.methodLink "LearnLoansLaw" 48 yX8_earnings ∈ am_ws := am_wsi (List.mem_of_getElem? (i := 1022) (by rfl)) (by decide +kernel)
set_option maxRecDepth 100000 in
theorem wd_1023 : Cond.instanceMethod yX8_earnings ∈ am_ws := am_wsi (List.mem_of_getElem? (i := 1023) (by rfl)) (by decide +kernel)
set_option maxRecDepth 100000 in
theorem wd_1024 : Cond.selects "LearnLoansModel" yX8_earnings yX8_earnings ∈ am_ws := am_wsi (List.mem_of_getElem? (i := 1024) (by rfl)) (by decide +kernel)
set_option maxRecDepth 100000 in
theorem wd_1025 : Cond.code yX8_earnings cX8_earnings 4 (some .int) ∈ am_ws := am_wsi (List.mem_of_getElem? (i := 1025) (by rfl)) (by decide +kernel)
theorem dL_law_513 : decode cL_law 513 = .ok (.invokevirtual 48, 3) := by decide +kernel
theorem dL_law_516 : decode cL_law 516 = .ok (.pop, 1) := by decide +kernel
theorem dL_law_517 : decode cL_law 517 = .ok (.goto 1324, 3) := by decide +kernel
def kL_c7 (Ln : Nat) (xs : Nat → Int32) : an_code := [(477, an_lf (fun live => am_aload 1 478)), (478, an_lf (fun live => am_aload 0 479)), (479, an_lf (fun live => am_iload 3 480)), (480, an_lf (fun live => am_const (.int 1) 481)), (481, an_lf (fun live => am_i2 (fun x y => x + y) 482)), (482, an_sld Ln xs 483), (483, an_lf (fun live => am_aload 0 484)), (484, an_lf (fun live => am_iload 3 485)), (485, an_lf (fun live => am_const (.int 2) 486)), (486, an_lf (fun live => am_i2 (fun x y => x + y) 487)), (487, an_sld Ln xs 488), (488, an_lf (fun live => am_aload 0 489)), (489, an_lf (fun live => am_iload 3 490)), (490, an_lf (fun live => am_const (.int 3) 491)), (491, an_lf (fun live => am_i2 (fun x y => x + y) 492)), (492, an_sld Ln xs 493), (493, an_lf (fun live => am_callV live 7 3 TW_earnings 496)), (496, an_lf (fun live => am_pop 497)), (497, an_lf (fun live => am_aload 2 498)), (498, an_lf (fun live => am_aload 0 499)), (499, an_lf (fun live => am_iload 3 500)), (500, an_lf (fun live => am_const (.int 1) 501)), (501, an_lf (fun live => am_i2 (fun x y => x + y) 502)), (502, an_sld Ln xs 503), (503, an_lf (fun live => am_aload 0 504)), (504, an_lf (fun live => am_iload 3 505)), (505, an_lf (fun live => am_const (.int 2) 506)), (506, an_lf (fun live => am_i2 (fun x y => x + y) 507)), (507, an_sld Ln xs 508), (508, an_lf (fun live => am_aload 0 509)), (509, an_lf (fun live => am_iload 3 510)), (510, an_lf (fun live => am_const (.int 3) 511)), (511, an_lf (fun live => am_i2 (fun x y => x + y) 512)), (512, an_sld Ln xs 513), (513, an_lf (fun live => am_callV live 8 3 TX8_earnings 516)), (516, an_lf (fun live => am_pop 517)), (517, an_lf (fun live => am_goto 1841))]
theorem koL_c7 (Ln : Nat) (xs : Nat → Int32) : ∀ q ∈ kL_c7 Ln xs, an_ok RL cL_law 4 (some .boolean) 2000 80000 600000 7302250 false (lawP Ln xs) an_noR q.1 q.2 :=
  an_kc (an_lift (fun live => ak_aload_n dL_law_477 rfl rfl)) <|
  an_kc (an_lift (fun live => ak_aload_n dL_law_478 rfl rfl)) <|
  an_kc (an_lift (fun live => ak_iload_n dL_law_479 rfl rfl)) <|
  an_kc (an_lift (fun live => ak_iconst dL_law_480 (by decide +kernel) rfl)) <|
  an_kc (an_lift (fun live => ak_iadd dL_law_481 rfl)) <|
  an_kc (nk_sld dL_law_482 rfl) <|
  an_kc (an_lift (fun live => ak_aload_n dL_law_483 rfl rfl)) <|
  an_kc (an_lift (fun live => ak_iload_n dL_law_484 rfl rfl)) <|
  an_kc (an_lift (fun live => ak_iconst dL_law_485 (by decide +kernel) rfl)) <|
  an_kc (an_lift (fun live => ak_iadd dL_law_486 rfl)) <|
  an_kc (nk_sld dL_law_487 rfl) <|
  an_kc (an_lift (fun live => ak_aload_n dL_law_488 rfl rfl)) <|
  an_kc (an_lift (fun live => ak_iload_n dL_law_489 rfl rfl)) <|
  an_kc (an_lift (fun live => ak_iconst dL_law_490 (by decide +kernel) rfl)) <|
  an_kc (an_lift (fun live => ak_iadd dL_law_491 rfl)) <|
  an_kc (nk_sld dL_law_492 rfl) <|
  an_kc (an_lift (fun live => ak_callV (C := RX7) (F := TX7) (N := 4) metW_earnings rfl ⟨rfl, by decide +kernel, by decide +kernel, by decide +kernel⟩ (am_w5 wd_454 wd_455 wd_456 wd_58 wd_457) (by decide) dL_law_493 rfl)) <|
  an_kc (an_lift (fun live => ak_pop dL_law_496 rfl)) <|
  an_kc (an_lift (fun live => ak_aload_n dL_law_497 rfl rfl)) <|
  an_kc (an_lift (fun live => ak_aload_n dL_law_498 rfl rfl)) <|
  an_kc (an_lift (fun live => ak_iload_n dL_law_499 rfl rfl)) <|
  an_kc (an_lift (fun live => ak_iconst dL_law_500 (by decide +kernel) rfl)) <|
  an_kc (an_lift (fun live => ak_iadd dL_law_501 rfl)) <|
  an_kc (nk_sld dL_law_502 rfl) <|
  an_kc (an_lift (fun live => ak_aload_n dL_law_503 rfl rfl)) <|
  an_kc (an_lift (fun live => ak_iload_n dL_law_504 rfl rfl)) <|
  an_kc (an_lift (fun live => ak_iconst dL_law_505 (by decide +kernel) rfl)) <|
  an_kc (an_lift (fun live => ak_iadd dL_law_506 rfl)) <|
  an_kc (nk_sld dL_law_507 rfl) <|
  an_kc (an_lift (fun live => ak_aload_n dL_law_508 rfl rfl)) <|
  an_kc (an_lift (fun live => ak_iload_n dL_law_509 rfl rfl)) <|
  an_kc (an_lift (fun live => ak_iconst dL_law_510 (by decide +kernel) rfl)) <|
  an_kc (an_lift (fun live => ak_iadd dL_law_511 rfl)) <|
  an_kc (nk_sld dL_law_512 rfl) <|
  an_kc (an_lift (fun live => ak_callV (C := RX8) (F := TX8) (N := 27) metX8_earnings rfl ⟨rfl, by decide +kernel, by decide +kernel, by decide +kernel⟩ (am_w5 wd_1022 wd_1023 wd_1024 wd_67 wd_1025) (by decide) dL_law_513 rfl)) <|
  an_kc (an_lift (fun live => ak_pop dL_law_516 rfl)) <|
  an_kc (an_lift (fun live => ak_goto dL_law_517 (by decide +kernel))) <| an_kn
set_option maxRecDepth 100000 in
set_option maxHeartbeats 4000000 in
theorem caseL_c7 {Ln : Nat} (xs : Nat → Int32) {i : Int32} {i1 i2 : Bool} {kc kn : Nat} {M : am_M} (h : LX i1 i2 M) (hi : lawI Ln i kc kn) : an_wp (kL_c7 Ln xs) (lawC Ln i) 200 (an_go (kL_c7 Ln xs) 477) (lawL i) [] ((am_lv i1 i2, am_q i1 i2), kc, kn, M) := by
    obtain ⟨⟨f1, f2, f3, f4, f5, f6, f7⟩, k1, k2, k3, k4⟩ := hi.f
    have hmn : am_mn (am_lv i1 i2, am_q i1 i2) := ⟨_, _, rfl⟩
    repeat' (first | (with_reducible exact f1) | (with_reducible exact f2) | (with_reducible exact f3) | (with_reducible exact f4) | (with_reducible exact f5) | (with_reducible exact f6) | (with_reducible exact f7) | (with_reducible exact hmn) | (with_reducible exact h) | (with_reducible exact k1) | (with_reducible exact k2) | (with_reducible exact k3) | (with_reducible exact k4) | apply And.intro | exact rfl | ((with_reducible change r_I _); (with_reducible assumption)) | (intro hx; exact absurd hx (by decide)) | (intro hx; exact absurd (by decide) hx) | decide | intro hx | (refine Exists.intro _ (And.intro rfl ?_)) | (refine Exists.intro _ (Exists.intro _ (And.intro rfl (And.intro rfl ?_)))) | ((with_reducible change LX _ _ _); (with_reducible assumption)) | ((with_reducible change _ = true); simp only [k1, k2, k3, k4, Bool.true_and]; rfl))
    all_goals try first | (with_reducible change am_tI _ _) | (change Ret _ _) | (change Ret _ _ _) | (change Exists _)
    all_goals try dsimp only at *
    all_goals try exact absurd ‹(1000 : Int64) = 0› (by decide)
    all_goals first
      | exact ⟨_, _, rfl⟩
      | exact lawE.mk hi (by with_reducible assumption) (by omega) (by omega)
      | skip
