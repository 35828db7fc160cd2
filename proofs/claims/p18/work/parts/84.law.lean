/-! the law: cases 8 to 11 -/
theorem dL_law_520 : decode cL_law 520 = .ok (.aload_n 1, 1) := by decide +kernel
theorem dL_law_521 : decode cL_law 521 = .ok (.aload_n 0, 1) := by decide +kernel
theorem dL_law_522 : decode cL_law 522 = .ok (.iload_n 3, 1) := by decide +kernel
theorem dL_law_523 : decode cL_law 523 = .ok (.iconst 1, 1) := by decide +kernel
theorem dL_law_524 : decode cL_law 524 = .ok (.iadd, 1) := by decide +kernel
theorem dL_law_525 : decode cL_law 525 = .ok (.iaload, 1) := by decide +kernel
theorem dL_law_526 : decode cL_law 526 = .ok (.aload_n 0, 1) := by decide +kernel
theorem dL_law_527 : decode cL_law 527 = .ok (.iload_n 3, 1) := by decide +kernel
theorem dL_law_528 : decode cL_law 528 = .ok (.iconst 2, 1) := by decide +kernel
theorem dL_law_529 : decode cL_law 529 = .ok (.iadd, 1) := by decide +kernel
theorem dL_law_530 : decode cL_law 530 = .ok (.iaload, 1) := by decide +kernel
theorem dL_law_531 : decode cL_law 531 = .ok (.aload_n 0, 1) := by decide +kernel
theorem dL_law_532 : decode cL_law 532 = .ok (.iload_n 3, 1) := by decide +kernel
theorem dL_law_533 : decode cL_law 533 = .ok (.iconst 3, 1) := by decide +kernel
theorem dL_law_534 : decode cL_law 534 = .ok (.iadd, 1) := by decide +kernel
theorem dL_law_535 : decode cL_law 535 = .ok (.iaload, 1) := by decide +kernel
theorem dL_law_536 : decode cL_law 536 = .ok (.aload_n 0, 1) := by decide +kernel
theorem dL_law_537 : decode cL_law 537 = .ok (.iload_n 3, 1) := by decide +kernel
theorem dL_law_538 : decode cL_law 538 = .ok (.iconst 4, 1) := by decide +kernel
theorem dL_law_539 : decode cL_law 539 = .ok (.iadd, 1) := by decide +kernel
theorem dL_law_540 : decode cL_law 540 = .ok (.iaload, 1) := by decide +kernel
theorem dL_law_541 : decode cL_law 541 = .ok (.aload_n 0, 1) := by decide +kernel
theorem dL_law_542 : decode cL_law 542 = .ok (.iload_n 3, 1) := by decide +kernel
theorem dL_law_543 : decode cL_law 543 = .ok (.iconst 5, 1) := by decide +kernel
theorem dL_law_544 : decode cL_law 544 = .ok (.iadd, 1) := by decide +kernel
theorem dL_law_545 : decode cL_law 545 = .ok (.iaload, 1) := by decide +kernel
theorem dL_law_546 : decode cL_law 546 = .ok (.aload_n 0, 1) := by decide +kernel
theorem dL_law_547 : decode cL_law 547 = .ok (.iload_n 3, 1) := by decide +kernel
theorem dL_law_548 : decode cL_law 548 = .ok (.bipush 6, 2) := by decide +kernel
theorem dL_law_550 : decode cL_law 550 = .ok (.iadd, 1) := by decide +kernel
theorem dL_law_551 : decode cL_law 551 = .ok (.iaload, 1) := by decide +kernel
set_option maxRecDepth 100000 in
theorem wd_462 : Cond.methodLink "LearnLoansLaw" 49 yX7_act ∈ am_ws := am_wsi (List.mem_of_getElem? (i := 462) (by rfl)) (by decide +kernel)
set_option maxRecDepth 100000 in
theorem wd_463 : Cond.instanceMethod yX7_act ∈ am_ws := am_wsi (List.mem_of_getElem? (i := 463) (by rfl)) (by decide +kernel)
set_option maxRecDepth 100000 in
theorem wd_464 : Cond.selects "LearnLoans" yX7_act yX7_act ∈ am_ws := am_wsi (List.mem_of_getElem? (i := 464) (by rfl)) (by decide +kernel)
set_option maxRecDepth 100000 in
theorem wd_465 : Cond.code yX7_act cX7_act 7 (some .int) ∈ am_ws := am_wsi (List.mem_of_getElem? (i := 465) (by rfl)) (by decide +kernel)
theorem dL_law_552 : decode cL_law 552 = .ok (.invokevirtual 49, 3) := by decide +kernel
theorem dL_law_555 : decode cL_law 555 = .ok (.pop, 1) := by decide +kernel
theorem dL_law_556 : decode cL_law 556 = .ok (.aload_n 2, 1) := by decide +kernel
theorem dL_law_557 : decode cL_law 557 = .ok (.aload_n 0, 1) := by decide +kernel
theorem dL_law_558 : decode cL_law 558 = .ok (.iload_n 3, 1) := by decide +kernel
theorem dL_law_559 : decode cL_law 559 = .ok (.iconst 1, 1) := by decide +kernel
theorem dL_law_560 : decode cL_law 560 = .ok (.iadd, 1) := by decide +kernel
theorem dL_law_561 : decode cL_law 561 = .ok (.iaload, 1) := by decide +kernel
theorem dL_law_562 : decode cL_law 562 = .ok (.aload_n 0, 1) := by decide +kernel
theorem dL_law_563 : decode cL_law 563 = .ok (.iload_n 3, 1) := by decide +kernel
theorem dL_law_564 : decode cL_law 564 = .ok (.iconst 2, 1) := by decide +kernel
theorem dL_law_565 : decode cL_law 565 = .ok (.iadd, 1) := by decide +kernel
theorem dL_law_566 : decode cL_law 566 = .ok (.iaload, 1) := by decide +kernel
theorem dL_law_567 : decode cL_law 567 = .ok (.aload_n 0, 1) := by decide +kernel
theorem dL_law_568 : decode cL_law 568 = .ok (.iload_n 3, 1) := by decide +kernel
theorem dL_law_569 : decode cL_law 569 = .ok (.iconst 3, 1) := by decide +kernel
theorem dL_law_570 : decode cL_law 570 = .ok (.iadd, 1) := by decide +kernel
theorem dL_law_571 : decode cL_law 571 = .ok (.iaload, 1) := by decide +kernel
theorem dL_law_572 : decode cL_law 572 = .ok (.aload_n 0, 1) := by decide +kernel
theorem dL_law_573 : decode cL_law 573 = .ok (.iload_n 3, 1) := by decide +kernel
theorem dL_law_574 : decode cL_law 574 = .ok (.iconst 4, 1) := by decide +kernel
theorem dL_law_575 : decode cL_law 575 = .ok (.iadd, 1) := by decide +kernel
theorem dL_law_576 : decode cL_law 576 = .ok (.iaload, 1) := by decide +kernel
theorem dL_law_577 : decode cL_law 577 = .ok (.aload_n 0, 1) := by decide +kernel
theorem dL_law_578 : decode cL_law 578 = .ok (.iload_n 3, 1) := by decide +kernel
theorem dL_law_579 : decode cL_law 579 = .ok (.iconst 5, 1) := by decide +kernel
theorem dL_law_580 : decode cL_law 580 = .ok (.iadd, 1) := by decide +kernel
theorem dL_law_581 : decode cL_law 581 = .ok (.iaload, 1) := by decide +kernel
theorem dL_law_582 : decode cL_law 582 = .ok (.aload_n 0, 1) := by decide +kernel
theorem dL_law_583 : decode cL_law 583 = .ok (.iload_n 3, 1) := by decide +kernel
theorem dL_law_584 : decode cL_law 584 = .ok (.bipush 6, 2) := by decide +kernel
theorem dL_law_586 : decode cL_law 586 = .ok (.iadd, 1) := by decide +kernel
theorem dL_law_587 : decode cL_law 587 = .ok (.iaload, 1) := by decide +kernel
set_option maxRecDepth 100000 in
theorem wd_1030 : Cond.methodLink "LearnLoansLaw" 53 yX8_act ∈ am_ws := am_wsi (List.mem_of_getElem? (i := 1030) (by rfl)) (by decide +kernel)
set_option maxRecDepth 100000 in
theorem wd_1031 : Cond.instanceMethod yX8_act ∈ am_ws := am_wsi (List.mem_of_getElem? (i := 1031) (by rfl)) (by decide +kernel)
set_option maxRecDepth 100000 in
theorem wd_1032 : Cond.selects "LearnLoansModel" yX8_act yX8_act ∈ am_ws := am_wsi (List.mem_of_getElem? (i := 1032) (by rfl)) (by decide +kernel)
set_option maxRecDepth 100000 in
theorem wd_1033 : Cond.code yX8_act cX8_act 8 (some .int) ∈ am_ws := am_wsi (List.mem_of_getElem? (i := 1033) (by rfl)) (by decide +kernel)
theorem dL_law_588 : decode cL_law 588 = .ok (.invokevirtual 53, 3) := by decide +kernel
theorem dL_law_591 : decode cL_law 591 = .ok (.pop, 1) := by decide +kernel
theorem dL_law_592 : decode cL_law 592 = .ok (.goto 1249, 3) := by decide +kernel
def kL_c8 (Ln : Nat) (xs : Nat → Int32) : an_code := [(520, an_lf (fun live => am_aload 1 521)), (521, an_lf (fun live => am_aload 0 522)), (522, an_lf (fun live => am_iload 3 523)), (523, an_lf (fun live => am_const (.int 1) 524)), (524, an_lf (fun live => am_i2 (fun x y => x + y) 525)), (525, an_sld Ln xs 526), (526, an_lf (fun live => am_aload 0 527)), (527, an_lf (fun live => am_iload 3 528)), (528, an_lf (fun live => am_const (.int 2) 529)), (529, an_lf (fun live => am_i2 (fun x y => x + y) 530)), (530, an_sld Ln xs 531), (531, an_lf (fun live => am_aload 0 532)), (532, an_lf (fun live => am_iload 3 533)), (533, an_lf (fun live => am_const (.int 3) 534)), (534, an_lf (fun live => am_i2 (fun x y => x + y) 535)), (535, an_sld Ln xs 536), (536, an_lf (fun live => am_aload 0 537)), (537, an_lf (fun live => am_iload 3 538)), (538, an_lf (fun live => am_const (.int 4) 539)), (539, an_lf (fun live => am_i2 (fun x y => x + y) 540)), (540, an_sld Ln xs 541), (541, an_lf (fun live => am_aload 0 542)), (542, an_lf (fun live => am_iload 3 543)), (543, an_lf (fun live => am_const (.int 5) 544)), (544, an_lf (fun live => am_i2 (fun x y => x + y) 545)), (545, an_sld Ln xs 546), (546, an_lf (fun live => am_aload 0 547)), (547, an_lf (fun live => am_iload 3 548)), (548, an_lf (fun live => am_const (.int 6) 550)), (550, an_lf (fun live => am_i2 (fun x y => x + y) 551)), (551, an_sld Ln xs 552), (552, an_lf (fun live => am_callV live 7 6 TW_act 555)), (555, an_lf (fun live => am_pop 556)), (556, an_lf (fun live => am_aload 2 557)), (557, an_lf (fun live => am_aload 0 558)), (558, an_lf (fun live => am_iload 3 559)), (559, an_lf (fun live => am_const (.int 1) 560)), (560, an_lf (fun live => am_i2 (fun x y => x + y) 561)), (561, an_sld Ln xs 562), (562, an_lf (fun live => am_aload 0 563)), (563, an_lf (fun live => am_iload 3 564)), (564, an_lf (fun live => am_const (.int 2) 565)), (565, an_lf (fun live => am_i2 (fun x y => x + y) 566)), (566, an_sld Ln xs 567), (567, an_lf (fun live => am_aload 0 568)), (568, an_lf (fun live => am_iload 3 569)), (569, an_lf (fun live => am_const (.int 3) 570)), (570, an_lf (fun live => am_i2 (fun x y => x + y) 571)), (571, an_sld Ln xs 572), (572, an_lf (fun live => am_aload 0 573)), (573, an_lf (fun live => am_iload 3 574)), (574, an_lf (fun live => am_const (.int 4) 575)), (575, an_lf (fun live => am_i2 (fun x y => x + y) 576)), (576, an_sld Ln xs 577), (577, an_lf (fun live => am_aload 0 578)), (578, an_lf (fun live => am_iload 3 579)), (579, an_lf (fun live => am_const (.int 5) 580)), (580, an_lf (fun live => am_i2 (fun x y => x + y) 581)), (581, an_sld Ln xs 582), (582, an_lf (fun live => am_aload 0 583)), (583, an_lf (fun live => am_iload 3 584)), (584, an_lf (fun live => am_const (.int 6) 586)), (586, an_lf (fun live => am_i2 (fun x y => x + y) 587)), (587, an_sld Ln xs 588), (588, an_lf (fun live => am_callV live 8 6 TX8_act 591)), (591, an_lf (fun live => am_pop 592)), (592, an_lf (fun live => am_goto 1841))]
theorem koL_c8 (Ln : Nat) (xs : Nat → Int32) : ∀ q ∈ kL_c8 Ln xs, an_ok RL cL_law 4 (some .boolean) 2000 80000 600000 7302250 false (lawP Ln xs) an_noR q.1 q.2 :=
  an_kc (an_lift (fun live => ak_aload_n dL_law_520 rfl rfl)) <|
  an_kc (an_lift (fun live => ak_aload_n dL_law_521 rfl rfl)) <|
  an_kc (an_lift (fun live => ak_iload_n dL_law_522 rfl rfl)) <|
  an_kc (an_lift (fun live => ak_iconst dL_law_523 (by decide +kernel) rfl)) <|
  an_kc (an_lift (fun live => ak_iadd dL_law_524 rfl)) <|
  an_kc (nk_sld dL_law_525 rfl) <|
  an_kc (an_lift (fun live => ak_aload_n dL_law_526 rfl rfl)) <|
  an_kc (an_lift (fun live => ak_iload_n dL_law_527 rfl rfl)) <|
  an_kc (an_lift (fun live => ak_iconst dL_law_528 (by decide +kernel) rfl)) <|
  an_kc (an_lift (fun live => ak_iadd dL_law_529 rfl)) <|
  an_kc (nk_sld dL_law_530 rfl) <|
  an_kc (an_lift (fun live => ak_aload_n dL_law_531 rfl rfl)) <|
  an_kc (an_lift (fun live => ak_iload_n dL_law_532 rfl rfl)) <|
  an_kc (an_lift (fun live => ak_iconst dL_law_533 (by decide +kernel) rfl)) <|
  an_kc (an_lift (fun live => ak_iadd dL_law_534 rfl)) <|
  an_kc (nk_sld dL_law_535 rfl) <|
  an_kc (an_lift (fun live => ak_aload_n dL_law_536 rfl rfl)) <|
  an_kc (an_lift (fun live => ak_iload_n dL_law_537 rfl rfl)) <|
  an_kc (an_lift (fun live => ak_iconst dL_law_538 (by decide +kernel) rfl)) <|
  an_kc (an_lift (fun live => ak_iadd dL_law_539 rfl)) <|
  an_kc (nk_sld dL_law_540 rfl) <|
  an_kc (an_lift (fun live => ak_aload_n dL_law_541 rfl rfl)) <|
  an_kc (an_lift (fun live => ak_iload_n dL_law_542 rfl rfl)) <|
  an_kc (an_lift (fun live => ak_iconst dL_law_543 (by decide +kernel) rfl)) <|
  an_kc (an_lift (fun live => ak_iadd dL_law_544 rfl)) <|
  an_kc (nk_sld dL_law_545 rfl) <|
  an_kc (an_lift (fun live => ak_aload_n dL_law_546 rfl rfl)) <|
  an_kc (an_lift (fun live => ak_iload_n dL_law_547 rfl rfl)) <|
  an_kc (an_lift (fun live => ak_bipush dL_law_548 (by decide +kernel) rfl)) <|
  an_kc (an_lift (fun live => ak_iadd dL_law_550 rfl)) <|
  an_kc (nk_sld dL_law_551 rfl) <|
  an_kc (an_lift (fun live => ak_callV (C := RX7) (F := TX7) (N := 4) metW_act rfl ⟨rfl, by decide +kernel, by decide +kernel, by decide +kernel⟩ (am_w5 wd_462 wd_463 wd_464 wd_58 wd_465) (by decide) dL_law_552 rfl)) <|
  an_kc (an_lift (fun live => ak_pop dL_law_555 rfl)) <|
  an_kc (an_lift (fun live => ak_aload_n dL_law_556 rfl rfl)) <|
  an_kc (an_lift (fun live => ak_aload_n dL_law_557 rfl rfl)) <|
  an_kc (an_lift (fun live => ak_iload_n dL_law_558 rfl rfl)) <|
  an_kc (an_lift (fun live => ak_iconst dL_law_559 (by decide +kernel) rfl)) <|
  an_kc (an_lift (fun live => ak_iadd dL_law_560 rfl)) <|
  an_kc (nk_sld dL_law_561 rfl) <|
  an_kc (an_lift (fun live => ak_aload_n dL_law_562 rfl rfl)) <|
  an_kc (an_lift (fun live => ak_iload_n dL_law_563 rfl rfl)) <|
  an_kc (an_lift (fun live => ak_iconst dL_law_564 (by decide +kernel) rfl)) <|
  an_kc (an_lift (fun live => ak_iadd dL_law_565 rfl)) <|
  an_kc (nk_sld dL_law_566 rfl) <|
  an_kc (an_lift (fun live => ak_aload_n dL_law_567 rfl rfl)) <|
  an_kc (an_lift (fun live => ak_iload_n dL_law_568 rfl rfl)) <|
  an_kc (an_lift (fun live => ak_iconst dL_law_569 (by decide +kernel) rfl)) <|
  an_kc (an_lift (fun live => ak_iadd dL_law_570 rfl)) <|
  an_kc (nk_sld dL_law_571 rfl) <|
  an_kc (an_lift (fun live => ak_aload_n dL_law_572 rfl rfl)) <|
  an_kc (an_lift (fun live => ak_iload_n dL_law_573 rfl rfl)) <|
  an_kc (an_lift (fun live => ak_iconst dL_law_574 (by decide +kernel) rfl)) <|
  an_kc (an_lift (fun live => ak_iadd dL_law_575 rfl)) <|
  an_kc (nk_sld dL_law_576 rfl) <|
  an_kc (an_lift (fun live => ak_aload_n dL_law_577 rfl rfl)) <|
  an_kc (an_lift (fun live => ak_iload_n dL_law_578 rfl rfl)) <|
  an_kc (an_lift (fun live => ak_iconst dL_law_579 (by decide +kernel) rfl)) <|
  an_kc (an_lift (fun live => ak_iadd dL_law_580 rfl)) <|
  an_kc (nk_sld dL_law_581 rfl) <|
  an_kc (an_lift (fun live => ak_aload_n dL_law_582 rfl rfl)) <|
  an_kc (an_lift (fun live => ak_iload_n dL_law_583 rfl rfl)) <|
  an_kc (an_lift (fun live => ak_bipush dL_law_584 (by decide +kernel) rfl)) <|
  an_kc (an_lift (fun live => ak_iadd dL_law_586 rfl)) <|
  an_kc (nk_sld dL_law_587 rfl) <|
  an_kc (an_lift (fun live => ak_callV (C := RX8) (F := TX8) (N := 27) metX8_act rfl ⟨rfl, by decide +kernel, by decide +kernel, by decide +kernel⟩ (am_w5 wd_1030 wd_1031 wd_1032 wd_67 wd_1033) (by decide) dL_law_588 rfl)) <|
  an_kc (an_lift (fun live => ak_pop dL_law_591 rfl)) <|
  an_kc (an_lift (fun live => ak_goto dL_law_592 (by decide +kernel))) <| an_kn
set_option maxRecDepth 100000 in
set_option maxHeartbeats 4000000 in
theorem caseL_c8 {Ln : Nat} (xs : Nat → Int32) {i : Int32} {i1 i2 : Bool} {kc kn : Nat} {M : am_M} (h : LX i1 i2 M) (hi : lawI Ln i kc kn) : an_wp (kL_c8 Ln xs) (lawC Ln i) 200 (an_go (kL_c8 Ln xs) 520) (lawL i) [] ((am_lv i1 i2, am_q i1 i2), kc, kn, M) := by
    obtain ⟨⟨f1, f2, f3, f4, f5, f6, f7⟩, k1, k2, k3, k4⟩ := hi.f
    have hmn : am_mn (am_lv i1 i2, am_q i1 i2) := ⟨_, _, rfl⟩
    repeat' (first | (with_reducible exact f1) | (with_reducible exact f2) | (with_reducible exact f3) | (with_reducible exact f4) | (with_reducible exact f5) | (with_reducible exact f6) | (with_reducible exact f7) | (with_reducible exact hmn) | (with_reducible exact h) | (with_reducible exact k1) | (with_reducible exact k2) | (with_reducible exact k3) | (with_reducible exact k4) | apply And.intro | exact rfl | ((with_reducible change r_I _); (with_reducible assumption)) | (intro hx; exact absurd hx (by decide)) | (intro hx; exact absurd (by decide) hx) | decide | intro hx | (refine Exists.intro _ (And.intro rfl ?_)) | (refine Exists.intro _ (Exists.intro _ (And.intro rfl (And.intro rfl ?_)))) | ((with_reducible change LX _ _ _); (with_reducible assumption)) | ((with_reducible change _ = true); simp only [k1, k2, k3, k4, Bool.true_and]; rfl))
    all_goals try first | (with_reducible change am_tI _ _) | (change Ret _ _) | (change Ret _ _ _) | (change Exists _)
    all_goals try dsimp only at *
    all_goals try exact absurd ‹(1000 : Int64) = 0› (by decide)
    all_goals first
      | exact ⟨_, _, rfl⟩
      | exact lawE.mk hi (by with_reducible assumption) (by omega) (by omega)
      | skip
theorem dL_law_595 : decode cL_law 595 = .ok (.aload_n 1, 1) := by decide +kernel
theorem dL_law_596 : decode cL_law 596 = .ok (.aload_n 0, 1) := by decide +kernel
theorem dL_law_597 : decode cL_law 597 = .ok (.iload_n 3, 1) := by decide +kernel
theorem dL_law_598 : decode cL_law 598 = .ok (.iconst 1, 1) := by decide +kernel
theorem dL_law_599 : decode cL_law 599 = .ok (.iadd, 1) := by decide +kernel
theorem dL_law_600 : decode cL_law 600 = .ok (.iaload, 1) := by decide +kernel
theorem dL_law_601 : decode cL_law 601 = .ok (.aload_n 0, 1) := by decide +kernel
theorem dL_law_602 : decode cL_law 602 = .ok (.iload_n 3, 1) := by decide +kernel
theorem dL_law_603 : decode cL_law 603 = .ok (.iconst 2, 1) := by decide +kernel
theorem dL_law_604 : decode cL_law 604 = .ok (.iadd, 1) := by decide +kernel
theorem dL_law_605 : decode cL_law 605 = .ok (.iaload, 1) := by decide +kernel
theorem dL_law_606 : decode cL_law 606 = .ok (.aload_n 0, 1) := by decide +kernel
theorem dL_law_607 : decode cL_law 607 = .ok (.iload_n 3, 1) := by decide +kernel
theorem dL_law_608 : decode cL_law 608 = .ok (.iconst 3, 1) := by decide +kernel
theorem dL_law_609 : decode cL_law 609 = .ok (.iadd, 1) := by decide +kernel
theorem dL_law_610 : decode cL_law 610 = .ok (.iaload, 1) := by decide +kernel
theorem dL_law_611 : decode cL_law 611 = .ok (.aload_n 0, 1) := by decide +kernel
theorem dL_law_612 : decode cL_law 612 = .ok (.iload_n 3, 1) := by decide +kernel
theorem dL_law_613 : decode cL_law 613 = .ok (.iconst 4, 1) := by decide +kernel
theorem dL_law_614 : decode cL_law 614 = .ok (.iadd, 1) := by decide +kernel
theorem dL_law_615 : decode cL_law 615 = .ok (.iaload, 1) := by decide +kernel
set_option maxRecDepth 100000 in
theorem wd_489 : Cond.methodLink "LearnLoansLaw" 54 yX7_force ∈ am_ws := am_wsi (List.mem_of_getElem? (i := 489) (by rfl)) (by decide +kernel)
theorem dL_law_616 : decode cL_law 616 = .ok (.invokevirtual 54, 3) := by decide +kernel
theorem dL_law_619 : decode cL_law 619 = .ok (.pop, 1) := by decide +kernel
theorem dL_law_620 : decode cL_law 620 = .ok (.aload_n 2, 1) := by decide +kernel
theorem dL_law_621 : decode cL_law 621 = .ok (.aload_n 0, 1) := by decide +kernel
theorem dL_law_622 : decode cL_law 622 = .ok (.iload_n 3, 1) := by decide +kernel
theorem dL_law_623 : decode cL_law 623 = .ok (.iconst 1, 1) := by decide +kernel
theorem dL_law_624 : decode cL_law 624 = .ok (.iadd, 1) := by decide +kernel
theorem dL_law_625 : decode cL_law 625 = .ok (.iaload, 1) := by decide +kernel
theorem dL_law_626 : decode cL_law 626 = .ok (.aload_n 0, 1) := by decide +kernel
theorem dL_law_627 : decode cL_law 627 = .ok (.iload_n 3, 1) := by decide +kernel
theorem dL_law_628 : decode cL_law 628 = .ok (.iconst 2, 1) := by decide +kernel
theorem dL_law_629 : decode cL_law 629 = .ok (.iadd, 1) := by decide +kernel
theorem dL_law_630 : decode cL_law 630 = .ok (.iaload, 1) := by decide +kernel
theorem dL_law_631 : decode cL_law 631 = .ok (.aload_n 0, 1) := by decide +kernel
theorem dL_law_632 : decode cL_law 632 = .ok (.iload_n 3, 1) := by decide +kernel
theorem dL_law_633 : decode cL_law 633 = .ok (.iconst 3, 1) := by decide +kernel
theorem dL_law_634 : decode cL_law 634 = .ok (.iadd, 1) := by decide +kernel
theorem dL_law_635 : decode cL_law 635 = .ok (.iaload, 1) := by decide +kernel
theorem dL_law_636 : decode cL_law 636 = .ok (.aload_n 0, 1) := by decide +kernel
theorem dL_law_637 : decode cL_law 637 = .ok (.iload_n 3, 1) := by decide +kernel
theorem dL_law_638 : decode cL_law 638 = .ok (.iconst 4, 1) := by decide +kernel
theorem dL_law_639 : decode cL_law 639 = .ok (.iadd, 1) := by decide +kernel
theorem dL_law_640 : decode cL_law 640 = .ok (.iaload, 1) := by decide +kernel
set_option maxRecDepth 100000 in
theorem wd_1049 : Cond.methodLink "LearnLoansLaw" 57 yX8_force ∈ am_ws := am_wsi (List.mem_of_getElem? (i := 1049) (by rfl)) (by decide +kernel)
set_option maxRecDepth 100000 in
theorem wd_1050 : Cond.instanceMethod yX8_force ∈ am_ws := am_wsi (List.mem_of_getElem? (i := 1050) (by rfl)) (by decide +kernel)
set_option maxRecDepth 100000 in
theorem wd_1051 : Cond.selects "LearnLoansModel" yX8_force yX8_force ∈ am_ws := am_wsi (List.mem_of_getElem? (i := 1051) (by rfl)) (by decide +kernel)
set_option maxRecDepth 100000 in
theorem wd_1052 : Cond.code yX8_force cX8_force 5 (some .int) ∈ am_ws := am_wsi (List.mem_of_getElem? (i := 1052) (by rfl)) (by decide +kernel)
theorem dL_law_641 : decode cL_law 641 = .ok (.invokevirtual 57, 3) := by decide +kernel
theorem dL_law_644 : decode cL_law 644 = .ok (.pop, 1) := by decide +kernel
theorem dL_law_645 : decode cL_law 645 = .ok (.goto 1196, 3) := by decide +kernel
def kL_c9 (Ln : Nat) (xs : Nat → Int32) : an_code := [(595, an_lf (fun live => am_aload 1 596)), (596, an_lf (fun live => am_aload 0 597)), (597, an_lf (fun live => am_iload 3 598)), (598, an_lf (fun live => am_const (.int 1) 599)), (599, an_lf (fun live => am_i2 (fun x y => x + y) 600)), (600, an_sld Ln xs 601), (601, an_lf (fun live => am_aload 0 602)), (602, an_lf (fun live => am_iload 3 603)), (603, an_lf (fun live => am_const (.int 2) 604)), (604, an_lf (fun live => am_i2 (fun x y => x + y) 605)), (605, an_sld Ln xs 606), (606, an_lf (fun live => am_aload 0 607)), (607, an_lf (fun live => am_iload 3 608)), (608, an_lf (fun live => am_const (.int 3) 609)), (609, an_lf (fun live => am_i2 (fun x y => x + y) 610)), (610, an_sld Ln xs 611), (611, an_lf (fun live => am_aload 0 612)), (612, an_lf (fun live => am_iload 3 613)), (613, an_lf (fun live => am_const (.int 4) 614)), (614, an_lf (fun live => am_i2 (fun x y => x + y) 615)), (615, an_sld Ln xs 616), (616, an_lf (fun live => am_callV live 7 4 TW_force 619)), (619, an_lf (fun live => am_pop 620)), (620, an_lf (fun live => am_aload 2 621)), (621, an_lf (fun live => am_aload 0 622)), (622, an_lf (fun live => am_iload 3 623)), (623, an_lf (fun live => am_const (.int 1) 624)), (624, an_lf (fun live => am_i2 (fun x y => x + y) 625)), (625, an_sld Ln xs 626), (626, an_lf (fun live => am_aload 0 627)), (627, an_lf (fun live => am_iload 3 628)), (628, an_lf (fun live => am_const (.int 2) 629)), (629, an_lf (fun live => am_i2 (fun x y => x + y) 630)), (630, an_sld Ln xs 631), (631, an_lf (fun live => am_aload 0 632)), (632, an_lf (fun live => am_iload 3 633)), (633, an_lf (fun live => am_const (.int 3) 634)), (634, an_lf (fun live => am_i2 (fun x y => x + y) 635)), (635, an_sld Ln xs 636), (636, an_lf (fun live => am_aload 0 637)), (637, an_lf (fun live => am_iload 3 638)), (638, an_lf (fun live => am_const (.int 4) 639)), (639, an_lf (fun live => am_i2 (fun x y => x + y) 640)), (640, an_sld Ln xs 641), (641, an_lf (fun live => am_callV live 8 4 TV_force 644)), (644, an_lf (fun live => am_pop 645)), (645, an_lf (fun live => am_goto 1841))]
theorem koL_c9 (Ln : Nat) (xs : Nat → Int32) : ∀ q ∈ kL_c9 Ln xs, an_ok RL cL_law 4 (some .boolean) 2000 80000 600000 7302250 false (lawP Ln xs) an_noR q.1 q.2 :=
  an_kc (an_lift (fun live => ak_aload_n dL_law_595 rfl rfl)) <|
  an_kc (an_lift (fun live => ak_aload_n dL_law_596 rfl rfl)) <|
  an_kc (an_lift (fun live => ak_iload_n dL_law_597 rfl rfl)) <|
  an_kc (an_lift (fun live => ak_iconst dL_law_598 (by decide +kernel) rfl)) <|
  an_kc (an_lift (fun live => ak_iadd dL_law_599 rfl)) <|
  an_kc (nk_sld dL_law_600 rfl) <|
  an_kc (an_lift (fun live => ak_aload_n dL_law_601 rfl rfl)) <|
  an_kc (an_lift (fun live => ak_iload_n dL_law_602 rfl rfl)) <|
  an_kc (an_lift (fun live => ak_iconst dL_law_603 (by decide +kernel) rfl)) <|
  an_kc (an_lift (fun live => ak_iadd dL_law_604 rfl)) <|
  an_kc (nk_sld dL_law_605 rfl) <|
  an_kc (an_lift (fun live => ak_aload_n dL_law_606 rfl rfl)) <|
  an_kc (an_lift (fun live => ak_iload_n dL_law_607 rfl rfl)) <|
  an_kc (an_lift (fun live => ak_iconst dL_law_608 (by decide +kernel) rfl)) <|
  an_kc (an_lift (fun live => ak_iadd dL_law_609 rfl)) <|
  an_kc (nk_sld dL_law_610 rfl) <|
  an_kc (an_lift (fun live => ak_aload_n dL_law_611 rfl rfl)) <|
  an_kc (an_lift (fun live => ak_iload_n dL_law_612 rfl rfl)) <|
  an_kc (an_lift (fun live => ak_iconst dL_law_613 (by decide +kernel) rfl)) <|
  an_kc (an_lift (fun live => ak_iadd dL_law_614 rfl)) <|
  an_kc (nk_sld dL_law_615 rfl) <|
  an_kc (an_lift (fun live => ak_callV (C := RX7) (F := TX7) (N := 4) metW_force rfl ⟨rfl, by decide +kernel, by decide +kernel, by decide +kernel⟩ (am_w5 wd_489 wd_490 wd_491 wd_58 wd_492) (by decide) dL_law_616 rfl)) <|
  an_kc (an_lift (fun live => ak_pop dL_law_619 rfl)) <|
  an_kc (an_lift (fun live => ak_aload_n dL_law_620 rfl rfl)) <|
  an_kc (an_lift (fun live => ak_aload_n dL_law_621 rfl rfl)) <|
  an_kc (an_lift (fun live => ak_iload_n dL_law_622 rfl rfl)) <|
  an_kc (an_lift (fun live => ak_iconst dL_law_623 (by decide +kernel) rfl)) <|
  an_kc (an_lift (fun live => ak_iadd dL_law_624 rfl)) <|
  an_kc (nk_sld dL_law_625 rfl) <|
  an_kc (an_lift (fun live => ak_aload_n dL_law_626 rfl rfl)) <|
  an_kc (an_lift (fun live => ak_iload_n dL_law_627 rfl rfl)) <|
  an_kc (an_lift (fun live => ak_iconst dL_law_628 (by decide +kernel) rfl)) <|
  an_kc (an_lift (fun live => ak_iadd dL_law_629 rfl)) <|
  an_kc (nk_sld dL_law_630 rfl) <|
  an_kc (an_lift (fun live => ak_aload_n dL_law_631 rfl rfl)) <|
  an_kc (an_lift (fun live => ak_iload_n dL_law_632 rfl rfl)) <|
  an_kc (an_lift (fun live => ak_iconst dL_law_633 (by decide +kernel) rfl)) <|
  an_kc (an_lift (fun live => ak_iadd dL_law_634 rfl)) <|
  an_kc (nk_sld dL_law_635 rfl) <|
  an_kc (an_lift (fun live => ak_aload_n dL_law_636 rfl rfl)) <|
  an_kc (an_lift (fun live => ak_iload_n dL_law_637 rfl rfl)) <|
  an_kc (an_lift (fun live => ak_iconst dL_law_638 (by decide +kernel) rfl)) <|
  an_kc (an_lift (fun live => ak_iadd dL_law_639 rfl)) <|
  an_kc (nk_sld dL_law_640 rfl) <|
  an_kc (an_lift (fun live => ak_callV (C := RX8) (F := TX8) (N := 27) metV_force rfl ⟨rfl, by decide +kernel, by decide +kernel, by decide +kernel⟩ (am_w5 wd_1049 wd_1050 wd_1051 wd_67 wd_1052) (by decide) dL_law_641 rfl)) <|
  an_kc (an_lift (fun live => ak_pop dL_law_644 rfl)) <|
  an_kc (an_lift (fun live => ak_goto dL_law_645 (by decide +kernel))) <| an_kn
set_option maxRecDepth 100000 in
set_option maxHeartbeats 4000000 in
theorem caseL_c9 {Ln : Nat} (xs : Nat → Int32) {i : Int32} {i1 i2 : Bool} {kc kn : Nat} {M : am_M} (h : LX i1 i2 M) (hi : lawI Ln i kc kn) : an_wp (kL_c9 Ln xs) (lawC Ln i) 200 (an_go (kL_c9 Ln xs) 595) (lawL i) [] ((am_lv i1 i2, am_q i1 i2), kc, kn, M) := by
    obtain ⟨⟨f1, f2, f3, f4, f5, f6, f7⟩, k1, k2, k3, k4⟩ := hi.f
    have hmn : am_mn (am_lv i1 i2, am_q i1 i2) := ⟨_, _, rfl⟩
    repeat' (first | (with_reducible exact f1) | (with_reducible exact f2) | (with_reducible exact f3) | (with_reducible exact f4) | (with_reducible exact f5) | (with_reducible exact f6) | (with_reducible exact f7) | (with_reducible exact hmn) | (with_reducible exact h) | (with_reducible exact k1) | (with_reducible exact k2) | (with_reducible exact k3) | (with_reducible exact k4) | apply And.intro | exact rfl | ((with_reducible change r_I _); (with_reducible assumption)) | (intro hx; exact absurd hx (by decide)) | (intro hx; exact absurd (by decide) hx) | decide | intro hx | (refine Exists.intro _ (And.intro rfl ?_)) | (refine Exists.intro _ (Exists.intro _ (And.intro rfl (And.intro rfl ?_)))) | ((with_reducible change LX _ _ _); (with_reducible assumption)) | ((with_reducible change _ = true); simp only [k1, k2, k3, k4, Bool.true_and]; rfl))
    all_goals try first | (with_reducible change am_tI _ _) | (change Ret _ _) | (change Ret _ _ _) | (change Exists _)
    all_goals try dsimp only at *
    all_goals try exact absurd ‹(1000 : Int64) = 0› (by decide)
    all_goals first
      | exact ⟨_, _, rfl⟩
      | exact lawE.mk hi (by with_reducible assumption) (by omega) (by omega)
      | skip
theorem dL_law_648 : decode cL_law 648 = .ok (.aload_n 1, 1) := by decide +kernel
theorem dL_law_649 : decode cL_law 649 = .ok (.aload_n 0, 1) := by decide +kernel
theorem dL_law_650 : decode cL_law 650 = .ok (.iload_n 3, 1) := by decide +kernel
theorem dL_law_651 : decode cL_law 651 = .ok (.iconst 1, 1) := by decide +kernel
theorem dL_law_652 : decode cL_law 652 = .ok (.iadd, 1) := by decide +kernel
theorem dL_law_653 : decode cL_law 653 = .ok (.iaload, 1) := by decide +kernel
theorem dL_law_654 : decode cL_law 654 = .ok (.aload_n 0, 1) := by decide +kernel
theorem dL_law_655 : decode cL_law 655 = .ok (.iload_n 3, 1) := by decide +kernel
theorem dL_law_656 : decode cL_law 656 = .ok (.iconst 2, 1) := by decide +kernel
theorem dL_law_657 : decode cL_law 657 = .ok (.iadd, 1) := by decide +kernel
theorem dL_law_658 : decode cL_law 658 = .ok (.iaload, 1) := by decide +kernel
theorem dL_law_659 : decode cL_law 659 = .ok (.aload_n 0, 1) := by decide +kernel
theorem dL_law_660 : decode cL_law 660 = .ok (.iload_n 3, 1) := by decide +kernel
theorem dL_law_661 : decode cL_law 661 = .ok (.iconst 3, 1) := by decide +kernel
theorem dL_law_662 : decode cL_law 662 = .ok (.iadd, 1) := by decide +kernel
theorem dL_law_663 : decode cL_law 663 = .ok (.iaload, 1) := by decide +kernel
theorem dL_law_664 : decode cL_law 664 = .ok (.aload_n 0, 1) := by decide +kernel
theorem dL_law_665 : decode cL_law 665 = .ok (.iload_n 3, 1) := by decide +kernel
theorem dL_law_666 : decode cL_law 666 = .ok (.iconst 4, 1) := by decide +kernel
theorem dL_law_667 : decode cL_law 667 = .ok (.iadd, 1) := by decide +kernel
theorem dL_law_668 : decode cL_law 668 = .ok (.iaload, 1) := by decide +kernel
theorem dL_law_669 : decode cL_law 669 = .ok (.aload_n 0, 1) := by decide +kernel
theorem dL_law_670 : decode cL_law 670 = .ok (.iload_n 3, 1) := by decide +kernel
theorem dL_law_671 : decode cL_law 671 = .ok (.iconst 5, 1) := by decide +kernel
theorem dL_law_672 : decode cL_law 672 = .ok (.iadd, 1) := by decide +kernel
theorem dL_law_673 : decode cL_law 673 = .ok (.iaload, 1) := by decide +kernel
theorem dL_law_674 : decode cL_law 674 = .ok (.ifCond .eq 7, 3) := by decide +kernel
theorem dL_law_677 : decode cL_law 677 = .ok (.iconst 1, 1) := by decide +kernel
theorem dL_law_678 : decode cL_law 678 = .ok (.goto 4, 3) := by decide +kernel
theorem dL_law_681 : decode cL_law 681 = .ok (.iconst 0, 1) := by decide +kernel
set_option maxRecDepth 100000 in
theorem wd_510 : Cond.methodLink "LearnLoansLaw" 58 yX7_loan ∈ am_ws := am_wsi (List.mem_of_getElem? (i := 510) (by rfl)) (by decide +kernel)
set_option maxRecDepth 100000 in
theorem wd_511 : Cond.instanceMethod yX7_loan ∈ am_ws := am_wsi (List.mem_of_getElem? (i := 511) (by rfl)) (by decide +kernel)
set_option maxRecDepth 100000 in
theorem wd_512 : Cond.selects "LearnLoans" yX7_loan yX7_loan ∈ am_ws := am_wsi (List.mem_of_getElem? (i := 512) (by rfl)) (by decide +kernel)
set_option maxRecDepth 100000 in
theorem wd_513 : Cond.code yX7_loan cX7_loan 8 (some .int) ∈ am_ws := am_wsi (List.mem_of_getElem? (i := 513) (by rfl)) (by decide +kernel)
theorem dL_law_682 : decode cL_law 682 = .ok (.invokevirtual 58, 3) := by decide +kernel
theorem dL_law_685 : decode cL_law 685 = .ok (.pop, 1) := by decide +kernel
theorem dL_law_686 : decode cL_law 686 = .ok (.aload_n 2, 1) := by decide +kernel
theorem dL_law_687 : decode cL_law 687 = .ok (.aload_n 0, 1) := by decide +kernel
theorem dL_law_688 : decode cL_law 688 = .ok (.iload_n 3, 1) := by decide +kernel
theorem dL_law_689 : decode cL_law 689 = .ok (.iconst 1, 1) := by decide +kernel
theorem dL_law_690 : decode cL_law 690 = .ok (.iadd, 1) := by decide +kernel
theorem dL_law_691 : decode cL_law 691 = .ok (.iaload, 1) := by decide +kernel
theorem dL_law_692 : decode cL_law 692 = .ok (.aload_n 0, 1) := by decide +kernel
theorem dL_law_693 : decode cL_law 693 = .ok (.iload_n 3, 1) := by decide +kernel
theorem dL_law_694 : decode cL_law 694 = .ok (.iconst 2, 1) := by decide +kernel
theorem dL_law_695 : decode cL_law 695 = .ok (.iadd, 1) := by decide +kernel
theorem dL_law_696 : decode cL_law 696 = .ok (.iaload, 1) := by decide +kernel
theorem dL_law_697 : decode cL_law 697 = .ok (.aload_n 0, 1) := by decide +kernel
theorem dL_law_698 : decode cL_law 698 = .ok (.iload_n 3, 1) := by decide +kernel
theorem dL_law_699 : decode cL_law 699 = .ok (.iconst 3, 1) := by decide +kernel
theorem dL_law_700 : decode cL_law 700 = .ok (.iadd, 1) := by decide +kernel
theorem dL_law_701 : decode cL_law 701 = .ok (.iaload, 1) := by decide +kernel
theorem dL_law_702 : decode cL_law 702 = .ok (.aload_n 0, 1) := by decide +kernel
theorem dL_law_703 : decode cL_law 703 = .ok (.iload_n 3, 1) := by decide +kernel
theorem dL_law_704 : decode cL_law 704 = .ok (.iconst 4, 1) := by decide +kernel
theorem dL_law_705 : decode cL_law 705 = .ok (.iadd, 1) := by decide +kernel
theorem dL_law_706 : decode cL_law 706 = .ok (.iaload, 1) := by decide +kernel
theorem dL_law_707 : decode cL_law 707 = .ok (.aload_n 0, 1) := by decide +kernel
theorem dL_law_708 : decode cL_law 708 = .ok (.iload_n 3, 1) := by decide +kernel
theorem dL_law_709 : decode cL_law 709 = .ok (.iconst 5, 1) := by decide +kernel
theorem dL_law_710 : decode cL_law 710 = .ok (.iadd, 1) := by decide +kernel
theorem dL_law_711 : decode cL_law 711 = .ok (.iaload, 1) := by decide +kernel
theorem dL_law_712 : decode cL_law 712 = .ok (.ifCond .eq 7, 3) := by decide +kernel
theorem dL_law_715 : decode cL_law 715 = .ok (.iconst 1, 1) := by decide +kernel
theorem dL_law_716 : decode cL_law 716 = .ok (.goto 4, 3) := by decide +kernel
theorem dL_law_719 : decode cL_law 719 = .ok (.iconst 0, 1) := by decide +kernel
set_option maxRecDepth 100000 in
theorem wd_1061 : Cond.methodLink "LearnLoansLaw" 62 yX8_loan ∈ am_ws := am_wsi (List.mem_of_getElem? (i := 1061) (by rfl)) (by decide +kernel)
set_option maxRecDepth 100000 in
theorem wd_1062 : Cond.instanceMethod yX8_loan ∈ am_ws := am_wsi (List.mem_of_getElem? (i := 1062) (by rfl)) (by decide +kernel)
set_option maxRecDepth 100000 in
theorem wd_1063 : Cond.selects "LearnLoansModel" yX8_loan yX8_loan ∈ am_ws := am_wsi (List.mem_of_getElem? (i := 1063) (by rfl)) (by decide +kernel)
set_option maxRecDepth 100000 in
theorem wd_1064 : Cond.code yX8_loan cX8_loan 7 (some .int) ∈ am_ws := am_wsi (List.mem_of_getElem? (i := 1064) (by rfl)) (by decide +kernel)
theorem dL_law_720 : decode cL_law 720 = .ok (.invokevirtual 62, 3) := by decide +kernel
theorem dL_law_723 : decode cL_law 723 = .ok (.pop, 1) := by decide +kernel
theorem dL_law_724 : decode cL_law 724 = .ok (.goto 1117, 3) := by decide +kernel
def kL_c10 (Ln : Nat) (xs : Nat → Int32) : an_code := [(648, an_lf (fun live => am_aload 1 649)), (649, an_lf (fun live => am_aload 0 650)), (650, an_lf (fun live => am_iload 3 651)), (651, an_lf (fun live => am_const (.int 1) 652)), (652, an_lf (fun live => am_i2 (fun x y => x + y) 653)), (653, an_sld Ln xs 654), (654, an_lf (fun live => am_aload 0 655)), (655, an_lf (fun live => am_iload 3 656)), (656, an_lf (fun live => am_const (.int 2) 657)), (657, an_lf (fun live => am_i2 (fun x y => x + y) 658)), (658, an_sld Ln xs 659), (659, an_lf (fun live => am_aload 0 660)), (660, an_lf (fun live => am_iload 3 661)), (661, an_lf (fun live => am_const (.int 3) 662)), (662, an_lf (fun live => am_i2 (fun x y => x + y) 663)), (663, an_sld Ln xs 664), (664, an_lf (fun live => am_aload 0 665)), (665, an_lf (fun live => am_iload 3 666)), (666, an_lf (fun live => am_const (.int 4) 667)), (667, an_lf (fun live => am_i2 (fun x y => x + y) 668)), (668, an_sld Ln xs 669), (669, an_lf (fun live => am_aload 0 670)), (670, an_lf (fun live => am_iload 3 671)), (671, an_lf (fun live => am_const (.int 5) 672)), (672, an_lf (fun live => am_i2 (fun x y => x + y) 673)), (673, an_sld Ln xs 674), (674, an_lf (fun live => am_if1 (fun x => x = 0) 681 677)), (677, an_lf (fun live => am_const (.int 1) 678)), (678, an_lf (fun live => am_goto 682)), (681, an_lf (fun live => am_const (.int 0) 682)), (682, an_lf (fun live => am_callV live 7 5 TW_loan 685)), (685, an_lf (fun live => am_pop 686)), (686, an_lf (fun live => am_aload 2 687)), (687, an_lf (fun live => am_aload 0 688)), (688, an_lf (fun live => am_iload 3 689)), (689, an_lf (fun live => am_const (.int 1) 690)), (690, an_lf (fun live => am_i2 (fun x y => x + y) 691)), (691, an_sld Ln xs 692), (692, an_lf (fun live => am_aload 0 693)), (693, an_lf (fun live => am_iload 3 694)), (694, an_lf (fun live => am_const (.int 2) 695)), (695, an_lf (fun live => am_i2 (fun x y => x + y) 696)), (696, an_sld Ln xs 697), (697, an_lf (fun live => am_aload 0 698)), (698, an_lf (fun live => am_iload 3 699)), (699, an_lf (fun live => am_const (.int 3) 700)), (700, an_lf (fun live => am_i2 (fun x y => x + y) 701)), (701, an_sld Ln xs 702), (702, an_lf (fun live => am_aload 0 703)), (703, an_lf (fun live => am_iload 3 704)), (704, an_lf (fun live => am_const (.int 4) 705)), (705, an_lf (fun live => am_i2 (fun x y => x + y) 706)), (706, an_sld Ln xs 707), (707, an_lf (fun live => am_aload 0 708)), (708, an_lf (fun live => am_iload 3 709)), (709, an_lf (fun live => am_const (.int 5) 710)), (710, an_lf (fun live => am_i2 (fun x y => x + y) 711)), (711, an_sld Ln xs 712), (712, an_lf (fun live => am_if1 (fun x => x = 0) 719 715)), (715, an_lf (fun live => am_const (.int 1) 716)), (716, an_lf (fun live => am_goto 720)), (719, an_lf (fun live => am_const (.int 0) 720)), (720, an_lf (fun live => am_callV live 8 5 TX8_loan 723)), (723, an_lf (fun live => am_pop 724)), (724, an_lf (fun live => am_goto 1841))]
theorem koL_c10 (Ln : Nat) (xs : Nat → Int32) : ∀ q ∈ kL_c10 Ln xs, an_ok RL cL_law 4 (some .boolean) 2000 80000 600000 7302250 false (lawP Ln xs) an_noR q.1 q.2 :=
  an_kc (an_lift (fun live => ak_aload_n dL_law_648 rfl rfl)) <|
  an_kc (an_lift (fun live => ak_aload_n dL_law_649 rfl rfl)) <|
  an_kc (an_lift (fun live => ak_iload_n dL_law_650 rfl rfl)) <|
  an_kc (an_lift (fun live => ak_iconst dL_law_651 (by decide +kernel) rfl)) <|
  an_kc (an_lift (fun live => ak_iadd dL_law_652 rfl)) <|
  an_kc (nk_sld dL_law_653 rfl) <|
  an_kc (an_lift (fun live => ak_aload_n dL_law_654 rfl rfl)) <|
  an_kc (an_lift (fun live => ak_iload_n dL_law_655 rfl rfl)) <|
  an_kc (an_lift (fun live => ak_iconst dL_law_656 (by decide +kernel) rfl)) <|
  an_kc (an_lift (fun live => ak_iadd dL_law_657 rfl)) <|
  an_kc (nk_sld dL_law_658 rfl) <|
  an_kc (an_lift (fun live => ak_aload_n dL_law_659 rfl rfl)) <|
  an_kc (an_lift (fun live => ak_iload_n dL_law_660 rfl rfl)) <|
  an_kc (an_lift (fun live => ak_iconst dL_law_661 (by decide +kernel) rfl)) <|
  an_kc (an_lift (fun live => ak_iadd dL_law_662 rfl)) <|
  an_kc (nk_sld dL_law_663 rfl) <|
  an_kc (an_lift (fun live => ak_aload_n dL_law_664 rfl rfl)) <|
  an_kc (an_lift (fun live => ak_iload_n dL_law_665 rfl rfl)) <|
  an_kc (an_lift (fun live => ak_iconst dL_law_666 (by decide +kernel) rfl)) <|
  an_kc (an_lift (fun live => ak_iadd dL_law_667 rfl)) <|
  an_kc (nk_sld dL_law_668 rfl) <|
  an_kc (an_lift (fun live => ak_aload_n dL_law_669 rfl rfl)) <|
  an_kc (an_lift (fun live => ak_iload_n dL_law_670 rfl rfl)) <|
  an_kc (an_lift (fun live => ak_iconst dL_law_671 (by decide +kernel) rfl)) <|
  an_kc (an_lift (fun live => ak_iadd dL_law_672 rfl)) <|
  an_kc (nk_sld dL_law_673 rfl) <|
  an_kc (an_lift (fun live => ak_if_eq dL_law_674 (by decide +kernel) rfl)) <|
  an_kc (an_lift (fun live => ak_iconst dL_law_677 (by decide +kernel) rfl)) <|
  an_kc (an_lift (fun live => ak_goto dL_law_678 (by decide +kernel))) <|
  an_kc (an_lift (fun live => ak_iconst dL_law_681 (by decide +kernel) rfl)) <|
  an_kc (an_lift (fun live => ak_callV (C := RX7) (F := TX7) (N := 4) metW_loan rfl ⟨rfl, by decide +kernel, by decide +kernel, by decide +kernel⟩ (am_w5 wd_510 wd_511 wd_512 wd_58 wd_513) (by decide) dL_law_682 rfl)) <|
  an_kc (an_lift (fun live => ak_pop dL_law_685 rfl)) <|
  an_kc (an_lift (fun live => ak_aload_n dL_law_686 rfl rfl)) <|
  an_kc (an_lift (fun live => ak_aload_n dL_law_687 rfl rfl)) <|
  an_kc (an_lift (fun live => ak_iload_n dL_law_688 rfl rfl)) <|
  an_kc (an_lift (fun live => ak_iconst dL_law_689 (by decide +kernel) rfl)) <|
  an_kc (an_lift (fun live => ak_iadd dL_law_690 rfl)) <|
  an_kc (nk_sld dL_law_691 rfl) <|
  an_kc (an_lift (fun live => ak_aload_n dL_law_692 rfl rfl)) <|
  an_kc (an_lift (fun live => ak_iload_n dL_law_693 rfl rfl)) <|
  an_kc (an_lift (fun live => ak_iconst dL_law_694 (by decide +kernel) rfl)) <|
  an_kc (an_lift (fun live => ak_iadd dL_law_695 rfl)) <|
  an_kc (nk_sld dL_law_696 rfl) <|
  an_kc (an_lift (fun live => ak_aload_n dL_law_697 rfl rfl)) <|
  an_kc (an_lift (fun live => ak_iload_n dL_law_698 rfl rfl)) <|
  an_kc (an_lift (fun live => ak_iconst dL_law_699 (by decide +kernel) rfl)) <|
  an_kc (an_lift (fun live => ak_iadd dL_law_700 rfl)) <|
  an_kc (nk_sld dL_law_701 rfl) <|
  an_kc (an_lift (fun live => ak_aload_n dL_law_702 rfl rfl)) <|
  an_kc (an_lift (fun live => ak_iload_n dL_law_703 rfl rfl)) <|
  an_kc (an_lift (fun live => ak_iconst dL_law_704 (by decide +kernel) rfl)) <|
  an_kc (an_lift (fun live => ak_iadd dL_law_705 rfl)) <|
  an_kc (nk_sld dL_law_706 rfl) <|
  an_kc (an_lift (fun live => ak_aload_n dL_law_707 rfl rfl)) <|
  an_kc (an_lift (fun live => ak_iload_n dL_law_708 rfl rfl)) <|
  an_kc (an_lift (fun live => ak_iconst dL_law_709 (by decide +kernel) rfl)) <|
  an_kc (an_lift (fun live => ak_iadd dL_law_710 rfl)) <|
  an_kc (nk_sld dL_law_711 rfl) <|
  an_kc (an_lift (fun live => ak_if_eq dL_law_712 (by decide +kernel) rfl)) <|
  an_kc (an_lift (fun live => ak_iconst dL_law_715 (by decide +kernel) rfl)) <|
  an_kc (an_lift (fun live => ak_goto dL_law_716 (by decide +kernel))) <|
  an_kc (an_lift (fun live => ak_iconst dL_law_719 (by decide +kernel) rfl)) <|
  an_kc (an_lift (fun live => ak_callV (C := RX8) (F := TX8) (N := 27) metX8_loan rfl ⟨rfl, by decide +kernel, by decide +kernel, by decide +kernel⟩ (am_w5 wd_1061 wd_1062 wd_1063 wd_67 wd_1064) (by decide) dL_law_720 rfl)) <|
  an_kc (an_lift (fun live => ak_pop dL_law_723 rfl)) <|
  an_kc (an_lift (fun live => ak_goto dL_law_724 (by decide +kernel))) <| an_kn
set_option maxRecDepth 100000 in
set_option maxHeartbeats 4000000 in
theorem caseL_c10 {Ln : Nat} (xs : Nat → Int32) {i : Int32} {i1 i2 : Bool} {kc kn : Nat} {M : am_M} (h : LX i1 i2 M) (hi : lawI Ln i kc kn) : an_wp (kL_c10 Ln xs) (lawC Ln i) 200 (an_go (kL_c10 Ln xs) 648) (lawL i) [] ((am_lv i1 i2, am_q i1 i2), kc, kn, M) := by
    obtain ⟨⟨f1, f2, f3, f4, f5, f6, f7⟩, k1, k2, k3, k4⟩ := hi.f
    have hmn : am_mn (am_lv i1 i2, am_q i1 i2) := ⟨_, _, rfl⟩
    by_cases hz : xs (i + 5).toNatClampNeg = 0
    · skip
      repeat' (first | (with_reducible exact f1) | (with_reducible exact f2) | (with_reducible exact f3) | (with_reducible exact f4) | (with_reducible exact f5) | (with_reducible exact f6) | (with_reducible exact f7) | (with_reducible exact hmn) | (with_reducible exact h) | (with_reducible exact k1) | (with_reducible exact k2) | (with_reducible exact k3) | (with_reducible exact k4) | apply And.intro | exact rfl | (intro hx; with_reducible exact absurd hz hx) | ((with_reducible change r_I _); (with_reducible assumption)) | (intro hx; exact absurd hx (by decide)) | (intro hx; exact absurd (by decide) hx) | decide | intro hx | (refine Exists.intro _ (And.intro rfl ?_)) | (refine Exists.intro _ (Exists.intro _ (And.intro rfl (And.intro rfl ?_)))) | ((with_reducible change LX _ _ _); (with_reducible assumption)) | ((with_reducible change _ = true); simp only [k1, k2, k3, k4, Bool.true_and]; rfl))
      all_goals try first | (with_reducible change am_tI _ _) | (change Ret _ _) | (change Ret _ _ _) | (change Exists _)
      all_goals try dsimp only at *
      all_goals try exact absurd ‹(1000 : Int64) = 0› (by decide)
      all_goals first
        | exact ⟨_, _, rfl⟩
        | exact lawE.mk hi (by with_reducible assumption) (by omega) (by omega)
        | skip
    · skip
      repeat' (first | (with_reducible exact f1) | (with_reducible exact f2) | (with_reducible exact f3) | (with_reducible exact f4) | (with_reducible exact f5) | (with_reducible exact f6) | (with_reducible exact f7) | (with_reducible exact hmn) | (with_reducible exact h) | (with_reducible exact k1) | (with_reducible exact k2) | (with_reducible exact k3) | (with_reducible exact k4) | apply And.intro | exact rfl | (intro hx; with_reducible exact absurd hx hz) | ((with_reducible change r_I _); (with_reducible assumption)) | (intro hx; exact absurd hx (by decide)) | (intro hx; exact absurd (by decide) hx) | decide | intro hx | (refine Exists.intro _ (And.intro rfl ?_)) | (refine Exists.intro _ (Exists.intro _ (And.intro rfl (And.intro rfl ?_)))) | ((with_reducible change LX _ _ _); (with_reducible assumption)) | ((with_reducible change _ = true); simp only [k1, k2, k3, k4, Bool.true_and]; rfl))
      all_goals try first | (with_reducible change am_tI _ _) | (change Ret _ _) | (change Ret _ _ _) | (change Exists _)
      all_goals try dsimp only at *
      all_goals try exact absurd ‹(1000 : Int64) = 0› (by decide)
      all_goals first
        | exact ⟨_, _, rfl⟩
        | exact lawE.mk hi (by with_reducible assumption) (by omega) (by omega)
        | skip
theorem dL_law_727 : decode cL_law 727 = .ok (.aload_n 1, 1) := by decide +kernel
theorem dL_law_728 : decode cL_law 728 = .ok (.aload_n 0, 1) := by decide +kernel
theorem dL_law_729 : decode cL_law 729 = .ok (.iload_n 3, 1) := by decide +kernel
theorem dL_law_730 : decode cL_law 730 = .ok (.iconst 1, 1) := by decide +kernel
theorem dL_law_731 : decode cL_law 731 = .ok (.iadd, 1) := by decide +kernel
theorem dL_law_732 : decode cL_law 732 = .ok (.iaload, 1) := by decide +kernel
theorem dL_law_733 : decode cL_law 733 = .ok (.aload_n 0, 1) := by decide +kernel
theorem dL_law_734 : decode cL_law 734 = .ok (.iload_n 3, 1) := by decide +kernel
theorem dL_law_735 : decode cL_law 735 = .ok (.iconst 2, 1) := by decide +kernel
theorem dL_law_736 : decode cL_law 736 = .ok (.iadd, 1) := by decide +kernel
theorem dL_law_737 : decode cL_law 737 = .ok (.iaload, 1) := by decide +kernel
set_option maxRecDepth 100000 in
theorem wd_516 : Cond.methodLink "LearnLoansLaw" 63 yX7_leave ∈ am_ws := am_wsi (List.mem_of_getElem? (i := 516) (by rfl)) (by decide +kernel)
set_option maxRecDepth 100000 in
theorem wd_517 : Cond.instanceMethod yX7_leave ∈ am_ws := am_wsi (List.mem_of_getElem? (i := 517) (by rfl)) (by decide +kernel)
set_option maxRecDepth 100000 in
theorem wd_518 : Cond.selects "LearnLoans" yX7_leave yX7_leave ∈ am_ws := am_wsi (List.mem_of_getElem? (i := 518) (by rfl)) (by decide +kernel)
set_option maxRecDepth 100000 in
theorem wd_519 : Cond.code yX7_leave cX7_leave 4 (some .int) ∈ am_ws := am_wsi (List.mem_of_getElem? (i := 519) (by rfl)) (by decide +kernel)
theorem dL_law_738 : decode cL_law 738 = .ok (.invokevirtual 63, 3) := by decide +kernel
theorem dL_law_741 : decode cL_law 741 = .ok (.pop, 1) := by decide +kernel
theorem dL_law_742 : decode cL_law 742 = .ok (.aload_n 2, 1) := by decide +kernel
theorem dL_law_743 : decode cL_law 743 = .ok (.aload_n 0, 1) := by decide +kernel
theorem dL_law_744 : decode cL_law 744 = .ok (.iload_n 3, 1) := by decide +kernel
theorem dL_law_745 : decode cL_law 745 = .ok (.iconst 1, 1) := by decide +kernel
theorem dL_law_746 : decode cL_law 746 = .ok (.iadd, 1) := by decide +kernel
theorem dL_law_747 : decode cL_law 747 = .ok (.iaload, 1) := by decide +kernel
theorem dL_law_748 : decode cL_law 748 = .ok (.aload_n 0, 1) := by decide +kernel
theorem dL_law_749 : decode cL_law 749 = .ok (.iload_n 3, 1) := by decide +kernel
theorem dL_law_750 : decode cL_law 750 = .ok (.iconst 2, 1) := by decide +kernel
theorem dL_law_751 : decode cL_law 751 = .ok (.iadd, 1) := by decide +kernel
theorem dL_law_752 : decode cL_law 752 = .ok (.iaload, 1) := by decide +kernel
set_option maxRecDepth 100000 in
theorem wd_1065 : Cond.methodLink "LearnLoansLaw" 66 yX8_leave ∈ am_ws := am_wsi (List.mem_of_getElem? (i := 1065) (by rfl)) (by decide +kernel)
set_option maxRecDepth 100000 in
theorem wd_1066 : Cond.instanceMethod yX8_leave ∈ am_ws := am_wsi (List.mem_of_getElem? (i := 1066) (by rfl)) (by decide +kernel)
set_option maxRecDepth 100000 in
theorem wd_1067 : Cond.selects "LearnLoansModel" yX8_leave yX8_leave ∈ am_ws := am_wsi (List.mem_of_getElem? (i := 1067) (by rfl)) (by decide +kernel)
set_option maxRecDepth 100000 in
theorem wd_1068 : Cond.code yX8_leave cX8_leave 3 (some .int) ∈ am_ws := am_wsi (List.mem_of_getElem? (i := 1068) (by rfl)) (by decide +kernel)
theorem dL_law_753 : decode cL_law 753 = .ok (.invokevirtual 66, 3) := by decide +kernel
theorem dL_law_756 : decode cL_law 756 = .ok (.pop, 1) := by decide +kernel
theorem dL_law_757 : decode cL_law 757 = .ok (.goto 1084, 3) := by decide +kernel
def kL_c11 (Ln : Nat) (xs : Nat → Int32) : an_code := [(727, an_lf (fun live => am_aload 1 728)), (728, an_lf (fun live => am_aload 0 729)), (729, an_lf (fun live => am_iload 3 730)), (730, an_lf (fun live => am_const (.int 1) 731)), (731, an_lf (fun live => am_i2 (fun x y => x + y) 732)), (732, an_sld Ln xs 733), (733, an_lf (fun live => am_aload 0 734)), (734, an_lf (fun live => am_iload 3 735)), (735, an_lf (fun live => am_const (.int 2) 736)), (736, an_lf (fun live => am_i2 (fun x y => x + y) 737)), (737, an_sld Ln xs 738), (738, an_lf (fun live => am_callV live 7 2 TW_leave 741)), (741, an_lf (fun live => am_pop 742)), (742, an_lf (fun live => am_aload 2 743)), (743, an_lf (fun live => am_aload 0 744)), (744, an_lf (fun live => am_iload 3 745)), (745, an_lf (fun live => am_const (.int 1) 746)), (746, an_lf (fun live => am_i2 (fun x y => x + y) 747)), (747, an_sld Ln xs 748), (748, an_lf (fun live => am_aload 0 749)), (749, an_lf (fun live => am_iload 3 750)), (750, an_lf (fun live => am_const (.int 2) 751)), (751, an_lf (fun live => am_i2 (fun x y => x + y) 752)), (752, an_sld Ln xs 753), (753, an_lf (fun live => am_callV live 8 2 TX8_leave 756)), (756, an_lf (fun live => am_pop 757)), (757, an_lf (fun live => am_goto 1841))]
theorem koL_c11 (Ln : Nat) (xs : Nat → Int32) : ∀ q ∈ kL_c11 Ln xs, an_ok RL cL_law 4 (some .boolean) 2000 80000 600000 7302250 false (lawP Ln xs) an_noR q.1 q.2 :=
  an_kc (an_lift (fun live => ak_aload_n dL_law_727 rfl rfl)) <|
  an_kc (an_lift (fun live => ak_aload_n dL_law_728 rfl rfl)) <|
  an_kc (an_lift (fun live => ak_iload_n dL_law_729 rfl rfl)) <|
  an_kc (an_lift (fun live => ak_iconst dL_law_730 (by decide +kernel) rfl)) <|
  an_kc (an_lift (fun live => ak_iadd dL_law_731 rfl)) <|
  an_kc (nk_sld dL_law_732 rfl) <|
  an_kc (an_lift (fun live => ak_aload_n dL_law_733 rfl rfl)) <|
  an_kc (an_lift (fun live => ak_iload_n dL_law_734 rfl rfl)) <|
  an_kc (an_lift (fun live => ak_iconst dL_law_735 (by decide +kernel) rfl)) <|
  an_kc (an_lift (fun live => ak_iadd dL_law_736 rfl)) <|
  an_kc (nk_sld dL_law_737 rfl) <|
  an_kc (an_lift (fun live => ak_callV (C := RX7) (F := TX7) (N := 4) metW_leave rfl ⟨rfl, by decide +kernel, by decide +kernel, by decide +kernel⟩ (am_w5 wd_516 wd_517 wd_518 wd_58 wd_519) (by decide) dL_law_738 rfl)) <|
  an_kc (an_lift (fun live => ak_pop dL_law_741 rfl)) <|
  an_kc (an_lift (fun live => ak_aload_n dL_law_742 rfl rfl)) <|
  an_kc (an_lift (fun live => ak_aload_n dL_law_743 rfl rfl)) <|
  an_kc (an_lift (fun live => ak_iload_n dL_law_744 rfl rfl)) <|
  an_kc (an_lift (fun live => ak_iconst dL_law_745 (by decide +kernel) rfl)) <|
  an_kc (an_lift (fun live => ak_iadd dL_law_746 rfl)) <|
  an_kc (nk_sld dL_law_747 rfl) <|
  an_kc (an_lift (fun live => ak_aload_n dL_law_748 rfl rfl)) <|
  an_kc (an_lift (fun live => ak_iload_n dL_law_749 rfl rfl)) <|
  an_kc (an_lift (fun live => ak_iconst dL_law_750 (by decide +kernel) rfl)) <|
  an_kc (an_lift (fun live => ak_iadd dL_law_751 rfl)) <|
  an_kc (nk_sld dL_law_752 rfl) <|
  an_kc (an_lift (fun live => ak_callV (C := RX8) (F := TX8) (N := 27) metX8_leave rfl ⟨rfl, by decide +kernel, by decide +kernel, by decide +kernel⟩ (am_w5 wd_1065 wd_1066 wd_1067 wd_67 wd_1068) (by decide) dL_law_753 rfl)) <|
  an_kc (an_lift (fun live => ak_pop dL_law_756 rfl)) <|
  an_kc (an_lift (fun live => ak_goto dL_law_757 (by decide +kernel))) <| an_kn
set_option maxRecDepth 100000 in
set_option maxHeartbeats 4000000 in
theorem caseL_c11 {Ln : Nat} (xs : Nat → Int32) {i : Int32} {i1 i2 : Bool} {kc kn : Nat} {M : am_M} (h : LX i1 i2 M) (hi : lawI Ln i kc kn) : an_wp (kL_c11 Ln xs) (lawC Ln i) 200 (an_go (kL_c11 Ln xs) 727) (lawL i) [] ((am_lv i1 i2, am_q i1 i2), kc, kn, M) := by
    obtain ⟨⟨f1, f2, f3, f4, f5, f6, f7⟩, k1, k2, k3, k4⟩ := hi.f
    have hmn : am_mn (am_lv i1 i2, am_q i1 i2) := ⟨_, _, rfl⟩
    repeat' (first | (with_reducible exact f1) | (with_reducible exact f2) | (with_reducible exact f3) | (with_reducible exact f4) | (with_reducible exact f5) | (with_reducible exact f6) | (with_reducible exact f7) | (with_reducible exact hmn) | (with_reducible exact h) | (with_reducible exact k1) | (with_reducible exact k2) | (with_reducible exact k3) | (with_reducible exact k4) | apply And.intro | exact rfl | ((with_reducible change r_I _); (with_reducible assumption)) | (intro hx; exact absurd hx (by decide)) | (intro hx; exact absurd (by decide) hx) | decide | intro hx | (refine Exists.intro _ (And.intro rfl ?_)) | (refine Exists.intro _ (Exists.intro _ (And.intro rfl (And.intro rfl ?_)))) | ((with_reducible change LX _ _ _); (with_reducible assumption)) | ((with_reducible change _ = true); simp only [k1, k2, k3, k4, Bool.true_and]; rfl))
    all_goals try first | (with_reducible change am_tI _ _) | (change Ret _ _) | (change Ret _ _ _) | (change Exists _)
    all_goals try dsimp only at *
    all_goals try exact absurd ‹(1000 : Int64) = 0› (by decide)
    all_goals first
      | exact ⟨_, _, rfl⟩
      | exact lawE.mk hi (by with_reducible assumption) (by omega) (by omega)
      | skip
