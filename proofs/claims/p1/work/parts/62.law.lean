/-! p1: the law, cases from 9 -/
theorem dL_law_595 : decode cL_law 595 = .ok (.aload_n 1, 1) := by decide +kernel
theorem dL_law_596 : decode cL_law 596 = .ok (.aload_n 0, 1) := by decide +kernel
theorem dL_law_597 : decode cL_law 597 = .ok (.iload_n 3, 1) := by decide +kernel
theorem dL_law_598 : decode cL_law 598 = .ok (.iconst 1, 1) := by decide +kernel
theorem dL_law_599 : decode cL_law 599 = .ok (.iadd, 1) := by decide +kernel
theorem dL_law_600 : decode cL_law 600 = .ok (.iaload, 1) := by decide +kernel
theorem dL_law_601 : decode cL_law 601 = .ok (.aload_n 0, 1) := by decide +kernel
theorem dL_law_602 : decode cL_law 602 = .ok (.iload_n 3, 1) := by decide +kernel
theorem dL_law_603 : decode cL_law 603 = .ok (.iconst 2, 1) := by decide +kernel
theorem dL_law_604 : decode cL_law 604 = .ok (.iadd, 1) := by decide +kernel
theorem dL_law_605 : decode cL_law 605 = .ok (.iaload, 1) := by decide +kernel
theorem dL_law_606 : decode cL_law 606 = .ok (.aload_n 0, 1) := by decide +kernel
theorem dL_law_607 : decode cL_law 607 = .ok (.iload_n 3, 1) := by decide +kernel
theorem dL_law_608 : decode cL_law 608 = .ok (.iconst 3, 1) := by decide +kernel
theorem dL_law_609 : decode cL_law 609 = .ok (.iadd, 1) := by decide +kernel
theorem dL_law_610 : decode cL_law 610 = .ok (.iaload, 1) := by decide +kernel
theorem dL_law_611 : decode cL_law 611 = .ok (.aload_n 0, 1) := by decide +kernel
theorem dL_law_612 : decode cL_law 612 = .ok (.iload_n 3, 1) := by decide +kernel
theorem dL_law_613 : decode cL_law 613 = .ok (.iconst 4, 1) := by decide +kernel
theorem dL_law_614 : decode cL_law 614 = .ok (.iadd, 1) := by decide +kernel
theorem dL_law_615 : decode cL_law 615 = .ok (.iaload, 1) := by decide +kernel
theorem wd_489 : Cond.methodLink "LearnLoansLaw" 54 yX7_force ∈ am_ws := am_wsi (List.mem_of_getElem? (i := 489) (by decide +kernel)) (by decide +kernel)
theorem dL_law_616 : decode cL_law 616 = .ok (.invokevirtual 54, 3) := by decide +kernel
theorem dL_law_619 : decode cL_law 619 = .ok (.aload_n 2, 1) := by decide +kernel
theorem dL_law_620 : decode cL_law 620 = .ok (.aload_n 0, 1) := by decide +kernel
theorem dL_law_621 : decode cL_law 621 = .ok (.iload_n 3, 1) := by decide +kernel
theorem dL_law_622 : decode cL_law 622 = .ok (.iconst 1, 1) := by decide +kernel
theorem dL_law_623 : decode cL_law 623 = .ok (.iadd, 1) := by decide +kernel
theorem dL_law_624 : decode cL_law 624 = .ok (.iaload, 1) := by decide +kernel
theorem dL_law_625 : decode cL_law 625 = .ok (.aload_n 0, 1) := by decide +kernel
theorem dL_law_626 : decode cL_law 626 = .ok (.iload_n 3, 1) := by decide +kernel
theorem dL_law_627 : decode cL_law 627 = .ok (.iconst 2, 1) := by decide +kernel
theorem dL_law_628 : decode cL_law 628 = .ok (.iadd, 1) := by decide +kernel
theorem dL_law_629 : decode cL_law 629 = .ok (.iaload, 1) := by decide +kernel
theorem dL_law_630 : decode cL_law 630 = .ok (.aload_n 0, 1) := by decide +kernel
theorem dL_law_631 : decode cL_law 631 = .ok (.iload_n 3, 1) := by decide +kernel
theorem dL_law_632 : decode cL_law 632 = .ok (.iconst 3, 1) := by decide +kernel
theorem dL_law_633 : decode cL_law 633 = .ok (.iadd, 1) := by decide +kernel
theorem dL_law_634 : decode cL_law 634 = .ok (.iaload, 1) := by decide +kernel
theorem dL_law_635 : decode cL_law 635 = .ok (.aload_n 0, 1) := by decide +kernel
theorem dL_law_636 : decode cL_law 636 = .ok (.iload_n 3, 1) := by decide +kernel
theorem dL_law_637 : decode cL_law 637 = .ok (.iconst 4, 1) := by decide +kernel
theorem dL_law_638 : decode cL_law 638 = .ok (.iadd, 1) := by decide +kernel
theorem dL_law_639 : decode cL_law 639 = .ok (.iaload, 1) := by decide +kernel
theorem wd_1049 : Cond.methodLink "LearnLoansLaw" 57 yX8_force ∈ am_ws := am_wsi (List.mem_of_getElem? (i := 1049) (by decide +kernel)) (by decide +kernel)
theorem wd_1050 : Cond.instanceMethod yX8_force ∈ am_ws := am_wsi (List.mem_of_getElem? (i := 1050) (by decide +kernel)) (by decide +kernel)
theorem wd_1051 : Cond.selects "LearnLoansModel" yX8_force yX8_force ∈ am_ws := am_wsi (List.mem_of_getElem? (i := 1051) (by decide +kernel)) (by decide +kernel)
theorem wd_1052 : Cond.code yX8_force cX8_force 5 (some .int) ∈ am_ws := am_wsi (List.mem_of_getElem? (i := 1052) (by decide +kernel)) (by decide +kernel)
theorem dL_law_640 : decode cL_law 640 = .ok (.invokevirtual 57, 3) := by decide +kernel
theorem dL_law_643 : decode cL_law 643 = .ok (.if_icmp .eq 1206, 3) := by decide +kernel
def kL_c9 (Ln : Nat) (xs : Nat → Int32) : an_code := [(595, an_lf (fun live => am_aload 1 596)), (596, an_lf (fun live => am_aload 0 597)), (597, an_lf (fun live => am_iload 3 598)), (598, an_lf (fun live => am_const (.int 1) 599)), (599, an_lf (fun live => am_i2 (fun x y => x + y) 600)), (600, an_sld Ln xs 601), (601, an_lf (fun live => am_aload 0 602)), (602, an_lf (fun live => am_iload 3 603)), (603, an_lf (fun live => am_const (.int 2) 604)), (604, an_lf (fun live => am_i2 (fun x y => x + y) 605)), (605, an_sld Ln xs 606), (606, an_lf (fun live => am_aload 0 607)), (607, an_lf (fun live => am_iload 3 608)), (608, an_lf (fun live => am_const (.int 3) 609)), (609, an_lf (fun live => am_i2 (fun x y => x + y) 610)), (610, an_sld Ln xs 611), (611, an_lf (fun live => am_aload 0 612)), (612, an_lf (fun live => am_iload 3 613)), (613, an_lf (fun live => am_const (.int 4) 614)), (614, an_lf (fun live => am_i2 (fun x y => x + y) 615)), (615, an_sld Ln xs 616), (616, an_lf (fun live => am_callV live 7 4 TX7_force 619)), (619, an_lf (fun live => am_aload 2 620)), (620, an_lf (fun live => am_aload 0 621)), (621, an_lf (fun live => am_iload 3 622)), (622, an_lf (fun live => am_const (.int 1) 623)), (623, an_lf (fun live => am_i2 (fun x y => x + y) 624)), (624, an_sld Ln xs 625), (625, an_lf (fun live => am_aload 0 626)), (626, an_lf (fun live => am_iload 3 627)), (627, an_lf (fun live => am_const (.int 2) 628)), (628, an_lf (fun live => am_i2 (fun x y => x + y) 629)), (629, an_sld Ln xs 630), (630, an_lf (fun live => am_aload 0 631)), (631, an_lf (fun live => am_iload 3 632)), (632, an_lf (fun live => am_const (.int 3) 633)), (633, an_lf (fun live => am_i2 (fun x y => x + y) 634)), (634, an_sld Ln xs 635), (635, an_lf (fun live => am_aload 0 636)), (636, an_lf (fun live => am_iload 3 637)), (637, an_lf (fun live => am_const (.int 4) 638)), (638, an_lf (fun live => am_i2 (fun x y => x + y) 639)), (639, an_sld Ln xs 640), (640, an_lf (fun live => am_callV live 8 4 TX8_force 643)), (643, an_lf (fun live => am_if2 (fun x y => x = y) 1849 646))]
theorem koL_c9 (Ln : Nat) (xs : Nat → Int32) : ∀ q ∈ kL_c9 Ln xs, an_ok RL cL_law 4 (some .boolean) 2000 80000 600000 7302250 false (lawP Ln xs) an_noR q.1 q.2 :=
  an_kc (an_lift (fun live => ak_aload_n dL_law_595 rfl rfl)) <|
  an_kc (an_lift (fun live => ak_aload_n dL_law_596 rfl rfl)) <|
  an_kc (an_lift (fun live => ak_iload_n dL_law_597 rfl rfl)) <|
  an_kc (an_lift (fun live => ak_iconst dL_law_598 (by decide +kernel) rfl)) <|
  an_kc (an_lift (fun live => ak_iadd dL_law_599 rfl)) <|
  an_kc (nk_sld dL_law_600 rfl) <|
  an_kc (an_lift (fun live => ak_aload_n dL_law_601 rfl rfl)) <|
  an_kc (an_lift (fun live => ak_iload_n dL_law_602 rfl rfl)) <|
  an_kc (an_lift (fun live => ak_iconst dL_law_603 (by decide +kernel) rfl)) <|
  an_kc (an_lift (fun live => ak_iadd dL_law_604 rfl)) <|
  an_kc (nk_sld dL_law_605 rfl) <|
  an_kc (an_lift (fun live => ak_aload_n dL_law_606 rfl rfl)) <|
  an_kc (an_lift (fun live => ak_iload_n dL_law_607 rfl rfl)) <|
  an_kc (an_lift (fun live => ak_iconst dL_law_608 (by decide +kernel) rfl)) <|
  an_kc (an_lift (fun live => ak_iadd dL_law_609 rfl)) <|
  an_kc (nk_sld dL_law_610 rfl) <|
  an_kc (an_lift (fun live => ak_aload_n dL_law_611 rfl rfl)) <|
  an_kc (an_lift (fun live => ak_iload_n dL_law_612 rfl rfl)) <|
  an_kc (an_lift (fun live => ak_iconst dL_law_613 (by decide +kernel) rfl)) <|
  an_kc (an_lift (fun live => ak_iadd dL_law_614 rfl)) <|
  an_kc (nk_sld dL_law_615 rfl) <|
  an_kc (an_lift (fun live => ak_callV (C := RX7) (F := TX7) (N := 4) metX7_force rfl ⟨rfl, by decide +kernel, by decide +kernel, by decide +kernel⟩ (am_w5 wd_489 wd_490 wd_491 wd_58 wd_492) (by decide) dL_law_616 rfl)) <|
  an_kc (an_lift (fun live => ak_aload_n dL_law_619 rfl rfl)) <|
  an_kc (an_lift (fun live => ak_aload_n dL_law_620 rfl rfl)) <|
  an_kc (an_lift (fun live => ak_iload_n dL_law_621 rfl rfl)) <|
  an_kc (an_lift (fun live => ak_iconst dL_law_622 (by decide +kernel) rfl)) <|
  an_kc (an_lift (fun live => ak_iadd dL_law_623 rfl)) <|
  an_kc (nk_sld dL_law_624 rfl) <|
  an_kc (an_lift (fun live => ak_aload_n dL_law_625 rfl rfl)) <|
  an_kc (an_lift (fun live => ak_iload_n dL_law_626 rfl rfl)) <|
  an_kc (an_lift (fun live => ak_iconst dL_law_627 (by decide +kernel) rfl)) <|
  an_kc (an_lift (fun live => ak_iadd dL_law_628 rfl)) <|
  an_kc (nk_sld dL_law_629 rfl) <|
  an_kc (an_lift (fun live => ak_aload_n dL_law_630 rfl rfl)) <|
  an_kc (an_lift (fun live => ak_iload_n dL_law_631 rfl rfl)) <|
  an_kc (an_lift (fun live => ak_iconst dL_law_632 (by decide +kernel) rfl)) <|
  an_kc (an_lift (fun live => ak_iadd dL_law_633 rfl)) <|
  an_kc (nk_sld dL_law_634 rfl) <|
  an_kc (an_lift (fun live => ak_aload_n dL_law_635 rfl rfl)) <|
  an_kc (an_lift (fun live => ak_iload_n dL_law_636 rfl rfl)) <|
  an_kc (an_lift (fun live => ak_iconst dL_law_637 (by decide +kernel) rfl)) <|
  an_kc (an_lift (fun live => ak_iadd dL_law_638 rfl)) <|
  an_kc (nk_sld dL_law_639 rfl) <|
  an_kc (an_lift (fun live => ak_callV (C := RX8) (F := TX8) (N := 27) metX8_force rfl ⟨rfl, by decide +kernel, by decide +kernel, by decide +kernel⟩ (am_w5 wd_1049 wd_1050 wd_1051 wd_67 wd_1052) (by decide) dL_law_640 rfl)) <|
  an_kc (an_lift (fun live => ak_icmp_eq dL_law_643 (by decide +kernel) rfl)) <| an_kn
set_option maxRecDepth 100000 in
set_option maxHeartbeats 4000000 in
theorem caseL_c9 (xs : Nat → Int32) : an_wp (kL_c9 8 xs) lawC 200 (an_go (kL_c9 8 xs) 595) lawL [] lawX := by
    have f7 := an_Mf7
    have f8 := an_Mf8
    repeat' (first | (with_reducible exact f7) | (with_reducible exact f8) | apply And.intro | exact rfl | (intro hx; with_reducible exact absurd rfl hx) | (intro hx; with_reducible exact absurd ((lg_cmp_eq _ _).mpr rfl) hx) | (intro hx; exact absurd hx (by decide)) | (intro hx; exact absurd (by decide) hx) | decide | intro hx | (refine Exists.intro _ (And.intro rfl ?_)))
    all_goals try first | (with_reducible change am_tI _ _) | (change Ret _ _) | (change Ret _ _ _) | (change Exists _)
    all_goals try dsimp only at *
    all_goals try exact absurd ‹(1000 : Int64) = 0› (by decide)
    all_goals first
      | exact ⟨_, _, rfl⟩
      | exact f8.lo ‹am_ch am_lo _ _›
      | exact (f8.lo ‹am_ch am_lo _ _›).1 _ ‹_›
      | exact (f8.lo ‹am_ch am_lo _ _›).2.1 _ ‹_›
      | exact (f8.lo ‹am_ch am_lo _ _›).2.2.1 _ ‹_›
      | exact (f8.lo ‹am_ch am_lo _ _›).2.2.2.1 _ ‹_›
      | exact (f8.lo ‹am_ch am_lo _ _›).2.2.2.2 _ ‹_›
      | exact (f8.hi ‹∀ a k, 200 ≤ a → _›).1 _ ‹_›
      | exact (f8.hi ‹∀ a k, 200 ≤ a → _›).2.1 _ ‹_›
      | exact (f8.hi ‹∀ a k, 200 ≤ a → _›).2.2.1 _ ‹_›
      | exact (f8.hi ‹∀ a k, 200 ≤ a → _›).2.2.2.1 _ ‹_›
      | exact (f8.hi ‹∀ a k, 200 ≤ a → _›).2.2.2.2 _ ‹_›
      | decide
theorem dL_law_648 : decode cL_law 648 = .ok (.aload_n 1, 1) := by decide +kernel
theorem dL_law_649 : decode cL_law 649 = .ok (.aload_n 0, 1) := by decide +kernel
theorem dL_law_650 : decode cL_law 650 = .ok (.iload_n 3, 1) := by decide +kernel
theorem dL_law_651 : decode cL_law 651 = .ok (.iconst 1, 1) := by decide +kernel
theorem dL_law_652 : decode cL_law 652 = .ok (.iadd, 1) := by decide +kernel
theorem dL_law_653 : decode cL_law 653 = .ok (.iaload, 1) := by decide +kernel
theorem dL_law_654 : decode cL_law 654 = .ok (.aload_n 0, 1) := by decide +kernel
theorem dL_law_655 : decode cL_law 655 = .ok (.iload_n 3, 1) := by decide +kernel
theorem dL_law_656 : decode cL_law 656 = .ok (.iconst 2, 1) := by decide +kernel
theorem dL_law_657 : decode cL_law 657 = .ok (.iadd, 1) := by decide +kernel
theorem dL_law_658 : decode cL_law 658 = .ok (.iaload, 1) := by decide +kernel
theorem dL_law_659 : decode cL_law 659 = .ok (.aload_n 0, 1) := by decide +kernel
theorem dL_law_660 : decode cL_law 660 = .ok (.iload_n 3, 1) := by decide +kernel
theorem dL_law_661 : decode cL_law 661 = .ok (.iconst 3, 1) := by decide +kernel
theorem dL_law_662 : decode cL_law 662 = .ok (.iadd, 1) := by decide +kernel
theorem dL_law_663 : decode cL_law 663 = .ok (.iaload, 1) := by decide +kernel
theorem dL_law_664 : decode cL_law 664 = .ok (.aload_n 0, 1) := by decide +kernel
theorem dL_law_665 : decode cL_law 665 = .ok (.iload_n 3, 1) := by decide +kernel
theorem dL_law_666 : decode cL_law 666 = .ok (.iconst 4, 1) := by decide +kernel
theorem dL_law_667 : decode cL_law 667 = .ok (.iadd, 1) := by decide +kernel
theorem dL_law_668 : decode cL_law 668 = .ok (.iaload, 1) := by decide +kernel
theorem dL_law_669 : decode cL_law 669 = .ok (.aload_n 0, 1) := by decide +kernel
theorem dL_law_670 : decode cL_law 670 = .ok (.iload_n 3, 1) := by decide +kernel
theorem dL_law_671 : decode cL_law 671 = .ok (.iconst 5, 1) := by decide +kernel
theorem dL_law_672 : decode cL_law 672 = .ok (.iadd, 1) := by decide +kernel
theorem dL_law_673 : decode cL_law 673 = .ok (.iaload, 1) := by decide +kernel
theorem dL_law_674 : decode cL_law 674 = .ok (.ifCond .eq 7, 3) := by decide +kernel
theorem dL_law_677 : decode cL_law 677 = .ok (.iconst 1, 1) := by decide +kernel
theorem dL_law_678 : decode cL_law 678 = .ok (.goto 4, 3) := by decide +kernel
theorem dL_law_681 : decode cL_law 681 = .ok (.iconst 0, 1) := by decide +kernel
theorem wd_510 : Cond.methodLink "LearnLoansLaw" 58 yX7_loan ∈ am_ws := am_wsi (List.mem_of_getElem? (i := 510) (by decide +kernel)) (by decide +kernel)
theorem wd_511 : Cond.instanceMethod yX7_loan ∈ am_ws := am_wsi (List.mem_of_getElem? (i := 511) (by decide +kernel)) (by decide +kernel)
theorem wd_512 : Cond.selects "LearnLoans" yX7_loan yX7_loan ∈ am_ws := am_wsi (List.mem_of_getElem? (i := 512) (by decide +kernel)) (by decide +kernel)
theorem wd_513 : Cond.code yX7_loan cX7_loan 8 (some .int) ∈ am_ws := am_wsi (List.mem_of_getElem? (i := 513) (by decide +kernel)) (by decide +kernel)
theorem dL_law_682 : decode cL_law 682 = .ok (.invokevirtual 58, 3) := by decide +kernel
theorem dL_law_685 : decode cL_law 685 = .ok (.aload_n 2, 1) := by decide +kernel
theorem dL_law_686 : decode cL_law 686 = .ok (.aload_n 0, 1) := by decide +kernel
theorem dL_law_687 : decode cL_law 687 = .ok (.iload_n 3, 1) := by decide +kernel
theorem dL_law_688 : decode cL_law 688 = .ok (.iconst 1, 1) := by decide +kernel
theorem dL_law_689 : decode cL_law 689 = .ok (.iadd, 1) := by decide +kernel
theorem dL_law_690 : decode cL_law 690 = .ok (.iaload, 1) := by decide +kernel
theorem dL_law_691 : decode cL_law 691 = .ok (.aload_n 0, 1) := by decide +kernel
theorem dL_law_692 : decode cL_law 692 = .ok (.iload_n 3, 1) := by decide +kernel
theorem dL_law_693 : decode cL_law 693 = .ok (.iconst 2, 1) := by decide +kernel
theorem dL_law_694 : decode cL_law 694 = .ok (.iadd, 1) := by decide +kernel
theorem dL_law_695 : decode cL_law 695 = .ok (.iaload, 1) := by decide +kernel
theorem dL_law_696 : decode cL_law 696 = .ok (.aload_n 0, 1) := by decide +kernel
theorem dL_law_697 : decode cL_law 697 = .ok (.iload_n 3, 1) := by decide +kernel
theorem dL_law_698 : decode cL_law 698 = .ok (.iconst 3, 1) := by decide +kernel
theorem dL_law_699 : decode cL_law 699 = .ok (.iadd, 1) := by decide +kernel
theorem dL_law_700 : decode cL_law 700 = .ok (.iaload, 1) := by decide +kernel
theorem dL_law_701 : decode cL_law 701 = .ok (.aload_n 0, 1) := by decide +kernel
theorem dL_law_702 : decode cL_law 702 = .ok (.iload_n 3, 1) := by decide +kernel
theorem dL_law_703 : decode cL_law 703 = .ok (.iconst 4, 1) := by decide +kernel
theorem dL_law_704 : decode cL_law 704 = .ok (.iadd, 1) := by decide +kernel
theorem dL_law_705 : decode cL_law 705 = .ok (.iaload, 1) := by decide +kernel
theorem dL_law_706 : decode cL_law 706 = .ok (.aload_n 0, 1) := by decide +kernel
theorem dL_law_707 : decode cL_law 707 = .ok (.iload_n 3, 1) := by decide +kernel
theorem dL_law_708 : decode cL_law 708 = .ok (.iconst 5, 1) := by decide +kernel
theorem dL_law_709 : decode cL_law 709 = .ok (.iadd, 1) := by decide +kernel
theorem dL_law_710 : decode cL_law 710 = .ok (.iaload, 1) := by decide +kernel
theorem dL_law_711 : decode cL_law 711 = .ok (.ifCond .eq 7, 3) := by decide +kernel
theorem dL_law_714 : decode cL_law 714 = .ok (.iconst 1, 1) := by decide +kernel
theorem dL_law_715 : decode cL_law 715 = .ok (.goto 4, 3) := by decide +kernel
theorem dL_law_718 : decode cL_law 718 = .ok (.iconst 0, 1) := by decide +kernel
theorem wd_1061 : Cond.methodLink "LearnLoansLaw" 62 yX8_loan ∈ am_ws := am_wsi (List.mem_of_getElem? (i := 1061) (by decide +kernel)) (by decide +kernel)
theorem wd_1062 : Cond.instanceMethod yX8_loan ∈ am_ws := am_wsi (List.mem_of_getElem? (i := 1062) (by decide +kernel)) (by decide +kernel)
theorem wd_1063 : Cond.selects "LearnLoansModel" yX8_loan yX8_loan ∈ am_ws := am_wsi (List.mem_of_getElem? (i := 1063) (by decide +kernel)) (by decide +kernel)
theorem wd_1064 : Cond.code yX8_loan cX8_loan 7 (some .int) ∈ am_ws := am_wsi (List.mem_of_getElem? (i := 1064) (by decide +kernel)) (by decide +kernel)
theorem dL_law_719 : decode cL_law 719 = .ok (.invokevirtual 62, 3) := by decide +kernel
theorem dL_law_722 : decode cL_law 722 = .ok (.if_icmp .eq 1127, 3) := by decide +kernel
def kL_c10 (Ln : Nat) (xs : Nat → Int32) : an_code := [(648, an_lf (fun live => am_aload 1 649)), (649, an_lf (fun live => am_aload 0 650)), (650, an_lf (fun live => am_iload 3 651)), (651, an_lf (fun live => am_const (.int 1) 652)), (652, an_lf (fun live => am_i2 (fun x y => x + y) 653)), (653, an_sld Ln xs 654), (654, an_lf (fun live => am_aload 0 655)), (655, an_lf (fun live => am_iload 3 656)), (656, an_lf (fun live => am_const (.int 2) 657)), (657, an_lf (fun live => am_i2 (fun x y => x + y) 658)), (658, an_sld Ln xs 659), (659, an_lf (fun live => am_aload 0 660)), (660, an_lf (fun live => am_iload 3 661)), (661, an_lf (fun live => am_const (.int 3) 662)), (662, an_lf (fun live => am_i2 (fun x y => x + y) 663)), (663, an_sld Ln xs 664), (664, an_lf (fun live => am_aload 0 665)), (665, an_lf (fun live => am_iload 3 666)), (666, an_lf (fun live => am_const (.int 4) 667)), (667, an_lf (fun live => am_i2 (fun x y => x + y) 668)), (668, an_sld Ln xs 669), (669, an_lf (fun live => am_aload 0 670)), (670, an_lf (fun live => am_iload 3 671)), (671, an_lf (fun live => am_const (.int 5) 672)), (672, an_lf (fun live => am_i2 (fun x y => x + y) 673)), (673, an_sld Ln xs 674), (674, an_lf (fun live => am_if1 (fun x => x = 0) 681 677)), (677, an_lf (fun live => am_const (.int 1) 678)), (678, an_lf (fun live => am_goto 682)), (681, an_lf (fun live => am_const (.int 0) 682)), (682, an_lf (fun live => am_callV live 7 5 TX7_loan 685)), (685, an_lf (fun live => am_aload 2 686)), (686, an_lf (fun live => am_aload 0 687)), (687, an_lf (fun live => am_iload 3 688)), (688, an_lf (fun live => am_const (.int 1) 689)), (689, an_lf (fun live => am_i2 (fun x y => x + y) 690)), (690, an_sld Ln xs 691), (691, an_lf (fun live => am_aload 0 692)), (692, an_lf (fun live => am_iload 3 693)), (693, an_lf (fun live => am_const (.int 2) 694)), (694, an_lf (fun live => am_i2 (fun x y => x + y) 695)), (695, an_sld Ln xs 696), (696, an_lf (fun live => am_aload 0 697)), (697, an_lf (fun live => am_iload 3 698)), (698, an_lf (fun live => am_const (.int 3) 699)), (699, an_lf (fun live => am_i2 (fun x y => x + y) 700)), (700, an_sld Ln xs 701), (701, an_lf (fun live => am_aload 0 702)), (702, an_lf (fun live => am_iload 3 703)), (703, an_lf (fun live => am_const (.int 4) 704)), (704, an_lf (fun live => am_i2 (fun x y => x + y) 705)), (705, an_sld Ln xs 706), (706, an_lf (fun live => am_aload 0 707)), (707, an_lf (fun live => am_iload 3 708)), (708, an_lf (fun live => am_const (.int 5) 709)), (709, an_lf (fun live => am_i2 (fun x y => x + y) 710)), (710, an_sld Ln xs 711), (711, an_lf (fun live => am_if1 (fun x => x = 0) 718 714)), (714, an_lf (fun live => am_const (.int 1) 715)), (715, an_lf (fun live => am_goto 719)), (718, an_lf (fun live => am_const (.int 0) 719)), (719, an_lf (fun live => am_callV live 8 5 TX8_loan 722)), (722, an_lf (fun live => am_if2 (fun x y => x = y) 1849 725))]
theorem koL_c10 (Ln : Nat) (xs : Nat → Int32) : ∀ q ∈ kL_c10 Ln xs, an_ok RL cL_law 4 (some .boolean) 2000 80000 600000 7302250 false (lawP Ln xs) an_noR q.1 q.2 :=
  an_kc (an_lift (fun live => ak_aload_n dL_law_648 rfl rfl)) <|
  an_kc (an_lift (fun live => ak_aload_n dL_law_649 rfl rfl)) <|
  an_kc (an_lift (fun live => ak_iload_n dL_law_650 rfl rfl)) <|
  an_kc (an_lift (fun live => ak_iconst dL_law_651 (by decide +kernel) rfl)) <|
  an_kc (an_lift (fun live => ak_iadd dL_law_652 rfl)) <|
  an_kc (nk_sld dL_law_653 rfl) <|
  an_kc (an_lift (fun live => ak_aload_n dL_law_654 rfl rfl)) <|
  an_kc (an_lift (fun live => ak_iload_n dL_law_655 rfl rfl)) <|
  an_kc (an_lift (fun live => ak_iconst dL_law_656 (by decide +kernel) rfl)) <|
  an_kc (an_lift (fun live => ak_iadd dL_law_657 rfl)) <|
  an_kc (nk_sld dL_law_658 rfl) <|
  an_kc (an_lift (fun live => ak_aload_n dL_law_659 rfl rfl)) <|
  an_kc (an_lift (fun live => ak_iload_n dL_law_660 rfl rfl)) <|
  an_kc (an_lift (fun live => ak_iconst dL_law_661 (by decide +kernel) rfl)) <|
  an_kc (an_lift (fun live => ak_iadd dL_law_662 rfl)) <|
  an_kc (nk_sld dL_law_663 rfl) <|
  an_kc (an_lift (fun live => ak_aload_n dL_law_664 rfl rfl)) <|
  an_kc (an_lift (fun live => ak_iload_n dL_law_665 rfl rfl)) <|
  an_kc (an_lift (fun live => ak_iconst dL_law_666 (by decide +kernel) rfl)) <|
  an_kc (an_lift (fun live => ak_iadd dL_law_667 rfl)) <|
  an_kc (nk_sld dL_law_668 rfl) <|
  an_kc (an_lift (fun live => ak_aload_n dL_law_669 rfl rfl)) <|
  an_kc (an_lift (fun live => ak_iload_n dL_law_670 rfl rfl)) <|
  an_kc (an_lift (fun live => ak_iconst dL_law_671 (by decide +kernel) rfl)) <|
  an_kc (an_lift (fun live => ak_iadd dL_law_672 rfl)) <|
  an_kc (nk_sld dL_law_673 rfl) <|
  an_kc (an_lift (fun live => ak_if_eq dL_law_674 (by decide +kernel) rfl)) <|
  an_kc (an_lift (fun live => ak_iconst dL_law_677 (by decide +kernel) rfl)) <|
  an_kc (an_lift (fun live => ak_goto dL_law_678 (by decide +kernel))) <|
  an_kc (an_lift (fun live => ak_iconst dL_law_681 (by decide +kernel) rfl)) <|
  an_kc (an_lift (fun live => ak_callV (C := RX7) (F := TX7) (N := 4) metX7_loan rfl ⟨rfl, by decide +kernel, by decide +kernel, by decide +kernel⟩ (am_w5 wd_510 wd_511 wd_512 wd_58 wd_513) (by decide) dL_law_682 rfl)) <|
  an_kc (an_lift (fun live => ak_aload_n dL_law_685 rfl rfl)) <|
  an_kc (an_lift (fun live => ak_aload_n dL_law_686 rfl rfl)) <|
  an_kc (an_lift (fun live => ak_iload_n dL_law_687 rfl rfl)) <|
  an_kc (an_lift (fun live => ak_iconst dL_law_688 (by decide +kernel) rfl)) <|
  an_kc (an_lift (fun live => ak_iadd dL_law_689 rfl)) <|
  an_kc (nk_sld dL_law_690 rfl) <|
  an_kc (an_lift (fun live => ak_aload_n dL_law_691 rfl rfl)) <|
  an_kc (an_lift (fun live => ak_iload_n dL_law_692 rfl rfl)) <|
  an_kc (an_lift (fun live => ak_iconst dL_law_693 (by decide +kernel) rfl)) <|
  an_kc (an_lift (fun live => ak_iadd dL_law_694 rfl)) <|
  an_kc (nk_sld dL_law_695 rfl) <|
  an_kc (an_lift (fun live => ak_aload_n dL_law_696 rfl rfl)) <|
  an_kc (an_lift (fun live => ak_iload_n dL_law_697 rfl rfl)) <|
  an_kc (an_lift (fun live => ak_iconst dL_law_698 (by decide +kernel) rfl)) <|
  an_kc (an_lift (fun live => ak_iadd dL_law_699 rfl)) <|
  an_kc (nk_sld dL_law_700 rfl) <|
  an_kc (an_lift (fun live => ak_aload_n dL_law_701 rfl rfl)) <|
  an_kc (an_lift (fun live => ak_iload_n dL_law_702 rfl rfl)) <|
  an_kc (an_lift (fun live => ak_iconst dL_law_703 (by decide +kernel) rfl)) <|
  an_kc (an_lift (fun live => ak_iadd dL_law_704 rfl)) <|
  an_kc (nk_sld dL_law_705 rfl) <|
  an_kc (an_lift (fun live => ak_aload_n dL_law_706 rfl rfl)) <|
  an_kc (an_lift (fun live => ak_iload_n dL_law_707 rfl rfl)) <|
  an_kc (an_lift (fun live => ak_iconst dL_law_708 (by decide +kernel) rfl)) <|
  an_kc (an_lift (fun live => ak_iadd dL_law_709 rfl)) <|
  an_kc (nk_sld dL_law_710 rfl) <|
  an_kc (an_lift (fun live => ak_if_eq dL_law_711 (by decide +kernel) rfl)) <|
  an_kc (an_lift (fun live => ak_iconst dL_law_714 (by decide +kernel) rfl)) <|
  an_kc (an_lift (fun live => ak_goto dL_law_715 (by decide +kernel))) <|
  an_kc (an_lift (fun live => ak_iconst dL_law_718 (by decide +kernel) rfl)) <|
  an_kc (an_lift (fun live => ak_callV (C := RX8) (F := TX8) (N := 27) metX8_loan rfl ⟨rfl, by decide +kernel, by decide +kernel, by decide +kernel⟩ (am_w5 wd_1061 wd_1062 wd_1063 wd_67 wd_1064) (by decide) dL_law_719 rfl)) <|
  an_kc (an_lift (fun live => ak_icmp_eq dL_law_722 (by decide +kernel) rfl)) <| an_kn
set_option maxRecDepth 100000 in
set_option maxHeartbeats 4000000 in
theorem caseL_c10 (xs : Nat → Int32) : an_wp (kL_c10 8 xs) lawC 200 (an_go (kL_c10 8 xs) 648) lawL [] lawX := by
    have f7 := an_Mf7
    have f8 := an_Mf8
    repeat' (first | (with_reducible exact f7) | (with_reducible exact f8) | apply And.intro | exact rfl | (intro hx; with_reducible exact absurd rfl hx) | (intro hx; with_reducible exact absurd ((lg_cmp_eq _ _).mpr rfl) hx) | (intro hx; exact absurd hx (by decide)) | (intro hx; exact absurd (by decide) hx) | decide | intro hx | (refine Exists.intro _ (And.intro rfl ?_)))
    all_goals try first | (with_reducible change am_tI _ _) | (change Ret _ _) | (change Ret _ _ _) | (change Exists _)
    all_goals try dsimp only at *
    all_goals try exact absurd ‹(1000 : Int64) = 0› (by decide)
    all_goals first
      | exact ⟨_, _, rfl⟩
      | exact f8.lo ‹am_ch am_lo _ _›
      | exact (f8.lo ‹am_ch am_lo _ _›).1 _ ‹_›
      | exact (f8.lo ‹am_ch am_lo _ _›).2.1 _ ‹_›
      | exact (f8.lo ‹am_ch am_lo _ _›).2.2.1 _ ‹_›
      | exact (f8.lo ‹am_ch am_lo _ _›).2.2.2.1 _ ‹_›
      | exact (f8.lo ‹am_ch am_lo _ _›).2.2.2.2 _ ‹_›
      | exact (f8.hi ‹∀ a k, 200 ≤ a → _›).1 _ ‹_›
      | exact (f8.hi ‹∀ a k, 200 ≤ a → _›).2.1 _ ‹_›
      | exact (f8.hi ‹∀ a k, 200 ≤ a → _›).2.2.1 _ ‹_›
      | exact (f8.hi ‹∀ a k, 200 ≤ a → _›).2.2.2.1 _ ‹_›
      | exact (f8.hi ‹∀ a k, 200 ≤ a → _›).2.2.2.2 _ ‹_›
      | decide
theorem dL_law_727 : decode cL_law 727 = .ok (.aload_n 1, 1) := by decide +kernel
theorem dL_law_728 : decode cL_law 728 = .ok (.aload_n 0, 1) := by decide +kernel
theorem dL_law_729 : decode cL_law 729 = .ok (.iload_n 3, 1) := by decide +kernel
theorem dL_law_730 : decode cL_law 730 = .ok (.iconst 1, 1) := by decide +kernel
theorem dL_law_731 : decode cL_law 731 = .ok (.iadd, 1) := by decide +kernel
theorem dL_law_732 : decode cL_law 732 = .ok (.iaload, 1) := by decide +kernel
theorem dL_law_733 : decode cL_law 733 = .ok (.aload_n 0, 1) := by decide +kernel
theorem dL_law_734 : decode cL_law 734 = .ok (.iload_n 3, 1) := by decide +kernel
theorem dL_law_735 : decode cL_law 735 = .ok (.iconst 2, 1) := by decide +kernel
theorem dL_law_736 : decode cL_law 736 = .ok (.iadd, 1) := by decide +kernel
theorem dL_law_737 : decode cL_law 737 = .ok (.iaload, 1) := by decide +kernel
theorem wd_516 : Cond.methodLink "LearnLoansLaw" 63 yX7_leave ∈ am_ws := am_wsi (List.mem_of_getElem? (i := 516) (by decide +kernel)) (by decide +kernel)
theorem wd_517 : Cond.instanceMethod yX7_leave ∈ am_ws := am_wsi (List.mem_of_getElem? (i := 517) (by decide +kernel)) (by decide +kernel)
theorem wd_518 : Cond.selects "LearnLoans" yX7_leave yX7_leave ∈ am_ws := am_wsi (List.mem_of_getElem? (i := 518) (by decide +kernel)) (by decide +kernel)
theorem wd_519 : Cond.code yX7_leave cX7_leave 4 (some .int) ∈ am_ws := am_wsi (List.mem_of_getElem? (i := 519) (by decide +kernel)) (by decide +kernel)
theorem dL_law_738 : decode cL_law 738 = .ok (.invokevirtual 63, 3) := by decide +kernel
theorem dL_law_741 : decode cL_law 741 = .ok (.aload_n 2, 1) := by decide +kernel
theorem dL_law_742 : decode cL_law 742 = .ok (.aload_n 0, 1) := by decide +kernel
theorem dL_law_743 : decode cL_law 743 = .ok (.iload_n 3, 1) := by decide +kernel
theorem dL_law_744 : decode cL_law 744 = .ok (.iconst 1, 1) := by decide +kernel
theorem dL_law_745 : decode cL_law 745 = .ok (.iadd, 1) := by decide +kernel
theorem dL_law_746 : decode cL_law 746 = .ok (.iaload, 1) := by decide +kernel
theorem dL_law_747 : decode cL_law 747 = .ok (.aload_n 0, 1) := by decide +kernel
theorem dL_law_748 : decode cL_law 748 = .ok (.iload_n 3, 1) := by decide +kernel
theorem dL_law_749 : decode cL_law 749 = .ok (.iconst 2, 1) := by decide +kernel
theorem dL_law_750 : decode cL_law 750 = .ok (.iadd, 1) := by decide +kernel
theorem dL_law_751 : decode cL_law 751 = .ok (.iaload, 1) := by decide +kernel
theorem wd_1065 : Cond.methodLink "LearnLoansLaw" 66 yX8_leave ∈ am_ws := am_wsi (List.mem_of_getElem? (i := 1065) (by decide +kernel)) (by decide +kernel)
theorem wd_1066 : Cond.instanceMethod yX8_leave ∈ am_ws := am_wsi (List.mem_of_getElem? (i := 1066) (by decide +kernel)) (by decide +kernel)
theorem wd_1067 : Cond.selects "LearnLoansModel" yX8_leave yX8_leave ∈ am_ws := am_wsi (List.mem_of_getElem? (i := 1067) (by decide +kernel)) (by decide +kernel)
theorem wd_1068 : Cond.code yX8_leave cX8_leave 3 (some .int) ∈ am_ws := am_wsi (List.mem_of_getElem? (i := 1068) (by decide +kernel)) (by decide +kernel)
theorem dL_law_752 : decode cL_law 752 = .ok (.invokevirtual 66, 3) := by decide +kernel
theorem dL_law_755 : decode cL_law 755 = .ok (.if_icmp .eq 1094, 3) := by decide +kernel
def kL_c11 (Ln : Nat) (xs : Nat → Int32) : an_code := [(727, an_lf (fun live => am_aload 1 728)), (728, an_lf (fun live => am_aload 0 729)), (729, an_lf (fun live => am_iload 3 730)), (730, an_lf (fun live => am_const (.int 1) 731)), (731, an_lf (fun live => am_i2 (fun x y => x + y) 732)), (732, an_sld Ln xs 733), (733, an_lf (fun live => am_aload 0 734)), (734, an_lf (fun live => am_iload 3 735)), (735, an_lf (fun live => am_const (.int 2) 736)), (736, an_lf (fun live => am_i2 (fun x y => x + y) 737)), (737, an_sld Ln xs 738), (738, an_lf (fun live => am_callV live 7 2 TX7_leave 741)), (741, an_lf (fun live => am_aload 2 742)), (742, an_lf (fun live => am_aload 0 743)), (743, an_lf (fun live => am_iload 3 744)), (744, an_lf (fun live => am_const (.int 1) 745)), (745, an_lf (fun live => am_i2 (fun x y => x + y) 746)), (746, an_sld Ln xs 747), (747, an_lf (fun live => am_aload 0 748)), (748, an_lf (fun live => am_iload 3 749)), (749, an_lf (fun live => am_const (.int 2) 750)), (750, an_lf (fun live => am_i2 (fun x y => x + y) 751)), (751, an_sld Ln xs 752), (752, an_lf (fun live => am_callV live 8 2 TX8_leave 755)), (755, an_lf (fun live => am_if2 (fun x y => x = y) 1849 758))]
theorem koL_c11 (Ln : Nat) (xs : Nat → Int32) : ∀ q ∈ kL_c11 Ln xs, an_ok RL cL_law 4 (some .boolean) 2000 80000 600000 7302250 false (lawP Ln xs) an_noR q.1 q.2 :=
  an_kc (an_lift (fun live => ak_aload_n dL_law_727 rfl rfl)) <|
  an_kc (an_lift (fun live => ak_aload_n dL_law_728 rfl rfl)) <|
  an_kc (an_lift (fun live => ak_iload_n dL_law_729 rfl rfl)) <|
  an_kc (an_lift (fun live => ak_iconst dL_law_730 (by decide +kernel) rfl)) <|
  an_kc (an_lift (fun live => ak_iadd dL_law_731 rfl)) <|
  an_kc (nk_sld dL_law_732 rfl) <|
  an_kc (an_lift (fun live => ak_aload_n dL_law_733 rfl rfl)) <|
  an_kc (an_lift (fun live => ak_iload_n dL_law_734 rfl rfl)) <|
  an_kc (an_lift (fun live => ak_iconst dL_law_735 (by decide +kernel) rfl)) <|
  an_kc (an_lift (fun live => ak_iadd dL_law_736 rfl)) <|
  an_kc (nk_sld dL_law_737 rfl) <|
  an_kc (an_lift (fun live => ak_callV (C := RX7) (F := TX7) (N := 4) metX7_leave rfl ⟨rfl, by decide +kernel, by decide +kernel, by decide +kernel⟩ (am_w5 wd_516 wd_517 wd_518 wd_58 wd_519) (by decide) dL_law_738 rfl)) <|
  an_kc (an_lift (fun live => ak_aload_n dL_law_741 rfl rfl)) <|
  an_kc (an_lift (fun live => ak_aload_n dL_law_742 rfl rfl)) <|
  an_kc (an_lift (fun live => ak_iload_n dL_law_743 rfl rfl)) <|
  an_kc (an_lift (fun live => ak_iconst dL_law_744 (by decide +kernel) rfl)) <|
  an_kc (an_lift (fun live => ak_iadd dL_law_745 rfl)) <|
  an_kc (nk_sld dL_law_746 rfl) <|
  an_kc (an_lift (fun live => ak_aload_n dL_law_747 rfl rfl)) <|
  an_kc (an_lift (fun live => ak_iload_n dL_law_748 rfl rfl)) <|
  an_kc (an_lift (fun live => ak_iconst dL_law_749 (by decide +kernel) rfl)) <|
  an_kc (an_lift (fun live => ak_iadd dL_law_750 rfl)) <|
  an_kc (nk_sld dL_law_751 rfl) <|
  an_kc (an_lift (fun live => ak_callV (C := RX8) (F := TX8) (N := 27) metX8_leave rfl ⟨rfl, by decide +kernel, by decide +kernel, by decide +kernel⟩ (am_w5 wd_1065 wd_1066 wd_1067 wd_67 wd_1068) (by decide) dL_law_752 rfl)) <|
  an_kc (an_lift (fun live => ak_icmp_eq dL_law_755 (by decide +kernel) rfl)) <| an_kn
set_option maxRecDepth 100000 in
set_option maxHeartbeats 4000000 in
theorem caseL_c11 (xs : Nat → Int32) : an_wp (kL_c11 8 xs) lawC 200 (an_go (kL_c11 8 xs) 727) lawL [] lawX := by
    have f7 := an_Mf7
    have f8 := an_Mf8
    repeat' (first | (with_reducible exact f7) | (with_reducible exact f8) | apply And.intro | exact rfl | (intro hx; with_reducible exact absurd rfl hx) | (intro hx; with_reducible exact absurd ((lg_cmp_eq _ _).mpr rfl) hx) | (intro hx; exact absurd hx (by decide)) | (intro hx; exact absurd (by decide) hx) | decide | intro hx | (refine Exists.intro _ (And.intro rfl ?_)))
    all_goals try first | (with_reducible change am_tI _ _) | (change Ret _ _) | (change Ret _ _ _) | (change Exists _)
    all_goals try dsimp only at *
    all_goals try exact absurd ‹(1000 : Int64) = 0› (by decide)
    all_goals first
      | exact ⟨_, _, rfl⟩
      | exact f8.lo ‹am_ch am_lo _ _›
      | exact (f8.lo ‹am_ch am_lo _ _›).1 _ ‹_›
      | exact (f8.lo ‹am_ch am_lo _ _›).2.1 _ ‹_›
      | exact (f8.lo ‹am_ch am_lo _ _›).2.2.1 _ ‹_›
      | exact (f8.lo ‹am_ch am_lo _ _›).2.2.2.1 _ ‹_›
      | exact (f8.lo ‹am_ch am_lo _ _›).2.2.2.2 _ ‹_›
      | exact (f8.hi ‹∀ a k, 200 ≤ a → _›).1 _ ‹_›
      | exact (f8.hi ‹∀ a k, 200 ≤ a → _›).2.1 _ ‹_›
      | exact (f8.hi ‹∀ a k, 200 ≤ a → _›).2.2.1 _ ‹_›
      | exact (f8.hi ‹∀ a k, 200 ≤ a → _›).2.2.2.1 _ ‹_›
      | exact (f8.hi ‹∀ a k, 200 ≤ a → _›).2.2.2.2 _ ‹_›
      | decide
theorem dL_law_760 : decode cL_law 760 = .ok (.aload_n 1, 1) := by decide +kernel
theorem dL_law_761 : decode cL_law 761 = .ok (.aload_n 0, 1) := by decide +kernel
theorem dL_law_762 : decode cL_law 762 = .ok (.iload_n 3, 1) := by decide +kernel
theorem dL_law_763 : decode cL_law 763 = .ok (.iconst 1, 1) := by decide +kernel
theorem dL_law_764 : decode cL_law 764 = .ok (.iadd, 1) := by decide +kernel
theorem dL_law_765 : decode cL_law 765 = .ok (.iaload, 1) := by decide +kernel
theorem dL_law_766 : decode cL_law 766 = .ok (.aload_n 0, 1) := by decide +kernel
theorem dL_law_767 : decode cL_law 767 = .ok (.iload_n 3, 1) := by decide +kernel
theorem dL_law_768 : decode cL_law 768 = .ok (.iconst 2, 1) := by decide +kernel
theorem dL_law_769 : decode cL_law 769 = .ok (.iadd, 1) := by decide +kernel
theorem dL_law_770 : decode cL_law 770 = .ok (.iaload, 1) := by decide +kernel
theorem dL_law_771 : decode cL_law 771 = .ok (.aload_n 0, 1) := by decide +kernel
theorem dL_law_772 : decode cL_law 772 = .ok (.iload_n 3, 1) := by decide +kernel
theorem dL_law_773 : decode cL_law 773 = .ok (.iconst 3, 1) := by decide +kernel
theorem dL_law_774 : decode cL_law 774 = .ok (.iadd, 1) := by decide +kernel
theorem dL_law_775 : decode cL_law 775 = .ok (.iaload, 1) := by decide +kernel
theorem wd_533 : Cond.methodLink "LearnLoansLaw" 67 yX7_move ∈ am_ws := am_wsi (List.mem_of_getElem? (i := 533) (by decide +kernel)) (by decide +kernel)
theorem wd_534 : Cond.instanceMethod yX7_move ∈ am_ws := am_wsi (List.mem_of_getElem? (i := 534) (by decide +kernel)) (by decide +kernel)
theorem wd_535 : Cond.selects "LearnLoans" yX7_move yX7_move ∈ am_ws := am_wsi (List.mem_of_getElem? (i := 535) (by decide +kernel)) (by decide +kernel)
theorem wd_536 : Cond.code yX7_move cX7_move 4 (some .int) ∈ am_ws := am_wsi (List.mem_of_getElem? (i := 536) (by decide +kernel)) (by decide +kernel)
theorem dL_law_776 : decode cL_law 776 = .ok (.invokevirtual 67, 3) := by decide +kernel
theorem dL_law_779 : decode cL_law 779 = .ok (.aload_n 2, 1) := by decide +kernel
theorem dL_law_780 : decode cL_law 780 = .ok (.aload_n 0, 1) := by decide +kernel
theorem dL_law_781 : decode cL_law 781 = .ok (.iload_n 3, 1) := by decide +kernel
theorem dL_law_782 : decode cL_law 782 = .ok (.iconst 1, 1) := by decide +kernel
theorem dL_law_783 : decode cL_law 783 = .ok (.iadd, 1) := by decide +kernel
theorem dL_law_784 : decode cL_law 784 = .ok (.iaload, 1) := by decide +kernel
theorem dL_law_785 : decode cL_law 785 = .ok (.aload_n 0, 1) := by decide +kernel
theorem dL_law_786 : decode cL_law 786 = .ok (.iload_n 3, 1) := by decide +kernel
theorem dL_law_787 : decode cL_law 787 = .ok (.iconst 2, 1) := by decide +kernel
theorem dL_law_788 : decode cL_law 788 = .ok (.iadd, 1) := by decide +kernel
theorem dL_law_789 : decode cL_law 789 = .ok (.iaload, 1) := by decide +kernel
theorem dL_law_790 : decode cL_law 790 = .ok (.aload_n 0, 1) := by decide +kernel
theorem dL_law_791 : decode cL_law 791 = .ok (.iload_n 3, 1) := by decide +kernel
theorem dL_law_792 : decode cL_law 792 = .ok (.iconst 3, 1) := by decide +kernel
theorem dL_law_793 : decode cL_law 793 = .ok (.iadd, 1) := by decide +kernel
theorem dL_law_794 : decode cL_law 794 = .ok (.iaload, 1) := by decide +kernel
theorem wd_1077 : Cond.methodLink "LearnLoansLaw" 70 yX8_move ∈ am_ws := am_wsi (List.mem_of_getElem? (i := 1077) (by decide +kernel)) (by decide +kernel)
theorem wd_1078 : Cond.instanceMethod yX8_move ∈ am_ws := am_wsi (List.mem_of_getElem? (i := 1078) (by decide +kernel)) (by decide +kernel)
theorem wd_1079 : Cond.selects "LearnLoansModel" yX8_move yX8_move ∈ am_ws := am_wsi (List.mem_of_getElem? (i := 1079) (by decide +kernel)) (by decide +kernel)
theorem wd_1080 : Cond.code yX8_move cX8_move 5 (some .int) ∈ am_ws := am_wsi (List.mem_of_getElem? (i := 1080) (by decide +kernel)) (by decide +kernel)
theorem dL_law_795 : decode cL_law 795 = .ok (.invokevirtual 70, 3) := by decide +kernel
theorem dL_law_798 : decode cL_law 798 = .ok (.if_icmp .eq 1051, 3) := by decide +kernel
def kL_c12 (Ln : Nat) (xs : Nat → Int32) : an_code := [(760, an_lf (fun live => am_aload 1 761)), (761, an_lf (fun live => am_aload 0 762)), (762, an_lf (fun live => am_iload 3 763)), (763, an_lf (fun live => am_const (.int 1) 764)), (764, an_lf (fun live => am_i2 (fun x y => x + y) 765)), (765, an_sld Ln xs 766), (766, an_lf (fun live => am_aload 0 767)), (767, an_lf (fun live => am_iload 3 768)), (768, an_lf (fun live => am_const (.int 2) 769)), (769, an_lf (fun live => am_i2 (fun x y => x + y) 770)), (770, an_sld Ln xs 771), (771, an_lf (fun live => am_aload 0 772)), (772, an_lf (fun live => am_iload 3 773)), (773, an_lf (fun live => am_const (.int 3) 774)), (774, an_lf (fun live => am_i2 (fun x y => x + y) 775)), (775, an_sld Ln xs 776), (776, an_lf (fun live => am_callV live 7 3 TX7_move 779)), (779, an_lf (fun live => am_aload 2 780)), (780, an_lf (fun live => am_aload 0 781)), (781, an_lf (fun live => am_iload 3 782)), (782, an_lf (fun live => am_const (.int 1) 783)), (783, an_lf (fun live => am_i2 (fun x y => x + y) 784)), (784, an_sld Ln xs 785), (785, an_lf (fun live => am_aload 0 786)), (786, an_lf (fun live => am_iload 3 787)), (787, an_lf (fun live => am_const (.int 2) 788)), (788, an_lf (fun live => am_i2 (fun x y => x + y) 789)), (789, an_sld Ln xs 790), (790, an_lf (fun live => am_aload 0 791)), (791, an_lf (fun live => am_iload 3 792)), (792, an_lf (fun live => am_const (.int 3) 793)), (793, an_lf (fun live => am_i2 (fun x y => x + y) 794)), (794, an_sld Ln xs 795), (795, an_lf (fun live => am_callV live 8 3 TX8_move 798)), (798, an_lf (fun live => am_if2 (fun x y => x = y) 1849 801))]
theorem koL_c12 (Ln : Nat) (xs : Nat → Int32) : ∀ q ∈ kL_c12 Ln xs, an_ok RL cL_law 4 (some .boolean) 2000 80000 600000 7302250 false (lawP Ln xs) an_noR q.1 q.2 :=
  an_kc (an_lift (fun live => ak_aload_n dL_law_760 rfl rfl)) <|
  an_kc (an_lift (fun live => ak_aload_n dL_law_761 rfl rfl)) <|
  an_kc (an_lift (fun live => ak_iload_n dL_law_762 rfl rfl)) <|
  an_kc (an_lift (fun live => ak_iconst dL_law_763 (by decide +kernel) rfl)) <|
  an_kc (an_lift (fun live => ak_iadd dL_law_764 rfl)) <|
  an_kc (nk_sld dL_law_765 rfl) <|
  an_kc (an_lift (fun live => ak_aload_n dL_law_766 rfl rfl)) <|
  an_kc (an_lift (fun live => ak_iload_n dL_law_767 rfl rfl)) <|
  an_kc (an_lift (fun live => ak_iconst dL_law_768 (by decide +kernel) rfl)) <|
  an_kc (an_lift (fun live => ak_iadd dL_law_769 rfl)) <|
  an_kc (nk_sld dL_law_770 rfl) <|
  an_kc (an_lift (fun live => ak_aload_n dL_law_771 rfl rfl)) <|
  an_kc (an_lift (fun live => ak_iload_n dL_law_772 rfl rfl)) <|
  an_kc (an_lift (fun live => ak_iconst dL_law_773 (by decide +kernel) rfl)) <|
  an_kc (an_lift (fun live => ak_iadd dL_law_774 rfl)) <|
  an_kc (nk_sld dL_law_775 rfl) <|
  an_kc (an_lift (fun live => ak_callV (C := RX7) (F := TX7) (N := 4) metX7_move rfl ⟨rfl, by decide +kernel, by decide +kernel, by decide +kernel⟩ (am_w5 wd_533 wd_534 wd_535 wd_58 wd_536) (by decide) dL_law_776 rfl)) <|
  an_kc (an_lift (fun live => ak_aload_n dL_law_779 rfl rfl)) <|
  an_kc (an_lift (fun live => ak_aload_n dL_law_780 rfl rfl)) <|
  an_kc (an_lift (fun live => ak_iload_n dL_law_781 rfl rfl)) <|
  an_kc (an_lift (fun live => ak_iconst dL_law_782 (by decide +kernel) rfl)) <|
  an_kc (an_lift (fun live => ak_iadd dL_law_783 rfl)) <|
  an_kc (nk_sld dL_law_784 rfl) <|
  an_kc (an_lift (fun live => ak_aload_n dL_law_785 rfl rfl)) <|
  an_kc (an_lift (fun live => ak_iload_n dL_law_786 rfl rfl)) <|
  an_kc (an_lift (fun live => ak_iconst dL_law_787 (by decide +kernel) rfl)) <|
  an_kc (an_lift (fun live => ak_iadd dL_law_788 rfl)) <|
  an_kc (nk_sld dL_law_789 rfl) <|
  an_kc (an_lift (fun live => ak_aload_n dL_law_790 rfl rfl)) <|
  an_kc (an_lift (fun live => ak_iload_n dL_law_791 rfl rfl)) <|
  an_kc (an_lift (fun live => ak_iconst dL_law_792 (by decide +kernel) rfl)) <|
  an_kc (an_lift (fun live => ak_iadd dL_law_793 rfl)) <|
  an_kc (nk_sld dL_law_794 rfl) <|
  an_kc (an_lift (fun live => ak_callV (C := RX8) (F := TX8) (N := 27) metX8_move rfl ⟨rfl, by decide +kernel, by decide +kernel, by decide +kernel⟩ (am_w5 wd_1077 wd_1078 wd_1079 wd_67 wd_1080) (by decide) dL_law_795 rfl)) <|
  an_kc (an_lift (fun live => ak_icmp_eq dL_law_798 (by decide +kernel) rfl)) <| an_kn
set_option maxRecDepth 100000 in
set_option maxHeartbeats 4000000 in
theorem caseL_c12 (xs : Nat → Int32) : an_wp (kL_c12 8 xs) lawC 200 (an_go (kL_c12 8 xs) 760) lawL [] lawX := by
    have f7 := an_Mf7
    have f8 := an_Mf8
    repeat' (first | (with_reducible exact f7) | (with_reducible exact f8) | apply And.intro | exact rfl | (intro hx; with_reducible exact absurd rfl hx) | (intro hx; with_reducible exact absurd ((lg_cmp_eq _ _).mpr rfl) hx) | (intro hx; exact absurd hx (by decide)) | (intro hx; exact absurd (by decide) hx) | decide | intro hx | (refine Exists.intro _ (And.intro rfl ?_)))
    all_goals try first | (with_reducible change am_tI _ _) | (change Ret _ _) | (change Ret _ _ _) | (change Exists _)
    all_goals try dsimp only at *
    all_goals try exact absurd ‹(1000 : Int64) = 0› (by decide)
    all_goals first
      | exact ⟨_, _, rfl⟩
      | exact f8.lo ‹am_ch am_lo _ _›
      | exact (f8.lo ‹am_ch am_lo _ _›).1 _ ‹_›
      | exact (f8.lo ‹am_ch am_lo _ _›).2.1 _ ‹_›
      | exact (f8.lo ‹am_ch am_lo _ _›).2.2.1 _ ‹_›
      | exact (f8.lo ‹am_ch am_lo _ _›).2.2.2.1 _ ‹_›
      | exact (f8.lo ‹am_ch am_lo _ _›).2.2.2.2 _ ‹_›
      | exact (f8.hi ‹∀ a k, 200 ≤ a → _›).1 _ ‹_›
      | exact (f8.hi ‹∀ a k, 200 ≤ a → _›).2.1 _ ‹_›
      | exact (f8.hi ‹∀ a k, 200 ≤ a → _›).2.2.1 _ ‹_›
      | exact (f8.hi ‹∀ a k, 200 ≤ a → _›).2.2.2.1 _ ‹_›
      | exact (f8.hi ‹∀ a k, 200 ≤ a → _›).2.2.2.2 _ ‹_›
      | decide
theorem dL_law_803 : decode cL_law 803 = .ok (.aload_n 1, 1) := by decide +kernel
theorem dL_law_804 : decode cL_law 804 = .ok (.aload_n 0, 1) := by decide +kernel
theorem dL_law_805 : decode cL_law 805 = .ok (.iload_n 3, 1) := by decide +kernel
theorem dL_law_806 : decode cL_law 806 = .ok (.iconst 1, 1) := by decide +kernel
theorem dL_law_807 : decode cL_law 807 = .ok (.iadd, 1) := by decide +kernel
theorem dL_law_808 : decode cL_law 808 = .ok (.iaload, 1) := by decide +kernel
theorem dL_law_809 : decode cL_law 809 = .ok (.aload_n 0, 1) := by decide +kernel
theorem dL_law_810 : decode cL_law 810 = .ok (.iload_n 3, 1) := by decide +kernel
theorem dL_law_811 : decode cL_law 811 = .ok (.iconst 2, 1) := by decide +kernel
theorem dL_law_812 : decode cL_law 812 = .ok (.iadd, 1) := by decide +kernel
theorem dL_law_813 : decode cL_law 813 = .ok (.iaload, 1) := by decide +kernel
theorem wd_537 : Cond.methodLink "LearnLoansLaw" 71 yX7_planOf ∈ am_ws := am_wsi (List.mem_of_getElem? (i := 537) (by decide +kernel)) (by decide +kernel)
theorem wd_538 : Cond.instanceMethod yX7_planOf ∈ am_ws := am_wsi (List.mem_of_getElem? (i := 538) (by decide +kernel)) (by decide +kernel)
theorem wd_539 : Cond.selects "LearnLoans" yX7_planOf yX7_planOf ∈ am_ws := am_wsi (List.mem_of_getElem? (i := 539) (by decide +kernel)) (by decide +kernel)
theorem wd_540 : Cond.code yX7_planOf cX7_planOf 3 (some .int) ∈ am_ws := am_wsi (List.mem_of_getElem? (i := 540) (by decide +kernel)) (by decide +kernel)
theorem dL_law_814 : decode cL_law 814 = .ok (.invokevirtual 71, 3) := by decide +kernel
theorem dL_law_817 : decode cL_law 817 = .ok (.aload_n 2, 1) := by decide +kernel
theorem dL_law_818 : decode cL_law 818 = .ok (.aload_n 0, 1) := by decide +kernel
theorem dL_law_819 : decode cL_law 819 = .ok (.iload_n 3, 1) := by decide +kernel
theorem dL_law_820 : decode cL_law 820 = .ok (.iconst 1, 1) := by decide +kernel
theorem dL_law_821 : decode cL_law 821 = .ok (.iadd, 1) := by decide +kernel
theorem dL_law_822 : decode cL_law 822 = .ok (.iaload, 1) := by decide +kernel
theorem dL_law_823 : decode cL_law 823 = .ok (.aload_n 0, 1) := by decide +kernel
theorem dL_law_824 : decode cL_law 824 = .ok (.iload_n 3, 1) := by decide +kernel
theorem dL_law_825 : decode cL_law 825 = .ok (.iconst 2, 1) := by decide +kernel
theorem dL_law_826 : decode cL_law 826 = .ok (.iadd, 1) := by decide +kernel
theorem dL_law_827 : decode cL_law 827 = .ok (.iaload, 1) := by decide +kernel
theorem wd_1081 : Cond.methodLink "LearnLoansLaw" 74 yX8_planOf ∈ am_ws := am_wsi (List.mem_of_getElem? (i := 1081) (by decide +kernel)) (by decide +kernel)
theorem wd_1082 : Cond.instanceMethod yX8_planOf ∈ am_ws := am_wsi (List.mem_of_getElem? (i := 1082) (by decide +kernel)) (by decide +kernel)
theorem wd_1083 : Cond.selects "LearnLoansModel" yX8_planOf yX8_planOf ∈ am_ws := am_wsi (List.mem_of_getElem? (i := 1083) (by decide +kernel)) (by decide +kernel)
theorem wd_1084 : Cond.code yX8_planOf cX8_planOf 3 (some .int) ∈ am_ws := am_wsi (List.mem_of_getElem? (i := 1084) (by decide +kernel)) (by decide +kernel)
theorem dL_law_828 : decode cL_law 828 = .ok (.invokevirtual 74, 3) := by decide +kernel
theorem dL_law_831 : decode cL_law 831 = .ok (.if_icmp .eq 1018, 3) := by decide +kernel
def kL_c13 (Ln : Nat) (xs : Nat → Int32) : an_code := [(803, an_lf (fun live => am_aload 1 804)), (804, an_lf (fun live => am_aload 0 805)), (805, an_lf (fun live => am_iload 3 806)), (806, an_lf (fun live => am_const (.int 1) 807)), (807, an_lf (fun live => am_i2 (fun x y => x + y) 808)), (808, an_sld Ln xs 809), (809, an_lf (fun live => am_aload 0 810)), (810, an_lf (fun live => am_iload 3 811)), (811, an_lf (fun live => am_const (.int 2) 812)), (812, an_lf (fun live => am_i2 (fun x y => x + y) 813)), (813, an_sld Ln xs 814), (814, an_lf (fun live => am_callV live 7 2 TX7_planOf 817)), (817, an_lf (fun live => am_aload 2 818)), (818, an_lf (fun live => am_aload 0 819)), (819, an_lf (fun live => am_iload 3 820)), (820, an_lf (fun live => am_const (.int 1) 821)), (821, an_lf (fun live => am_i2 (fun x y => x + y) 822)), (822, an_sld Ln xs 823), (823, an_lf (fun live => am_aload 0 824)), (824, an_lf (fun live => am_iload 3 825)), (825, an_lf (fun live => am_const (.int 2) 826)), (826, an_lf (fun live => am_i2 (fun x y => x + y) 827)), (827, an_sld Ln xs 828), (828, an_lf (fun live => am_callV live 8 2 TX8_planOf 831)), (831, an_lf (fun live => am_if2 (fun x y => x = y) 1849 834))]
theorem koL_c13 (Ln : Nat) (xs : Nat → Int32) : ∀ q ∈ kL_c13 Ln xs, an_ok RL cL_law 4 (some .boolean) 2000 80000 600000 7302250 false (lawP Ln xs) an_noR q.1 q.2 :=
  an_kc (an_lift (fun live => ak_aload_n dL_law_803 rfl rfl)) <|
  an_kc (an_lift (fun live => ak_aload_n dL_law_804 rfl rfl)) <|
  an_kc (an_lift (fun live => ak_iload_n dL_law_805 rfl rfl)) <|
  an_kc (an_lift (fun live => ak_iconst dL_law_806 (by decide +kernel) rfl)) <|
  an_kc (an_lift (fun live => ak_iadd dL_law_807 rfl)) <|
  an_kc (nk_sld dL_law_808 rfl) <|
  an_kc (an_lift (fun live => ak_aload_n dL_law_809 rfl rfl)) <|
  an_kc (an_lift (fun live => ak_iload_n dL_law_810 rfl rfl)) <|
  an_kc (an_lift (fun live => ak_iconst dL_law_811 (by decide +kernel) rfl)) <|
  an_kc (an_lift (fun live => ak_iadd dL_law_812 rfl)) <|
  an_kc (nk_sld dL_law_813 rfl) <|
  an_kc (an_lift (fun live => ak_callV (C := RX7) (F := TX7) (N := 4) metX7_planOf rfl ⟨rfl, by decide +kernel, by decide +kernel, by decide +kernel⟩ (am_w5 wd_537 wd_538 wd_539 wd_58 wd_540) (by decide) dL_law_814 rfl)) <|
  an_kc (an_lift (fun live => ak_aload_n dL_law_817 rfl rfl)) <|
  an_kc (an_lift (fun live => ak_aload_n dL_law_818 rfl rfl)) <|
  an_kc (an_lift (fun live => ak_iload_n dL_law_819 rfl rfl)) <|
  an_kc (an_lift (fun live => ak_iconst dL_law_820 (by decide +kernel) rfl)) <|
  an_kc (an_lift (fun live => ak_iadd dL_law_821 rfl)) <|
  an_kc (nk_sld dL_law_822 rfl) <|
  an_kc (an_lift (fun live => ak_aload_n dL_law_823 rfl rfl)) <|
  an_kc (an_lift (fun live => ak_iload_n dL_law_824 rfl rfl)) <|
  an_kc (an_lift (fun live => ak_iconst dL_law_825 (by decide +kernel) rfl)) <|
  an_kc (an_lift (fun live => ak_iadd dL_law_826 rfl)) <|
  an_kc (nk_sld dL_law_827 rfl) <|
  an_kc (an_lift (fun live => ak_callV (C := RX8) (F := TX8) (N := 27) metX8_planOf rfl ⟨rfl, by decide +kernel, by decide +kernel, by decide +kernel⟩ (am_w5 wd_1081 wd_1082 wd_1083 wd_67 wd_1084) (by decide) dL_law_828 rfl)) <|
  an_kc (an_lift (fun live => ak_icmp_eq dL_law_831 (by decide +kernel) rfl)) <| an_kn
set_option maxRecDepth 100000 in
set_option maxHeartbeats 4000000 in
theorem caseL_c13 (xs : Nat → Int32) : an_wp (kL_c13 8 xs) lawC 200 (an_go (kL_c13 8 xs) 803) lawL [] lawX := by
    have f7 := an_Mf7
    have f8 := an_Mf8
    repeat' (first | (with_reducible exact f7) | (with_reducible exact f8) | apply And.intro | exact rfl | (intro hx; with_reducible exact absurd rfl hx) | (intro hx; with_reducible exact absurd ((lg_cmp_eq _ _).mpr rfl) hx) | (intro hx; exact absurd hx (by decide)) | (intro hx; exact absurd (by decide) hx) | decide | intro hx | (refine Exists.intro _ (And.intro rfl ?_)))
    all_goals try first | (with_reducible change am_tI _ _) | (change Ret _ _) | (change Ret _ _ _) | (change Exists _)
    all_goals try dsimp only at *
    all_goals try exact absurd ‹(1000 : Int64) = 0› (by decide)
    all_goals first
      | exact ⟨_, _, rfl⟩
      | exact f8.lo ‹am_ch am_lo _ _›
      | exact (f8.lo ‹am_ch am_lo _ _›).1 _ ‹_›
      | exact (f8.lo ‹am_ch am_lo _ _›).2.1 _ ‹_›
      | exact (f8.lo ‹am_ch am_lo _ _›).2.2.1 _ ‹_›
      | exact (f8.lo ‹am_ch am_lo _ _›).2.2.2.1 _ ‹_›
      | exact (f8.lo ‹am_ch am_lo _ _›).2.2.2.2 _ ‹_›
      | exact (f8.hi ‹∀ a k, 200 ≤ a → _›).1 _ ‹_›
      | exact (f8.hi ‹∀ a k, 200 ≤ a → _›).2.1 _ ‹_›
      | exact (f8.hi ‹∀ a k, 200 ≤ a → _›).2.2.1 _ ‹_›
      | exact (f8.hi ‹∀ a k, 200 ≤ a → _›).2.2.2.1 _ ‹_›
      | exact (f8.hi ‹∀ a k, 200 ≤ a → _›).2.2.2.2 _ ‹_›
      | decide
theorem dL_law_836 : decode cL_law 836 = .ok (.aload_n 1, 1) := by decide +kernel
theorem dL_law_837 : decode cL_law 837 = .ok (.aload_n 0, 1) := by decide +kernel
theorem dL_law_838 : decode cL_law 838 = .ok (.iload_n 3, 1) := by decide +kernel
theorem dL_law_839 : decode cL_law 839 = .ok (.iconst 1, 1) := by decide +kernel
theorem dL_law_840 : decode cL_law 840 = .ok (.iadd, 1) := by decide +kernel
theorem dL_law_841 : decode cL_law 841 = .ok (.iaload, 1) := by decide +kernel
theorem dL_law_842 : decode cL_law 842 = .ok (.aload_n 0, 1) := by decide +kernel
theorem dL_law_843 : decode cL_law 843 = .ok (.iload_n 3, 1) := by decide +kernel
theorem dL_law_844 : decode cL_law 844 = .ok (.iconst 2, 1) := by decide +kernel
theorem dL_law_845 : decode cL_law 845 = .ok (.iadd, 1) := by decide +kernel
theorem dL_law_846 : decode cL_law 846 = .ok (.iaload, 1) := by decide +kernel
theorem dL_law_847 : decode cL_law 847 = .ok (.aload_n 0, 1) := by decide +kernel
theorem dL_law_848 : decode cL_law 848 = .ok (.iload_n 3, 1) := by decide +kernel
theorem dL_law_849 : decode cL_law 849 = .ok (.iconst 3, 1) := by decide +kernel
theorem dL_law_850 : decode cL_law 850 = .ok (.iadd, 1) := by decide +kernel
theorem dL_law_851 : decode cL_law 851 = .ok (.iaload, 1) := by decide +kernel
theorem dL_law_852 : decode cL_law 852 = .ok (.aload_n 0, 1) := by decide +kernel
theorem dL_law_853 : decode cL_law 853 = .ok (.iload_n 3, 1) := by decide +kernel
theorem dL_law_854 : decode cL_law 854 = .ok (.iconst 4, 1) := by decide +kernel
theorem dL_law_855 : decode cL_law 855 = .ok (.iadd, 1) := by decide +kernel
theorem dL_law_856 : decode cL_law 856 = .ok (.iaload, 1) := by decide +kernel
theorem wd_541 : Cond.methodLink "LearnLoansLaw" 75 yX7_owes ∈ am_ws := am_wsi (List.mem_of_getElem? (i := 541) (by decide +kernel)) (by decide +kernel)
theorem wd_542 : Cond.instanceMethod yX7_owes ∈ am_ws := am_wsi (List.mem_of_getElem? (i := 542) (by decide +kernel)) (by decide +kernel)
theorem wd_543 : Cond.selects "LearnLoans" yX7_owes yX7_owes ∈ am_ws := am_wsi (List.mem_of_getElem? (i := 543) (by decide +kernel)) (by decide +kernel)
theorem wd_544 : Cond.code yX7_owes cX7_owes 5 (some .long) ∈ am_ws := am_wsi (List.mem_of_getElem? (i := 544) (by decide +kernel)) (by decide +kernel)
theorem dL_law_857 : decode cL_law 857 = .ok (.invokevirtual 75, 3) := by decide +kernel
theorem dL_law_860 : decode cL_law 860 = .ok (.aload_n 2, 1) := by decide +kernel
theorem dL_law_861 : decode cL_law 861 = .ok (.aload_n 0, 1) := by decide +kernel
theorem dL_law_862 : decode cL_law 862 = .ok (.iload_n 3, 1) := by decide +kernel
theorem dL_law_863 : decode cL_law 863 = .ok (.iconst 1, 1) := by decide +kernel
theorem dL_law_864 : decode cL_law 864 = .ok (.iadd, 1) := by decide +kernel
theorem dL_law_865 : decode cL_law 865 = .ok (.iaload, 1) := by decide +kernel
theorem dL_law_866 : decode cL_law 866 = .ok (.aload_n 0, 1) := by decide +kernel
theorem dL_law_867 : decode cL_law 867 = .ok (.iload_n 3, 1) := by decide +kernel
theorem dL_law_868 : decode cL_law 868 = .ok (.iconst 2, 1) := by decide +kernel
theorem dL_law_869 : decode cL_law 869 = .ok (.iadd, 1) := by decide +kernel
theorem dL_law_870 : decode cL_law 870 = .ok (.iaload, 1) := by decide +kernel
theorem dL_law_871 : decode cL_law 871 = .ok (.aload_n 0, 1) := by decide +kernel
theorem dL_law_872 : decode cL_law 872 = .ok (.iload_n 3, 1) := by decide +kernel
theorem dL_law_873 : decode cL_law 873 = .ok (.iconst 3, 1) := by decide +kernel
theorem dL_law_874 : decode cL_law 874 = .ok (.iadd, 1) := by decide +kernel
theorem dL_law_875 : decode cL_law 875 = .ok (.iaload, 1) := by decide +kernel
theorem dL_law_876 : decode cL_law 876 = .ok (.aload_n 0, 1) := by decide +kernel
theorem dL_law_877 : decode cL_law 877 = .ok (.iload_n 3, 1) := by decide +kernel
theorem dL_law_878 : decode cL_law 878 = .ok (.iconst 4, 1) := by decide +kernel
theorem dL_law_879 : decode cL_law 879 = .ok (.iadd, 1) := by decide +kernel
theorem dL_law_880 : decode cL_law 880 = .ok (.iaload, 1) := by decide +kernel
theorem wd_1149 : Cond.methodLink "LearnLoansLaw" 79 yX8_owes ∈ am_ws := am_wsi (List.mem_of_getElem? (i := 1149) (by decide +kernel)) (by decide +kernel)
theorem wd_1150 : Cond.instanceMethod yX8_owes ∈ am_ws := am_wsi (List.mem_of_getElem? (i := 1150) (by decide +kernel)) (by decide +kernel)
theorem wd_1151 : Cond.selects "LearnLoansModel" yX8_owes yX8_owes ∈ am_ws := am_wsi (List.mem_of_getElem? (i := 1151) (by decide +kernel)) (by decide +kernel)
theorem wd_1152 : Cond.code yX8_owes cX8_owes 5 (some .long) ∈ am_ws := am_wsi (List.mem_of_getElem? (i := 1152) (by decide +kernel)) (by decide +kernel)
theorem dL_law_881 : decode cL_law 881 = .ok (.invokevirtual 79, 3) := by decide +kernel
theorem dL_law_884 : decode cL_law 884 = .ok (.lcmp, 1) := by decide +kernel
theorem dL_law_885 : decode cL_law 885 = .ok (.ifCond .eq 964, 3) := by decide +kernel
def kL_c14 (Ln : Nat) (xs : Nat → Int32) : an_code := [(836, an_lf (fun live => am_aload 1 837)), (837, an_lf (fun live => am_aload 0 838)), (838, an_lf (fun live => am_iload 3 839)), (839, an_lf (fun live => am_const (.int 1) 840)), (840, an_lf (fun live => am_i2 (fun x y => x + y) 841)), (841, an_sld Ln xs 842), (842, an_lf (fun live => am_aload 0 843)), (843, an_lf (fun live => am_iload 3 844)), (844, an_lf (fun live => am_const (.int 2) 845)), (845, an_lf (fun live => am_i2 (fun x y => x + y) 846)), (846, an_sld Ln xs 847), (847, an_lf (fun live => am_aload 0 848)), (848, an_lf (fun live => am_iload 3 849)), (849, an_lf (fun live => am_const (.int 3) 850)), (850, an_lf (fun live => am_i2 (fun x y => x + y) 851)), (851, an_sld Ln xs 852), (852, an_lf (fun live => am_aload 0 853)), (853, an_lf (fun live => am_iload 3 854)), (854, an_lf (fun live => am_const (.int 4) 855)), (855, an_lf (fun live => am_i2 (fun x y => x + y) 856)), (856, an_sld Ln xs 857), (857, an_lf (fun live => am_callV live 7 4 TX7_owes 860)), (860, an_lf (fun live => am_aload 2 861)), (861, an_lf (fun live => am_aload 0 862)), (862, an_lf (fun live => am_iload 3 863)), (863, an_lf (fun live => am_const (.int 1) 864)), (864, an_lf (fun live => am_i2 (fun x y => x + y) 865)), (865, an_sld Ln xs 866), (866, an_lf (fun live => am_aload 0 867)), (867, an_lf (fun live => am_iload 3 868)), (868, an_lf (fun live => am_const (.int 2) 869)), (869, an_lf (fun live => am_i2 (fun x y => x + y) 870)), (870, an_sld Ln xs 871), (871, an_lf (fun live => am_aload 0 872)), (872, an_lf (fun live => am_iload 3 873)), (873, an_lf (fun live => am_const (.int 3) 874)), (874, an_lf (fun live => am_i2 (fun x y => x + y) 875)), (875, an_sld Ln xs 876), (876, an_lf (fun live => am_aload 0 877)), (877, an_lf (fun live => am_iload 3 878)), (878, an_lf (fun live => am_const (.int 4) 879)), (879, an_lf (fun live => am_i2 (fun x y => x + y) 880)), (880, an_sld Ln xs 881), (881, an_lf (fun live => am_callV live 8 4 TX8_owes 884)), (884, an_lf (fun live => am_lcmp 885)), (885, an_lf (fun live => am_if1 (fun x => x = 0) 1849 888))]
theorem koL_c14 (Ln : Nat) (xs : Nat → Int32) : ∀ q ∈ kL_c14 Ln xs, an_ok RL cL_law 4 (some .boolean) 2000 80000 600000 7302250 false (lawP Ln xs) an_noR q.1 q.2 :=
  an_kc (an_lift (fun live => ak_aload_n dL_law_836 rfl rfl)) <|
  an_kc (an_lift (fun live => ak_aload_n dL_law_837 rfl rfl)) <|
  an_kc (an_lift (fun live => ak_iload_n dL_law_838 rfl rfl)) <|
  an_kc (an_lift (fun live => ak_iconst dL_law_839 (by decide +kernel) rfl)) <|
  an_kc (an_lift (fun live => ak_iadd dL_law_840 rfl)) <|
  an_kc (nk_sld dL_law_841 rfl) <|
  an_kc (an_lift (fun live => ak_aload_n dL_law_842 rfl rfl)) <|
  an_kc (an_lift (fun live => ak_iload_n dL_law_843 rfl rfl)) <|
  an_kc (an_lift (fun live => ak_iconst dL_law_844 (by decide +kernel) rfl)) <|
  an_kc (an_lift (fun live => ak_iadd dL_law_845 rfl)) <|
  an_kc (nk_sld dL_law_846 rfl) <|
  an_kc (an_lift (fun live => ak_aload_n dL_law_847 rfl rfl)) <|
  an_kc (an_lift (fun live => ak_iload_n dL_law_848 rfl rfl)) <|
  an_kc (an_lift (fun live => ak_iconst dL_law_849 (by decide +kernel) rfl)) <|
  an_kc (an_lift (fun live => ak_iadd dL_law_850 rfl)) <|
  an_kc (nk_sld dL_law_851 rfl) <|
  an_kc (an_lift (fun live => ak_aload_n dL_law_852 rfl rfl)) <|
  an_kc (an_lift (fun live => ak_iload_n dL_law_853 rfl rfl)) <|
  an_kc (an_lift (fun live => ak_iconst dL_law_854 (by decide +kernel) rfl)) <|
  an_kc (an_lift (fun live => ak_iadd dL_law_855 rfl)) <|
  an_kc (nk_sld dL_law_856 rfl) <|
  an_kc (an_lift (fun live => ak_callV (C := RX7) (F := TX7) (N := 4) metX7_owes rfl ⟨rfl, by decide +kernel, by decide +kernel, by decide +kernel⟩ (am_w5 wd_541 wd_542 wd_543 wd_58 wd_544) (by decide) dL_law_857 rfl)) <|
  an_kc (an_lift (fun live => ak_aload_n dL_law_860 rfl rfl)) <|
  an_kc (an_lift (fun live => ak_aload_n dL_law_861 rfl rfl)) <|
  an_kc (an_lift (fun live => ak_iload_n dL_law_862 rfl rfl)) <|
  an_kc (an_lift (fun live => ak_iconst dL_law_863 (by decide +kernel) rfl)) <|
  an_kc (an_lift (fun live => ak_iadd dL_law_864 rfl)) <|
  an_kc (nk_sld dL_law_865 rfl) <|
  an_kc (an_lift (fun live => ak_aload_n dL_law_866 rfl rfl)) <|
  an_kc (an_lift (fun live => ak_iload_n dL_law_867 rfl rfl)) <|
  an_kc (an_lift (fun live => ak_iconst dL_law_868 (by decide +kernel) rfl)) <|
  an_kc (an_lift (fun live => ak_iadd dL_law_869 rfl)) <|
  an_kc (nk_sld dL_law_870 rfl) <|
  an_kc (an_lift (fun live => ak_aload_n dL_law_871 rfl rfl)) <|
  an_kc (an_lift (fun live => ak_iload_n dL_law_872 rfl rfl)) <|
  an_kc (an_lift (fun live => ak_iconst dL_law_873 (by decide +kernel) rfl)) <|
  an_kc (an_lift (fun live => ak_iadd dL_law_874 rfl)) <|
  an_kc (nk_sld dL_law_875 rfl) <|
  an_kc (an_lift (fun live => ak_aload_n dL_law_876 rfl rfl)) <|
  an_kc (an_lift (fun live => ak_iload_n dL_law_877 rfl rfl)) <|
  an_kc (an_lift (fun live => ak_iconst dL_law_878 (by decide +kernel) rfl)) <|
  an_kc (an_lift (fun live => ak_iadd dL_law_879 rfl)) <|
  an_kc (nk_sld dL_law_880 rfl) <|
  an_kc (an_lift (fun live => ak_callV (C := RX8) (F := TX8) (N := 27) metX8_owes rfl ⟨rfl, by decide +kernel, by decide +kernel, by decide +kernel⟩ (am_w5 wd_1149 wd_1150 wd_1151 wd_67 wd_1152) (by decide) dL_law_881 rfl)) <|
  an_kc (an_lift (fun live => ak_lcmp dL_law_884 rfl)) <|
  an_kc (an_lift (fun live => ak_if_eq dL_law_885 (by decide +kernel) rfl)) <| an_kn
set_option maxRecDepth 100000 in
set_option maxHeartbeats 4000000 in
theorem caseL_c14 (xs : Nat → Int32) : an_wp (kL_c14 8 xs) lawC 200 (an_go (kL_c14 8 xs) 836) lawL [] lawX := by
    have f7 := an_Mf7
    have f8 := an_Mf8
    repeat' (first | (with_reducible exact f7) | (with_reducible exact f8) | apply And.intro | exact rfl | (intro hx; with_reducible exact absurd rfl hx) | (intro hx; with_reducible exact absurd ((lg_cmp_eq _ _).mpr rfl) hx) | (intro hx; exact absurd hx (by decide)) | (intro hx; exact absurd (by decide) hx) | decide | intro hx | (refine Exists.intro _ (And.intro rfl ?_)))
    all_goals try first | (with_reducible change am_tI _ _) | (change Ret _ _) | (change Ret _ _ _) | (change Exists _)
    all_goals try dsimp only at *
    all_goals try exact absurd ‹(1000 : Int64) = 0› (by decide)
    all_goals first
      | exact ⟨_, _, rfl⟩
      | exact f8.lo ‹am_ch am_lo _ _›
      | exact (f8.lo ‹am_ch am_lo _ _›).1 _ ‹_›
      | exact (f8.lo ‹am_ch am_lo _ _›).2.1 _ ‹_›
      | exact (f8.lo ‹am_ch am_lo _ _›).2.2.1 _ ‹_›
      | exact (f8.lo ‹am_ch am_lo _ _›).2.2.2.1 _ ‹_›
      | exact (f8.lo ‹am_ch am_lo _ _›).2.2.2.2 _ ‹_›
      | exact (f8.hi ‹∀ a k, 200 ≤ a → _›).1 _ ‹_›
      | exact (f8.hi ‹∀ a k, 200 ≤ a → _›).2.1 _ ‹_›
      | exact (f8.hi ‹∀ a k, 200 ≤ a → _›).2.2.1 _ ‹_›
      | exact (f8.hi ‹∀ a k, 200 ≤ a → _›).2.2.2.1 _ ‹_›
      | exact (f8.hi ‹∀ a k, 200 ≤ a → _›).2.2.2.2 _ ‹_›
      | decide
