/-! the law: cases 12 to 17 -/
theorem dL_law_760 : decode cL_law 760 = .ok (.aload_n 1, 1) := by decide +kernel
theorem dL_law_761 : decode cL_law 761 = .ok (.aload_n 0, 1) := by decide +kernel
theorem dL_law_762 : decode cL_law 762 = .ok (.iload_n 3, 1) := by decide +kernel
theorem dL_law_763 : decode cL_law 763 = .ok (.iconst 1, 1) := by decide +kernel
theorem dL_law_764 : decode cL_law 764 = .ok (.iadd, 1) := by decide +kernel
theorem dL_law_765 : decode cL_law 765 = .ok (.iaload, 1) := by decide +kernel
theorem dL_law_766 : decode cL_law 766 = .ok (.aload_n 0, 1) := by decide +kernel
theorem dL_law_767 : decode cL_law 767 = .ok (.iload_n 3, 1) := by decide +kernel
theorem dL_law_768 : decode cL_law 768 = .ok (.iconst 2, 1) := by decide +kernel
theorem dL_law_769 : decode cL_law 769 = .ok (.iadd, 1) := by decide +kernel
theorem dL_law_770 : decode cL_law 770 = .ok (.iaload, 1) := by decide +kernel
theorem dL_law_771 : decode cL_law 771 = .ok (.aload_n 0, 1) := by decide +kernel
theorem dL_law_772 : decode cL_law 772 = .ok (.iload_n 3, 1) := by decide +kernel
theorem dL_law_773 : decode cL_law 773 = .ok (.iconst 3, 1) := by decide +kernel
theorem dL_law_774 : decode cL_law 774 = .ok (.iadd, 1) := by decide +kernel
theorem dL_law_775 : decode cL_law 775 = .ok (.iaload, 1) := by decide +kernel
set_option maxRecDepth 100000 in
theorem wd_533 : Cond.methodLink "LearnLoansLaw" 67 yX7_move ∈ am_ws := am_wsi (List.mem_of_getElem? (i := 533) (by rfl)) (by decide +kernel)
set_option maxRecDepth 100000 in
theorem wd_534 : Cond.instanceMethod yX7_move ∈ am_ws := am_wsi (List.mem_of_getElem? (i := 534) (by rfl)) (by decide +kernel)
set_option maxRecDepth 100000 in
theorem wd_535 : Cond.selects "LearnLoans" yX7_move yX7_move ∈ am_ws := am_wsi (List.mem_of_getElem? (i := 535) (by rfl)) (by decide +kernel)
set_option maxRecDepth 100000 in
theorem wd_536 : Cond.code yX7_move cX7_move 4 (some .int) ∈ am_ws := am_wsi (List.mem_of_getElem? (i := 536) (by rfl)) (by decide +kernel)
theorem dL_law_776 : decode cL_law 776 = .ok (.invokevirtual 67, 3) := by decide +kernel
theorem dL_law_779 : decode cL_law 779 = .ok (.pop, 1) := by decide +kernel
theorem dL_law_780 : decode cL_law 780 = .ok (.aload_n 2, 1) := by decide +kernel
theorem dL_law_781 : decode cL_law 781 = .ok (.aload_n 0, 1) := by decide +kernel
theorem dL_law_782 : decode cL_law 782 = .ok (.iload_n 3, 1) := by decide +kernel
theorem dL_law_783 : decode cL_law 783 = .ok (.iconst 1, 1) := by decide +kernel
theorem dL_law_784 : decode cL_law 784 = .ok (.iadd, 1) := by decide +kernel
theorem dL_law_785 : decode cL_law 785 = .ok (.iaload, 1) := by decide +kernel
theorem dL_law_786 : decode cL_law 786 = .ok (.aload_n 0, 1) := by decide +kernel
theorem dL_law_787 : decode cL_law 787 = .ok (.iload_n 3, 1) := by decide +kernel
theorem dL_law_788 : decode cL_law 788 = .ok (.iconst 2, 1) := by decide +kernel
theorem dL_law_789 : decode cL_law 789 = .ok (.iadd, 1) := by decide +kernel
theorem dL_law_790 : decode cL_law 790 = .ok (.iaload, 1) := by decide +kernel
theorem dL_law_791 : decode cL_law 791 = .ok (.aload_n 0, 1) := by decide +kernel
theorem dL_law_792 : decode cL_law 792 = .ok (.iload_n 3, 1) := by decide +kernel
theorem dL_law_793 : decode cL_law 793 = .ok (.iconst 3, 1) := by decide +kernel
theorem dL_law_794 : decode cL_law 794 = .ok (.iadd, 1) := by decide +kernel
theorem dL_law_795 : decode cL_law 795 = .ok (.iaload, 1) := by decide +kernel
set_option maxRecDepth 100000 in
theorem wd_1077 : Cond.methodLink "LearnLoansLaw" 70 yX8_move ∈ am_ws := am_wsi (List.mem_of_getElem? (i := 1077) (by rfl)) (by decide +kernel)
set_option maxRecDepth 100000 in
theorem wd_1078 : Cond.instanceMethod yX8_move ∈ am_ws := am_wsi (List.mem_of_getElem? (i := 1078) (by rfl)) (by decide +kernel)
set_option maxRecDepth 100000 in
theorem wd_1079 : Cond.selects "LearnLoansModel" yX8_move yX8_move ∈ am_ws := am_wsi (List.mem_of_getElem? (i := 1079) (by rfl)) (by decide +kernel)
set_option maxRecDepth 100000 in
theorem wd_1080 : Cond.code yX8_move cX8_move 5 (some .int) ∈ am_ws := am_wsi (List.mem_of_getElem? (i := 1080) (by rfl)) (by decide +kernel)
theorem dL_law_796 : decode cL_law 796 = .ok (.invokevirtual 70, 3) := by decide +kernel
theorem dL_law_799 : decode cL_law 799 = .ok (.pop, 1) := by decide +kernel
theorem dL_law_800 : decode cL_law 800 = .ok (.goto 1041, 3) := by decide +kernel
def kL_c12 (Ln : Nat) (xs : Nat → Int32) : an_code := [(760, an_lf (fun live => am_aload 1 761)), (761, an_lf (fun live => am_aload 0 762)), (762, an_lf (fun live => am_iload 3 763)), (763, an_lf (fun live => am_const (.int 1) 764)), (764, an_lf (fun live => am_i2 (fun x y => x + y) 765)), (765, an_sld Ln xs 766), (766, an_lf (fun live => am_aload 0 767)), (767, an_lf (fun live => am_iload 3 768)), (768, an_lf (fun live => am_const (.int 2) 769)), (769, an_lf (fun live => am_i2 (fun x y => x + y) 770)), (770, an_sld Ln xs 771), (771, an_lf (fun live => am_aload 0 772)), (772, an_lf (fun live => am_iload 3 773)), (773, an_lf (fun live => am_const (.int 3) 774)), (774, an_lf (fun live => am_i2 (fun x y => x + y) 775)), (775, an_sld Ln xs 776), (776, an_lf (fun live => am_callV live 7 3 TW_move 779)), (779, an_lf (fun live => am_pop 780)), (780, an_lf (fun live => am_aload 2 781)), (781, an_lf (fun live => am_aload 0 782)), (782, an_lf (fun live => am_iload 3 783)), (783, an_lf (fun live => am_const (.int 1) 784)), (784, an_lf (fun live => am_i2 (fun x y => x + y) 785)), (785, an_sld Ln xs 786), (786, an_lf (fun live => am_aload 0 787)), (787, an_lf (fun live => am_iload 3 788)), (788, an_lf (fun live => am_const (.int 2) 789)), (789, an_lf (fun live => am_i2 (fun x y => x + y) 790)), (790, an_sld Ln xs 791), (791, an_lf (fun live => am_aload 0 792)), (792, an_lf (fun live => am_iload 3 793)), (793, an_lf (fun live => am_const (.int 3) 794)), (794, an_lf (fun live => am_i2 (fun x y => x + y) 795)), (795, an_sld Ln xs 796), (796, an_lf (fun live => am_callV live 8 3 TX8_move 799)), (799, an_lf (fun live => am_pop 800)), (800, an_lf (fun live => am_goto 1841))]
theorem koL_c12 (Ln : Nat) (xs : Nat → Int32) : ∀ q ∈ kL_c12 Ln xs, an_ok RL cL_law 4 (some .boolean) 2000 80000 600000 7302250 false (lawP Ln xs) an_noR q.1 q.2 :=
  an_kc (an_lift (fun live => ak_aload_n dL_law_760 rfl rfl)) <|
  an_kc (an_lift (fun live => ak_aload_n dL_law_761 rfl rfl)) <|
  an_kc (an_lift (fun live => ak_iload_n dL_law_762 rfl rfl)) <|
  an_kc (an_lift (fun live => ak_iconst dL_law_763 (by decide +kernel) rfl)) <|
  an_kc (an_lift (fun live => ak_iadd dL_law_764 rfl)) <|
  an_kc (nk_sld dL_law_765 rfl) <|
  an_kc (an_lift (fun live => ak_aload_n dL_law_766 rfl rfl)) <|
  an_kc (an_lift (fun live => ak_iload_n dL_law_767 rfl rfl)) <|
  an_kc (an_lift (fun live => ak_iconst dL_law_768 (by decide +kernel) rfl)) <|
  an_kc (an_lift (fun live => ak_iadd dL_law_769 rfl)) <|
  an_kc (nk_sld dL_law_770 rfl) <|
  an_kc (an_lift (fun live => ak_aload_n dL_law_771 rfl rfl)) <|
  an_kc (an_lift (fun live => ak_iload_n dL_law_772 rfl rfl)) <|
  an_kc (an_lift (fun live => ak_iconst dL_law_773 (by decide +kernel) rfl)) <|
  an_kc (an_lift (fun live => ak_iadd dL_law_774 rfl)) <|
  an_kc (nk_sld dL_law_775 rfl) <|
  an_kc (an_lift (fun live => ak_callV (C := RX7) (F := TX7) (N := 4) metW_move rfl ⟨rfl, by decide +kernel, by decide +kernel, by decide +kernel⟩ (am_w5 wd_533 wd_534 wd_535 wd_58 wd_536) (by decide) dL_law_776 rfl)) <|
  an_kc (an_lift (fun live => ak_pop dL_law_779 rfl)) <|
  an_kc (an_lift (fun live => ak_aload_n dL_law_780 rfl rfl)) <|
  an_kc (an_lift (fun live => ak_aload_n dL_law_781 rfl rfl)) <|
  an_kc (an_lift (fun live => ak_iload_n dL_law_782 rfl rfl)) <|
  an_kc (an_lift (fun live => ak_iconst dL_law_783 (by decide +kernel) rfl)) <|
  an_kc (an_lift (fun live => ak_iadd dL_law_784 rfl)) <|
  an_kc (nk_sld dL_law_785 rfl) <|
  an_kc (an_lift (fun live => ak_aload_n dL_law_786 rfl rfl)) <|
  an_kc (an_lift (fun live => ak_iload_n dL_law_787 rfl rfl)) <|
  an_kc (an_lift (fun live => ak_iconst dL_law_788 (by decide +kernel) rfl)) <|
  an_kc (an_lift (fun live => ak_iadd dL_law_789 rfl)) <|
  an_kc (nk_sld dL_law_790 rfl) <|
  an_kc (an_lift (fun live => ak_aload_n dL_law_791 rfl rfl)) <|
  an_kc (an_lift (fun live => ak_iload_n dL_law_792 rfl rfl)) <|
  an_kc (an_lift (fun live => ak_iconst dL_law_793 (by decide +kernel) rfl)) <|
  an_kc (an_lift (fun live => ak_iadd dL_law_794 rfl)) <|
  an_kc (nk_sld dL_law_795 rfl) <|
  an_kc (an_lift (fun live => ak_callV (C := RX8) (F := TX8) (N := 27) metX8_move rfl ⟨rfl, by decide +kernel, by decide +kernel, by decide +kernel⟩ (am_w5 wd_1077 wd_1078 wd_1079 wd_67 wd_1080) (by decide) dL_law_796 rfl)) <|
  an_kc (an_lift (fun live => ak_pop dL_law_799 rfl)) <|
  an_kc (an_lift (fun live => ak_goto dL_law_800 (by decide +kernel))) <| an_kn
set_option maxRecDepth 100000 in
set_option maxHeartbeats 4000000 in
theorem caseL_c12 {Ln : Nat} (xs : Nat → Int32) {i : Int32} {i1 i2 : Bool} {kc kn : Nat} {M : am_M} (h : LX i1 i2 M) (hi : lawI Ln i kc kn) : an_wp (kL_c12 Ln xs) (lawC Ln i) 200 (an_go (kL_c12 Ln xs) 760) (lawL i) [] ((am_lv i1 i2, am_q i1 i2), kc, kn, M) := by
    obtain ⟨⟨f1, f2, f3, f4, f5, f6, f7⟩, k1, k2, k3, k4⟩ := hi.f
    have hmn : am_mn (am_lv i1 i2, am_q i1 i2) := ⟨_, _, rfl⟩
    repeat' (first | (with_reducible exact f1) | (with_reducible exact f2) | (with_reducible exact f3) | (with_reducible exact f4) | (with_reducible exact f5) | (with_reducible exact f6) | (with_reducible exact f7) | (with_reducible exact hmn) | (with_reducible exact h) | (with_reducible exact k1) | (with_reducible exact k2) | (with_reducible exact k3) | (with_reducible exact k4) | apply And.intro | exact rfl | ((with_reducible change r_I _); (with_reducible assumption)) | (intro hx; exact absurd hx (by decide)) | (intro hx; exact absurd (by decide) hx) | decide | intro hx | (refine Exists.intro _ (And.intro rfl ?_)) | (refine Exists.intro _ (Exists.intro _ (And.intro rfl (And.intro rfl ?_)))) | ((with_reducible change LX _ _ _); (with_reducible assumption)) | ((with_reducible change _ = true); simp only [k1, k2, k3, k4, Bool.true_and]; rfl))
    all_goals try first | (with_reducible change am_tI _ _) | (change Ret _ _) | (change Ret _ _ _) | (change Exists _)
    all_goals try dsimp only at *
    all_goals try exact absurd ‹(1000 : Int64) = 0› (by decide)
    all_goals first
      | exact ⟨_, _, rfl⟩
      | exact lawE.mk hi (by with_reducible assumption) (by omega) (by omega)
      | skip
theorem dL_law_803 : decode cL_law 803 = .ok (.aload_n 1, 1) := by decide +kernel
theorem dL_law_804 : decode cL_law 804 = .ok (.aload_n 0, 1) := by decide +kernel
theorem dL_law_805 : decode cL_law 805 = .ok (.iload_n 3, 1) := by decide +kernel
theorem dL_law_806 : decode cL_law 806 = .ok (.iconst 1, 1) := by decide +kernel
theorem dL_law_807 : decode cL_law 807 = .ok (.iadd, 1) := by decide +kernel
theorem dL_law_808 : decode cL_law 808 = .ok (.iaload, 1) := by decide +kernel
theorem dL_law_809 : decode cL_law 809 = .ok (.aload_n 0, 1) := by decide +kernel
theorem dL_law_810 : decode cL_law 810 = .ok (.iload_n 3, 1) := by decide +kernel
theorem dL_law_811 : decode cL_law 811 = .ok (.iconst 2, 1) := by decide +kernel
theorem dL_law_812 : decode cL_law 812 = .ok (.iadd, 1) := by decide +kernel
theorem dL_law_813 : decode cL_law 813 = .ok (.iaload, 1) := by decide +kernel
set_option maxRecDepth 100000 in
theorem wd_537 : Cond.methodLink "LearnLoansLaw" 71 yX7_planOf ∈ am_ws := am_wsi (List.mem_of_getElem? (i := 537) (by rfl)) (by decide +kernel)
set_option maxRecDepth 100000 in
theorem wd_538 : Cond.instanceMethod yX7_planOf ∈ am_ws := am_wsi (List.mem_of_getElem? (i := 538) (by rfl)) (by decide +kernel)
set_option maxRecDepth 100000 in
theorem wd_539 : Cond.selects "LearnLoans" yX7_planOf yX7_planOf ∈ am_ws := am_wsi (List.mem_of_getElem? (i := 539) (by rfl)) (by decide +kernel)
set_option maxRecDepth 100000 in
theorem wd_540 : Cond.code yX7_planOf cX7_planOf 3 (some .int) ∈ am_ws := am_wsi (List.mem_of_getElem? (i := 540) (by rfl)) (by decide +kernel)
theorem dL_law_814 : decode cL_law 814 = .ok (.invokevirtual 71, 3) := by decide +kernel
theorem dL_law_817 : decode cL_law 817 = .ok (.pop, 1) := by decide +kernel
theorem dL_law_818 : decode cL_law 818 = .ok (.aload_n 2, 1) := by decide +kernel
theorem dL_law_819 : decode cL_law 819 = .ok (.aload_n 0, 1) := by decide +kernel
theorem dL_law_820 : decode cL_law 820 = .ok (.iload_n 3, 1) := by decide +kernel
theorem dL_law_821 : decode cL_law 821 = .ok (.iconst 1, 1) := by decide +kernel
theorem dL_law_822 : decode cL_law 822 = .ok (.iadd, 1) := by decide +kernel
theorem dL_law_823 : decode cL_law 823 = .ok (.iaload, 1) := by decide +kernel
theorem dL_law_824 : decode cL_law 824 = .ok (.aload_n 0, 1) := by decide +kernel
theorem dL_law_825 : decode cL_law 825 = .ok (.iload_n 3, 1) := by decide +kernel
theorem dL_law_826 : decode cL_law 826 = .ok (.iconst 2, 1) := by decide +kernel
theorem dL_law_827 : decode cL_law 827 = .ok (.iadd, 1) := by decide +kernel
theorem dL_law_828 : decode cL_law 828 = .ok (.iaload, 1) := by decide +kernel
set_option maxRecDepth 100000 in
theorem wd_1081 : Cond.methodLink "LearnLoansLaw" 74 yX8_planOf ∈ am_ws := am_wsi (List.mem_of_getElem? (i := 1081) (by rfl)) (by decide +kernel)
set_option maxRecDepth 100000 in
theorem wd_1082 : Cond.instanceMethod yX8_planOf ∈ am_ws := am_wsi (List.mem_of_getElem? (i := 1082) (by rfl)) (by decide +kernel)
set_option maxRecDepth 100000 in
theorem wd_1083 : Cond.selects "LearnLoansModel" yX8_planOf yX8_planOf ∈ am_ws := am_wsi (List.mem_of_getElem? (i := 1083) (by rfl)) (by decide +kernel)
set_option maxRecDepth 100000 in
theorem wd_1084 : Cond.code yX8_planOf cX8_planOf 3 (some .int) ∈ am_ws := am_wsi (List.mem_of_getElem? (i := 1084) (by rfl)) (by decide +kernel)
theorem dL_law_829 : decode cL_law 829 = .ok (.invokevirtual 74, 3) := by decide +kernel
theorem dL_law_832 : decode cL_law 832 = .ok (.pop, 1) := by decide +kernel
theorem dL_law_833 : decode cL_law 833 = .ok (.goto 1008, 3) := by decide +kernel
def kL_c13 (Ln : Nat) (xs : Nat → Int32) : an_code := [(803, an_lf (fun live => am_aload 1 804)), (804, an_lf (fun live => am_aload 0 805)), (805, an_lf (fun live => am_iload 3 806)), (806, an_lf (fun live => am_const (.int 1) 807)), (807, an_lf (fun live => am_i2 (fun x y => x + y) 808)), (808, an_sld Ln xs 809), (809, an_lf (fun live => am_aload 0 810)), (810, an_lf (fun live => am_iload 3 811)), (811, an_lf (fun live => am_const (.int 2) 812)), (812, an_lf (fun live => am_i2 (fun x y => x + y) 813)), (813, an_sld Ln xs 814), (814, an_lf (fun live => am_callV live 7 2 TW_planOf 817)), (817, an_lf (fun live => am_pop 818)), (818, an_lf (fun live => am_aload 2 819)), (819, an_lf (fun live => am_aload 0 820)), (820, an_lf (fun live => am_iload 3 821)), (821, an_lf (fun live => am_const (.int 1) 822)), (822, an_lf (fun live => am_i2 (fun x y => x + y) 823)), (823, an_sld Ln xs 824), (824, an_lf (fun live => am_aload 0 825)), (825, an_lf (fun live => am_iload 3 826)), (826, an_lf (fun live => am_const (.int 2) 827)), (827, an_lf (fun live => am_i2 (fun x y => x + y) 828)), (828, an_sld Ln xs 829), (829, an_lf (fun live => am_callV live 8 2 TV_planOf 832)), (832, an_lf (fun live => am_pop 833)), (833, an_lf (fun live => am_goto 1841))]
theorem koL_c13 (Ln : Nat) (xs : Nat → Int32) : ∀ q ∈ kL_c13 Ln xs, an_ok RL cL_law 4 (some .boolean) 2000 80000 600000 7302250 false (lawP Ln xs) an_noR q.1 q.2 :=
  an_kc (an_lift (fun live => ak_aload_n dL_law_803 rfl rfl)) <|
  an_kc (an_lift (fun live => ak_aload_n dL_law_804 rfl rfl)) <|
  an_kc (an_lift (fun live => ak_iload_n dL_law_805 rfl rfl)) <|
  an_kc (an_lift (fun live => ak_iconst dL_law_806 (by decide +kernel) rfl)) <|
  an_kc (an_lift (fun live => ak_iadd dL_law_807 rfl)) <|
  an_kc (nk_sld dL_law_808 rfl) <|
  an_kc (an_lift (fun live => ak_aload_n dL_law_809 rfl rfl)) <|
  an_kc (an_lift (fun live => ak_iload_n dL_law_810 rfl rfl)) <|
  an_kc (an_lift (fun live => ak_iconst dL_law_811 (by decide +kernel) rfl)) <|
  an_kc (an_lift (fun live => ak_iadd dL_law_812 rfl)) <|
  an_kc (nk_sld dL_law_813 rfl) <|
  an_kc (an_lift (fun live => ak_callV (C := RX7) (F := TX7) (N := 4) metW_planOf rfl ⟨rfl, by decide +kernel, by decide +kernel, by decide +kernel⟩ (am_w5 wd_537 wd_538 wd_539 wd_58 wd_540) (by decide) dL_law_814 rfl)) <|
  an_kc (an_lift (fun live => ak_pop dL_law_817 rfl)) <|
  an_kc (an_lift (fun live => ak_aload_n dL_law_818 rfl rfl)) <|
  an_kc (an_lift (fun live => ak_aload_n dL_law_819 rfl rfl)) <|
  an_kc (an_lift (fun live => ak_iload_n dL_law_820 rfl rfl)) <|
  an_kc (an_lift (fun live => ak_iconst dL_law_821 (by decide +kernel) rfl)) <|
  an_kc (an_lift (fun live => ak_iadd dL_law_822 rfl)) <|
  an_kc (nk_sld dL_law_823 rfl) <|
  an_kc (an_lift (fun live => ak_aload_n dL_law_824 rfl rfl)) <|
  an_kc (an_lift (fun live => ak_iload_n dL_law_825 rfl rfl)) <|
  an_kc (an_lift (fun live => ak_iconst dL_law_826 (by decide +kernel) rfl)) <|
  an_kc (an_lift (fun live => ak_iadd dL_law_827 rfl)) <|
  an_kc (nk_sld dL_law_828 rfl) <|
  an_kc (an_lift (fun live => ak_callV (C := RX8) (F := TX8) (N := 27) metV_planOf rfl ⟨rfl, by decide +kernel, by decide +kernel, by decide +kernel⟩ (am_w5 wd_1081 wd_1082 wd_1083 wd_67 wd_1084) (by decide) dL_law_829 rfl)) <|
  an_kc (an_lift (fun live => ak_pop dL_law_832 rfl)) <|
  an_kc (an_lift (fun live => ak_goto dL_law_833 (by decide +kernel))) <| an_kn
set_option maxRecDepth 100000 in
set_option maxHeartbeats 4000000 in
theorem caseL_c13 {Ln : Nat} (xs : Nat → Int32) {i : Int32} {i1 i2 : Bool} {kc kn : Nat} {M : am_M} (h : LX i1 i2 M) (hi : lawI Ln i kc kn) : an_wp (kL_c13 Ln xs) (lawC Ln i) 200 (an_go (kL_c13 Ln xs) 803) (lawL i) [] ((am_lv i1 i2, am_q i1 i2), kc, kn, M) := by
    obtain ⟨⟨f1, f2, f3, f4, f5, f6, f7⟩, k1, k2, k3, k4⟩ := hi.f
    have hmn : am_mn (am_lv i1 i2, am_q i1 i2) := ⟨_, _, rfl⟩
    repeat' (first | (with_reducible exact f1) | (with_reducible exact f2) | (with_reducible exact f3) | (with_reducible exact f4) | (with_reducible exact f5) | (with_reducible exact f6) | (with_reducible exact f7) | (with_reducible exact hmn) | (with_reducible exact h) | (with_reducible exact k1) | (with_reducible exact k2) | (with_reducible exact k3) | (with_reducible exact k4) | apply And.intro | exact rfl | ((with_reducible change r_I _); (with_reducible assumption)) | (intro hx; exact absurd hx (by decide)) | (intro hx; exact absurd (by decide) hx) | decide | intro hx | (refine Exists.intro _ (And.intro rfl ?_)) | (refine Exists.intro _ (Exists.intro _ (And.intro rfl (And.intro rfl ?_)))) | ((with_reducible change LX _ _ _); (with_reducible assumption)) | ((with_reducible change _ = true); simp only [k1, k2, k3, k4, Bool.true_and]; rfl))
    all_goals try first | (with_reducible change am_tI _ _) | (change Ret _ _) | (change Ret _ _ _) | (change Exists _)
    all_goals try dsimp only at *
    all_goals try exact absurd ‹(1000 : Int64) = 0› (by decide)
    all_goals first
      | exact ⟨_, _, rfl⟩
      | exact lawE.mk hi (by with_reducible assumption) (by omega) (by omega)
      | skip
theorem dL_law_836 : decode cL_law 836 = .ok (.aload_n 1, 1) := by decide +kernel
theorem dL_law_837 : decode cL_law 837 = .ok (.aload_n 0, 1) := by decide +kernel
theorem dL_law_838 : decode cL_law 838 = .ok (.iload_n 3, 1) := by decide +kernel
theorem dL_law_839 : decode cL_law 839 = .ok (.iconst 1, 1) := by decide +kernel
theorem dL_law_840 : decode cL_law 840 = .ok (.iadd, 1) := by decide +kernel
theorem dL_law_841 : decode cL_law 841 = .ok (.iaload, 1) := by decide +kernel
theorem dL_law_842 : decode cL_law 842 = .ok (.aload_n 0, 1) := by decide +kernel
theorem dL_law_843 : decode cL_law 843 = .ok (.iload_n 3, 1) := by decide +kernel
theorem dL_law_844 : decode cL_law 844 = .ok (.iconst 2, 1) := by decide +kernel
theorem dL_law_845 : decode cL_law 845 = .ok (.iadd, 1) := by decide +kernel
theorem dL_law_846 : decode cL_law 846 = .ok (.iaload, 1) := by decide +kernel
theorem dL_law_847 : decode cL_law 847 = .ok (.aload_n 0, 1) := by decide +kernel
theorem dL_law_848 : decode cL_law 848 = .ok (.iload_n 3, 1) := by decide +kernel
theorem dL_law_849 : decode cL_law 849 = .ok (.iconst 3, 1) := by decide +kernel
theorem dL_law_850 : decode cL_law 850 = .ok (.iadd, 1) := by decide +kernel
theorem dL_law_851 : decode cL_law 851 = .ok (.iaload, 1) := by decide +kernel
theorem dL_law_852 : decode cL_law 852 = .ok (.aload_n 0, 1) := by decide +kernel
theorem dL_law_853 : decode cL_law 853 = .ok (.iload_n 3, 1) := by decide +kernel
theorem dL_law_854 : decode cL_law 854 = .ok (.iconst 4, 1) := by decide +kernel
theorem dL_law_855 : decode cL_law 855 = .ok (.iadd, 1) := by decide +kernel
theorem dL_law_856 : decode cL_law 856 = .ok (.iaload, 1) := by decide +kernel
set_option maxRecDepth 100000 in
theorem wd_541 : Cond.methodLink "LearnLoansLaw" 75 yX7_owes ∈ am_ws := am_wsi (List.mem_of_getElem? (i := 541) (by rfl)) (by decide +kernel)
set_option maxRecDepth 100000 in
theorem wd_542 : Cond.instanceMethod yX7_owes ∈ am_ws := am_wsi (List.mem_of_getElem? (i := 542) (by rfl)) (by decide +kernel)
set_option maxRecDepth 100000 in
theorem wd_543 : Cond.selects "LearnLoans" yX7_owes yX7_owes ∈ am_ws := am_wsi (List.mem_of_getElem? (i := 543) (by rfl)) (by decide +kernel)
set_option maxRecDepth 100000 in
theorem wd_544 : Cond.code yX7_owes cX7_owes 5 (some .long) ∈ am_ws := am_wsi (List.mem_of_getElem? (i := 544) (by rfl)) (by decide +kernel)
theorem dL_law_857 : decode cL_law 857 = .ok (.invokevirtual 75, 3) := by decide +kernel
theorem dL_law_860 : decode cL_law 860 = .ok (.pop2, 1) := by decide +kernel
theorem dL_law_861 : decode cL_law 861 = .ok (.aload_n 2, 1) := by decide +kernel
theorem dL_law_862 : decode cL_law 862 = .ok (.aload_n 0, 1) := by decide +kernel
theorem dL_law_863 : decode cL_law 863 = .ok (.iload_n 3, 1) := by decide +kernel
theorem dL_law_864 : decode cL_law 864 = .ok (.iconst 1, 1) := by decide +kernel
theorem dL_law_865 : decode cL_law 865 = .ok (.iadd, 1) := by decide +kernel
theorem dL_law_866 : decode cL_law 866 = .ok (.iaload, 1) := by decide +kernel
theorem dL_law_867 : decode cL_law 867 = .ok (.aload_n 0, 1) := by decide +kernel
theorem dL_law_868 : decode cL_law 868 = .ok (.iload_n 3, 1) := by decide +kernel
theorem dL_law_869 : decode cL_law 869 = .ok (.iconst 2, 1) := by decide +kernel
theorem dL_law_870 : decode cL_law 870 = .ok (.iadd, 1) := by decide +kernel
theorem dL_law_871 : decode cL_law 871 = .ok (.iaload, 1) := by decide +kernel
theorem dL_law_872 : decode cL_law 872 = .ok (.aload_n 0, 1) := by decide +kernel
theorem dL_law_873 : decode cL_law 873 = .ok (.iload_n 3, 1) := by decide +kernel
theorem dL_law_874 : decode cL_law 874 = .ok (.iconst 3, 1) := by decide +kernel
theorem dL_law_875 : decode cL_law 875 = .ok (.iadd, 1) := by decide +kernel
theorem dL_law_876 : decode cL_law 876 = .ok (.iaload, 1) := by decide +kernel
theorem dL_law_877 : decode cL_law 877 = .ok (.aload_n 0, 1) := by decide +kernel
theorem dL_law_878 : decode cL_law 878 = .ok (.iload_n 3, 1) := by decide +kernel
theorem dL_law_879 : decode cL_law 879 = .ok (.iconst 4, 1) := by decide +kernel
theorem dL_law_880 : decode cL_law 880 = .ok (.iadd, 1) := by decide +kernel
theorem dL_law_881 : decode cL_law 881 = .ok (.iaload, 1) := by decide +kernel
set_option maxRecDepth 100000 in
theorem wd_1149 : Cond.methodLink "LearnLoansLaw" 79 yX8_owes ∈ am_ws := am_wsi (List.mem_of_getElem? (i := 1149) (by rfl)) (by decide +kernel)
set_option maxRecDepth 100000 in
theorem wd_1150 : Cond.instanceMethod yX8_owes ∈ am_ws := am_wsi (List.mem_of_getElem? (i := 1150) (by rfl)) (by decide +kernel)
set_option maxRecDepth 100000 in
theorem wd_1151 : Cond.selects "LearnLoansModel" yX8_owes yX8_owes ∈ am_ws := am_wsi (List.mem_of_getElem? (i := 1151) (by rfl)) (by decide +kernel)
set_option maxRecDepth 100000 in
theorem wd_1152 : Cond.code yX8_owes cX8_owes 5 (some .long) ∈ am_ws := am_wsi (List.mem_of_getElem? (i := 1152) (by rfl)) (by decide +kernel)
theorem dL_law_882 : decode cL_law 882 = .ok (.invokevirtual 79, 3) := by decide +kernel
theorem dL_law_885 : decode cL_law 885 = .ok (.pop2, 1) := by decide +kernel
theorem dL_law_886 : decode cL_law 886 = .ok (.goto 955, 3) := by decide +kernel
def kL_c14 (Ln : Nat) (xs : Nat → Int32) : an_code := [(836, an_lf (fun live => am_aload 1 837)), (837, an_lf (fun live => am_aload 0 838)), (838, an_lf (fun live => am_iload 3 839)), (839, an_lf (fun live => am_const (.int 1) 840)), (840, an_lf (fun live => am_i2 (fun x y => x + y) 841)), (841, an_sld Ln xs 842), (842, an_lf (fun live => am_aload 0 843)), (843, an_lf (fun live => am_iload 3 844)), (844, an_lf (fun live => am_const (.int 2) 845)), (845, an_lf (fun live => am_i2 (fun x y => x + y) 846)), (846, an_sld Ln xs 847), (847, an_lf (fun live => am_aload 0 848)), (848, an_lf (fun live => am_iload 3 849)), (849, an_lf (fun live => am_const (.int 3) 850)), (850, an_lf (fun live => am_i2 (fun x y => x + y) 851)), (851, an_sld Ln xs 852), (852, an_lf (fun live => am_aload 0 853)), (853, an_lf (fun live => am_iload 3 854)), (854, an_lf (fun live => am_const (.int 4) 855)), (855, an_lf (fun live => am_i2 (fun x y => x + y) 856)), (856, an_sld Ln xs 857), (857, an_lf (fun live => am_callV live 7 4 TW_owes 860)), (860, an_lf (fun live => am_pop2 861)), (861, an_lf (fun live => am_aload 2 862)), (862, an_lf (fun live => am_aload 0 863)), (863, an_lf (fun live => am_iload 3 864)), (864, an_lf (fun live => am_const (.int 1) 865)), (865, an_lf (fun live => am_i2 (fun x y => x + y) 866)), (866, an_sld Ln xs 867), (867, an_lf (fun live => am_aload 0 868)), (868, an_lf (fun live => am_iload 3 869)), (869, an_lf (fun live => am_const (.int 2) 870)), (870, an_lf (fun live => am_i2 (fun x y => x + y) 871)), (871, an_sld Ln xs 872), (872, an_lf (fun live => am_aload 0 873)), (873, an_lf (fun live => am_iload 3 874)), (874, an_lf (fun live => am_const (.int 3) 875)), (875, an_lf (fun live => am_i2 (fun x y => x + y) 876)), (876, an_sld Ln xs 877), (877, an_lf (fun live => am_aload 0 878)), (878, an_lf (fun live => am_iload 3 879)), (879, an_lf (fun live => am_const (.int 4) 880)), (880, an_lf (fun live => am_i2 (fun x y => x + y) 881)), (881, an_sld Ln xs 882), (882, an_lf (fun live => am_callV live 8 4 TV_owes 885)), (885, an_lf (fun live => am_pop2 886)), (886, an_lf (fun live => am_goto 1841))]
theorem koL_c14 (Ln : Nat) (xs : Nat → Int32) : ∀ q ∈ kL_c14 Ln xs, an_ok RL cL_law 4 (some .boolean) 2000 80000 600000 7302250 false (lawP Ln xs) an_noR q.1 q.2 :=
  an_kc (an_lift (fun live => ak_aload_n dL_law_836 rfl rfl)) <|
  an_kc (an_lift (fun live => ak_aload_n dL_law_837 rfl rfl)) <|
  an_kc (an_lift (fun live => ak_iload_n dL_law_838 rfl rfl)) <|
  an_kc (an_lift (fun live => ak_iconst dL_law_839 (by decide +kernel) rfl)) <|
  an_kc (an_lift (fun live => ak_iadd dL_law_840 rfl)) <|
  an_kc (nk_sld dL_law_841 rfl) <|
  an_kc (an_lift (fun live => ak_aload_n dL_law_842 rfl rfl)) <|
  an_kc (an_lift (fun live => ak_iload_n dL_law_843 rfl rfl)) <|
  an_kc (an_lift (fun live => ak_iconst dL_law_844 (by decide +kernel) rfl)) <|
  an_kc (an_lift (fun live => ak_iadd dL_law_845 rfl)) <|
  an_kc (nk_sld dL_law_846 rfl) <|
  an_kc (an_lift (fun live => ak_aload_n dL_law_847 rfl rfl)) <|
  an_kc (an_lift (fun live => ak_iload_n dL_law_848 rfl rfl)) <|
  an_kc (an_lift (fun live => ak_iconst dL_law_849 (by decide +kernel) rfl)) <|
  an_kc (an_lift (fun live => ak_iadd dL_law_850 rfl)) <|
  an_kc (nk_sld dL_law_851 rfl) <|
  an_kc (an_lift (fun live => ak_aload_n dL_law_852 rfl rfl)) <|
  an_kc (an_lift (fun live => ak_iload_n dL_law_853 rfl rfl)) <|
  an_kc (an_lift (fun live => ak_iconst dL_law_854 (by decide +kernel) rfl)) <|
  an_kc (an_lift (fun live => ak_iadd dL_law_855 rfl)) <|
  an_kc (nk_sld dL_law_856 rfl) <|
  an_kc (an_lift (fun live => ak_callV (C := RX7) (F := TX7) (N := 4) metW_owes rfl ⟨rfl, by decide +kernel, by decide +kernel, by decide +kernel⟩ (am_w5 wd_541 wd_542 wd_543 wd_58 wd_544) (by decide) dL_law_857 rfl)) <|
  an_kc (an_lift (fun live => ak_pop2 dL_law_860 rfl)) <|
  an_kc (an_lift (fun live => ak_aload_n dL_law_861 rfl rfl)) <|
  an_kc (an_lift (fun live => ak_aload_n dL_law_862 rfl rfl)) <|
  an_kc (an_lift (fun live => ak_iload_n dL_law_863 rfl rfl)) <|
  an_kc (an_lift (fun live => ak_iconst dL_law_864 (by decide +kernel) rfl)) <|
  an_kc (an_lift (fun live => ak_iadd dL_law_865 rfl)) <|
  an_kc (nk_sld dL_law_866 rfl) <|
  an_kc (an_lift (fun live => ak_aload_n dL_law_867 rfl rfl)) <|
  an_kc (an_lift (fun live => ak_iload_n dL_law_868 rfl rfl)) <|
  an_kc (an_lift (fun live => ak_iconst dL_law_869 (by decide +kernel) rfl)) <|
  an_kc (an_lift (fun live => ak_iadd dL_law_870 rfl)) <|
  an_kc (nk_sld dL_law_871 rfl) <|
  an_kc (an_lift (fun live => ak_aload_n dL_law_872 rfl rfl)) <|
  an_kc (an_lift (fun live => ak_iload_n dL_law_873 rfl rfl)) <|
  an_kc (an_lift (fun live => ak_iconst dL_law_874 (by decide +kernel) rfl)) <|
  an_kc (an_lift (fun live => ak_iadd dL_law_875 rfl)) <|
  an_kc (nk_sld dL_law_876 rfl) <|
  an_kc (an_lift (fun live => ak_aload_n dL_law_877 rfl rfl)) <|
  an_kc (an_lift (fun live => ak_iload_n dL_law_878 rfl rfl)) <|
  an_kc (an_lift (fun live => ak_iconst dL_law_879 (by decide +kernel) rfl)) <|
  an_kc (an_lift (fun live => ak_iadd dL_law_880 rfl)) <|
  an_kc (nk_sld dL_law_881 rfl) <|
  an_kc (an_lift (fun live => ak_callV (C := RX8) (F := TX8) (N := 27) metV_owes rfl ⟨rfl, by decide +kernel, by decide +kernel, by decide +kernel⟩ (am_w5 wd_1149 wd_1150 wd_1151 wd_67 wd_1152) (by decide) dL_law_882 rfl)) <|
  an_kc (an_lift (fun live => ak_pop2 dL_law_885 rfl)) <|
  an_kc (an_lift (fun live => ak_goto dL_law_886 (by decide +kernel))) <| an_kn
set_option maxRecDepth 100000 in
set_option maxHeartbeats 4000000 in
theorem caseL_c14 {Ln : Nat} (xs : Nat → Int32) {i : Int32} {i1 i2 : Bool} {kc kn : Nat} {M : am_M} (h : LX i1 i2 M) (hi : lawI Ln i kc kn) : an_wp (kL_c14 Ln xs) (lawC Ln i) 200 (an_go (kL_c14 Ln xs) 836) (lawL i) [] ((am_lv i1 i2, am_q i1 i2), kc, kn, M) := by
    obtain ⟨⟨f1, f2, f3, f4, f5, f6, f7⟩, k1, k2, k3, k4⟩ := hi.f
    have hmn : am_mn (am_lv i1 i2, am_q i1 i2) := ⟨_, _, rfl⟩
    repeat' (first | (with_reducible exact f1) | (with_reducible exact f2) | (with_reducible exact f3) | (with_reducible exact f4) | (with_reducible exact f5) | (with_reducible exact f6) | (with_reducible exact f7) | (with_reducible exact hmn) | (with_reducible exact h) | (with_reducible exact k1) | (with_reducible exact k2) | (with_reducible exact k3) | (with_reducible exact k4) | apply And.intro | exact rfl | ((with_reducible change r_I _); (with_reducible assumption)) | (intro hx; exact absurd hx (by decide)) | (intro hx; exact absurd (by decide) hx) | decide | intro hx | (refine Exists.intro _ (And.intro rfl ?_)) | (refine Exists.intro _ (Exists.intro _ (And.intro rfl (And.intro rfl ?_)))) | ((with_reducible change LX _ _ _); (with_reducible assumption)) | ((with_reducible change _ = true); simp only [k1, k2, k3, k4, Bool.true_and]; rfl))
    all_goals try first | (with_reducible change am_tI _ _) | (change Ret _ _) | (change Ret _ _ _) | (change Exists _)
    all_goals try dsimp only at *
    all_goals try exact absurd ‹(1000 : Int64) = 0› (by decide)
    all_goals first
      | exact ⟨_, _, rfl⟩
      | exact lawE.mk hi (by with_reducible assumption) (by omega) (by omega)
      | skip
theorem dL_law_889 : decode cL_law 889 = .ok (.aload_n 1, 1) := by decide +kernel
theorem dL_law_890 : decode cL_law 890 = .ok (.aload_n 0, 1) := by decide +kernel
theorem dL_law_891 : decode cL_law 891 = .ok (.iload_n 3, 1) := by decide +kernel
theorem dL_law_892 : decode cL_law 892 = .ok (.iconst 1, 1) := by decide +kernel
theorem dL_law_893 : decode cL_law 893 = .ok (.iadd, 1) := by decide +kernel
theorem dL_law_894 : decode cL_law 894 = .ok (.iaload, 1) := by decide +kernel
theorem dL_law_895 : decode cL_law 895 = .ok (.aload_n 0, 1) := by decide +kernel
theorem dL_law_896 : decode cL_law 896 = .ok (.iload_n 3, 1) := by decide +kernel
theorem dL_law_897 : decode cL_law 897 = .ok (.iconst 2, 1) := by decide +kernel
theorem dL_law_898 : decode cL_law 898 = .ok (.iadd, 1) := by decide +kernel
theorem dL_law_899 : decode cL_law 899 = .ok (.iaload, 1) := by decide +kernel
theorem dL_law_900 : decode cL_law 900 = .ok (.aload_n 0, 1) := by decide +kernel
theorem dL_law_901 : decode cL_law 901 = .ok (.iload_n 3, 1) := by decide +kernel
theorem dL_law_902 : decode cL_law 902 = .ok (.iconst 3, 1) := by decide +kernel
theorem dL_law_903 : decode cL_law 903 = .ok (.iadd, 1) := by decide +kernel
theorem dL_law_904 : decode cL_law 904 = .ok (.iaload, 1) := by decide +kernel
theorem dL_law_905 : decode cL_law 905 = .ok (.aload_n 0, 1) := by decide +kernel
theorem dL_law_906 : decode cL_law 906 = .ok (.iload_n 3, 1) := by decide +kernel
theorem dL_law_907 : decode cL_law 907 = .ok (.iconst 4, 1) := by decide +kernel
theorem dL_law_908 : decode cL_law 908 = .ok (.iadd, 1) := by decide +kernel
theorem dL_law_909 : decode cL_law 909 = .ok (.iaload, 1) := by decide +kernel
set_option maxRecDepth 100000 in
theorem wd_641 : Cond.methodLink "LearnLoansLaw" 80 yX7_all ∈ am_ws := am_wsi (List.mem_of_getElem? (i := 641) (by rfl)) (by decide +kernel)
set_option maxRecDepth 100000 in
theorem wd_642 : Cond.instanceMethod yX7_all ∈ am_ws := am_wsi (List.mem_of_getElem? (i := 642) (by rfl)) (by decide +kernel)
set_option maxRecDepth 100000 in
theorem wd_643 : Cond.selects "LearnLoans" yX7_all yX7_all ∈ am_ws := am_wsi (List.mem_of_getElem? (i := 643) (by rfl)) (by decide +kernel)
set_option maxRecDepth 100000 in
theorem wd_644 : Cond.code yX7_all cX7_all 5 (some .long) ∈ am_ws := am_wsi (List.mem_of_getElem? (i := 644) (by rfl)) (by decide +kernel)
theorem dL_law_910 : decode cL_law 910 = .ok (.invokevirtual 80, 3) := by decide +kernel
theorem dL_law_913 : decode cL_law 913 = .ok (.pop2, 1) := by decide +kernel
theorem dL_law_914 : decode cL_law 914 = .ok (.aload_n 2, 1) := by decide +kernel
theorem dL_law_915 : decode cL_law 915 = .ok (.aload_n 0, 1) := by decide +kernel
theorem dL_law_916 : decode cL_law 916 = .ok (.iload_n 3, 1) := by decide +kernel
theorem dL_law_917 : decode cL_law 917 = .ok (.iconst 1, 1) := by decide +kernel
theorem dL_law_918 : decode cL_law 918 = .ok (.iadd, 1) := by decide +kernel
theorem dL_law_919 : decode cL_law 919 = .ok (.iaload, 1) := by decide +kernel
theorem dL_law_920 : decode cL_law 920 = .ok (.aload_n 0, 1) := by decide +kernel
theorem dL_law_921 : decode cL_law 921 = .ok (.iload_n 3, 1) := by decide +kernel
theorem dL_law_922 : decode cL_law 922 = .ok (.iconst 2, 1) := by decide +kernel
theorem dL_law_923 : decode cL_law 923 = .ok (.iadd, 1) := by decide +kernel
theorem dL_law_924 : decode cL_law 924 = .ok (.iaload, 1) := by decide +kernel
theorem dL_law_925 : decode cL_law 925 = .ok (.aload_n 0, 1) := by decide +kernel
theorem dL_law_926 : decode cL_law 926 = .ok (.iload_n 3, 1) := by decide +kernel
theorem dL_law_927 : decode cL_law 927 = .ok (.iconst 3, 1) := by decide +kernel
theorem dL_law_928 : decode cL_law 928 = .ok (.iadd, 1) := by decide +kernel
theorem dL_law_929 : decode cL_law 929 = .ok (.iaload, 1) := by decide +kernel
theorem dL_law_930 : decode cL_law 930 = .ok (.aload_n 0, 1) := by decide +kernel
theorem dL_law_931 : decode cL_law 931 = .ok (.iload_n 3, 1) := by decide +kernel
theorem dL_law_932 : decode cL_law 932 = .ok (.iconst 4, 1) := by decide +kernel
theorem dL_law_933 : decode cL_law 933 = .ok (.iadd, 1) := by decide +kernel
theorem dL_law_934 : decode cL_law 934 = .ok (.iaload, 1) := by decide +kernel
set_option maxRecDepth 100000 in
theorem wd_1191 : Cond.methodLink "LearnLoansLaw" 83 yX8_all ∈ am_ws := am_wsi (List.mem_of_getElem? (i := 1191) (by rfl)) (by decide +kernel)
set_option maxRecDepth 100000 in
theorem wd_1192 : Cond.instanceMethod yX8_all ∈ am_ws := am_wsi (List.mem_of_getElem? (i := 1192) (by rfl)) (by decide +kernel)
set_option maxRecDepth 100000 in
theorem wd_1193 : Cond.selects "LearnLoansModel" yX8_all yX8_all ∈ am_ws := am_wsi (List.mem_of_getElem? (i := 1193) (by rfl)) (by decide +kernel)
set_option maxRecDepth 100000 in
theorem wd_1194 : Cond.code yX8_all cX8_all 5 (some .long) ∈ am_ws := am_wsi (List.mem_of_getElem? (i := 1194) (by rfl)) (by decide +kernel)
theorem dL_law_935 : decode cL_law 935 = .ok (.invokevirtual 83, 3) := by decide +kernel
theorem dL_law_938 : decode cL_law 938 = .ok (.pop2, 1) := by decide +kernel
theorem dL_law_939 : decode cL_law 939 = .ok (.goto 902, 3) := by decide +kernel
def kL_c15 (Ln : Nat) (xs : Nat → Int32) : an_code := [(889, an_lf (fun live => am_aload 1 890)), (890, an_lf (fun live => am_aload 0 891)), (891, an_lf (fun live => am_iload 3 892)), (892, an_lf (fun live => am_const (.int 1) 893)), (893, an_lf (fun live => am_i2 (fun x y => x + y) 894)), (894, an_sld Ln xs 895), (895, an_lf (fun live => am_aload 0 896)), (896, an_lf (fun live => am_iload 3 897)), (897, an_lf (fun live => am_const (.int 2) 898)), (898, an_lf (fun live => am_i2 (fun x y => x + y) 899)), (899, an_sld Ln xs 900), (900, an_lf (fun live => am_aload 0 901)), (901, an_lf (fun live => am_iload 3 902)), (902, an_lf (fun live => am_const (.int 3) 903)), (903, an_lf (fun live => am_i2 (fun x y => x + y) 904)), (904, an_sld Ln xs 905), (905, an_lf (fun live => am_aload 0 906)), (906, an_lf (fun live => am_iload 3 907)), (907, an_lf (fun live => am_const (.int 4) 908)), (908, an_lf (fun live => am_i2 (fun x y => x + y) 909)), (909, an_sld Ln xs 910), (910, an_lf (fun live => am_callV live 7 4 TW_all 913)), (913, an_lf (fun live => am_pop2 914)), (914, an_lf (fun live => am_aload 2 915)), (915, an_lf (fun live => am_aload 0 916)), (916, an_lf (fun live => am_iload 3 917)), (917, an_lf (fun live => am_const (.int 1) 918)), (918, an_lf (fun live => am_i2 (fun x y => x + y) 919)), (919, an_sld Ln xs 920), (920, an_lf (fun live => am_aload 0 921)), (921, an_lf (fun live => am_iload 3 922)), (922, an_lf (fun live => am_const (.int 2) 923)), (923, an_lf (fun live => am_i2 (fun x y => x + y) 924)), (924, an_sld Ln xs 925), (925, an_lf (fun live => am_aload 0 926)), (926, an_lf (fun live => am_iload 3 927)), (927, an_lf (fun live => am_const (.int 3) 928)), (928, an_lf (fun live => am_i2 (fun x y => x + y) 929)), (929, an_sld Ln xs 930), (930, an_lf (fun live => am_aload 0 931)), (931, an_lf (fun live => am_iload 3 932)), (932, an_lf (fun live => am_const (.int 4) 933)), (933, an_lf (fun live => am_i2 (fun x y => x + y) 934)), (934, an_sld Ln xs 935), (935, an_lf (fun live => am_callV live 8 4 TV_all 938)), (938, an_lf (fun live => am_pop2 939)), (939, an_lf (fun live => am_goto 1841))]
theorem koL_c15 (Ln : Nat) (xs : Nat → Int32) : ∀ q ∈ kL_c15 Ln xs, an_ok RL cL_law 4 (some .boolean) 2000 80000 600000 7302250 false (lawP Ln xs) an_noR q.1 q.2 :=
  an_kc (an_lift (fun live => ak_aload_n dL_law_889 rfl rfl)) <|
  an_kc (an_lift (fun live => ak_aload_n dL_law_890 rfl rfl)) <|
  an_kc (an_lift (fun live => ak_iload_n dL_law_891 rfl rfl)) <|
  an_kc (an_lift (fun live => ak_iconst dL_law_892 (by decide +kernel) rfl)) <|
  an_kc (an_lift (fun live => ak_iadd dL_law_893 rfl)) <|
  an_kc (nk_sld dL_law_894 rfl) <|
  an_kc (an_lift (fun live => ak_aload_n dL_law_895 rfl rfl)) <|
  an_kc (an_lift (fun live => ak_iload_n dL_law_896 rfl rfl)) <|
  an_kc (an_lift (fun live => ak_iconst dL_law_897 (by decide +kernel) rfl)) <|
  an_kc (an_lift (fun live => ak_iadd dL_law_898 rfl)) <|
  an_kc (nk_sld dL_law_899 rfl) <|
  an_kc (an_lift (fun live => ak_aload_n dL_law_900 rfl rfl)) <|
  an_kc (an_lift (fun live => ak_iload_n dL_law_901 rfl rfl)) <|
  an_kc (an_lift (fun live => ak_iconst dL_law_902 (by decide +kernel) rfl)) <|
  an_kc (an_lift (fun live => ak_iadd dL_law_903 rfl)) <|
  an_kc (nk_sld dL_law_904 rfl) <|
  an_kc (an_lift (fun live => ak_aload_n dL_law_905 rfl rfl)) <|
  an_kc (an_lift (fun live => ak_iload_n dL_law_906 rfl rfl)) <|
  an_kc (an_lift (fun live => ak_iconst dL_law_907 (by decide +kernel) rfl)) <|
  an_kc (an_lift (fun live => ak_iadd dL_law_908 rfl)) <|
  an_kc (nk_sld dL_law_909 rfl) <|
  an_kc (an_lift (fun live => ak_callV (C := RX7) (F := TX7) (N := 4) metW_all rfl ⟨rfl, by decide +kernel, by decide +kernel, by decide +kernel⟩ (am_w5 wd_641 wd_642 wd_643 wd_58 wd_644) (by decide) dL_law_910 rfl)) <|
  an_kc (an_lift (fun live => ak_pop2 dL_law_913 rfl)) <|
  an_kc (an_lift (fun live => ak_aload_n dL_law_914 rfl rfl)) <|
  an_kc (an_lift (fun live => ak_aload_n dL_law_915 rfl rfl)) <|
  an_kc (an_lift (fun live => ak_iload_n dL_law_916 rfl rfl)) <|
  an_kc (an_lift (fun live => ak_iconst dL_law_917 (by decide +kernel) rfl)) <|
  an_kc (an_lift (fun live => ak_iadd dL_law_918 rfl)) <|
  an_kc (nk_sld dL_law_919 rfl) <|
  an_kc (an_lift (fun live => ak_aload_n dL_law_920 rfl rfl)) <|
  an_kc (an_lift (fun live => ak_iload_n dL_law_921 rfl rfl)) <|
  an_kc (an_lift (fun live => ak_iconst dL_law_922 (by decide +kernel) rfl)) <|
  an_kc (an_lift (fun live => ak_iadd dL_law_923 rfl)) <|
  an_kc (nk_sld dL_law_924 rfl) <|
  an_kc (an_lift (fun live => ak_aload_n dL_law_925 rfl rfl)) <|
  an_kc (an_lift (fun live => ak_iload_n dL_law_926 rfl rfl)) <|
  an_kc (an_lift (fun live => ak_iconst dL_law_927 (by decide +kernel) rfl)) <|
  an_kc (an_lift (fun live => ak_iadd dL_law_928 rfl)) <|
  an_kc (nk_sld dL_law_929 rfl) <|
  an_kc (an_lift (fun live => ak_aload_n dL_law_930 rfl rfl)) <|
  an_kc (an_lift (fun live => ak_iload_n dL_law_931 rfl rfl)) <|
  an_kc (an_lift (fun live => ak_iconst dL_law_932 (by decide +kernel) rfl)) <|
  an_kc (an_lift (fun live => ak_iadd dL_law_933 rfl)) <|
  an_kc (nk_sld dL_law_934 rfl) <|
  an_kc (an_lift (fun live => ak_callV (C := RX8) (F := TX8) (N := 27) metV_all rfl ⟨rfl, by decide +kernel, by decide +kernel, by decide +kernel⟩ (am_w5 wd_1191 wd_1192 wd_1193 wd_67 wd_1194) (by decide) dL_law_935 rfl)) <|
  an_kc (an_lift (fun live => ak_pop2 dL_law_938 rfl)) <|
  an_kc (an_lift (fun live => ak_goto dL_law_939 (by decide +kernel))) <| an_kn
set_option maxRecDepth 100000 in
set_option maxHeartbeats 4000000 in
theorem caseL_c15 {Ln : Nat} (xs : Nat → Int32) {i : Int32} {i1 i2 : Bool} {kc kn : Nat} {M : am_M} (h : LX i1 i2 M) (hi : lawI Ln i kc kn) : an_wp (kL_c15 Ln xs) (lawC Ln i) 200 (an_go (kL_c15 Ln xs) 889) (lawL i) [] ((am_lv i1 i2, am_q i1 i2), kc, kn, M) := by
    obtain ⟨⟨f1, f2, f3, f4, f5, f6, f7⟩, k1, k2, k3, k4⟩ := hi.f
    have hmn : am_mn (am_lv i1 i2, am_q i1 i2) := ⟨_, _, rfl⟩
    repeat' (first | (with_reducible exact f1) | (with_reducible exact f2) | (with_reducible exact f3) | (with_reducible exact f4) | (with_reducible exact f5) | (with_reducible exact f6) | (with_reducible exact f7) | (with_reducible exact hmn) | (with_reducible exact h) | (with_reducible exact k1) | (with_reducible exact k2) | (with_reducible exact k3) | (with_reducible exact k4) | apply And.intro | exact rfl | ((with_reducible change r_I _); (with_reducible assumption)) | (intro hx; exact absurd hx (by decide)) | (intro hx; exact absurd (by decide) hx) | decide | intro hx | (refine Exists.intro _ (And.intro rfl ?_)) | (refine Exists.intro _ (Exists.intro _ (And.intro rfl (And.intro rfl ?_)))) | ((with_reducible change LX _ _ _); (with_reducible assumption)) | ((with_reducible change _ = true); simp only [k1, k2, k3, k4, Bool.true_and]; rfl))
    all_goals try first | (with_reducible change am_tI _ _) | (change Ret _ _) | (change Ret _ _ _) | (change Exists _)
    all_goals try dsimp only at *
    all_goals try exact absurd ‹(1000 : Int64) = 0› (by decide)
    all_goals first
      | exact ⟨_, _, rfl⟩
      | exact lawE.mk hi (by with_reducible assumption) (by omega) (by omega)
      | skip
theorem dL_law_942 : decode cL_law 942 = .ok (.aload_n 1, 1) := by decide +kernel
theorem dL_law_943 : decode cL_law 943 = .ok (.aload_n 0, 1) := by decide +kernel
theorem dL_law_944 : decode cL_law 944 = .ok (.iload_n 3, 1) := by decide +kernel
theorem dL_law_945 : decode cL_law 945 = .ok (.iconst 1, 1) := by decide +kernel
theorem dL_law_946 : decode cL_law 946 = .ok (.iadd, 1) := by decide +kernel
theorem dL_law_947 : decode cL_law 947 = .ok (.iaload, 1) := by decide +kernel
theorem dL_law_948 : decode cL_law 948 = .ok (.aload_n 0, 1) := by decide +kernel
theorem dL_law_949 : decode cL_law 949 = .ok (.iload_n 3, 1) := by decide +kernel
theorem dL_law_950 : decode cL_law 950 = .ok (.iconst 2, 1) := by decide +kernel
theorem dL_law_951 : decode cL_law 951 = .ok (.iadd, 1) := by decide +kernel
theorem dL_law_952 : decode cL_law 952 = .ok (.iaload, 1) := by decide +kernel
theorem dL_law_953 : decode cL_law 953 = .ok (.aload_n 0, 1) := by decide +kernel
theorem dL_law_954 : decode cL_law 954 = .ok (.iload_n 3, 1) := by decide +kernel
theorem dL_law_955 : decode cL_law 955 = .ok (.iconst 3, 1) := by decide +kernel
theorem dL_law_956 : decode cL_law 956 = .ok (.iadd, 1) := by decide +kernel
theorem dL_law_957 : decode cL_law 957 = .ok (.iaload, 1) := by decide +kernel
set_option maxRecDepth 100000 in
theorem wd_653 : Cond.methodLink "LearnLoansLaw" 84 yX7_rate ∈ am_ws := am_wsi (List.mem_of_getElem? (i := 653) (by rfl)) (by decide +kernel)
set_option maxRecDepth 100000 in
theorem wd_654 : Cond.instanceMethod yX7_rate ∈ am_ws := am_wsi (List.mem_of_getElem? (i := 654) (by rfl)) (by decide +kernel)
set_option maxRecDepth 100000 in
theorem wd_655 : Cond.selects "LearnLoans" yX7_rate yX7_rate ∈ am_ws := am_wsi (List.mem_of_getElem? (i := 655) (by rfl)) (by decide +kernel)
set_option maxRecDepth 100000 in
theorem wd_656 : Cond.code yX7_rate cX7_rate 4 (some .int) ∈ am_ws := am_wsi (List.mem_of_getElem? (i := 656) (by rfl)) (by decide +kernel)
theorem dL_law_958 : decode cL_law 958 = .ok (.invokevirtual 84, 3) := by decide +kernel
theorem dL_law_961 : decode cL_law 961 = .ok (.aload_n 2, 1) := by decide +kernel
theorem dL_law_962 : decode cL_law 962 = .ok (.aload_n 0, 1) := by decide +kernel
theorem dL_law_963 : decode cL_law 963 = .ok (.iload_n 3, 1) := by decide +kernel
theorem dL_law_964 : decode cL_law 964 = .ok (.iconst 1, 1) := by decide +kernel
theorem dL_law_965 : decode cL_law 965 = .ok (.iadd, 1) := by decide +kernel
theorem dL_law_966 : decode cL_law 966 = .ok (.iaload, 1) := by decide +kernel
theorem dL_law_967 : decode cL_law 967 = .ok (.aload_n 0, 1) := by decide +kernel
theorem dL_law_968 : decode cL_law 968 = .ok (.iload_n 3, 1) := by decide +kernel
theorem dL_law_969 : decode cL_law 969 = .ok (.iconst 2, 1) := by decide +kernel
theorem dL_law_970 : decode cL_law 970 = .ok (.iadd, 1) := by decide +kernel
theorem dL_law_971 : decode cL_law 971 = .ok (.iaload, 1) := by decide +kernel
theorem dL_law_972 : decode cL_law 972 = .ok (.aload_n 0, 1) := by decide +kernel
theorem dL_law_973 : decode cL_law 973 = .ok (.iload_n 3, 1) := by decide +kernel
theorem dL_law_974 : decode cL_law 974 = .ok (.iconst 3, 1) := by decide +kernel
theorem dL_law_975 : decode cL_law 975 = .ok (.iadd, 1) := by decide +kernel
theorem dL_law_976 : decode cL_law 976 = .ok (.iaload, 1) := by decide +kernel
set_option maxRecDepth 100000 in
theorem wd_1199 : Cond.methodLink "LearnLoansLaw" 87 yX8_rate ∈ am_ws := am_wsi (List.mem_of_getElem? (i := 1199) (by rfl)) (by decide +kernel)
set_option maxRecDepth 100000 in
theorem wd_1200 : Cond.instanceMethod yX8_rate ∈ am_ws := am_wsi (List.mem_of_getElem? (i := 1200) (by rfl)) (by decide +kernel)
set_option maxRecDepth 100000 in
theorem wd_1201 : Cond.selects "LearnLoansModel" yX8_rate yX8_rate ∈ am_ws := am_wsi (List.mem_of_getElem? (i := 1201) (by rfl)) (by decide +kernel)
set_option maxRecDepth 100000 in
theorem wd_1202 : Cond.code yX8_rate cX8_rate 5 (some .int) ∈ am_ws := am_wsi (List.mem_of_getElem? (i := 1202) (by rfl)) (by decide +kernel)
theorem dL_law_977 : decode cL_law 977 = .ok (.invokevirtual 87, 3) := by decide +kernel
theorem dL_law_980 : decode cL_law 980 = .ok (.if_icmp .eq 861, 3) := by decide +kernel
def kL_c16 (Ln : Nat) (xs : Nat → Int32) : an_code := [(942, an_lf (fun live => am_aload 1 943)), (943, an_lf (fun live => am_aload 0 944)), (944, an_lf (fun live => am_iload 3 945)), (945, an_lf (fun live => am_const (.int 1) 946)), (946, an_lf (fun live => am_i2 (fun x y => x + y) 947)), (947, an_sld Ln xs 948), (948, an_lf (fun live => am_aload 0 949)), (949, an_lf (fun live => am_iload 3 950)), (950, an_lf (fun live => am_const (.int 2) 951)), (951, an_lf (fun live => am_i2 (fun x y => x + y) 952)), (952, an_sld Ln xs 953), (953, an_lf (fun live => am_aload 0 954)), (954, an_lf (fun live => am_iload 3 955)), (955, an_lf (fun live => am_const (.int 3) 956)), (956, an_lf (fun live => am_i2 (fun x y => x + y) 957)), (957, an_sld Ln xs 958), (958, an_lf (fun live => am_callV live 7 3 TW_rate 961)), (961, an_lf (fun live => am_aload 2 962)), (962, an_lf (fun live => am_aload 0 963)), (963, an_lf (fun live => am_iload 3 964)), (964, an_lf (fun live => am_const (.int 1) 965)), (965, an_lf (fun live => am_i2 (fun x y => x + y) 966)), (966, an_sld Ln xs 967), (967, an_lf (fun live => am_aload 0 968)), (968, an_lf (fun live => am_iload 3 969)), (969, an_lf (fun live => am_const (.int 2) 970)), (970, an_lf (fun live => am_i2 (fun x y => x + y) 971)), (971, an_sld Ln xs 972), (972, an_lf (fun live => am_aload 0 973)), (973, an_lf (fun live => am_iload 3 974)), (974, an_lf (fun live => am_const (.int 3) 975)), (975, an_lf (fun live => am_i2 (fun x y => x + y) 976)), (976, an_sld Ln xs 977), (977, an_lf (fun live => am_callV live 8 3 TV_rate 980)), (980, an_lf (fun live => am_if2 (fun x y => x = y) 1841 983))]
theorem koL_c16 (Ln : Nat) (xs : Nat → Int32) : ∀ q ∈ kL_c16 Ln xs, an_ok RL cL_law 4 (some .boolean) 2000 80000 600000 7302250 false (lawP Ln xs) an_noR q.1 q.2 :=
  an_kc (an_lift (fun live => ak_aload_n dL_law_942 rfl rfl)) <|
  an_kc (an_lift (fun live => ak_aload_n dL_law_943 rfl rfl)) <|
  an_kc (an_lift (fun live => ak_iload_n dL_law_944 rfl rfl)) <|
  an_kc (an_lift (fun live => ak_iconst dL_law_945 (by decide +kernel) rfl)) <|
  an_kc (an_lift (fun live => ak_iadd dL_law_946 rfl)) <|
  an_kc (nk_sld dL_law_947 rfl) <|
  an_kc (an_lift (fun live => ak_aload_n dL_law_948 rfl rfl)) <|
  an_kc (an_lift (fun live => ak_iload_n dL_law_949 rfl rfl)) <|
  an_kc (an_lift (fun live => ak_iconst dL_law_950 (by decide +kernel) rfl)) <|
  an_kc (an_lift (fun live => ak_iadd dL_law_951 rfl)) <|
  an_kc (nk_sld dL_law_952 rfl) <|
  an_kc (an_lift (fun live => ak_aload_n dL_law_953 rfl rfl)) <|
  an_kc (an_lift (fun live => ak_iload_n dL_law_954 rfl rfl)) <|
  an_kc (an_lift (fun live => ak_iconst dL_law_955 (by decide +kernel) rfl)) <|
  an_kc (an_lift (fun live => ak_iadd dL_law_956 rfl)) <|
  an_kc (nk_sld dL_law_957 rfl) <|
  an_kc (an_lift (fun live => ak_callV (C := RX7) (F := TX7) (N := 4) metW_rate rfl ⟨rfl, by decide +kernel, by decide +kernel, by decide +kernel⟩ (am_w5 wd_653 wd_654 wd_655 wd_58 wd_656) (by decide) dL_law_958 rfl)) <|
  an_kc (an_lift (fun live => ak_aload_n dL_law_961 rfl rfl)) <|
  an_kc (an_lift (fun live => ak_aload_n dL_law_962 rfl rfl)) <|
  an_kc (an_lift (fun live => ak_iload_n dL_law_963 rfl rfl)) <|
  an_kc (an_lift (fun live => ak_iconst dL_law_964 (by decide +kernel) rfl)) <|
  an_kc (an_lift (fun live => ak_iadd dL_law_965 rfl)) <|
  an_kc (nk_sld dL_law_966 rfl) <|
  an_kc (an_lift (fun live => ak_aload_n dL_law_967 rfl rfl)) <|
  an_kc (an_lift (fun live => ak_iload_n dL_law_968 rfl rfl)) <|
  an_kc (an_lift (fun live => ak_iconst dL_law_969 (by decide +kernel) rfl)) <|
  an_kc (an_lift (fun live => ak_iadd dL_law_970 rfl)) <|
  an_kc (nk_sld dL_law_971 rfl) <|
  an_kc (an_lift (fun live => ak_aload_n dL_law_972 rfl rfl)) <|
  an_kc (an_lift (fun live => ak_iload_n dL_law_973 rfl rfl)) <|
  an_kc (an_lift (fun live => ak_iconst dL_law_974 (by decide +kernel) rfl)) <|
  an_kc (an_lift (fun live => ak_iadd dL_law_975 rfl)) <|
  an_kc (nk_sld dL_law_976 rfl) <|
  an_kc (an_lift (fun live => ak_callV (C := RX8) (F := TX8) (N := 27) metV_rate rfl ⟨rfl, by decide +kernel, by decide +kernel, by decide +kernel⟩ (am_w5 wd_1199 wd_1200 wd_1201 wd_67 wd_1202) (by decide) dL_law_977 rfl)) <|
  an_kc (an_lift (fun live => ak_icmp_eq dL_law_980 (by decide +kernel) rfl)) <| an_kn
set_option maxRecDepth 100000 in
set_option maxHeartbeats 4000000 in
theorem caseL_c16 {Ln : Nat} (xs : Nat → Int32) {i : Int32} {i1 i2 : Bool} {kc kn : Nat} {M : am_M} (h : LX i1 i2 M) (hi : lawI Ln i kc kn) : an_wp (kL_c16 Ln xs) (lawC Ln i) 200 (an_go (kL_c16 Ln xs) 942) (lawL i) [] ((am_lv i1 i2, am_q i1 i2), kc, kn, M) := by
    obtain ⟨⟨f1, f2, f3, f4, f5, f6, f7⟩, k1, k2, k3, k4⟩ := hi.f
    have hmn : am_mn (am_lv i1 i2, am_q i1 i2) := ⟨_, _, rfl⟩
    repeat' (first | (with_reducible exact f1) | (with_reducible exact f2) | (with_reducible exact f3) | (with_reducible exact f4) | (with_reducible exact f5) | (with_reducible exact f6) | (with_reducible exact f7) | (with_reducible exact hmn) | (with_reducible exact h) | (with_reducible exact k1) | (with_reducible exact k2) | (with_reducible exact k3) | (with_reducible exact k4) | apply And.intro | exact rfl | ((with_reducible change r_I _); (with_reducible assumption)) | (intro hx; exact absurd hx (by decide)) | (intro hx; exact absurd (by decide) hx) | decide | (intro hx; refine absurd ?_ hx; with_reducible assumption) | intro hx | (refine Exists.intro _ (And.intro rfl ?_)) | (refine Exists.intro _ (Exists.intro _ (And.intro rfl (And.intro rfl ?_)))) | ((with_reducible change LX _ _ _); (with_reducible assumption)) | ((with_reducible change _ = true); simp only [k1, k2, k3, k4, Bool.true_and]; rfl))
    all_goals try first | (with_reducible change am_tI _ _) | (change Ret _ _) | (change Ret _ _ _) | (change Exists _)
    all_goals try dsimp only at *
    all_goals try exact absurd ‹(1000 : Int64) = 0› (by decide)
    all_goals first
      | exact ⟨_, _, rfl⟩
      | exact lawE.mk hi (by with_reducible assumption) (by omega) (by omega)
      | skip
theorem dL_law_985 : decode cL_law 985 = .ok (.aload_n 1, 1) := by decide +kernel
theorem dL_law_986 : decode cL_law 986 = .ok (.aload_n 0, 1) := by decide +kernel
theorem dL_law_987 : decode cL_law 987 = .ok (.iload_n 3, 1) := by decide +kernel
theorem dL_law_988 : decode cL_law 988 = .ok (.iconst 1, 1) := by decide +kernel
theorem dL_law_989 : decode cL_law 989 = .ok (.iadd, 1) := by decide +kernel
theorem dL_law_990 : decode cL_law 990 = .ok (.iaload, 1) := by decide +kernel
theorem dL_law_991 : decode cL_law 991 = .ok (.aload_n 0, 1) := by decide +kernel
theorem dL_law_992 : decode cL_law 992 = .ok (.iload_n 3, 1) := by decide +kernel
theorem dL_law_993 : decode cL_law 993 = .ok (.iconst 2, 1) := by decide +kernel
theorem dL_law_994 : decode cL_law 994 = .ok (.iadd, 1) := by decide +kernel
theorem dL_law_995 : decode cL_law 995 = .ok (.iaload, 1) := by decide +kernel
theorem dL_law_996 : decode cL_law 996 = .ok (.aload_n 0, 1) := by decide +kernel
theorem dL_law_997 : decode cL_law 997 = .ok (.iload_n 3, 1) := by decide +kernel
theorem dL_law_998 : decode cL_law 998 = .ok (.iconst 3, 1) := by decide +kernel
theorem dL_law_999 : decode cL_law 999 = .ok (.iadd, 1) := by decide +kernel
theorem dL_law_1000 : decode cL_law 1000 = .ok (.iaload, 1) := by decide +kernel
set_option maxRecDepth 100000 in
theorem wd_659 : Cond.methodLink "LearnLoansLaw" 88 yX7_over ∈ am_ws := am_wsi (List.mem_of_getElem? (i := 659) (by rfl)) (by decide +kernel)
set_option maxRecDepth 100000 in
theorem wd_660 : Cond.instanceMethod yX7_over ∈ am_ws := am_wsi (List.mem_of_getElem? (i := 660) (by rfl)) (by decide +kernel)
set_option maxRecDepth 100000 in
theorem wd_661 : Cond.selects "LearnLoans" yX7_over yX7_over ∈ am_ws := am_wsi (List.mem_of_getElem? (i := 661) (by rfl)) (by decide +kernel)
set_option maxRecDepth 100000 in
theorem wd_662 : Cond.code yX7_over cX7_over 4 (some .long) ∈ am_ws := am_wsi (List.mem_of_getElem? (i := 662) (by rfl)) (by decide +kernel)
theorem dL_law_1001 : decode cL_law 1001 = .ok (.invokevirtual 88, 3) := by decide +kernel
theorem dL_law_1004 : decode cL_law 1004 = .ok (.pop2, 1) := by decide +kernel
theorem dL_law_1005 : decode cL_law 1005 = .ok (.aload_n 2, 1) := by decide +kernel
theorem dL_law_1006 : decode cL_law 1006 = .ok (.aload_n 0, 1) := by decide +kernel
theorem dL_law_1007 : decode cL_law 1007 = .ok (.iload_n 3, 1) := by decide +kernel
theorem dL_law_1008 : decode cL_law 1008 = .ok (.iconst 1, 1) := by decide +kernel
theorem dL_law_1009 : decode cL_law 1009 = .ok (.iadd, 1) := by decide +kernel
theorem dL_law_1010 : decode cL_law 1010 = .ok (.iaload, 1) := by decide +kernel
theorem dL_law_1011 : decode cL_law 1011 = .ok (.aload_n 0, 1) := by decide +kernel
theorem dL_law_1012 : decode cL_law 1012 = .ok (.iload_n 3, 1) := by decide +kernel
theorem dL_law_1013 : decode cL_law 1013 = .ok (.iconst 2, 1) := by decide +kernel
theorem dL_law_1014 : decode cL_law 1014 = .ok (.iadd, 1) := by decide +kernel
theorem dL_law_1015 : decode cL_law 1015 = .ok (.iaload, 1) := by decide +kernel
theorem dL_law_1016 : decode cL_law 1016 = .ok (.aload_n 0, 1) := by decide +kernel
theorem dL_law_1017 : decode cL_law 1017 = .ok (.iload_n 3, 1) := by decide +kernel
theorem dL_law_1018 : decode cL_law 1018 = .ok (.iconst 3, 1) := by decide +kernel
theorem dL_law_1019 : decode cL_law 1019 = .ok (.iadd, 1) := by decide +kernel
theorem dL_law_1020 : decode cL_law 1020 = .ok (.iaload, 1) := by decide +kernel
set_option maxRecDepth 100000 in
theorem wd_1203 : Cond.methodLink "LearnLoansLaw" 92 yX8_over ∈ am_ws := am_wsi (List.mem_of_getElem? (i := 1203) (by rfl)) (by decide +kernel)
set_option maxRecDepth 100000 in
theorem wd_1204 : Cond.instanceMethod yX8_over ∈ am_ws := am_wsi (List.mem_of_getElem? (i := 1204) (by rfl)) (by decide +kernel)
set_option maxRecDepth 100000 in
theorem wd_1205 : Cond.selects "LearnLoansModel" yX8_over yX8_over ∈ am_ws := am_wsi (List.mem_of_getElem? (i := 1205) (by rfl)) (by decide +kernel)
set_option maxRecDepth 100000 in
theorem wd_1206 : Cond.code yX8_over cX8_over 6 (some .long) ∈ am_ws := am_wsi (List.mem_of_getElem? (i := 1206) (by rfl)) (by decide +kernel)
theorem dL_law_1021 : decode cL_law 1021 = .ok (.invokevirtual 92, 3) := by decide +kernel
theorem dL_law_1024 : decode cL_law 1024 = .ok (.pop2, 1) := by decide +kernel
theorem dL_law_1025 : decode cL_law 1025 = .ok (.goto 816, 3) := by decide +kernel
def kL_c17 (Ln : Nat) (xs : Nat → Int32) : an_code := [(985, an_lf (fun live => am_aload 1 986)), (986, an_lf (fun live => am_aload 0 987)), (987, an_lf (fun live => am_iload 3 988)), (988, an_lf (fun live => am_const (.int 1) 989)), (989, an_lf (fun live => am_i2 (fun x y => x + y) 990)), (990, an_sld Ln xs 991), (991, an_lf (fun live => am_aload 0 992)), (992, an_lf (fun live => am_iload 3 993)), (993, an_lf (fun live => am_const (.int 2) 994)), (994, an_lf (fun live => am_i2 (fun x y => x + y) 995)), (995, an_sld Ln xs 996), (996, an_lf (fun live => am_aload 0 997)), (997, an_lf (fun live => am_iload 3 998)), (998, an_lf (fun live => am_const (.int 3) 999)), (999, an_lf (fun live => am_i2 (fun x y => x + y) 1000)), (1000, an_sld Ln xs 1001), (1001, an_lf (fun live => am_callV live 7 3 TW_over 1004)), (1004, an_lf (fun live => am_pop2 1005)), (1005, an_lf (fun live => am_aload 2 1006)), (1006, an_lf (fun live => am_aload 0 1007)), (1007, an_lf (fun live => am_iload 3 1008)), (1008, an_lf (fun live => am_const (.int 1) 1009)), (1009, an_lf (fun live => am_i2 (fun x y => x + y) 1010)), (1010, an_sld Ln xs 1011), (1011, an_lf (fun live => am_aload 0 1012)), (1012, an_lf (fun live => am_iload 3 1013)), (1013, an_lf (fun live => am_const (.int 2) 1014)), (1014, an_lf (fun live => am_i2 (fun x y => x + y) 1015)), (1015, an_sld Ln xs 1016), (1016, an_lf (fun live => am_aload 0 1017)), (1017, an_lf (fun live => am_iload 3 1018)), (1018, an_lf (fun live => am_const (.int 3) 1019)), (1019, an_lf (fun live => am_i2 (fun x y => x + y) 1020)), (1020, an_sld Ln xs 1021), (1021, an_lf (fun live => am_callV live 8 3 TV_over 1024)), (1024, an_lf (fun live => am_pop2 1025)), (1025, an_lf (fun live => am_goto 1841))]
theorem koL_c17 (Ln : Nat) (xs : Nat → Int32) : ∀ q ∈ kL_c17 Ln xs, an_ok RL cL_law 4 (some .boolean) 2000 80000 600000 7302250 false (lawP Ln xs) an_noR q.1 q.2 :=
  an_kc (an_lift (fun live => ak_aload_n dL_law_985 rfl rfl)) <|
  an_kc (an_lift (fun live => ak_aload_n dL_law_986 rfl rfl)) <|
  an_kc (an_lift (fun live => ak_iload_n dL_law_987 rfl rfl)) <|
  an_kc (an_lift (fun live => ak_iconst dL_law_988 (by decide +kernel) rfl)) <|
  an_kc (an_lift (fun live => ak_iadd dL_law_989 rfl)) <|
  an_kc (nk_sld dL_law_990 rfl) <|
  an_kc (an_lift (fun live => ak_aload_n dL_law_991 rfl rfl)) <|
  an_kc (an_lift (fun live => ak_iload_n dL_law_992 rfl rfl)) <|
  an_kc (an_lift (fun live => ak_iconst dL_law_993 (by decide +kernel) rfl)) <|
  an_kc (an_lift (fun live => ak_iadd dL_law_994 rfl)) <|
  an_kc (nk_sld dL_law_995 rfl) <|
  an_kc (an_lift (fun live => ak_aload_n dL_law_996 rfl rfl)) <|
  an_kc (an_lift (fun live => ak_iload_n dL_law_997 rfl rfl)) <|
  an_kc (an_lift (fun live => ak_iconst dL_law_998 (by decide +kernel) rfl)) <|
  an_kc (an_lift (fun live => ak_iadd dL_law_999 rfl)) <|
  an_kc (nk_sld dL_law_1000 rfl) <|
  an_kc (an_lift (fun live => ak_callV (C := RX7) (F := TX7) (N := 4) metW_over rfl ⟨rfl, by decide +kernel, by decide +kernel, by decide +kernel⟩ (am_w5 wd_659 wd_660 wd_661 wd_58 wd_662) (by decide) dL_law_1001 rfl)) <|
  an_kc (an_lift (fun live => ak_pop2 dL_law_1004 rfl)) <|
  an_kc (an_lift (fun live => ak_aload_n dL_law_1005 rfl rfl)) <|
  an_kc (an_lift (fun live => ak_aload_n dL_law_1006 rfl rfl)) <|
  an_kc (an_lift (fun live => ak_iload_n dL_law_1007 rfl rfl)) <|
  an_kc (an_lift (fun live => ak_iconst dL_law_1008 (by decide +kernel) rfl)) <|
  an_kc (an_lift (fun live => ak_iadd dL_law_1009 rfl)) <|
  an_kc (nk_sld dL_law_1010 rfl) <|
  an_kc (an_lift (fun live => ak_aload_n dL_law_1011 rfl rfl)) <|
  an_kc (an_lift (fun live => ak_iload_n dL_law_1012 rfl rfl)) <|
  an_kc (an_lift (fun live => ak_iconst dL_law_1013 (by decide +kernel) rfl)) <|
  an_kc (an_lift (fun live => ak_iadd dL_law_1014 rfl)) <|
  an_kc (nk_sld dL_law_1015 rfl) <|
  an_kc (an_lift (fun live => ak_aload_n dL_law_1016 rfl rfl)) <|
  an_kc (an_lift (fun live => ak_iload_n dL_law_1017 rfl rfl)) <|
  an_kc (an_lift (fun live => ak_iconst dL_law_1018 (by decide +kernel) rfl)) <|
  an_kc (an_lift (fun live => ak_iadd dL_law_1019 rfl)) <|
  an_kc (nk_sld dL_law_1020 rfl) <|
  an_kc (an_lift (fun live => ak_callV (C := RX8) (F := TX8) (N := 27) metV_over rfl ⟨rfl, by decide +kernel, by decide +kernel, by decide +kernel⟩ (am_w5 wd_1203 wd_1204 wd_1205 wd_67 wd_1206) (by decide) dL_law_1021 rfl)) <|
  an_kc (an_lift (fun live => ak_pop2 dL_law_1024 rfl)) <|
  an_kc (an_lift (fun live => ak_goto dL_law_1025 (by decide +kernel))) <| an_kn
set_option maxRecDepth 100000 in
set_option maxHeartbeats 4000000 in
theorem caseL_c17 {Ln : Nat} (xs : Nat → Int32) {i : Int32} {i1 i2 : Bool} {kc kn : Nat} {M : am_M} (h : LX i1 i2 M) (hi : lawI Ln i kc kn) : an_wp (kL_c17 Ln xs) (lawC Ln i) 200 (an_go (kL_c17 Ln xs) 985) (lawL i) [] ((am_lv i1 i2, am_q i1 i2), kc, kn, M) := by
    obtain ⟨⟨f1, f2, f3, f4, f5, f6, f7⟩, k1, k2, k3, k4⟩ := hi.f
    have hmn : am_mn (am_lv i1 i2, am_q i1 i2) := ⟨_, _, rfl⟩
    repeat' (first | (with_reducible exact f1) | (with_reducible exact f2) | (with_reducible exact f3) | (with_reducible exact f4) | (with_reducible exact f5) | (with_reducible exact f6) | (with_reducible exact f7) | (with_reducible exact hmn) | (with_reducible exact h) | (with_reducible exact k1) | (with_reducible exact k2) | (with_reducible exact k3) | (with_reducible exact k4) | apply And.intro | exact rfl | ((with_reducible change r_I _); (with_reducible assumption)) | (intro hx; exact absurd hx (by decide)) | (intro hx; exact absurd (by decide) hx) | decide | intro hx | (refine Exists.intro _ (And.intro rfl ?_)) | (refine Exists.intro _ (Exists.intro _ (And.intro rfl (And.intro rfl ?_)))) | ((with_reducible change LX _ _ _); (with_reducible assumption)) | ((with_reducible change _ = true); simp only [k1, k2, k3, k4, Bool.true_and]; rfl))
    all_goals try first | (with_reducible change am_tI _ _) | (change Ret _ _) | (change Ret _ _ _) | (change Exists _)
    all_goals try dsimp only at *
    all_goals try exact absurd ‹(1000 : Int64) = 0› (by decide)
    all_goals first
      | exact ⟨_, _, rfl⟩
      | exact lawE.mk hi (by with_reducible assumption) (by omega) (by omega)
      | skip
