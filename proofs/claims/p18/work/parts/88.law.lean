/-! the law: cases 30 to 36 -/
theorem dL_law_1616 : decode cL_law 1616 = .ok (.aload_n 1, 1) := by decide +kernel
theorem dL_law_1617 : decode cL_law 1617 = .ok (.aload_n 0, 1) := by decide +kernel
theorem dL_law_1618 : decode cL_law 1618 = .ok (.iload_n 3, 1) := by decide +kernel
theorem dL_law_1619 : decode cL_law 1619 = .ok (.iconst 1, 1) := by decide +kernel
theorem dL_law_1620 : decode cL_law 1620 = .ok (.iadd, 1) := by decide +kernel
theorem dL_law_1621 : decode cL_law 1621 = .ok (.iaload, 1) := by decide +kernel
set_option maxRecDepth 100000 in
theorem wd_812 : Cond.methodLink "LearnLoansLaw" 144 yX7_tell ∈ am_ws := am_wsi (List.mem_of_getElem? (i := 812) (by rfl)) (by decide +kernel)
set_option maxRecDepth 100000 in
theorem wd_813 : Cond.instanceMethod yX7_tell ∈ am_ws := am_wsi (List.mem_of_getElem? (i := 813) (by rfl)) (by decide +kernel)
set_option maxRecDepth 100000 in
theorem wd_814 : Cond.selects "LearnLoans" yX7_tell yX7_tell ∈ am_ws := am_wsi (List.mem_of_getElem? (i := 814) (by rfl)) (by decide +kernel)
set_option maxRecDepth 100000 in
theorem wd_815 : Cond.code yX7_tell cX7_tell 2 (some .int) ∈ am_ws := am_wsi (List.mem_of_getElem? (i := 815) (by rfl)) (by decide +kernel)
theorem dL_law_1622 : decode cL_law 1622 = .ok (.invokevirtual 144, 3) := by decide +kernel
theorem dL_law_1625 : decode cL_law 1625 = .ok (.pop, 1) := by decide +kernel
theorem dL_law_1626 : decode cL_law 1626 = .ok (.aload_n 2, 1) := by decide +kernel
theorem dL_law_1627 : decode cL_law 1627 = .ok (.aload_n 0, 1) := by decide +kernel
theorem dL_law_1628 : decode cL_law 1628 = .ok (.iload_n 3, 1) := by decide +kernel
theorem dL_law_1629 : decode cL_law 1629 = .ok (.iconst 1, 1) := by decide +kernel
theorem dL_law_1630 : decode cL_law 1630 = .ok (.iadd, 1) := by decide +kernel
theorem dL_law_1631 : decode cL_law 1631 = .ok (.iaload, 1) := by decide +kernel
set_option maxRecDepth 100000 in
theorem wd_1274 : Cond.methodLink "LearnLoansLaw" 147 yX8_tell ∈ am_ws := am_wsi (List.mem_of_getElem? (i := 1274) (by rfl)) (by decide +kernel)
set_option maxRecDepth 100000 in
theorem wd_1275 : Cond.instanceMethod yX8_tell ∈ am_ws := am_wsi (List.mem_of_getElem? (i := 1275) (by rfl)) (by decide +kernel)
set_option maxRecDepth 100000 in
theorem wd_1276 : Cond.selects "LearnLoansModel" yX8_tell yX8_tell ∈ am_ws := am_wsi (List.mem_of_getElem? (i := 1276) (by rfl)) (by decide +kernel)
set_option maxRecDepth 100000 in
theorem wd_1277 : Cond.code yX8_tell cX8_tell 2 (some .int) ∈ am_ws := am_wsi (List.mem_of_getElem? (i := 1277) (by rfl)) (by decide +kernel)
theorem dL_law_1632 : decode cL_law 1632 = .ok (.invokevirtual 147, 3) := by decide +kernel
theorem dL_law_1635 : decode cL_law 1635 = .ok (.pop, 1) := by decide +kernel
theorem dL_law_1636 : decode cL_law 1636 = .ok (.goto 205, 3) := by decide +kernel
def kL_c30 (Ln : Nat) (xs : Nat → Int32) : an_code := [(1616, an_lf (fun live => am_aload 1 1617)), (1617, an_lf (fun live => am_aload 0 1618)), (1618, an_lf (fun live => am_iload 3 1619)), (1619, an_lf (fun live => am_const (.int 1) 1620)), (1620, an_lf (fun live => am_i2 (fun x y => x + y) 1621)), (1621, an_sld Ln xs 1622), (1622, an_lf (fun live => am_callV live 7 1 TW_tell 1625)), (1625, an_lf (fun live => am_pop 1626)), (1626, an_lf (fun live => am_aload 2 1627)), (1627, an_lf (fun live => am_aload 0 1628)), (1628, an_lf (fun live => am_iload 3 1629)), (1629, an_lf (fun live => am_const (.int 1) 1630)), (1630, an_lf (fun live => am_i2 (fun x y => x + y) 1631)), (1631, an_sld Ln xs 1632), (1632, an_lf (fun live => am_callV live 8 1 TX8_tell 1635)), (1635, an_lf (fun live => am_pop 1636)), (1636, an_lf (fun live => am_goto 1841))]
theorem koL_c30 (Ln : Nat) (xs : Nat → Int32) : ∀ q ∈ kL_c30 Ln xs, an_ok RL cL_law 4 (some .boolean) 2000 80000 600000 7302250 false (lawP Ln xs) an_noR q.1 q.2 :=
  an_kc (an_lift (fun live => ak_aload_n dL_law_1616 rfl rfl)) <|
  an_kc (an_lift (fun live => ak_aload_n dL_law_1617 rfl rfl)) <|
  an_kc (an_lift (fun live => ak_iload_n dL_law_1618 rfl rfl)) <|
  an_kc (an_lift (fun live => ak_iconst dL_law_1619 (by decide +kernel) rfl)) <|
  an_kc (an_lift (fun live => ak_iadd dL_law_1620 rfl)) <|
  an_kc (nk_sld dL_law_1621 rfl) <|
  an_kc (an_lift (fun live => ak_callV (C := RX7) (F := TX7) (N := 4) metW_tell rfl ⟨rfl, by decide +kernel, by decide +kernel, by decide +kernel⟩ (am_w5 wd_812 wd_813 wd_814 wd_58 wd_815) (by decide) dL_law_1622 rfl)) <|
  an_kc (an_lift (fun live => ak_pop dL_law_1625 rfl)) <|
  an_kc (an_lift (fun live => ak_aload_n dL_law_1626 rfl rfl)) <|
  an_kc (an_lift (fun live => ak_aload_n dL_law_1627 rfl rfl)) <|
  an_kc (an_lift (fun live => ak_iload_n dL_law_1628 rfl rfl)) <|
  an_kc (an_lift (fun live => ak_iconst dL_law_1629 (by decide +kernel) rfl)) <|
  an_kc (an_lift (fun live => ak_iadd dL_law_1630 rfl)) <|
  an_kc (nk_sld dL_law_1631 rfl) <|
  an_kc (an_lift (fun live => ak_callV (C := RX8) (F := TX8) (N := 27) metX8_tell rfl ⟨rfl, by decide +kernel, by decide +kernel, by decide +kernel⟩ (am_w5 wd_1274 wd_1275 wd_1276 wd_67 wd_1277) (by decide) dL_law_1632 rfl)) <|
  an_kc (an_lift (fun live => ak_pop dL_law_1635 rfl)) <|
  an_kc (an_lift (fun live => ak_goto dL_law_1636 (by decide +kernel))) <| an_kn
set_option maxRecDepth 100000 in
set_option maxHeartbeats 4000000 in
theorem caseL_c30 {Ln : Nat} (xs : Nat → Int32) {i : Int32} {i1 i2 : Bool} {kc kn : Nat} {M : am_M} (h : LX i1 i2 M) (hi : lawI Ln i kc kn) : an_wp (kL_c30 Ln xs) (lawC Ln i) 200 (an_go (kL_c30 Ln xs) 1616) (lawL i) [] ((am_lv i1 i2, am_q i1 i2), kc, kn, M) := by
    obtain ⟨⟨f1, f2, f3, f4, f5, f6, f7⟩, k1, k2, k3, k4⟩ := hi.f
    have hmn : am_mn (am_lv i1 i2, am_q i1 i2) := ⟨_, _, rfl⟩
    repeat' (first | (with_reducible exact f1) | (with_reducible exact f2) | (with_reducible exact f3) | (with_reducible exact f4) | (with_reducible exact f5) | (with_reducible exact f6) | (with_reducible exact f7) | (with_reducible exact hmn) | (with_reducible exact h) | (with_reducible exact k1) | (with_reducible exact k2) | (with_reducible exact k3) | (with_reducible exact k4) | apply And.intro | exact rfl | ((with_reducible change r_I _); (with_reducible assumption)) | (intro hx; exact absurd hx (by decide)) | (intro hx; exact absurd (by decide) hx) | decide | intro hx | (refine Exists.intro _ (And.intro rfl ?_)) | (refine Exists.intro _ (Exists.intro _ (And.intro rfl (And.intro rfl ?_)))) | ((with_reducible change LX _ _ _); (with_reducible assumption)) | ((with_reducible change _ = true); simp only [k1, k2, k3, k4, Bool.true_and]; rfl))
    all_goals try first | (with_reducible change am_tI _ _) | (change Ret _ _) | (change Ret _ _ _) | (change Exists _)
    all_goals try dsimp only at *
    all_goals try exact absurd ‹(1000 : Int64) = 0› (by decide)
    all_goals first
      | exact ⟨_, _, rfl⟩
      | exact lawE.mk hi (by with_reducible assumption) (by omega) (by omega)
      | skip
theorem dL_law_1639 : decode cL_law 1639 = .ok (.aload_n 1, 1) := by decide +kernel
set_option maxRecDepth 100000 in
theorem wd_816 : Cond.methodLink "LearnLoansLaw" 148 yX7_untell ∈ am_ws := am_wsi (List.mem_of_getElem? (i := 816) (by rfl)) (by decide +kernel)
set_option maxRecDepth 100000 in
theorem wd_817 : Cond.instanceMethod yX7_untell ∈ am_ws := am_wsi (List.mem_of_getElem? (i := 817) (by rfl)) (by decide +kernel)
set_option maxRecDepth 100000 in
theorem wd_818 : Cond.selects "LearnLoans" yX7_untell yX7_untell ∈ am_ws := am_wsi (List.mem_of_getElem? (i := 818) (by rfl)) (by decide +kernel)
set_option maxRecDepth 100000 in
theorem wd_819 : Cond.code yX7_untell cX7_untell 2 (some .int) ∈ am_ws := am_wsi (List.mem_of_getElem? (i := 819) (by rfl)) (by decide +kernel)
theorem dL_law_1640 : decode cL_law 1640 = .ok (.invokevirtual 148, 3) := by decide +kernel
theorem dL_law_1643 : decode cL_law 1643 = .ok (.pop, 1) := by decide +kernel
theorem dL_law_1644 : decode cL_law 1644 = .ok (.aload_n 2, 1) := by decide +kernel
set_option maxRecDepth 100000 in
theorem wd_1278 : Cond.methodLink "LearnLoansLaw" 152 yX8_untell ∈ am_ws := am_wsi (List.mem_of_getElem? (i := 1278) (by rfl)) (by decide +kernel)
set_option maxRecDepth 100000 in
theorem wd_1279 : Cond.instanceMethod yX8_untell ∈ am_ws := am_wsi (List.mem_of_getElem? (i := 1279) (by rfl)) (by decide +kernel)
set_option maxRecDepth 100000 in
theorem wd_1280 : Cond.selects "LearnLoansModel" yX8_untell yX8_untell ∈ am_ws := am_wsi (List.mem_of_getElem? (i := 1280) (by rfl)) (by decide +kernel)
set_option maxRecDepth 100000 in
theorem wd_1281 : Cond.code yX8_untell cX8_untell 2 (some .int) ∈ am_ws := am_wsi (List.mem_of_getElem? (i := 1281) (by rfl)) (by decide +kernel)
theorem dL_law_1645 : decode cL_law 1645 = .ok (.invokevirtual 152, 3) := by decide +kernel
theorem dL_law_1648 : decode cL_law 1648 = .ok (.pop, 1) := by decide +kernel
theorem dL_law_1649 : decode cL_law 1649 = .ok (.goto 192, 3) := by decide +kernel
def kL_c31 (Ln : Nat) (xs : Nat → Int32) : an_code := [(1639, an_lf (fun live => am_aload 1 1640)), (1640, an_lf (fun live => am_callV live 7 0 TW_untell 1643)), (1643, an_lf (fun live => am_pop 1644)), (1644, an_lf (fun live => am_aload 2 1645)), (1645, an_lf (fun live => am_callV live 8 0 TX8_untell 1648)), (1648, an_lf (fun live => am_pop 1649)), (1649, an_lf (fun live => am_goto 1841))]
theorem koL_c31 (Ln : Nat) (xs : Nat → Int32) : ∀ q ∈ kL_c31 Ln xs, an_ok RL cL_law 4 (some .boolean) 2000 80000 600000 7302250 false (lawP Ln xs) an_noR q.1 q.2 :=
  an_kc (an_lift (fun live => ak_aload_n dL_law_1639 rfl rfl)) <|
  an_kc (an_lift (fun live => ak_callV (C := RX7) (F := TX7) (N := 4) metW_untell rfl ⟨rfl, by decide +kernel, by decide +kernel, by decide +kernel⟩ (am_w5 wd_816 wd_817 wd_818 wd_58 wd_819) (by decide) dL_law_1640 rfl)) <|
  an_kc (an_lift (fun live => ak_pop dL_law_1643 rfl)) <|
  an_kc (an_lift (fun live => ak_aload_n dL_law_1644 rfl rfl)) <|
  an_kc (an_lift (fun live => ak_callV (C := RX8) (F := TX8) (N := 27) metX8_untell rfl ⟨rfl, by decide +kernel, by decide +kernel, by decide +kernel⟩ (am_w5 wd_1278 wd_1279 wd_1280 wd_67 wd_1281) (by decide) dL_law_1645 rfl)) <|
  an_kc (an_lift (fun live => ak_pop dL_law_1648 rfl)) <|
  an_kc (an_lift (fun live => ak_goto dL_law_1649 (by decide +kernel))) <| an_kn
set_option maxRecDepth 100000 in
set_option maxHeartbeats 4000000 in
theorem caseL_c31 {Ln : Nat} (xs : Nat → Int32) {i : Int32} {i1 i2 : Bool} {kc kn : Nat} {M : am_M} (h : LX i1 i2 M) (hi : lawI Ln i kc kn) : an_wp (kL_c31 Ln xs) (lawC Ln i) 200 (an_go (kL_c31 Ln xs) 1639) (lawL i) [] ((am_lv i1 i2, am_q i1 i2), kc, kn, M) := by
    obtain ⟨⟨f1, f2, f3, f4, f5, f6, f7⟩, k1, k2, k3, k4⟩ := hi.f
    have hmn : am_mn (am_lv i1 i2, am_q i1 i2) := ⟨_, _, rfl⟩
    repeat' (first | (with_reducible exact f1) | (with_reducible exact f2) | (with_reducible exact f3) | (with_reducible exact f4) | (with_reducible exact f5) | (with_reducible exact f6) | (with_reducible exact f7) | (with_reducible exact hmn) | (with_reducible exact h) | (with_reducible exact k1) | (with_reducible exact k2) | (with_reducible exact k3) | (with_reducible exact k4) | apply And.intro | exact rfl | ((with_reducible change r_I _); (with_reducible assumption)) | (intro hx; exact absurd hx (by decide)) | (intro hx; exact absurd (by decide) hx) | decide | intro hx | (refine Exists.intro _ (And.intro rfl ?_)) | (refine Exists.intro _ (Exists.intro _ (And.intro rfl (And.intro rfl ?_)))) | ((with_reducible change LX _ _ _); (with_reducible assumption)) | ((with_reducible change _ = true); simp only [k1, k2, k3, k4, Bool.true_and]; rfl))
    all_goals try first | (with_reducible change am_tI _ _) | (change Ret _ _) | (change Ret _ _ _) | (change Exists _)
    all_goals try dsimp only at *
    all_goals try exact absurd ‹(1000 : Int64) = 0› (by decide)
    all_goals first
      | exact ⟨_, _, rfl⟩
      | exact lawE.mk hi (by with_reducible assumption) (by omega) (by omega)
      | skip
theorem dL_law_1652 : decode cL_law 1652 = .ok (.aload_n 1, 1) := by decide +kernel
theorem dL_law_1653 : decode cL_law 1653 = .ok (.aload_n 0, 1) := by decide +kernel
theorem dL_law_1654 : decode cL_law 1654 = .ok (.iload_n 3, 1) := by decide +kernel
theorem dL_law_1655 : decode cL_law 1655 = .ok (.iconst 1, 1) := by decide +kernel
theorem dL_law_1656 : decode cL_law 1656 = .ok (.iadd, 1) := by decide +kernel
theorem dL_law_1657 : decode cL_law 1657 = .ok (.iaload, 1) := by decide +kernel
theorem dL_law_1658 : decode cL_law 1658 = .ok (.aload_n 0, 1) := by decide +kernel
theorem dL_law_1659 : decode cL_law 1659 = .ok (.iload_n 3, 1) := by decide +kernel
theorem dL_law_1660 : decode cL_law 1660 = .ok (.iconst 2, 1) := by decide +kernel
theorem dL_law_1661 : decode cL_law 1661 = .ok (.iadd, 1) := by decide +kernel
theorem dL_law_1662 : decode cL_law 1662 = .ok (.iaload, 1) := by decide +kernel
theorem dL_law_1663 : decode cL_law 1663 = .ok (.aload_n 0, 1) := by decide +kernel
theorem dL_law_1664 : decode cL_law 1664 = .ok (.iload_n 3, 1) := by decide +kernel
theorem dL_law_1665 : decode cL_law 1665 = .ok (.iconst 3, 1) := by decide +kernel
theorem dL_law_1666 : decode cL_law 1666 = .ok (.iadd, 1) := by decide +kernel
theorem dL_law_1667 : decode cL_law 1667 = .ok (.iaload, 1) := by decide +kernel
theorem dL_law_1668 : decode cL_law 1668 = .ok (.aload_n 0, 1) := by decide +kernel
theorem dL_law_1669 : decode cL_law 1669 = .ok (.iload_n 3, 1) := by decide +kernel
theorem dL_law_1670 : decode cL_law 1670 = .ok (.iconst 4, 1) := by decide +kernel
theorem dL_law_1671 : decode cL_law 1671 = .ok (.iadd, 1) := by decide +kernel
theorem dL_law_1672 : decode cL_law 1672 = .ok (.iaload, 1) := by decide +kernel
theorem dL_law_1673 : decode cL_law 1673 = .ok (.aload_n 0, 1) := by decide +kernel
theorem dL_law_1674 : decode cL_law 1674 = .ok (.iload_n 3, 1) := by decide +kernel
theorem dL_law_1675 : decode cL_law 1675 = .ok (.iconst 5, 1) := by decide +kernel
theorem dL_law_1676 : decode cL_law 1676 = .ok (.iadd, 1) := by decide +kernel
theorem dL_law_1677 : decode cL_law 1677 = .ok (.iaload, 1) := by decide +kernel
theorem dL_law_1678 : decode cL_law 1678 = .ok (.aload_n 0, 1) := by decide +kernel
theorem dL_law_1679 : decode cL_law 1679 = .ok (.iload_n 3, 1) := by decide +kernel
theorem dL_law_1680 : decode cL_law 1680 = .ok (.bipush 6, 2) := by decide +kernel
theorem dL_law_1682 : decode cL_law 1682 = .ok (.iadd, 1) := by decide +kernel
theorem dL_law_1683 : decode cL_law 1683 = .ok (.iaload, 1) := by decide +kernel
theorem dL_law_1684 : decode cL_law 1684 = .ok (.i2l, 1) := by decide +kernel
theorem dL_law_1685 : decode cL_law 1685 = .ok (.bipush 32, 2) := by decide +kernel
theorem dL_law_1687 : decode cL_law 1687 = .ok (.lshl, 1) := by decide +kernel
theorem dL_law_1688 : decode cL_law 1688 = .ok (.aload_n 0, 1) := by decide +kernel
theorem dL_law_1689 : decode cL_law 1689 = .ok (.iload_n 3, 1) := by decide +kernel
theorem dL_law_1690 : decode cL_law 1690 = .ok (.bipush 7, 2) := by decide +kernel
theorem dL_law_1692 : decode cL_law 1692 = .ok (.iadd, 1) := by decide +kernel
theorem dL_law_1693 : decode cL_law 1693 = .ok (.iaload, 1) := by decide +kernel
theorem dL_law_1694 : decode cL_law 1694 = .ok (.i2l, 1) := by decide +kernel
set_option maxRecDepth 100000 in
theorem wd_1307 : Cond.constantLong "LearnLoansLaw" 153 4294967295 ∈ am_ws := am_wsi (List.mem_of_getElem? (i := 1307) (by rfl)) (by decide +kernel)
theorem dL_law_1695 : decode cL_law 1695 = .ok (.ldc2_w 153, 3) := by decide +kernel
theorem dL_law_1698 : decode cL_law 1698 = .ok (.land, 1) := by decide +kernel
theorem dL_law_1699 : decode cL_law 1699 = .ok (.lor, 1) := by decide +kernel
set_option maxRecDepth 100000 in
theorem wd_820 : Cond.methodLink "LearnLoansLaw" 155 yX7_best ∈ am_ws := am_wsi (List.mem_of_getElem? (i := 820) (by rfl)) (by decide +kernel)
set_option maxRecDepth 100000 in
theorem wd_821 : Cond.instanceMethod yX7_best ∈ am_ws := am_wsi (List.mem_of_getElem? (i := 821) (by rfl)) (by decide +kernel)
set_option maxRecDepth 100000 in
theorem wd_822 : Cond.selects "LearnLoans" yX7_best yX7_best ∈ am_ws := am_wsi (List.mem_of_getElem? (i := 822) (by rfl)) (by decide +kernel)
set_option maxRecDepth 100000 in
theorem wd_823 : Cond.code yX7_best cX7_best 12 (some .int) ∈ am_ws := am_wsi (List.mem_of_getElem? (i := 823) (by rfl)) (by decide +kernel)
theorem dL_law_1700 : decode cL_law 1700 = .ok (.invokevirtual 155, 3) := by decide +kernel
theorem dL_law_1703 : decode cL_law 1703 = .ok (.pop, 1) := by decide +kernel
theorem dL_law_1704 : decode cL_law 1704 = .ok (.aload_n 2, 1) := by decide +kernel
theorem dL_law_1705 : decode cL_law 1705 = .ok (.aload_n 0, 1) := by decide +kernel
theorem dL_law_1706 : decode cL_law 1706 = .ok (.iload_n 3, 1) := by decide +kernel
theorem dL_law_1707 : decode cL_law 1707 = .ok (.iconst 1, 1) := by decide +kernel
theorem dL_law_1708 : decode cL_law 1708 = .ok (.iadd, 1) := by decide +kernel
theorem dL_law_1709 : decode cL_law 1709 = .ok (.iaload, 1) := by decide +kernel
theorem dL_law_1710 : decode cL_law 1710 = .ok (.aload_n 0, 1) := by decide +kernel
theorem dL_law_1711 : decode cL_law 1711 = .ok (.iload_n 3, 1) := by decide +kernel
theorem dL_law_1712 : decode cL_law 1712 = .ok (.iconst 2, 1) := by decide +kernel
theorem dL_law_1713 : decode cL_law 1713 = .ok (.iadd, 1) := by decide +kernel
theorem dL_law_1714 : decode cL_law 1714 = .ok (.iaload, 1) := by decide +kernel
theorem dL_law_1715 : decode cL_law 1715 = .ok (.aload_n 0, 1) := by decide +kernel
theorem dL_law_1716 : decode cL_law 1716 = .ok (.iload_n 3, 1) := by decide +kernel
theorem dL_law_1717 : decode cL_law 1717 = .ok (.iconst 3, 1) := by decide +kernel
theorem dL_law_1718 : decode cL_law 1718 = .ok (.iadd, 1) := by decide +kernel
theorem dL_law_1719 : decode cL_law 1719 = .ok (.iaload, 1) := by decide +kernel
theorem dL_law_1720 : decode cL_law 1720 = .ok (.aload_n 0, 1) := by decide +kernel
theorem dL_law_1721 : decode cL_law 1721 = .ok (.iload_n 3, 1) := by decide +kernel
theorem dL_law_1722 : decode cL_law 1722 = .ok (.iconst 4, 1) := by decide +kernel
theorem dL_law_1723 : decode cL_law 1723 = .ok (.iadd, 1) := by decide +kernel
theorem dL_law_1724 : decode cL_law 1724 = .ok (.iaload, 1) := by decide +kernel
theorem dL_law_1725 : decode cL_law 1725 = .ok (.aload_n 0, 1) := by decide +kernel
theorem dL_law_1726 : decode cL_law 1726 = .ok (.iload_n 3, 1) := by decide +kernel
theorem dL_law_1727 : decode cL_law 1727 = .ok (.iconst 5, 1) := by decide +kernel
theorem dL_law_1728 : decode cL_law 1728 = .ok (.iadd, 1) := by decide +kernel
theorem dL_law_1729 : decode cL_law 1729 = .ok (.iaload, 1) := by decide +kernel
theorem dL_law_1730 : decode cL_law 1730 = .ok (.aload_n 0, 1) := by decide +kernel
theorem dL_law_1731 : decode cL_law 1731 = .ok (.iload_n 3, 1) := by decide +kernel
theorem dL_law_1732 : decode cL_law 1732 = .ok (.bipush 6, 2) := by decide +kernel
theorem dL_law_1734 : decode cL_law 1734 = .ok (.iadd, 1) := by decide +kernel
theorem dL_law_1735 : decode cL_law 1735 = .ok (.iaload, 1) := by decide +kernel
theorem dL_law_1736 : decode cL_law 1736 = .ok (.i2l, 1) := by decide +kernel
theorem dL_law_1737 : decode cL_law 1737 = .ok (.bipush 32, 2) := by decide +kernel
theorem dL_law_1739 : decode cL_law 1739 = .ok (.lshl, 1) := by decide +kernel
theorem dL_law_1740 : decode cL_law 1740 = .ok (.aload_n 0, 1) := by decide +kernel
theorem dL_law_1741 : decode cL_law 1741 = .ok (.iload_n 3, 1) := by decide +kernel
theorem dL_law_1742 : decode cL_law 1742 = .ok (.bipush 7, 2) := by decide +kernel
theorem dL_law_1744 : decode cL_law 1744 = .ok (.iadd, 1) := by decide +kernel
theorem dL_law_1745 : decode cL_law 1745 = .ok (.iaload, 1) := by decide +kernel
theorem dL_law_1746 : decode cL_law 1746 = .ok (.i2l, 1) := by decide +kernel
theorem dL_law_1747 : decode cL_law 1747 = .ok (.ldc2_w 153, 3) := by decide +kernel
theorem dL_law_1750 : decode cL_law 1750 = .ok (.land, 1) := by decide +kernel
theorem dL_law_1751 : decode cL_law 1751 = .ok (.lor, 1) := by decide +kernel
set_option maxRecDepth 100000 in
theorem wd_1282 : Cond.methodLink "LearnLoansLaw" 159 yX8_best ∈ am_ws := am_wsi (List.mem_of_getElem? (i := 1282) (by rfl)) (by decide +kernel)
set_option maxRecDepth 100000 in
theorem wd_1283 : Cond.instanceMethod yX8_best ∈ am_ws := am_wsi (List.mem_of_getElem? (i := 1283) (by rfl)) (by decide +kernel)
set_option maxRecDepth 100000 in
theorem wd_1284 : Cond.selects "LearnLoansModel" yX8_best yX8_best ∈ am_ws := am_wsi (List.mem_of_getElem? (i := 1284) (by rfl)) (by decide +kernel)
set_option maxRecDepth 100000 in
theorem wd_1285 : Cond.code yX8_best cX8_best 13 (some .int) ∈ am_ws := am_wsi (List.mem_of_getElem? (i := 1285) (by rfl)) (by decide +kernel)
theorem dL_law_1752 : decode cL_law 1752 = .ok (.invokevirtual 159, 3) := by decide +kernel
theorem dL_law_1755 : decode cL_law 1755 = .ok (.pop, 1) := by decide +kernel
theorem dL_law_1756 : decode cL_law 1756 = .ok (.goto 85, 3) := by decide +kernel
def kL_c32 (Ln : Nat) (xs : Nat → Int32) : an_code := [(1652, an_lf (fun live => am_aload 1 1653)), (1653, an_lf (fun live => am_aload 0 1654)), (1654, an_lf (fun live => am_iload 3 1655)), (1655, an_lf (fun live => am_const (.int 1) 1656)), (1656, an_lf (fun live => am_i2 (fun x y => x + y) 1657)), (1657, an_sld Ln xs 1658), (1658, an_lf (fun live => am_aload 0 1659)), (1659, an_lf (fun live => am_iload 3 1660)), (1660, an_lf (fun live => am_const (.int 2) 1661)), (1661, an_lf (fun live => am_i2 (fun x y => x + y) 1662)), (1662, an_sld Ln xs 1663), (1663, an_lf (fun live => am_aload 0 1664)), (1664, an_lf (fun live => am_iload 3 1665)), (1665, an_lf (fun live => am_const (.int 3) 1666)), (1666, an_lf (fun live => am_i2 (fun x y => x + y) 1667)), (1667, an_sld Ln xs 1668), (1668, an_lf (fun live => am_aload 0 1669)), (1669, an_lf (fun live => am_iload 3 1670)), (1670, an_lf (fun live => am_const (.int 4) 1671)), (1671, an_lf (fun live => am_i2 (fun x y => x + y) 1672)), (1672, an_sld Ln xs 1673), (1673, an_lf (fun live => am_aload 0 1674)), (1674, an_lf (fun live => am_iload 3 1675)), (1675, an_lf (fun live => am_const (.int 5) 1676)), (1676, an_lf (fun live => am_i2 (fun x y => x + y) 1677)), (1677, an_sld Ln xs 1678), (1678, an_lf (fun live => am_aload 0 1679)), (1679, an_lf (fun live => am_iload 3 1680)), (1680, an_lf (fun live => am_const (.int 6) 1682)), (1682, an_lf (fun live => am_i2 (fun x y => x + y) 1683)), (1683, an_sld Ln xs 1684), (1684, an_lf (fun live => am_i2l 1685)), (1685, an_lf (fun live => am_const (.int 32) 1687)), (1687, an_lf (fun live => am_lsh (fun x y => x <<< (y.toInt64 &&& 63)) 1688)), (1688, an_lf (fun live => am_aload 0 1689)), (1689, an_lf (fun live => am_iload 3 1690)), (1690, an_lf (fun live => am_const (.int 7) 1692)), (1692, an_lf (fun live => am_i2 (fun x y => x + y) 1693)), (1693, an_sld Ln xs 1694), (1694, an_lf (fun live => am_i2l 1695)), (1695, an_lf (fun live => am_const (.long 4294967295) 1698)), (1698, an_lf (fun live => am_l2 (fun x y => x &&& y) 1699)), (1699, an_lf (fun live => am_l2 (fun x y => x ||| y) 1700)), (1700, an_lf (fun live => am_callV live 7 6 TW_best 1703)), (1703, an_lf (fun live => am_pop 1704)), (1704, an_lf (fun live => am_aload 2 1705)), (1705, an_lf (fun live => am_aload 0 1706)), (1706, an_lf (fun live => am_iload 3 1707)), (1707, an_lf (fun live => am_const (.int 1) 1708)), (1708, an_lf (fun live => am_i2 (fun x y => x + y) 1709)), (1709, an_sld Ln xs 1710), (1710, an_lf (fun live => am_aload 0 1711)), (1711, an_lf (fun live => am_iload 3 1712)), (1712, an_lf (fun live => am_const (.int 2) 1713)), (1713, an_lf (fun live => am_i2 (fun x y => x + y) 1714)), (1714, an_sld Ln xs 1715), (1715, an_lf (fun live => am_aload 0 1716)), (1716, an_lf (fun live => am_iload 3 1717)), (1717, an_lf (fun live => am_const (.int 3) 1718)), (1718, an_lf (fun live => am_i2 (fun x y => x + y) 1719)), (1719, an_sld Ln xs 1720), (1720, an_lf (fun live => am_aload 0 1721)), (1721, an_lf (fun live => am_iload 3 1722)), (1722, an_lf (fun live => am_const (.int 4) 1723)), (1723, an_lf (fun live => am_i2 (fun x y => x + y) 1724)), (1724, an_sld Ln xs 1725), (1725, an_lf (fun live => am_aload 0 1726)), (1726, an_lf (fun live => am_iload 3 1727)), (1727, an_lf (fun live => am_const (.int 5) 1728)), (1728, an_lf (fun live => am_i2 (fun x y => x + y) 1729)), (1729, an_sld Ln xs 1730), (1730, an_lf (fun live => am_aload 0 1731)), (1731, an_lf (fun live => am_iload 3 1732)), (1732, an_lf (fun live => am_const (.int 6) 1734)), (1734, an_lf (fun live => am_i2 (fun x y => x + y) 1735)), (1735, an_sld Ln xs 1736), (1736, an_lf (fun live => am_i2l 1737)), (1737, an_lf (fun live => am_const (.int 32) 1739)), (1739, an_lf (fun live => am_lsh (fun x y => x <<< (y.toInt64 &&& 63)) 1740)), (1740, an_lf (fun live => am_aload 0 1741)), (1741, an_lf (fun live => am_iload 3 1742)), (1742, an_lf (fun live => am_const (.int 7) 1744)), (1744, an_lf (fun live => am_i2 (fun x y => x + y) 1745)), (1745, an_sld Ln xs 1746), (1746, an_lf (fun live => am_i2l 1747)), (1747, an_lf (fun live => am_const (.long 4294967295) 1750)), (1750, an_lf (fun live => am_l2 (fun x y => x &&& y) 1751)), (1751, an_lf (fun live => am_l2 (fun x y => x ||| y) 1752)), (1752, an_lf (fun live => am_callV live 8 6 TV_best 1755)), (1755, an_lf (fun live => am_pop 1756)), (1756, an_lf (fun live => am_goto 1841))]
theorem koL_c32 (Ln : Nat) (xs : Nat → Int32) : ∀ q ∈ kL_c32 Ln xs, an_ok RL cL_law 4 (some .boolean) 2000 80000 600000 7302250 false (lawP Ln xs) an_noR q.1 q.2 :=
  an_kc (an_lift (fun live => ak_aload_n dL_law_1652 rfl rfl)) <|
  an_kc (an_lift (fun live => ak_aload_n dL_law_1653 rfl rfl)) <|
  an_kc (an_lift (fun live => ak_iload_n dL_law_1654 rfl rfl)) <|
  an_kc (an_lift (fun live => ak_iconst dL_law_1655 (by decide +kernel) rfl)) <|
  an_kc (an_lift (fun live => ak_iadd dL_law_1656 rfl)) <|
  an_kc (nk_sld dL_law_1657 rfl) <|
  an_kc (an_lift (fun live => ak_aload_n dL_law_1658 rfl rfl)) <|
  an_kc (an_lift (fun live => ak_iload_n dL_law_1659 rfl rfl)) <|
  an_kc (an_lift (fun live => ak_iconst dL_law_1660 (by decide +kernel) rfl)) <|
  an_kc (an_lift (fun live => ak_iadd dL_law_1661 rfl)) <|
  an_kc (nk_sld dL_law_1662 rfl) <|
  an_kc (an_lift (fun live => ak_aload_n dL_law_1663 rfl rfl)) <|
  an_kc (an_lift (fun live => ak_iload_n dL_law_1664 rfl rfl)) <|
  an_kc (an_lift (fun live => ak_iconst dL_law_1665 (by decide +kernel) rfl)) <|
  an_kc (an_lift (fun live => ak_iadd dL_law_1666 rfl)) <|
  an_kc (nk_sld dL_law_1667 rfl) <|
  an_kc (an_lift (fun live => ak_aload_n dL_law_1668 rfl rfl)) <|
  an_kc (an_lift (fun live => ak_iload_n dL_law_1669 rfl rfl)) <|
  an_kc (an_lift (fun live => ak_iconst dL_law_1670 (by decide +kernel) rfl)) <|
  an_kc (an_lift (fun live => ak_iadd dL_law_1671 rfl)) <|
  an_kc (nk_sld dL_law_1672 rfl) <|
  an_kc (an_lift (fun live => ak_aload_n dL_law_1673 rfl rfl)) <|
  an_kc (an_lift (fun live => ak_iload_n dL_law_1674 rfl rfl)) <|
  an_kc (an_lift (fun live => ak_iconst dL_law_1675 (by decide +kernel) rfl)) <|
  an_kc (an_lift (fun live => ak_iadd dL_law_1676 rfl)) <|
  an_kc (nk_sld dL_law_1677 rfl) <|
  an_kc (an_lift (fun live => ak_aload_n dL_law_1678 rfl rfl)) <|
  an_kc (an_lift (fun live => ak_iload_n dL_law_1679 rfl rfl)) <|
  an_kc (an_lift (fun live => ak_bipush dL_law_1680 (by decide +kernel) rfl)) <|
  an_kc (an_lift (fun live => ak_iadd dL_law_1682 rfl)) <|
  an_kc (nk_sld dL_law_1683 rfl) <|
  an_kc (an_lift (fun live => ak_i2l dL_law_1684 rfl)) <|
  an_kc (an_lift (fun live => ak_bipush dL_law_1685 (by decide +kernel) rfl)) <|
  an_kc (an_lift (fun live => ak_lshl dL_law_1687 rfl)) <|
  an_kc (an_lift (fun live => ak_aload_n dL_law_1688 rfl rfl)) <|
  an_kc (an_lift (fun live => ak_iload_n dL_law_1689 rfl rfl)) <|
  an_kc (an_lift (fun live => ak_bipush dL_law_1690 (by decide +kernel) rfl)) <|
  an_kc (an_lift (fun live => ak_iadd dL_law_1692 rfl)) <|
  an_kc (nk_sld dL_law_1693 rfl) <|
  an_kc (an_lift (fun live => ak_i2l dL_law_1694 rfl)) <|
  an_kc (an_lift (fun live => ak_ldc2 wd_1307 dL_law_1695 rfl)) <|
  an_kc (an_lift (fun live => ak_land dL_law_1698 rfl)) <|
  an_kc (an_lift (fun live => ak_lor dL_law_1699 rfl)) <|
  an_kc (an_lift (fun live => ak_callV (C := RX7) (F := TX7) (N := 4) metW_best rfl ⟨rfl, by decide +kernel, by decide +kernel, by decide +kernel⟩ (am_w5 wd_820 wd_821 wd_822 wd_58 wd_823) (by decide) dL_law_1700 rfl)) <|
  an_kc (an_lift (fun live => ak_pop dL_law_1703 rfl)) <|
  an_kc (an_lift (fun live => ak_aload_n dL_law_1704 rfl rfl)) <|
  an_kc (an_lift (fun live => ak_aload_n dL_law_1705 rfl rfl)) <|
  an_kc (an_lift (fun live => ak_iload_n dL_law_1706 rfl rfl)) <|
  an_kc (an_lift (fun live => ak_iconst dL_law_1707 (by decide +kernel) rfl)) <|
  an_kc (an_lift (fun live => ak_iadd dL_law_1708 rfl)) <|
  an_kc (nk_sld dL_law_1709 rfl) <|
  an_kc (an_lift (fun live => ak_aload_n dL_law_1710 rfl rfl)) <|
  an_kc (an_lift (fun live => ak_iload_n dL_law_1711 rfl rfl)) <|
  an_kc (an_lift (fun live => ak_iconst dL_law_1712 (by decide +kernel) rfl)) <|
  an_kc (an_lift (fun live => ak_iadd dL_law_1713 rfl)) <|
  an_kc (nk_sld dL_law_1714 rfl) <|
  an_kc (an_lift (fun live => ak_aload_n dL_law_1715 rfl rfl)) <|
  an_kc (an_lift (fun live => ak_iload_n dL_law_1716 rfl rfl)) <|
  an_kc (an_lift (fun live => ak_iconst dL_law_1717 (by decide +kernel) rfl)) <|
  an_kc (an_lift (fun live => ak_iadd dL_law_1718 rfl)) <|
  an_kc (nk_sld dL_law_1719 rfl) <|
  an_kc (an_lift (fun live => ak_aload_n dL_law_1720 rfl rfl)) <|
  an_kc (an_lift (fun live => ak_iload_n dL_law_1721 rfl rfl)) <|
  an_kc (an_lift (fun live => ak_iconst dL_law_1722 (by decide +kernel) rfl)) <|
  an_kc (an_lift (fun live => ak_iadd dL_law_1723 rfl)) <|
  an_kc (nk_sld dL_law_1724 rfl) <|
  an_kc (an_lift (fun live => ak_aload_n dL_law_1725 rfl rfl)) <|
  an_kc (an_lift (fun live => ak_iload_n dL_law_1726 rfl rfl)) <|
  an_kc (an_lift (fun live => ak_iconst dL_law_1727 (by decide +kernel) rfl)) <|
  an_kc (an_lift (fun live => ak_iadd dL_law_1728 rfl)) <|
  an_kc (nk_sld dL_law_1729 rfl) <|
  an_kc (an_lift (fun live => ak_aload_n dL_law_1730 rfl rfl)) <|
  an_kc (an_lift (fun live => ak_iload_n dL_law_1731 rfl rfl)) <|
  an_kc (an_lift (fun live => ak_bipush dL_law_1732 (by decide +kernel) rfl)) <|
  an_kc (an_lift (fun live => ak_iadd dL_law_1734 rfl)) <|
  an_kc (nk_sld dL_law_1735 rfl) <|
  an_kc (an_lift (fun live => ak_i2l dL_law_1736 rfl)) <|
  an_kc (an_lift (fun live => ak_bipush dL_law_1737 (by decide +kernel) rfl)) <|
  an_kc (an_lift (fun live => ak_lshl dL_law_1739 rfl)) <|
  an_kc (an_lift (fun live => ak_aload_n dL_law_1740 rfl rfl)) <|
  an_kc (an_lift (fun live => ak_iload_n dL_law_1741 rfl rfl)) <|
  an_kc (an_lift (fun live => ak_bipush dL_law_1742 (by decide +kernel) rfl)) <|
  an_kc (an_lift (fun live => ak_iadd dL_law_1744 rfl)) <|
  an_kc (nk_sld dL_law_1745 rfl) <|
  an_kc (an_lift (fun live => ak_i2l dL_law_1746 rfl)) <|
  an_kc (an_lift (fun live => ak_ldc2 wd_1307 dL_law_1747 rfl)) <|
  an_kc (an_lift (fun live => ak_land dL_law_1750 rfl)) <|
  an_kc (an_lift (fun live => ak_lor dL_law_1751 rfl)) <|
  an_kc (an_lift (fun live => ak_callV (C := RX8) (F := TX8) (N := 27) metV_best rfl ⟨rfl, by decide +kernel, by decide +kernel, by decide +kernel⟩ (am_w5 wd_1282 wd_1283 wd_1284 wd_67 wd_1285) (by decide) dL_law_1752 rfl)) <|
  an_kc (an_lift (fun live => ak_pop dL_law_1755 rfl)) <|
  an_kc (an_lift (fun live => ak_goto dL_law_1756 (by decide +kernel))) <| an_kn
set_option maxRecDepth 100000 in
set_option maxHeartbeats 4000000 in
theorem caseL_c32 {Ln : Nat} (xs : Nat → Int32) {i : Int32} {i1 i2 : Bool} {kc kn : Nat} {M : am_M} (h : LX i1 i2 M) (hi : lawI Ln i kc kn) : an_wp (kL_c32 Ln xs) (lawC Ln i) 200 (an_go (kL_c32 Ln xs) 1652) (lawL i) [] ((am_lv i1 i2, am_q i1 i2), kc, kn, M) := by
    obtain ⟨⟨f1, f2, f3, f4, f5, f6, f7⟩, k1, k2, k3, k4⟩ := hi.f
    have hmn : am_mn (am_lv i1 i2, am_q i1 i2) := ⟨_, _, rfl⟩
    repeat' (first | (with_reducible exact f1) | (with_reducible exact f2) | (with_reducible exact f3) | (with_reducible exact f4) | (with_reducible exact f5) | (with_reducible exact f6) | (with_reducible exact f7) | (with_reducible exact hmn) | (with_reducible exact h) | (with_reducible exact k1) | (with_reducible exact k2) | (with_reducible exact k3) | (with_reducible exact k4) | apply And.intro | exact rfl | ((with_reducible change r_I _); (with_reducible assumption)) | (intro hx; exact absurd hx (by decide)) | (intro hx; exact absurd (by decide) hx) | decide | intro hx | (refine Exists.intro _ (And.intro rfl ?_)) | (refine Exists.intro _ (Exists.intro _ (And.intro rfl (And.intro rfl ?_)))) | ((with_reducible change LX _ _ _); (with_reducible assumption)) | ((with_reducible change _ = true); simp only [k1, k2, k3, k4, Bool.true_and]; rfl))
    all_goals try first | (with_reducible change am_tI _ _) | (change Ret _ _) | (change Ret _ _ _) | (change Exists _)
    all_goals try dsimp only at *
    all_goals try exact absurd ‹(1000 : Int64) = 0› (by decide)
    all_goals first
      | exact ⟨_, _, rfl⟩
      | exact lawE.mk hi (by with_reducible assumption) (by omega) (by omega)
      | skip
theorem dL_law_1759 : decode cL_law 1759 = .ok (.aload_n 1, 1) := by decide +kernel
theorem dL_law_1760 : decode cL_law 1760 = .ok (.aload_n 0, 1) := by decide +kernel
theorem dL_law_1761 : decode cL_law 1761 = .ok (.iload_n 3, 1) := by decide +kernel
theorem dL_law_1762 : decode cL_law 1762 = .ok (.iconst 1, 1) := by decide +kernel
theorem dL_law_1763 : decode cL_law 1763 = .ok (.iadd, 1) := by decide +kernel
theorem dL_law_1764 : decode cL_law 1764 = .ok (.iaload, 1) := by decide +kernel
set_option maxRecDepth 100000 in
theorem wd_831 : Cond.methodLink "LearnLoansLaw" 160 yX7_image ∈ am_ws := am_wsi (List.mem_of_getElem? (i := 831) (by rfl)) (by decide +kernel)
set_option maxRecDepth 100000 in
theorem wd_832 : Cond.instanceMethod yX7_image ∈ am_ws := am_wsi (List.mem_of_getElem? (i := 832) (by rfl)) (by decide +kernel)
set_option maxRecDepth 100000 in
theorem wd_833 : Cond.selects "LearnLoans" yX7_image yX7_image ∈ am_ws := am_wsi (List.mem_of_getElem? (i := 833) (by rfl)) (by decide +kernel)
set_option maxRecDepth 100000 in
theorem wd_834 : Cond.code yX7_image cX7_image 2 (some .int) ∈ am_ws := am_wsi (List.mem_of_getElem? (i := 834) (by rfl)) (by decide +kernel)
theorem dL_law_1765 : decode cL_law 1765 = .ok (.invokevirtual 160, 3) := by decide +kernel
theorem dL_law_1768 : decode cL_law 1768 = .ok (.pop, 1) := by decide +kernel
theorem dL_law_1769 : decode cL_law 1769 = .ok (.aload_n 2, 1) := by decide +kernel
theorem dL_law_1770 : decode cL_law 1770 = .ok (.aload_n 0, 1) := by decide +kernel
theorem dL_law_1771 : decode cL_law 1771 = .ok (.iload_n 3, 1) := by decide +kernel
theorem dL_law_1772 : decode cL_law 1772 = .ok (.iconst 1, 1) := by decide +kernel
theorem dL_law_1773 : decode cL_law 1773 = .ok (.iadd, 1) := by decide +kernel
theorem dL_law_1774 : decode cL_law 1774 = .ok (.iaload, 1) := by decide +kernel
set_option maxRecDepth 100000 in
theorem wd_1289 : Cond.methodLink "LearnLoansLaw" 163 yX8_image ∈ am_ws := am_wsi (List.mem_of_getElem? (i := 1289) (by rfl)) (by decide +kernel)
set_option maxRecDepth 100000 in
theorem wd_1290 : Cond.instanceMethod yX8_image ∈ am_ws := am_wsi (List.mem_of_getElem? (i := 1290) (by rfl)) (by decide +kernel)
set_option maxRecDepth 100000 in
theorem wd_1291 : Cond.selects "LearnLoansModel" yX8_image yX8_image ∈ am_ws := am_wsi (List.mem_of_getElem? (i := 1291) (by rfl)) (by decide +kernel)
set_option maxRecDepth 100000 in
theorem wd_1292 : Cond.code yX8_image cX8_image 3 (some .int) ∈ am_ws := am_wsi (List.mem_of_getElem? (i := 1292) (by rfl)) (by decide +kernel)
theorem dL_law_1775 : decode cL_law 1775 = .ok (.invokevirtual 163, 3) := by decide +kernel
theorem dL_law_1778 : decode cL_law 1778 = .ok (.pop, 1) := by decide +kernel
theorem dL_law_1779 : decode cL_law 1779 = .ok (.goto 62, 3) := by decide +kernel
def kL_c33 (Ln : Nat) (xs : Nat → Int32) : an_code := [(1759, an_lf (fun live => am_aload 1 1760)), (1760, an_lf (fun live => am_aload 0 1761)), (1761, an_lf (fun live => am_iload 3 1762)), (1762, an_lf (fun live => am_const (.int 1) 1763)), (1763, an_lf (fun live => am_i2 (fun x y => x + y) 1764)), (1764, an_sld Ln xs 1765), (1765, an_callI 7 1 TW_image 600000 7302250 39 5272 1768), (1768, an_lf (fun live => am_pop 1769)), (1769, an_lf (fun live => am_aload 2 1770)), (1770, an_lf (fun live => am_aload 0 1771)), (1771, an_lf (fun live => am_iload 3 1772)), (1772, an_lf (fun live => am_const (.int 1) 1773)), (1773, an_lf (fun live => am_i2 (fun x y => x + y) 1774)), (1774, an_sld Ln xs 1775), (1775, an_lf (fun live => am_callV live 8 1 TX8_image 1778)), (1778, an_lf (fun live => am_pop 1779)), (1779, an_lf (fun live => am_goto 1841))]
theorem koL_c33 (Ln : Nat) (xs : Nat → Int32) : ∀ q ∈ kL_c33 Ln xs, an_ok RL cL_law 4 (some .boolean) 2000 80000 600000 7302250 false (lawP Ln xs) an_noR q.1 q.2 :=
  an_kc (an_lift (fun live => ak_aload_n dL_law_1759 rfl rfl)) <|
  an_kc (an_lift (fun live => ak_aload_n dL_law_1760 rfl rfl)) <|
  an_kc (an_lift (fun live => ak_iload_n dL_law_1761 rfl rfl)) <|
  an_kc (an_lift (fun live => ak_iconst dL_law_1762 (by decide +kernel) rfl)) <|
  an_kc (an_lift (fun live => ak_iadd dL_law_1763 rfl)) <|
  an_kc (nk_sld dL_law_1764 rfl) <|
  an_kc (nk_callV (C := RX7) (F := TX7) (N := 4) metW_image rfl ⟨rfl, by decide +kernel, by decide +kernel, by decide +kernel⟩ (am_w5 wd_831 wd_832 wd_833 wd_58 wd_834) (by decide) dL_law_1765 rfl) <|
  an_kc (an_lift (fun live => ak_pop dL_law_1768 rfl)) <|
  an_kc (an_lift (fun live => ak_aload_n dL_law_1769 rfl rfl)) <|
  an_kc (an_lift (fun live => ak_aload_n dL_law_1770 rfl rfl)) <|
  an_kc (an_lift (fun live => ak_iload_n dL_law_1771 rfl rfl)) <|
  an_kc (an_lift (fun live => ak_iconst dL_law_1772 (by decide +kernel) rfl)) <|
  an_kc (an_lift (fun live => ak_iadd dL_law_1773 rfl)) <|
  an_kc (nk_sld dL_law_1774 rfl) <|
  an_kc (an_lift (fun live => ak_callV (C := RX8) (F := TX8) (N := 27) metX8_image rfl ⟨rfl, by decide +kernel, by decide +kernel, by decide +kernel⟩ (am_w5 wd_1289 wd_1290 wd_1291 wd_67 wd_1292) (by decide) dL_law_1775 rfl)) <|
  an_kc (an_lift (fun live => ak_pop dL_law_1778 rfl)) <|
  an_kc (an_lift (fun live => ak_goto dL_law_1779 (by decide +kernel))) <| an_kn
set_option maxRecDepth 100000 in
set_option maxHeartbeats 4000000 in
theorem caseL_c33 {Ln : Nat} (xs : Nat → Int32) {i : Int32} {i1 i2 : Bool} {kc kn : Nat} {M : am_M} (h : LX i1 i2 M) (hi : lawI Ln i kc kn) : an_wp (kL_c33 Ln xs) (lawC Ln i) 200 (an_go (kL_c33 Ln xs) 1759) (lawL i) [] ((am_lv i1 i2, am_q i1 i2), kc, kn, M) := by
    obtain ⟨⟨f1, f2, f3, f4, f5, f6, f7⟩, k1, k2, k3, k4⟩ := hi.f
    have hmn : am_mn (am_lv i1 i2, am_q i1 i2) := ⟨_, _, rfl⟩
    repeat' (first | (with_reducible exact f1) | (with_reducible exact f2) | (with_reducible exact f3) | (with_reducible exact f4) | (with_reducible exact f5) | (with_reducible exact f6) | (with_reducible exact f7) | (with_reducible exact hmn) | (with_reducible exact h) | (with_reducible exact k1) | (with_reducible exact k2) | (with_reducible exact k3) | (with_reducible exact k4) | apply And.intro | exact rfl | ((with_reducible change r_I _); (with_reducible assumption)) | (intro hx; exact absurd hx (by decide)) | (intro hx; exact absurd (by decide) hx) | decide | intro hx | (refine Exists.intro _ (And.intro rfl ?_)) | (refine Exists.intro _ (Exists.intro _ (And.intro rfl (And.intro rfl ?_)))) | ((with_reducible change LX _ _ _); (with_reducible assumption)) | ((with_reducible change _ = true); simp only [k1, k2, k3, k4, Bool.true_and]; rfl))
    all_goals try first | (with_reducible change am_tI _ _) | (change Ret _ _) | (change Ret _ _ _) | (change Exists _)
    all_goals try dsimp only at *
    all_goals try exact absurd ‹(1000 : Int64) = 0› (by decide)
    all_goals first
      | exact ⟨_, _, rfl⟩
      | exact lawE.mk hi (by with_reducible assumption) (by omega) (by omega)
      | skip
theorem dL_law_1782 : decode cL_law 1782 = .ok (.aload_n 1, 1) := by decide +kernel
theorem dL_law_1783 : decode cL_law 1783 = .ok (.aload_n 0, 1) := by decide +kernel
theorem dL_law_1784 : decode cL_law 1784 = .ok (.iload_n 3, 1) := by decide +kernel
theorem dL_law_1785 : decode cL_law 1785 = .ok (.iconst 1, 1) := by decide +kernel
theorem dL_law_1786 : decode cL_law 1786 = .ok (.iadd, 1) := by decide +kernel
theorem dL_law_1787 : decode cL_law 1787 = .ok (.iaload, 1) := by decide +kernel
set_option maxRecDepth 100000 in
theorem wd_859 : Cond.methodLink "LearnLoansLaw" 164 yX7_from ∈ am_ws := am_wsi (List.mem_of_getElem? (i := 859) (by rfl)) (by decide +kernel)
set_option maxRecDepth 100000 in
theorem wd_860 : Cond.instanceMethod yX7_from ∈ am_ws := am_wsi (List.mem_of_getElem? (i := 860) (by rfl)) (by decide +kernel)
set_option maxRecDepth 100000 in
theorem wd_861 : Cond.selects "LearnLoans" yX7_from yX7_from ∈ am_ws := am_wsi (List.mem_of_getElem? (i := 861) (by rfl)) (by decide +kernel)
set_option maxRecDepth 100000 in
theorem wd_862 : Cond.code yX7_from cX7_from 2 (some .int) ∈ am_ws := am_wsi (List.mem_of_getElem? (i := 862) (by rfl)) (by decide +kernel)
theorem dL_law_1788 : decode cL_law 1788 = .ok (.invokevirtual 164, 3) := by decide +kernel
theorem dL_law_1791 : decode cL_law 1791 = .ok (.pop, 1) := by decide +kernel
theorem dL_law_1792 : decode cL_law 1792 = .ok (.aload_n 2, 1) := by decide +kernel
theorem dL_law_1793 : decode cL_law 1793 = .ok (.aload_n 0, 1) := by decide +kernel
theorem dL_law_1794 : decode cL_law 1794 = .ok (.iload_n 3, 1) := by decide +kernel
theorem dL_law_1795 : decode cL_law 1795 = .ok (.iconst 1, 1) := by decide +kernel
theorem dL_law_1796 : decode cL_law 1796 = .ok (.iadd, 1) := by decide +kernel
theorem dL_law_1797 : decode cL_law 1797 = .ok (.iaload, 1) := by decide +kernel
set_option maxRecDepth 100000 in
theorem wd_1293 : Cond.methodLink "LearnLoansLaw" 167 yX8_from ∈ am_ws := am_wsi (List.mem_of_getElem? (i := 1293) (by rfl)) (by decide +kernel)
set_option maxRecDepth 100000 in
theorem wd_1294 : Cond.instanceMethod yX8_from ∈ am_ws := am_wsi (List.mem_of_getElem? (i := 1294) (by rfl)) (by decide +kernel)
set_option maxRecDepth 100000 in
theorem wd_1295 : Cond.selects "LearnLoansModel" yX8_from yX8_from ∈ am_ws := am_wsi (List.mem_of_getElem? (i := 1295) (by rfl)) (by decide +kernel)
set_option maxRecDepth 100000 in
theorem wd_1296 : Cond.code yX8_from cX8_from 3 (some .int) ∈ am_ws := am_wsi (List.mem_of_getElem? (i := 1296) (by rfl)) (by decide +kernel)
theorem dL_law_1798 : decode cL_law 1798 = .ok (.invokevirtual 167, 3) := by decide +kernel
theorem dL_law_1801 : decode cL_law 1801 = .ok (.pop, 1) := by decide +kernel
theorem dL_law_1802 : decode cL_law 1802 = .ok (.goto 39, 3) := by decide +kernel
def kL_c34 (Ln : Nat) (xs : Nat → Int32) : an_code := [(1782, an_lf (fun live => am_aload 1 1783)), (1783, an_lf (fun live => am_aload 0 1784)), (1784, an_lf (fun live => am_iload 3 1785)), (1785, an_lf (fun live => am_const (.int 1) 1786)), (1786, an_lf (fun live => am_i2 (fun x y => x + y) 1787)), (1787, an_sld Ln xs 1788), (1788, an_callI 7 1 TW_from 600000 7302250 0 0 1791), (1791, an_lf (fun live => am_pop 1792)), (1792, an_lf (fun live => am_aload 2 1793)), (1793, an_lf (fun live => am_aload 0 1794)), (1794, an_lf (fun live => am_iload 3 1795)), (1795, an_lf (fun live => am_const (.int 1) 1796)), (1796, an_lf (fun live => am_i2 (fun x y => x + y) 1797)), (1797, an_sld Ln xs 1798), (1798, an_lf (fun live => am_callV live 8 1 TX8_from 1801)), (1801, an_lf (fun live => am_pop 1802)), (1802, an_lf (fun live => am_goto 1841))]
theorem koL_c34 (Ln : Nat) (xs : Nat → Int32) : ∀ q ∈ kL_c34 Ln xs, an_ok RL cL_law 4 (some .boolean) 2000 80000 600000 7302250 false (lawP Ln xs) an_noR q.1 q.2 :=
  an_kc (an_lift (fun live => ak_aload_n dL_law_1782 rfl rfl)) <|
  an_kc (an_lift (fun live => ak_aload_n dL_law_1783 rfl rfl)) <|
  an_kc (an_lift (fun live => ak_iload_n dL_law_1784 rfl rfl)) <|
  an_kc (an_lift (fun live => ak_iconst dL_law_1785 (by decide +kernel) rfl)) <|
  an_kc (an_lift (fun live => ak_iadd dL_law_1786 rfl)) <|
  an_kc (nk_sld dL_law_1787 rfl) <|
  an_kc (nk_callV (C := RX7) (F := TX7) (N := 4) metW_from rfl ⟨rfl, by decide +kernel, by decide +kernel, by decide +kernel⟩ (am_w5 wd_859 wd_860 wd_861 wd_58 wd_862) (by decide) dL_law_1788 rfl) <|
  an_kc (an_lift (fun live => ak_pop dL_law_1791 rfl)) <|
  an_kc (an_lift (fun live => ak_aload_n dL_law_1792 rfl rfl)) <|
  an_kc (an_lift (fun live => ak_aload_n dL_law_1793 rfl rfl)) <|
  an_kc (an_lift (fun live => ak_iload_n dL_law_1794 rfl rfl)) <|
  an_kc (an_lift (fun live => ak_iconst dL_law_1795 (by decide +kernel) rfl)) <|
  an_kc (an_lift (fun live => ak_iadd dL_law_1796 rfl)) <|
  an_kc (nk_sld dL_law_1797 rfl) <|
  an_kc (an_lift (fun live => ak_callV (C := RX8) (F := TX8) (N := 27) metX8_from rfl ⟨rfl, by decide +kernel, by decide +kernel, by decide +kernel⟩ (am_w5 wd_1293 wd_1294 wd_1295 wd_67 wd_1296) (by decide) dL_law_1798 rfl)) <|
  an_kc (an_lift (fun live => ak_pop dL_law_1801 rfl)) <|
  an_kc (an_lift (fun live => ak_goto dL_law_1802 (by decide +kernel))) <| an_kn
set_option maxRecDepth 100000 in
set_option maxHeartbeats 4000000 in
theorem caseL_c34 {Ln : Nat} (xs : Nat → Int32) {i : Int32} {i1 i2 : Bool} {kc kn : Nat} {M : am_M} (h : LX i1 i2 M) (hi : lawI Ln i kc kn) : an_wp (kL_c34 Ln xs) (lawC Ln i) 200 (an_go (kL_c34 Ln xs) 1782) (lawL i) [] ((am_lv i1 i2, am_q i1 i2), kc, kn, M) := by
    obtain ⟨⟨f1, f2, f3, f4, f5, f6, f7⟩, k1, k2, k3, k4⟩ := hi.f
    have hmn : am_mn (am_lv i1 i2, am_q i1 i2) := ⟨_, _, rfl⟩
    repeat' (first | (with_reducible exact f1) | (with_reducible exact f2) | (with_reducible exact f3) | (with_reducible exact f4) | (with_reducible exact f5) | (with_reducible exact f6) | (with_reducible exact f7) | (with_reducible exact hmn) | (with_reducible exact h) | (with_reducible exact k1) | (with_reducible exact k2) | (with_reducible exact k3) | (with_reducible exact k4) | apply And.intro | exact rfl | ((with_reducible change r_I _); (with_reducible assumption)) | (intro hx; exact absurd hx (by decide)) | (intro hx; exact absurd (by decide) hx) | decide | intro hx | (refine Exists.intro _ (And.intro rfl ?_)) | (refine Exists.intro _ (Exists.intro _ (And.intro rfl (And.intro rfl ?_)))) | ((with_reducible change LX _ _ _); (with_reducible assumption)) | ((with_reducible change _ = true); simp only [k1, k2, k3, k4, Bool.true_and]; rfl))
    all_goals try first | (with_reducible change am_tI _ _) | (change Ret _ _) | (change Ret _ _ _) | (change Exists _)
    all_goals try dsimp only at *
    all_goals try exact absurd ‹(1000 : Int64) = 0› (by decide)
    all_goals first
      | exact ⟨_, _, rfl⟩
      | exact lawE.mk hi (by with_reducible assumption) (by omega) (by omega)
      | skip
theorem dL_law_1805 : decode cL_law 1805 = .ok (.aload_n 1, 1) := by decide +kernel
theorem dL_law_1806 : decode cL_law 1806 = .ok (.aload_n 0, 1) := by decide +kernel
theorem dL_law_1807 : decode cL_law 1807 = .ok (.iload_n 3, 1) := by decide +kernel
theorem dL_law_1808 : decode cL_law 1808 = .ok (.iconst 1, 1) := by decide +kernel
theorem dL_law_1809 : decode cL_law 1809 = .ok (.iadd, 1) := by decide +kernel
theorem dL_law_1810 : decode cL_law 1810 = .ok (.iaload, 1) := by decide +kernel
set_option maxRecDepth 100000 in
theorem wd_863 : Cond.methodLink "LearnLoansLaw" 168 yX7_count ∈ am_ws := am_wsi (List.mem_of_getElem? (i := 863) (by rfl)) (by decide +kernel)
theorem dL_law_1811 : decode cL_law 1811 = .ok (.invokevirtual 168, 3) := by decide +kernel
theorem dL_law_1814 : decode cL_law 1814 = .ok (.pop, 1) := by decide +kernel
theorem dL_law_1815 : decode cL_law 1815 = .ok (.aload_n 2, 1) := by decide +kernel
theorem dL_law_1816 : decode cL_law 1816 = .ok (.aload_n 0, 1) := by decide +kernel
theorem dL_law_1817 : decode cL_law 1817 = .ok (.iload_n 3, 1) := by decide +kernel
theorem dL_law_1818 : decode cL_law 1818 = .ok (.iconst 1, 1) := by decide +kernel
theorem dL_law_1819 : decode cL_law 1819 = .ok (.iadd, 1) := by decide +kernel
theorem dL_law_1820 : decode cL_law 1820 = .ok (.iaload, 1) := by decide +kernel
set_option maxRecDepth 100000 in
theorem wd_1297 : Cond.methodLink "LearnLoansLaw" 171 yX8_count ∈ am_ws := am_wsi (List.mem_of_getElem? (i := 1297) (by rfl)) (by decide +kernel)
set_option maxRecDepth 100000 in
theorem wd_1298 : Cond.instanceMethod yX8_count ∈ am_ws := am_wsi (List.mem_of_getElem? (i := 1298) (by rfl)) (by decide +kernel)
set_option maxRecDepth 100000 in
theorem wd_1299 : Cond.selects "LearnLoansModel" yX8_count yX8_count ∈ am_ws := am_wsi (List.mem_of_getElem? (i := 1299) (by rfl)) (by decide +kernel)
set_option maxRecDepth 100000 in
theorem wd_1300 : Cond.code yX8_count cX8_count 2 (some .int) ∈ am_ws := am_wsi (List.mem_of_getElem? (i := 1300) (by rfl)) (by decide +kernel)
theorem dL_law_1821 : decode cL_law 1821 = .ok (.invokevirtual 171, 3) := by decide +kernel
theorem dL_law_1824 : decode cL_law 1824 = .ok (.pop, 1) := by decide +kernel
theorem dL_law_1825 : decode cL_law 1825 = .ok (.goto 16, 3) := by decide +kernel
def kL_c35 (Ln : Nat) (xs : Nat → Int32) : an_code := [(1805, an_lf (fun live => am_aload 1 1806)), (1806, an_lf (fun live => am_aload 0 1807)), (1807, an_lf (fun live => am_iload 3 1808)), (1808, an_lf (fun live => am_const (.int 1) 1809)), (1809, an_lf (fun live => am_i2 (fun x y => x + y) 1810)), (1810, an_sld Ln xs 1811), (1811, an_lf (fun live => am_callV live 7 1 TW_count 1814)), (1814, an_lf (fun live => am_pop 1815)), (1815, an_lf (fun live => am_aload 2 1816)), (1816, an_lf (fun live => am_aload 0 1817)), (1817, an_lf (fun live => am_iload 3 1818)), (1818, an_lf (fun live => am_const (.int 1) 1819)), (1819, an_lf (fun live => am_i2 (fun x y => x + y) 1820)), (1820, an_sld Ln xs 1821), (1821, an_lf (fun live => am_callV live 8 1 TX8_count 1824)), (1824, an_lf (fun live => am_pop 1825)), (1825, an_lf (fun live => am_goto 1841))]
theorem koL_c35 (Ln : Nat) (xs : Nat → Int32) : ∀ q ∈ kL_c35 Ln xs, an_ok RL cL_law 4 (some .boolean) 2000 80000 600000 7302250 false (lawP Ln xs) an_noR q.1 q.2 :=
  an_kc (an_lift (fun live => ak_aload_n dL_law_1805 rfl rfl)) <|
  an_kc (an_lift (fun live => ak_aload_n dL_law_1806 rfl rfl)) <|
  an_kc (an_lift (fun live => ak_iload_n dL_law_1807 rfl rfl)) <|
  an_kc (an_lift (fun live => ak_iconst dL_law_1808 (by decide +kernel) rfl)) <|
  an_kc (an_lift (fun live => ak_iadd dL_law_1809 rfl)) <|
  an_kc (nk_sld dL_law_1810 rfl) <|
  an_kc (an_lift (fun live => ak_callV (C := RX7) (F := TX7) (N := 4) metW_count rfl ⟨rfl, by decide +kernel, by decide +kernel, by decide +kernel⟩ (am_w5 wd_863 wd_864 wd_865 wd_58 wd_866) (by decide) dL_law_1811 rfl)) <|
  an_kc (an_lift (fun live => ak_pop dL_law_1814 rfl)) <|
  an_kc (an_lift (fun live => ak_aload_n dL_law_1815 rfl rfl)) <|
  an_kc (an_lift (fun live => ak_aload_n dL_law_1816 rfl rfl)) <|
  an_kc (an_lift (fun live => ak_iload_n dL_law_1817 rfl rfl)) <|
  an_kc (an_lift (fun live => ak_iconst dL_law_1818 (by decide +kernel) rfl)) <|
  an_kc (an_lift (fun live => ak_iadd dL_law_1819 rfl)) <|
  an_kc (nk_sld dL_law_1820 rfl) <|
  an_kc (an_lift (fun live => ak_callV (C := RX8) (F := TX8) (N := 27) metX8_count rfl ⟨rfl, by decide +kernel, by decide +kernel, by decide +kernel⟩ (am_w5 wd_1297 wd_1298 wd_1299 wd_67 wd_1300) (by decide) dL_law_1821 rfl)) <|
  an_kc (an_lift (fun live => ak_pop dL_law_1824 rfl)) <|
  an_kc (an_lift (fun live => ak_goto dL_law_1825 (by decide +kernel))) <| an_kn
set_option maxRecDepth 100000 in
set_option maxHeartbeats 4000000 in
theorem caseL_c35 {Ln : Nat} (xs : Nat → Int32) {i : Int32} {i1 i2 : Bool} {kc kn : Nat} {M : am_M} (h : LX i1 i2 M) (hi : lawI Ln i kc kn) : an_wp (kL_c35 Ln xs) (lawC Ln i) 200 (an_go (kL_c35 Ln xs) 1805) (lawL i) [] ((am_lv i1 i2, am_q i1 i2), kc, kn, M) := by
    obtain ⟨⟨f1, f2, f3, f4, f5, f6, f7⟩, k1, k2, k3, k4⟩ := hi.f
    have hmn : am_mn (am_lv i1 i2, am_q i1 i2) := ⟨_, _, rfl⟩
    repeat' (first | (with_reducible exact f1) | (with_reducible exact f2) | (with_reducible exact f3) | (with_reducible exact f4) | (with_reducible exact f5) | (with_reducible exact f6) | (with_reducible exact f7) | (with_reducible exact hmn) | (with_reducible exact h) | (with_reducible exact k1) | (with_reducible exact k2) | (with_reducible exact k3) | (with_reducible exact k4) | apply And.intro | exact rfl | ((with_reducible change r_I _); (with_reducible assumption)) | (intro hx; exact absurd hx (by decide)) | (intro hx; exact absurd (by decide) hx) | decide | intro hx | (refine Exists.intro _ (And.intro rfl ?_)) | (refine Exists.intro _ (Exists.intro _ (And.intro rfl (And.intro rfl ?_)))) | ((with_reducible change LX _ _ _); (with_reducible assumption)) | ((with_reducible change _ = true); simp only [k1, k2, k3, k4, Bool.true_and]; rfl))
    all_goals try first | (with_reducible change am_tI _ _) | (change Ret _ _) | (change Ret _ _ _) | (change Exists _)
    all_goals try dsimp only at *
    all_goals try exact absurd ‹(1000 : Int64) = 0› (by decide)
    all_goals first
      | exact ⟨_, _, rfl⟩
      | exact lawE.mk hi (by with_reducible assumption) (by omega) (by omega)
      | skip
theorem dL_law_1828 : decode cL_law 1828 = .ok (.aload_n 1, 1) := by decide +kernel
set_option maxRecDepth 100000 in
theorem wd_867 : Cond.methodLink "LearnLoansLaw" 172 yX7_digest ∈ am_ws := am_wsi (List.mem_of_getElem? (i := 867) (by rfl)) (by decide +kernel)
set_option maxRecDepth 100000 in
theorem wd_868 : Cond.instanceMethod yX7_digest ∈ am_ws := am_wsi (List.mem_of_getElem? (i := 868) (by rfl)) (by decide +kernel)
set_option maxRecDepth 100000 in
theorem wd_869 : Cond.selects "LearnLoans" yX7_digest yX7_digest ∈ am_ws := am_wsi (List.mem_of_getElem? (i := 869) (by rfl)) (by decide +kernel)
set_option maxRecDepth 100000 in
theorem wd_870 : Cond.code yX7_digest cX7_digest 4 (some .long) ∈ am_ws := am_wsi (List.mem_of_getElem? (i := 870) (by rfl)) (by decide +kernel)
theorem dL_law_1829 : decode cL_law 1829 = .ok (.invokevirtual 172, 3) := by decide +kernel
theorem dL_law_1832 : decode cL_law 1832 = .ok (.pop2, 1) := by decide +kernel
theorem dL_law_1833 : decode cL_law 1833 = .ok (.aload_n 2, 1) := by decide +kernel
set_option maxRecDepth 100000 in
theorem wd_1301 : Cond.methodLink "LearnLoansLaw" 176 yX8_digest ∈ am_ws := am_wsi (List.mem_of_getElem? (i := 1301) (by rfl)) (by decide +kernel)
set_option maxRecDepth 100000 in
theorem wd_1302 : Cond.instanceMethod yX8_digest ∈ am_ws := am_wsi (List.mem_of_getElem? (i := 1302) (by rfl)) (by decide +kernel)
set_option maxRecDepth 100000 in
theorem wd_1303 : Cond.selects "LearnLoansModel" yX8_digest yX8_digest ∈ am_ws := am_wsi (List.mem_of_getElem? (i := 1303) (by rfl)) (by decide +kernel)
set_option maxRecDepth 100000 in
theorem wd_1304 : Cond.code yX8_digest cX8_digest 5 (some .long) ∈ am_ws := am_wsi (List.mem_of_getElem? (i := 1304) (by rfl)) (by decide +kernel)
theorem dL_law_1834 : decode cL_law 1834 = .ok (.invokevirtual 176, 3) := by decide +kernel
theorem dL_law_1837 : decode cL_law 1837 = .ok (.pop2, 1) := by decide +kernel
theorem dL_law_1838 : decode cL_law 1838 = .ok (.goto 3, 3) := by decide +kernel
def kL_c36 (Ln : Nat) (xs : Nat → Int32) : an_code := [(1828, an_lf (fun live => am_aload 1 1829)), (1829, an_lf (fun live => am_callV live 7 0 TW_digest 1832)), (1832, an_lf (fun live => am_pop2 1833)), (1833, an_lf (fun live => am_aload 2 1834)), (1834, an_lf (fun live => am_callV live 8 0 TV_digest 1837)), (1837, an_lf (fun live => am_pop2 1838)), (1838, an_lf (fun live => am_goto 1841))]
theorem koL_c36 (Ln : Nat) (xs : Nat → Int32) : ∀ q ∈ kL_c36 Ln xs, an_ok RL cL_law 4 (some .boolean) 2000 80000 600000 7302250 false (lawP Ln xs) an_noR q.1 q.2 :=
  an_kc (an_lift (fun live => ak_aload_n dL_law_1828 rfl rfl)) <|
  an_kc (an_lift (fun live => ak_callV (C := RX7) (F := TX7) (N := 4) metW_digest rfl ⟨rfl, by decide +kernel, by decide +kernel, by decide +kernel⟩ (am_w5 wd_867 wd_868 wd_869 wd_58 wd_870) (by decide) dL_law_1829 rfl)) <|
  an_kc (an_lift (fun live => ak_pop2 dL_law_1832 rfl)) <|
  an_kc (an_lift (fun live => ak_aload_n dL_law_1833 rfl rfl)) <|
  an_kc (an_lift (fun live => ak_callV (C := RX8) (F := TX8) (N := 27) metV_digest rfl ⟨rfl, by decide +kernel, by decide +kernel, by decide +kernel⟩ (am_w5 wd_1301 wd_1302 wd_1303 wd_67 wd_1304) (by decide) dL_law_1834 rfl)) <|
  an_kc (an_lift (fun live => ak_pop2 dL_law_1837 rfl)) <|
  an_kc (an_lift (fun live => ak_goto dL_law_1838 (by decide +kernel))) <| an_kn
set_option maxRecDepth 100000 in
set_option maxHeartbeats 4000000 in
theorem caseL_c36 {Ln : Nat} (xs : Nat → Int32) {i : Int32} {i1 i2 : Bool} {kc kn : Nat} {M : am_M} (h : LX i1 i2 M) (hi : lawI Ln i kc kn) : an_wp (kL_c36 Ln xs) (lawC Ln i) 200 (an_go (kL_c36 Ln xs) 1828) (lawL i) [] ((am_lv i1 i2, am_q i1 i2), kc, kn, M) := by
    obtain ⟨⟨f1, f2, f3, f4, f5, f6, f7⟩, k1, k2, k3, k4⟩ := hi.f
    have hmn : am_mn (am_lv i1 i2, am_q i1 i2) := ⟨_, _, rfl⟩
    repeat' (first | (with_reducible exact f1) | (with_reducible exact f2) | (with_reducible exact f3) | (with_reducible exact f4) | (with_reducible exact f5) | (with_reducible exact f6) | (with_reducible exact f7) | (with_reducible exact hmn) | (with_reducible exact h) | (with_reducible exact k1) | (with_reducible exact k2) | (with_reducible exact k3) | (with_reducible exact k4) | apply And.intro | exact rfl | ((with_reducible change r_I _); (with_reducible assumption)) | (intro hx; exact absurd hx (by decide)) | (intro hx; exact absurd (by decide) hx) | decide | intro hx | (refine Exists.intro _ (And.intro rfl ?_)) | (refine Exists.intro _ (Exists.intro _ (And.intro rfl (And.intro rfl ?_)))) | ((with_reducible change LX _ _ _); (with_reducible assumption)) | ((with_reducible change _ = true); simp only [k1, k2, k3, k4, Bool.true_and]; rfl))
    all_goals try first | (with_reducible change am_tI _ _) | (change Ret _ _) | (change Ret _ _ _) | (change Exists _)
    all_goals try dsimp only at *
    all_goals try exact absurd ‹(1000 : Int64) = 0› (by decide)
    all_goals first
      | exact ⟨_, _, rfl⟩
      | exact lawE.mk hi (by with_reducible assumption) (by omega) (by omega)
      | skip
