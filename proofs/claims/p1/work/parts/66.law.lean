/-! p1: the law, cases from 33 -/
theorem dL_law_1766 : decode cL_law 1766 = .ok (.aload_n 1, 1) := by decide +kernel
theorem dL_law_1767 : decode cL_law 1767 = .ok (.aload_n 0, 1) := by decide +kernel
theorem dL_law_1768 : decode cL_law 1768 = .ok (.iload_n 3, 1) := by decide +kernel
theorem dL_law_1769 : decode cL_law 1769 = .ok (.iconst 1, 1) := by decide +kernel
theorem dL_law_1770 : decode cL_law 1770 = .ok (.iadd, 1) := by decide +kernel
theorem dL_law_1771 : decode cL_law 1771 = .ok (.iaload, 1) := by decide +kernel
theorem wd_831 : Cond.methodLink "LearnLoansLaw" 160 yX7_image ∈ am_ws := am_wsi (List.mem_of_getElem? (i := 831) (by decide +kernel)) (by decide +kernel)
theorem wd_832 : Cond.instanceMethod yX7_image ∈ am_ws := am_wsi (List.mem_of_getElem? (i := 832) (by decide +kernel)) (by decide +kernel)
theorem wd_833 : Cond.selects "LearnLoans" yX7_image yX7_image ∈ am_ws := am_wsi (List.mem_of_getElem? (i := 833) (by decide +kernel)) (by decide +kernel)
theorem wd_834 : Cond.code yX7_image cX7_image 2 (some .int) ∈ am_ws := am_wsi (List.mem_of_getElem? (i := 834) (by decide +kernel)) (by decide +kernel)
theorem dL_law_1772 : decode cL_law 1772 = .ok (.invokevirtual 160, 3) := by decide +kernel
theorem dL_law_1775 : decode cL_law 1775 = .ok (.aload_n 2, 1) := by decide +kernel
theorem dL_law_1776 : decode cL_law 1776 = .ok (.aload_n 0, 1) := by decide +kernel
theorem dL_law_1777 : decode cL_law 1777 = .ok (.iload_n 3, 1) := by decide +kernel
theorem dL_law_1778 : decode cL_law 1778 = .ok (.iconst 1, 1) := by decide +kernel
theorem dL_law_1779 : decode cL_law 1779 = .ok (.iadd, 1) := by decide +kernel
theorem dL_law_1780 : decode cL_law 1780 = .ok (.iaload, 1) := by decide +kernel
theorem wd_1289 : Cond.methodLink "LearnLoansLaw" 163 yX8_image ∈ am_ws := am_wsi (List.mem_of_getElem? (i := 1289) (by decide +kernel)) (by decide +kernel)
theorem wd_1290 : Cond.instanceMethod yX8_image ∈ am_ws := am_wsi (List.mem_of_getElem? (i := 1290) (by decide +kernel)) (by decide +kernel)
theorem wd_1291 : Cond.selects "LearnLoansModel" yX8_image yX8_image ∈ am_ws := am_wsi (List.mem_of_getElem? (i := 1291) (by decide +kernel)) (by decide +kernel)
theorem wd_1292 : Cond.code yX8_image cX8_image 3 (some .int) ∈ am_ws := am_wsi (List.mem_of_getElem? (i := 1292) (by decide +kernel)) (by decide +kernel)
theorem dL_law_1781 : decode cL_law 1781 = .ok (.invokevirtual 163, 3) := by decide +kernel
theorem dL_law_1784 : decode cL_law 1784 = .ok (.if_icmp .eq 65, 3) := by decide +kernel
def kL_c33 (Ln : Nat) (xs : Nat → Int32) : an_code := [(1766, an_lf (fun live => am_aload 1 1767)), (1767, an_lf (fun live => am_aload 0 1768)), (1768, an_lf (fun live => am_iload 3 1769)), (1769, an_lf (fun live => am_const (.int 1) 1770)), (1770, an_lf (fun live => am_i2 (fun x y => x + y) 1771)), (1771, an_sld Ln xs 1772), (1772, an_callI 7 1 TX7_image 600000 7302250 39 5272 1775), (1775, an_lf (fun live => am_aload 2 1776)), (1776, an_lf (fun live => am_aload 0 1777)), (1777, an_lf (fun live => am_iload 3 1778)), (1778, an_lf (fun live => am_const (.int 1) 1779)), (1779, an_lf (fun live => am_i2 (fun x y => x + y) 1780)), (1780, an_sld Ln xs 1781), (1781, an_lf (fun live => am_callV live 8 1 TX8_image 1784)), (1784, an_lf (fun live => am_if2 (fun x y => x = y) 1849 1787))]
theorem koL_c33 (Ln : Nat) (xs : Nat → Int32) : ∀ q ∈ kL_c33 Ln xs, an_ok RL cL_law 4 (some .boolean) 2000 80000 600000 7302250 false (lawP Ln xs) an_noR q.1 q.2 :=
  an_kc (an_lift (fun live => ak_aload_n dL_law_1766 rfl rfl)) <|
  an_kc (an_lift (fun live => ak_aload_n dL_law_1767 rfl rfl)) <|
  an_kc (an_lift (fun live => ak_iload_n dL_law_1768 rfl rfl)) <|
  an_kc (an_lift (fun live => ak_iconst dL_law_1769 (by decide +kernel) rfl)) <|
  an_kc (an_lift (fun live => ak_iadd dL_law_1770 rfl)) <|
  an_kc (nk_sld dL_law_1771 rfl) <|
  an_kc (nk_callV (C := RX7) (F := TX7) (N := 4) metX7_image rfl ⟨rfl, by decide +kernel, by decide +kernel, by decide +kernel⟩ (am_w5 wd_831 wd_832 wd_833 wd_58 wd_834) (by decide) dL_law_1772 rfl) <|
  an_kc (an_lift (fun live => ak_aload_n dL_law_1775 rfl rfl)) <|
  an_kc (an_lift (fun live => ak_aload_n dL_law_1776 rfl rfl)) <|
  an_kc (an_lift (fun live => ak_iload_n dL_law_1777 rfl rfl)) <|
  an_kc (an_lift (fun live => ak_iconst dL_law_1778 (by decide +kernel) rfl)) <|
  an_kc (an_lift (fun live => ak_iadd dL_law_1779 rfl)) <|
  an_kc (nk_sld dL_law_1780 rfl) <|
  an_kc (an_lift (fun live => ak_callV (C := RX8) (F := TX8) (N := 27) metX8_image rfl ⟨rfl, by decide +kernel, by decide +kernel, by decide +kernel⟩ (am_w5 wd_1289 wd_1290 wd_1291 wd_67 wd_1292) (by decide) dL_law_1781 rfl)) <|
  an_kc (an_lift (fun live => ak_icmp_eq dL_law_1784 (by decide +kernel) rfl)) <| an_kn
set_option maxRecDepth 100000 in
set_option maxHeartbeats 4000000 in
theorem caseL_c33 (xs : Nat → Int32) : an_wp (kL_c33 8 xs) lawC 200 (an_go (kL_c33 8 xs) 1766) lawL [] lawX := by
    have f7 := an_Mf7
    have f8 := an_Mf8
    repeat' (first | (with_reducible exact f7) | (with_reducible exact f8) | apply And.intro | exact rfl | (intro hx; with_reducible exact absurd rfl hx) | (intro hx; with_reducible exact absurd ((lg_cmp_eq _ _).mpr rfl) hx) | (intro hx; exact absurd hx (by decide)) | (intro hx; exact absurd (by decide) hx) | decide | intro hx | (refine Exists.intro _ (And.intro rfl ?_)))
    all_goals try first | (with_reducible change am_tI _ _) | (change Ret _ _) | (change Ret _ _ _) | (change Exists _)
    all_goals try dsimp only at *
    all_goals try exact absurd ‹(1000 : Int64) = 0› (by decide)
    all_goals first
      | exact ⟨_, _, rfl⟩
      | exact f8.lo ‹am_ch am_lo _ _›
      | exact (f8.lo ‹am_ch am_lo _ _›).1 _ ‹_›
      | exact (f8.lo ‹am_ch am_lo _ _›).2.1 _ ‹_›
      | exact (f8.lo ‹am_ch am_lo _ _›).2.2.1 _ ‹_›
      | exact (f8.lo ‹am_ch am_lo _ _›).2.2.2.1 _ ‹_›
      | exact (f8.lo ‹am_ch am_lo _ _›).2.2.2.2 _ ‹_›
      | exact (f8.hi ‹∀ a k, 200 ≤ a → _›).1 _ ‹_›
      | exact (f8.hi ‹∀ a k, 200 ≤ a → _›).2.1 _ ‹_›
      | exact (f8.hi ‹∀ a k, 200 ≤ a → _›).2.2.1 _ ‹_›
      | exact (f8.hi ‹∀ a k, 200 ≤ a → _›).2.2.2.1 _ ‹_›
      | exact (f8.hi ‹∀ a k, 200 ≤ a → _›).2.2.2.2 _ ‹_›
      | decide
theorem dL_law_1789 : decode cL_law 1789 = .ok (.aload_n 1, 1) := by decide +kernel
theorem dL_law_1790 : decode cL_law 1790 = .ok (.aload_n 0, 1) := by decide +kernel
theorem dL_law_1791 : decode cL_law 1791 = .ok (.iload_n 3, 1) := by decide +kernel
theorem dL_law_1792 : decode cL_law 1792 = .ok (.iconst 1, 1) := by decide +kernel
theorem dL_law_1793 : decode cL_law 1793 = .ok (.iadd, 1) := by decide +kernel
theorem dL_law_1794 : decode cL_law 1794 = .ok (.iaload, 1) := by decide +kernel
theorem wd_859 : Cond.methodLink "LearnLoansLaw" 164 yX7_from ∈ am_ws := am_wsi (List.mem_of_getElem? (i := 859) (by decide +kernel)) (by decide +kernel)
theorem wd_860 : Cond.instanceMethod yX7_from ∈ am_ws := am_wsi (List.mem_of_getElem? (i := 860) (by decide +kernel)) (by decide +kernel)
theorem wd_861 : Cond.selects "LearnLoans" yX7_from yX7_from ∈ am_ws := am_wsi (List.mem_of_getElem? (i := 861) (by decide +kernel)) (by decide +kernel)
theorem wd_862 : Cond.code yX7_from cX7_from 2 (some .int) ∈ am_ws := am_wsi (List.mem_of_getElem? (i := 862) (by decide +kernel)) (by decide +kernel)
theorem dL_law_1795 : decode cL_law 1795 = .ok (.invokevirtual 164, 3) := by decide +kernel
theorem dL_law_1798 : decode cL_law 1798 = .ok (.aload_n 2, 1) := by decide +kernel
theorem dL_law_1799 : decode cL_law 1799 = .ok (.aload_n 0, 1) := by decide +kernel
theorem dL_law_1800 : decode cL_law 1800 = .ok (.iload_n 3, 1) := by decide +kernel
theorem dL_law_1801 : decode cL_law 1801 = .ok (.iconst 1, 1) := by decide +kernel
theorem dL_law_1802 : decode cL_law 1802 = .ok (.iadd, 1) := by decide +kernel
theorem dL_law_1803 : decode cL_law 1803 = .ok (.iaload, 1) := by decide +kernel
theorem wd_1293 : Cond.methodLink "LearnLoansLaw" 167 yX8_from ∈ am_ws := am_wsi (List.mem_of_getElem? (i := 1293) (by decide +kernel)) (by decide +kernel)
theorem wd_1294 : Cond.instanceMethod yX8_from ∈ am_ws := am_wsi (List.mem_of_getElem? (i := 1294) (by decide +kernel)) (by decide +kernel)
theorem wd_1295 : Cond.selects "LearnLoansModel" yX8_from yX8_from ∈ am_ws := am_wsi (List.mem_of_getElem? (i := 1295) (by decide +kernel)) (by decide +kernel)
theorem wd_1296 : Cond.code yX8_from cX8_from 3 (some .int) ∈ am_ws := am_wsi (List.mem_of_getElem? (i := 1296) (by decide +kernel)) (by decide +kernel)
theorem dL_law_1804 : decode cL_law 1804 = .ok (.invokevirtual 167, 3) := by decide +kernel
theorem dL_law_1807 : decode cL_law 1807 = .ok (.if_icmp .eq 42, 3) := by decide +kernel
def kL_c34 (Ln : Nat) (xs : Nat → Int32) : an_code := [(1789, an_lf (fun live => am_aload 1 1790)), (1790, an_lf (fun live => am_aload 0 1791)), (1791, an_lf (fun live => am_iload 3 1792)), (1792, an_lf (fun live => am_const (.int 1) 1793)), (1793, an_lf (fun live => am_i2 (fun x y => x + y) 1794)), (1794, an_sld Ln xs 1795), (1795, an_callI 7 1 TX7_from 600000 7302250 0 0 1798), (1798, an_lf (fun live => am_aload 2 1799)), (1799, an_lf (fun live => am_aload 0 1800)), (1800, an_lf (fun live => am_iload 3 1801)), (1801, an_lf (fun live => am_const (.int 1) 1802)), (1802, an_lf (fun live => am_i2 (fun x y => x + y) 1803)), (1803, an_sld Ln xs 1804), (1804, an_lf (fun live => am_callV live 8 1 TX8_from 1807)), (1807, an_lf (fun live => am_if2 (fun x y => x = y) 1849 1810))]
theorem koL_c34 (Ln : Nat) (xs : Nat → Int32) : ∀ q ∈ kL_c34 Ln xs, an_ok RL cL_law 4 (some .boolean) 2000 80000 600000 7302250 false (lawP Ln xs) an_noR q.1 q.2 :=
  an_kc (an_lift (fun live => ak_aload_n dL_law_1789 rfl rfl)) <|
  an_kc (an_lift (fun live => ak_aload_n dL_law_1790 rfl rfl)) <|
  an_kc (an_lift (fun live => ak_iload_n dL_law_1791 rfl rfl)) <|
  an_kc (an_lift (fun live => ak_iconst dL_law_1792 (by decide +kernel) rfl)) <|
  an_kc (an_lift (fun live => ak_iadd dL_law_1793 rfl)) <|
  an_kc (nk_sld dL_law_1794 rfl) <|
  an_kc (nk_callV (C := RX7) (F := TX7) (N := 4) metX7_from rfl ⟨rfl, by decide +kernel, by decide +kernel, by decide +kernel⟩ (am_w5 wd_859 wd_860 wd_861 wd_58 wd_862) (by decide) dL_law_1795 rfl) <|
  an_kc (an_lift (fun live => ak_aload_n dL_law_1798 rfl rfl)) <|
  an_kc (an_lift (fun live => ak_aload_n dL_law_1799 rfl rfl)) <|
  an_kc (an_lift (fun live => ak_iload_n dL_law_1800 rfl rfl)) <|
  an_kc (an_lift (fun live => ak_iconst dL_law_1801 (by decide +kernel) rfl)) <|
  an_kc (an_lift (fun live => ak_iadd dL_law_1802 rfl)) <|
  an_kc (nk_sld dL_law_1803 rfl) <|
  an_kc (an_lift (fun live => ak_callV (C := RX8) (F := TX8) (N := 27) metX8_from rfl ⟨rfl, by decide +kernel, by decide +kernel, by decide +kernel⟩ (am_w5 wd_1293 wd_1294 wd_1295 wd_67 wd_1296) (by decide) dL_law_1804 rfl)) <|
  an_kc (an_lift (fun live => ak_icmp_eq dL_law_1807 (by decide +kernel) rfl)) <| an_kn
set_option maxRecDepth 100000 in
set_option maxHeartbeats 4000000 in
theorem caseL_c34 (xs : Nat → Int32) : an_wp (kL_c34 8 xs) lawC 200 (an_go (kL_c34 8 xs) 1789) lawL [] lawX := by
    have f7 := an_Mf7
    have f8 := an_Mf8
    repeat' (first | (with_reducible exact f7) | (with_reducible exact f8) | apply And.intro | exact rfl | (intro hx; with_reducible exact absurd rfl hx) | (intro hx; with_reducible exact absurd ((lg_cmp_eq _ _).mpr rfl) hx) | (intro hx; exact absurd hx (by decide)) | (intro hx; exact absurd (by decide) hx) | decide | intro hx | (refine Exists.intro _ (And.intro rfl ?_)))
    all_goals try first | (with_reducible change am_tI _ _) | (change Ret _ _) | (change Ret _ _ _) | (change Exists _)
    all_goals try dsimp only at *
    all_goals try exact absurd ‹(1000 : Int64) = 0› (by decide)
    all_goals first
      | exact ⟨_, _, rfl⟩
      | exact f8.lo ‹am_ch am_lo _ _›
      | exact (f8.lo ‹am_ch am_lo _ _›).1 _ ‹_›
      | exact (f8.lo ‹am_ch am_lo _ _›).2.1 _ ‹_›
      | exact (f8.lo ‹am_ch am_lo _ _›).2.2.1 _ ‹_›
      | exact (f8.lo ‹am_ch am_lo _ _›).2.2.2.1 _ ‹_›
      | exact (f8.lo ‹am_ch am_lo _ _›).2.2.2.2 _ ‹_›
      | exact (f8.hi ‹∀ a k, 200 ≤ a → _›).1 _ ‹_›
      | exact (f8.hi ‹∀ a k, 200 ≤ a → _›).2.1 _ ‹_›
      | exact (f8.hi ‹∀ a k, 200 ≤ a → _›).2.2.1 _ ‹_›
      | exact (f8.hi ‹∀ a k, 200 ≤ a → _›).2.2.2.1 _ ‹_›
      | exact (f8.hi ‹∀ a k, 200 ≤ a → _›).2.2.2.2 _ ‹_›
      | decide
theorem dL_law_1812 : decode cL_law 1812 = .ok (.aload_n 1, 1) := by decide +kernel
theorem dL_law_1813 : decode cL_law 1813 = .ok (.aload_n 0, 1) := by decide +kernel
theorem dL_law_1814 : decode cL_law 1814 = .ok (.iload_n 3, 1) := by decide +kernel
theorem dL_law_1815 : decode cL_law 1815 = .ok (.iconst 1, 1) := by decide +kernel
theorem dL_law_1816 : decode cL_law 1816 = .ok (.iadd, 1) := by decide +kernel
theorem dL_law_1817 : decode cL_law 1817 = .ok (.iaload, 1) := by decide +kernel
theorem wd_863 : Cond.methodLink "LearnLoansLaw" 168 yX7_count ∈ am_ws := am_wsi (List.mem_of_getElem? (i := 863) (by decide +kernel)) (by decide +kernel)
theorem dL_law_1818 : decode cL_law 1818 = .ok (.invokevirtual 168, 3) := by decide +kernel
theorem dL_law_1821 : decode cL_law 1821 = .ok (.aload_n 2, 1) := by decide +kernel
theorem dL_law_1822 : decode cL_law 1822 = .ok (.aload_n 0, 1) := by decide +kernel
theorem dL_law_1823 : decode cL_law 1823 = .ok (.iload_n 3, 1) := by decide +kernel
theorem dL_law_1824 : decode cL_law 1824 = .ok (.iconst 1, 1) := by decide +kernel
theorem dL_law_1825 : decode cL_law 1825 = .ok (.iadd, 1) := by decide +kernel
theorem dL_law_1826 : decode cL_law 1826 = .ok (.iaload, 1) := by decide +kernel
theorem wd_1297 : Cond.methodLink "LearnLoansLaw" 171 yX8_count ∈ am_ws := am_wsi (List.mem_of_getElem? (i := 1297) (by decide +kernel)) (by decide +kernel)
theorem wd_1298 : Cond.instanceMethod yX8_count ∈ am_ws := am_wsi (List.mem_of_getElem? (i := 1298) (by decide +kernel)) (by decide +kernel)
theorem wd_1299 : Cond.selects "LearnLoansModel" yX8_count yX8_count ∈ am_ws := am_wsi (List.mem_of_getElem? (i := 1299) (by decide +kernel)) (by decide +kernel)
theorem wd_1300 : Cond.code yX8_count cX8_count 2 (some .int) ∈ am_ws := am_wsi (List.mem_of_getElem? (i := 1300) (by decide +kernel)) (by decide +kernel)
theorem dL_law_1827 : decode cL_law 1827 = .ok (.invokevirtual 171, 3) := by decide +kernel
theorem dL_law_1830 : decode cL_law 1830 = .ok (.if_icmp .eq 19, 3) := by decide +kernel
def kL_c35 (Ln : Nat) (xs : Nat → Int32) : an_code := [(1812, an_lf (fun live => am_aload 1 1813)), (1813, an_lf (fun live => am_aload 0 1814)), (1814, an_lf (fun live => am_iload 3 1815)), (1815, an_lf (fun live => am_const (.int 1) 1816)), (1816, an_lf (fun live => am_i2 (fun x y => x + y) 1817)), (1817, an_sld Ln xs 1818), (1818, an_lf (fun live => am_callV live 7 1 TX7_count 1821)), (1821, an_lf (fun live => am_aload 2 1822)), (1822, an_lf (fun live => am_aload 0 1823)), (1823, an_lf (fun live => am_iload 3 1824)), (1824, an_lf (fun live => am_const (.int 1) 1825)), (1825, an_lf (fun live => am_i2 (fun x y => x + y) 1826)), (1826, an_sld Ln xs 1827), (1827, an_lf (fun live => am_callV live 8 1 TX8_count 1830)), (1830, an_lf (fun live => am_if2 (fun x y => x = y) 1849 1833))]
theorem koL_c35 (Ln : Nat) (xs : Nat → Int32) : ∀ q ∈ kL_c35 Ln xs, an_ok RL cL_law 4 (some .boolean) 2000 80000 600000 7302250 false (lawP Ln xs) an_noR q.1 q.2 :=
  an_kc (an_lift (fun live => ak_aload_n dL_law_1812 rfl rfl)) <|
  an_kc (an_lift (fun live => ak_aload_n dL_law_1813 rfl rfl)) <|
  an_kc (an_lift (fun live => ak_iload_n dL_law_1814 rfl rfl)) <|
  an_kc (an_lift (fun live => ak_iconst dL_law_1815 (by decide +kernel) rfl)) <|
  an_kc (an_lift (fun live => ak_iadd dL_law_1816 rfl)) <|
  an_kc (nk_sld dL_law_1817 rfl) <|
  an_kc (an_lift (fun live => ak_callV (C := RX7) (F := TX7) (N := 4) metX7_count rfl ⟨rfl, by decide +kernel, by decide +kernel, by decide +kernel⟩ (am_w5 wd_863 wd_864 wd_865 wd_58 wd_866) (by decide) dL_law_1818 rfl)) <|
  an_kc (an_lift (fun live => ak_aload_n dL_law_1821 rfl rfl)) <|
  an_kc (an_lift (fun live => ak_aload_n dL_law_1822 rfl rfl)) <|
  an_kc (an_lift (fun live => ak_iload_n dL_law_1823 rfl rfl)) <|
  an_kc (an_lift (fun live => ak_iconst dL_law_1824 (by decide +kernel) rfl)) <|
  an_kc (an_lift (fun live => ak_iadd dL_law_1825 rfl)) <|
  an_kc (nk_sld dL_law_1826 rfl) <|
  an_kc (an_lift (fun live => ak_callV (C := RX8) (F := TX8) (N := 27) metX8_count rfl ⟨rfl, by decide +kernel, by decide +kernel, by decide +kernel⟩ (am_w5 wd_1297 wd_1298 wd_1299 wd_67 wd_1300) (by decide) dL_law_1827 rfl)) <|
  an_kc (an_lift (fun live => ak_icmp_eq dL_law_1830 (by decide +kernel) rfl)) <| an_kn
set_option maxRecDepth 100000 in
set_option maxHeartbeats 4000000 in
theorem caseL_c35 (xs : Nat → Int32) : an_wp (kL_c35 8 xs) lawC 200 (an_go (kL_c35 8 xs) 1812) lawL [] lawX := by
    have f7 := an_Mf7
    have f8 := an_Mf8
    repeat' (first | (with_reducible exact f7) | (with_reducible exact f8) | apply And.intro | exact rfl | (intro hx; with_reducible exact absurd rfl hx) | (intro hx; with_reducible exact absurd ((lg_cmp_eq _ _).mpr rfl) hx) | (intro hx; exact absurd hx (by decide)) | (intro hx; exact absurd (by decide) hx) | decide | intro hx | (refine Exists.intro _ (And.intro rfl ?_)))
    all_goals try first | (with_reducible change am_tI _ _) | (change Ret _ _) | (change Ret _ _ _) | (change Exists _)
    all_goals try dsimp only at *
    all_goals try exact absurd ‹(1000 : Int64) = 0› (by decide)
    all_goals first
      | exact ⟨_, _, rfl⟩
      | exact f8.lo ‹am_ch am_lo _ _›
      | exact (f8.lo ‹am_ch am_lo _ _›).1 _ ‹_›
      | exact (f8.lo ‹am_ch am_lo _ _›).2.1 _ ‹_›
      | exact (f8.lo ‹am_ch am_lo _ _›).2.2.1 _ ‹_›
      | exact (f8.lo ‹am_ch am_lo _ _›).2.2.2.1 _ ‹_›
      | exact (f8.lo ‹am_ch am_lo _ _›).2.2.2.2 _ ‹_›
      | exact (f8.hi ‹∀ a k, 200 ≤ a → _›).1 _ ‹_›
      | exact (f8.hi ‹∀ a k, 200 ≤ a → _›).2.1 _ ‹_›
      | exact (f8.hi ‹∀ a k, 200 ≤ a → _›).2.2.1 _ ‹_›
      | exact (f8.hi ‹∀ a k, 200 ≤ a → _›).2.2.2.1 _ ‹_›
      | exact (f8.hi ‹∀ a k, 200 ≤ a → _›).2.2.2.2 _ ‹_›
      | decide
theorem dL_law_1835 : decode cL_law 1835 = .ok (.aload_n 1, 1) := by decide +kernel
theorem wd_867 : Cond.methodLink "LearnLoansLaw" 172 yX7_digest ∈ am_ws := am_wsi (List.mem_of_getElem? (i := 867) (by decide +kernel)) (by decide +kernel)
theorem wd_868 : Cond.instanceMethod yX7_digest ∈ am_ws := am_wsi (List.mem_of_getElem? (i := 868) (by decide +kernel)) (by decide +kernel)
theorem wd_869 : Cond.selects "LearnLoans" yX7_digest yX7_digest ∈ am_ws := am_wsi (List.mem_of_getElem? (i := 869) (by decide +kernel)) (by decide +kernel)
theorem wd_870 : Cond.code yX7_digest cX7_digest 4 (some .long) ∈ am_ws := am_wsi (List.mem_of_getElem? (i := 870) (by decide +kernel)) (by decide +kernel)
theorem dL_law_1836 : decode cL_law 1836 = .ok (.invokevirtual 172, 3) := by decide +kernel
theorem dL_law_1839 : decode cL_law 1839 = .ok (.aload_n 2, 1) := by decide +kernel
theorem wd_1301 : Cond.methodLink "LearnLoansLaw" 176 yX8_digest ∈ am_ws := am_wsi (List.mem_of_getElem? (i := 1301) (by decide +kernel)) (by decide +kernel)
theorem wd_1302 : Cond.instanceMethod yX8_digest ∈ am_ws := am_wsi (List.mem_of_getElem? (i := 1302) (by decide +kernel)) (by decide +kernel)
theorem wd_1303 : Cond.selects "LearnLoansModel" yX8_digest yX8_digest ∈ am_ws := am_wsi (List.mem_of_getElem? (i := 1303) (by decide +kernel)) (by decide +kernel)
theorem wd_1304 : Cond.code yX8_digest cX8_digest 5 (some .long) ∈ am_ws := am_wsi (List.mem_of_getElem? (i := 1304) (by decide +kernel)) (by decide +kernel)
theorem dL_law_1840 : decode cL_law 1840 = .ok (.invokevirtual 176, 3) := by decide +kernel
theorem dL_law_1843 : decode cL_law 1843 = .ok (.lcmp, 1) := by decide +kernel
theorem dL_law_1844 : decode cL_law 1844 = .ok (.ifCond .eq 5, 3) := by decide +kernel
def kL_c36 (Ln : Nat) (xs : Nat → Int32) : an_code := [(1835, an_lf (fun live => am_aload 1 1836)), (1836, an_lf (fun live => am_callV live 7 0 TX7_digest 1839)), (1839, an_lf (fun live => am_aload 2 1840)), (1840, an_lf (fun live => am_callV live 8 0 TX8_digest 1843)), (1843, an_lf (fun live => am_lcmp 1844)), (1844, an_lf (fun live => am_if1 (fun x => x = 0) 1849 1847))]
theorem koL_c36 (Ln : Nat) (xs : Nat → Int32) : ∀ q ∈ kL_c36 Ln xs, an_ok RL cL_law 4 (some .boolean) 2000 80000 600000 7302250 false (lawP Ln xs) an_noR q.1 q.2 :=
  an_kc (an_lift (fun live => ak_aload_n dL_law_1835 rfl rfl)) <|
  an_kc (an_lift (fun live => ak_callV (C := RX7) (F := TX7) (N := 4) metX7_digest rfl ⟨rfl, by decide +kernel, by decide +kernel, by decide +kernel⟩ (am_w5 wd_867 wd_868 wd_869 wd_58 wd_870) (by decide) dL_law_1836 rfl)) <|
  an_kc (an_lift (fun live => ak_aload_n dL_law_1839 rfl rfl)) <|
  an_kc (an_lift (fun live => ak_callV (C := RX8) (F := TX8) (N := 27) metX8_digest rfl ⟨rfl, by decide +kernel, by decide +kernel, by decide +kernel⟩ (am_w5 wd_1301 wd_1302 wd_1303 wd_67 wd_1304) (by decide) dL_law_1840 rfl)) <|
  an_kc (an_lift (fun live => ak_lcmp dL_law_1843 rfl)) <|
  an_kc (an_lift (fun live => ak_if_eq dL_law_1844 (by decide +kernel) rfl)) <| an_kn
set_option maxRecDepth 100000 in
set_option maxHeartbeats 4000000 in
theorem caseL_c36 (xs : Nat → Int32) : an_wp (kL_c36 8 xs) lawC 200 (an_go (kL_c36 8 xs) 1835) lawL [] lawX := by
    have f7 := an_Mf7
    have f8 := an_Mf8
    repeat' (first | (with_reducible exact f7) | (with_reducible exact f8) | apply And.intro | exact rfl | (intro hx; with_reducible exact absurd rfl hx) | (intro hx; with_reducible exact absurd ((lg_cmp_eq _ _).mpr rfl) hx) | (intro hx; exact absurd hx (by decide)) | (intro hx; exact absurd (by decide) hx) | decide | intro hx | (refine Exists.intro _ (And.intro rfl ?_)))
    all_goals try first | (with_reducible change am_tI _ _) | (change Ret _ _) | (change Ret _ _ _) | (change Exists _)
    all_goals try dsimp only at *
    all_goals try exact absurd ‹(1000 : Int64) = 0› (by decide)
    all_goals first
      | exact ⟨_, _, rfl⟩
      | exact f8.lo ‹am_ch am_lo _ _›
      | exact (f8.lo ‹am_ch am_lo _ _›).1 _ ‹_›
      | exact (f8.lo ‹am_ch am_lo _ _›).2.1 _ ‹_›
      | exact (f8.lo ‹am_ch am_lo _ _›).2.2.1 _ ‹_›
      | exact (f8.lo ‹am_ch am_lo _ _›).2.2.2.1 _ ‹_›
      | exact (f8.lo ‹am_ch am_lo _ _›).2.2.2.2 _ ‹_›
      | exact (f8.hi ‹∀ a k, 200 ≤ a → _›).1 _ ‹_›
      | exact (f8.hi ‹∀ a k, 200 ≤ a → _›).2.1 _ ‹_›
      | exact (f8.hi ‹∀ a k, 200 ≤ a → _›).2.2.1 _ ‹_›
      | exact (f8.hi ‹∀ a k, 200 ≤ a → _›).2.2.2.1 _ ‹_›
      | exact (f8.hi ‹∀ a k, 200 ≤ a → _›).2.2.2.2 _ ‹_›
      | decide
