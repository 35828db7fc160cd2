-- part 88.law.lean.txt
section
/-! the law: cases 30 to 36 -/
def rwL_c30 : List dz_r := [(1616, .aload_n 1, 1), (1617, .aload_n 0, 1), (1618, .iload_n 3, 1), (1619, .iconst 1, 1), (1620, .iadd, 1), (1621, .iaload, 1), (1622, .invokevirtual 144, 3), (1625, .pop, 1), (1626, .aload_n 2, 1), (1627, .aload_n 0, 1), (1628, .iload_n 3, 1), (1629, .iconst 1, 1), (1630, .iadd, 1), (1631, .iaload, 1), (1632, .invokevirtual 147, 3), (1635, .pop, 1), (1636, .goto 205, 3)]
theorem dzL_c30 : dz cL_law rwL_c30 := dz_all 1616 (by decide +kernel)
theorem hy_X7_tell : yX7_tell.cls ≠ "java/lang/invoke/MethodHandle" ∧ yX7_tell.cls ≠ "java/lang/invoke/VarHandle" ∧ (parseMethodDescriptor yX7_tell.desc).map (fun d => d.parameters.length) = some 1 := ⟨by decide +kernel, by decide +kernel, by decide +kernel⟩
set_option maxRecDepth 100000 in
theorem wd_812 : Cond.methodLink "LearnLoansLaw" 144 yX7_tell ∈ am_ws := am_wt4 (List.mem_of_getElem? (i := 35) (by rfl)) (by decide +kernel)
set_option maxRecDepth 100000 in
theorem wd_813 : Cond.instanceMethod yX7_tell ∈ am_ws := am_wt4 (List.mem_of_getElem? (i := 36) (by rfl)) (by decide +kernel)
set_option maxRecDepth 100000 in
theorem wd_814 : Cond.selects "LearnLoans" yX7_tell yX7_tell ∈ am_ws := am_wt4 (List.mem_of_getElem? (i := 37) (by rfl)) (by decide +kernel)
set_option maxRecDepth 100000 in
theorem wd_815 : Cond.code yX7_tell cX7_tell 2 (some .int) ∈ am_ws := am_wt4 (List.mem_of_getElem? (i := 38) (by rfl)) (by decide +kernel)
theorem hy_X8_tell : yX8_tell.cls ≠ "java/lang/invoke/MethodHandle" ∧ yX8_tell.cls ≠ "java/lang/invoke/VarHandle" ∧ (parseMethodDescriptor yX8_tell.desc).map (fun d => d.parameters.length) = some 1 := ⟨by decide +kernel, by decide +kernel, by decide +kernel⟩
set_option maxRecDepth 100000 in
theorem wd_1274 : Cond.methodLink "LearnLoansLaw" 147 yX8_tell ∈ am_ws := am_wt6 (List.mem_of_getElem? (i := 17) (by rfl)) (by decide +kernel)
set_option maxRecDepth 100000 in
theorem wd_1275 : Cond.instanceMethod yX8_tell ∈ am_ws := am_wt6 (List.mem_of_getElem? (i := 18) (by rfl)) (by decide +kernel)
set_option maxRecDepth 100000 in
theorem wd_1276 : Cond.selects "LearnLoansModel" yX8_tell yX8_tell ∈ am_ws := am_wt6 (List.mem_of_getElem? (i := 19) (by rfl)) (by decide +kernel)
set_option maxRecDepth 100000 in
theorem wd_1277 : Cond.code yX8_tell cX8_tell 2 (some .int) ∈ am_ws := am_wt6 (List.mem_of_getElem? (i := 20) (by rfl)) (by decide +kernel)
def kL_c30 (Ln : Nat) (xs : Nat → Int32) : an_code := [(1616, an_lf (fun live => am_aload 1 1617)), (1617, an_lf (fun live => am_aload 0 1618)), (1618, an_lf (fun live => am_iload 3 1619)), (1619, an_lf (fun live => am_const (.int 1) 1620)), (1620, an_lf (fun live => am_i2 (fun x y => x + y) 1621)), (1621, an_sld Ln xs 1622), (1622, an_lf (fun live => am_callV live 7 1 TW_tell 1625)), (1625, an_lf (fun live => am_pop 1626)), (1626, an_lf (fun live => am_aload 2 1627)), (1627, an_lf (fun live => am_aload 0 1628)), (1628, an_lf (fun live => am_iload 3 1629)), (1629, an_lf (fun live => am_const (.int 1) 1630)), (1630, an_lf (fun live => am_i2 (fun x y => x + y) 1631)), (1631, an_sld Ln xs 1632), (1632, an_lf (fun live => am_callV live 8 1 TX8_tell 1635)), (1635, an_lf (fun live => am_pop 1636)), (1636, an_lf (fun live => am_goto 1841))]
theorem koL_c30 (Ln : Nat) (xs : Nat → Int32) : ∀ q ∈ kL_c30 Ln xs, an_ok RL cL_law 4 (some .boolean) 2000 80000 600000 7302250 false (lawP Ln xs) an_noR q.1 q.2 :=
  am_kz dzL_c30 <|
  an_kd (fun d => an_lift (fun live => ak_aload_n d rfl rfl)) <|
  an_kd (fun d => an_lift (fun live => ak_aload_n d rfl rfl)) <|
  an_kd (fun d => an_lift (fun live => ak_iload_n d rfl rfl)) <|
  an_kd (fun d => an_lift (fun live => ak_iconst d (by decide +kernel) rfl)) <|
  an_kd (fun d => an_lift (fun live => ak_iadd d rfl)) <|
  an_kd (fun d => nk_sld d rfl) <|
  an_kd (fun d => an_lift (fun live => ak_callV (C := RX7) (F := TX7) (N := 4) metW_tell rfl ⟨rfl, hy_X7_tell⟩ (am_w5 wd_812 wd_813 wd_814 wd_58 wd_815) (by decide) d rfl)) <|
  an_kd (fun d => an_lift (fun live => ak_pop d rfl)) <|
  an_kd (fun d => an_lift (fun live => ak_aload_n d rfl rfl)) <|
  an_kd (fun d => an_lift (fun live => ak_aload_n d rfl rfl)) <|
  an_kd (fun d => an_lift (fun live => ak_iload_n d rfl rfl)) <|
  an_kd (fun d => an_lift (fun live => ak_iconst d (by decide +kernel) rfl)) <|
  an_kd (fun d => an_lift (fun live => ak_iadd d rfl)) <|
  an_kd (fun d => nk_sld d rfl) <|
  an_kd (fun d => an_lift (fun live => ak_callV (C := RX8) (F := TX8) (N := 27) metX8_tell rfl ⟨rfl, hy_X8_tell⟩ (am_w5 wd_1274 wd_1275 wd_1276 wd_67 wd_1277) (by decide) d rfl)) <|
  an_kd (fun d => an_lift (fun live => ak_pop d rfl)) <|
  an_kd (fun d => an_lift (fun live => ak_goto d (by decide +kernel))) <| an_kdn
set_option maxRecDepth 100000 in
set_option maxHeartbeats 4000000 in
theorem caseL_c30 {Ln : Nat} (xs : Nat → Int32) {i : Int32} {i1 i2 : Bool} {kc kn : Nat} {M : am_M} (h : LI i1 i2 M) (hi : lawI Ln i kc kn) : an_wp (kL_c30 Ln xs) (lawC Ln i) 200 (an_go (kL_c30 Ln xs) 1616) (lawL i) [] ((am_lv i1 i2, am_q i1 i2), kc, kn, M) := by
    obtain ⟨⟨f1, f2, f3, f4, f5, f6, f7⟩, k1, k2, k3, k4⟩ := hi.f
    have hmn : am_mn (am_lv i1 i2, am_q i1 i2) := ⟨_, _, rfl⟩
    repeat' (first | (with_reducible exact f1) | (with_reducible exact f2) | (with_reducible exact f3) | (with_reducible exact f4) | (with_reducible exact f5) | (with_reducible exact f6) | (with_reducible exact f7) | (with_reducible exact hmn) | (with_reducible exact h) | (with_reducible exact k1) | (with_reducible exact k2) | (with_reducible exact k3) | (with_reducible exact k4) | apply And.intro | exact rfl | ((with_reducible change r_I _); (with_reducible assumption)) | (intro hx; exact absurd hx (by decide)) | (intro hx; exact absurd (by decide) hx) | decide | intro hx | (refine Exists.intro _ (And.intro rfl ?_)) | (refine Exists.intro _ (Exists.intro _ (And.intro rfl (And.intro rfl ?_)))) | ((with_reducible change LI _ _ _); (with_reducible assumption)) | ((with_reducible change _ = true); simp only [k1, k2, k3, k4, Bool.true_and]; rfl))
    all_goals try first | (with_reducible change am_tI _ _) | (change Ret _ _) | (change Ret _ _ _) | (change Exists _)
    all_goals try dsimp only at *
    all_goals try (with_reducible exact absurd ‹(1000 : Int64) = 0› am_z1000)
    all_goals first
      | exact ⟨_, _, rfl⟩
      | exact lawE.mk hi (by with_reducible assumption) (by omega) (by omega)
      | skip
def rwL_c31 : List dz_r := [(1639, .aload_n 1, 1), (1640, .invokevirtual 148, 3), (1643, .pop, 1), (1644, .aload_n 2, 1), (1645, .invokevirtual 152, 3), (1648, .pop, 1), (1649, .goto 192, 3)]
theorem dzL_c31 : dz cL_law rwL_c31 := dz_all 1639 (by decide +kernel)
theorem hy_X7_untell : yX7_untell.cls ≠ "java/lang/invoke/MethodHandle" ∧ yX7_untell.cls ≠ "java/lang/invoke/VarHandle" ∧ (parseMethodDescriptor yX7_untell.desc).map (fun d => d.parameters.length) = some 0 := ⟨by decide +kernel, by decide +kernel, by decide +kernel⟩
set_option maxRecDepth 100000 in
theorem wd_816 : Cond.methodLink "LearnLoansLaw" 148 yX7_untell ∈ am_ws := am_wt4 (List.mem_of_getElem? (i := 39) (by rfl)) (by decide +kernel)
set_option maxRecDepth 100000 in
theorem wd_817 : Cond.instanceMethod yX7_untell ∈ am_ws := am_wt4 (List.mem_of_getElem? (i := 40) (by rfl)) (by decide +kernel)
set_option maxRecDepth 100000 in
theorem wd_818 : Cond.selects "LearnLoans" yX7_untell yX7_untell ∈ am_ws := am_wt4 (List.mem_of_getElem? (i := 41) (by rfl)) (by decide +kernel)
set_option maxRecDepth 100000 in
theorem wd_819 : Cond.code yX7_untell cX7_untell 2 (some .int) ∈ am_ws := am_wt4 (List.mem_of_getElem? (i := 42) (by rfl)) (by decide +kernel)
theorem hy_X8_untell : yX8_untell.cls ≠ "java/lang/invoke/MethodHandle" ∧ yX8_untell.cls ≠ "java/lang/invoke/VarHandle" ∧ (parseMethodDescriptor yX8_untell.desc).map (fun d => d.parameters.length) = some 0 := ⟨by decide +kernel, by decide +kernel, by decide +kernel⟩
set_option maxRecDepth 100000 in
theorem wd_1278 : Cond.methodLink "LearnLoansLaw" 152 yX8_untell ∈ am_ws := am_wt6 (List.mem_of_getElem? (i := 21) (by rfl)) (by decide +kernel)
set_option maxRecDepth 100000 in
theorem wd_1279 : Cond.instanceMethod yX8_untell ∈ am_ws := am_wt6 (List.mem_of_getElem? (i := 22) (by rfl)) (by decide +kernel)
set_option maxRecDepth 100000 in
theorem wd_1280 : Cond.selects "LearnLoansModel" yX8_untell yX8_untell ∈ am_ws := am_wt6 (List.mem_of_getElem? (i := 23) (by rfl)) (by decide +kernel)
set_option maxRecDepth 100000 in
theorem wd_1281 : Cond.code yX8_untell cX8_untell 2 (some .int) ∈ am_ws := am_wt6 (List.mem_of_getElem? (i := 24) (by rfl)) (by decide +kernel)
def kL_c31 (Ln : Nat) (xs : Nat → Int32) : an_code := [(1639, an_lf (fun live => am_aload 1 1640)), (1640, an_lf (fun live => am_callV live 7 0 TW_untell 1643)), (1643, an_lf (fun live => am_pop 1644)), (1644, an_lf (fun live => am_aload 2 1645)), (1645, an_lf (fun live => am_callV live 8 0 TX8_untell 1648)), (1648, an_lf (fun live => am_pop 1649)), (1649, an_lf (fun live => am_goto 1841))]
theorem koL_c31 (Ln : Nat) (xs : Nat → Int32) : ∀ q ∈ kL_c31 Ln xs, an_ok RL cL_law 4 (some .boolean) 2000 80000 600000 7302250 false (lawP Ln xs) an_noR q.1 q.2 :=
  am_kz dzL_c31 <|
  an_kd (fun d => an_lift (fun live => ak_aload_n d rfl rfl)) <|
  an_kd (fun d => an_lift (fun live => ak_callV (C := RX7) (F := TX7) (N := 4) metW_untell rfl ⟨rfl, hy_X7_untell⟩ (am_w5 wd_816 wd_817 wd_818 wd_58 wd_819) (by decide) d rfl)) <|
  an_kd (fun d => an_lift (fun live => ak_pop d rfl)) <|
  an_kd (fun d => an_lift (fun live => ak_aload_n d rfl rfl)) <|
  an_kd (fun d => an_lift (fun live => ak_callV (C := RX8) (F := TX8) (N := 27) metX8_untell rfl ⟨rfl, hy_X8_untell⟩ (am_w5 wd_1278 wd_1279 wd_1280 wd_67 wd_1281) (by decide) d rfl)) <|
  an_kd (fun d => an_lift (fun live => ak_pop d rfl)) <|
  an_kd (fun d => an_lift (fun live => ak_goto d (by decide +kernel))) <| an_kdn
set_option maxRecDepth 100000 in
set_option maxHeartbeats 4000000 in
theorem caseL_c31 {Ln : Nat} (xs : Nat → Int32) {i : Int32} {i1 i2 : Bool} {kc kn : Nat} {M : am_M} (h : LI i1 i2 M) (hi : lawI Ln i kc kn) : an_wp (kL_c31 Ln xs) (lawC Ln i) 200 (an_go (kL_c31 Ln xs) 1639) (lawL i) [] ((am_lv i1 i2, am_q i1 i2), kc, kn, M) := by
    obtain ⟨⟨f1, f2, f3, f4, f5, f6, f7⟩, k1, k2, k3, k4⟩ := hi.f
    have hmn : am_mn (am_lv i1 i2, am_q i1 i2) := ⟨_, _, rfl⟩
    repeat' (first | (with_reducible exact f1) | (with_reducible exact f2) | (with_reducible exact f3) | (with_reducible exact f4) | (with_reducible exact f5) | (with_reducible exact f6) | (with_reducible exact f7) | (with_reducible exact hmn) | (with_reducible exact h) | (with_reducible exact k1) | (with_reducible exact k2) | (with_reducible exact k3) | (with_reducible exact k4) | apply And.intro | exact rfl | ((with_reducible change r_I _); (with_reducible assumption)) | (intro hx; exact absurd hx (by decide)) | (intro hx; exact absurd (by decide) hx) | decide | intro hx | (refine Exists.intro _ (And.intro rfl ?_)) | (refine Exists.intro _ (Exists.intro _ (And.intro rfl (And.intro rfl ?_)))) | ((with_reducible change LI _ _ _); (with_reducible assumption)) | ((with_reducible change _ = true); simp only [k1, k2, k3, k4, Bool.true_and]; rfl))
    all_goals try first | (with_reducible change am_tI _ _) | (change Ret _ _) | (change Ret _ _ _) | (change Exists _)
    all_goals try dsimp only at *
    all_goals try (with_reducible exact absurd ‹(1000 : Int64) = 0› am_z1000)
    all_goals first
      | exact ⟨_, _, rfl⟩
      | exact lawE.mk hi (by with_reducible assumption) (by omega) (by omega)
      | skip
def rwL_c32 : List dz_r := [(1652, .aload_n 1, 1), (1653, .aload_n 0, 1), (1654, .iload_n 3, 1), (1655, .iconst 1, 1), (1656, .iadd, 1), (1657, .iaload, 1), (1658, .aload_n 0, 1), (1659, .iload_n 3, 1), (1660, .iconst 2, 1), (1661, .iadd, 1), (1662, .iaload, 1), (1663, .aload_n 0, 1), (1664, .iload_n 3, 1), (1665, .iconst 3, 1), (1666, .iadd, 1), (1667, .iaload, 1), (1668, .aload_n 0, 1), (1669, .iload_n 3, 1), (1670, .iconst 4, 1), (1671, .iadd, 1), (1672, .iaload, 1), (1673, .aload_n 0, 1), (1674, .iload_n 3, 1), (1675, .iconst 5, 1), (1676, .iadd, 1), (1677, .iaload, 1), (1678, .aload_n 0, 1), (1679, .iload_n 3, 1), (1680, .bipush 6, 2), (1682, .iadd, 1), (1683, .iaload, 1), (1684, .i2l, 1), (1685, .bipush 32, 2), (1687, .lshl, 1), (1688, .aload_n 0, 1), (1689, .iload_n 3, 1), (1690, .bipush 7, 2), (1692, .iadd, 1), (1693, .iaload, 1), (1694, .i2l, 1), (1695, .ldc2_w 153, 3), (1698, .land, 1), (1699, .lor, 1), (1700, .invokevirtual 155, 3), (1703, .pop, 1), (1704, .aload_n 2, 1), (1705, .aload_n 0, 1), (1706, .iload_n 3, 1), (1707, .iconst 1, 1), (1708, .iadd, 1), (1709, .iaload, 1), (1710, .aload_n 0, 1), (1711, .iload_n 3, 1), (1712, .iconst 2, 1), (1713, .iadd, 1), (1714, .iaload, 1), (1715, .aload_n 0, 1), (1716, .iload_n 3, 1), (1717, .iconst 3, 1), (1718, .iadd, 1), (1719, .iaload, 1), (1720, .aload_n 0, 1), (1721, .iload_n 3, 1), (1722, .iconst 4, 1), (1723, .iadd, 1), (1724, .iaload, 1), (1725, .aload_n 0, 1), (1726, .iload_n 3, 1), (1727, .iconst 5, 1), (1728, .iadd, 1), (1729, .iaload, 1), (1730, .aload_n 0, 1), (1731, .iload_n 3, 1), (1732, .bipush 6, 2), (1734, .iadd, 1), (1735, .iaload, 1), (1736, .i2l, 1), (1737, .bipush 32, 2), (1739, .lshl, 1), (1740, .aload_n 0, 1), (1741, .iload_n 3, 1), (1742, .bipush 7, 2), (1744, .iadd, 1), (1745, .iaload, 1), (1746, .i2l, 1), (1747, .ldc2_w 153, 3), (1750, .land, 1), (1751, .lor, 1), (1752, .invokevirtual 159, 3), (1755, .pop, 1), (1756, .goto 85, 3)]
theorem dzL_c32 : dz cL_law rwL_c32 := dz_all 1652 (by decide +kernel)
set_option maxRecDepth 100000 in
theorem wd_1307 : Cond.constantLong "LearnLoansLaw" 153 4294967295 ∈ am_ws := am_wt6 (List.mem_of_getElem? (i := 50) (by rfl)) (by decide +kernel)
theorem hy_X7_best : yX7_best.cls ≠ "java/lang/invoke/MethodHandle" ∧ yX7_best.cls ≠ "java/lang/invoke/VarHandle" ∧ (parseMethodDescriptor yX7_best.desc).map (fun d => d.parameters.length) = some 6 := ⟨by decide +kernel, by decide +kernel, by decide +kernel⟩
set_option maxRecDepth 100000 in
theorem wd_820 : Cond.methodLink "LearnLoansLaw" 155 yX7_best ∈ am_ws := am_wt4 (List.mem_of_getElem? (i := 43) (by rfl)) (by decide +kernel)
set_option maxRecDepth 100000 in
theorem wd_821 : Cond.instanceMethod yX7_best ∈ am_ws := am_wt4 (List.mem_of_getElem? (i := 44) (by rfl)) (by decide +kernel)
set_option maxRecDepth 100000 in
theorem wd_822 : Cond.selects "LearnLoans" yX7_best yX7_best ∈ am_ws := am_wt4 (List.mem_of_getElem? (i := 45) (by rfl)) (by decide +kernel)
set_option maxRecDepth 100000 in
theorem wd_823 : Cond.code yX7_best cX7_best 12 (some .int) ∈ am_ws := am_wt4 (List.mem_of_getElem? (i := 46) (by rfl)) (by decide +kernel)
theorem hy_X8_best : yX8_best.cls ≠ "java/lang/invoke/MethodHandle" ∧ yX8_best.cls ≠ "java/lang/invoke/VarHandle" ∧ (parseMethodDescriptor yX8_best.desc).map (fun d => d.parameters.length) = some 6 := ⟨by decide +kernel, by decide +kernel, by decide +kernel⟩
set_option maxRecDepth 100000 in
theorem wd_1282 : Cond.methodLink "LearnLoansLaw" 159 yX8_best ∈ am_ws := am_wt6 (List.mem_of_getElem? (i := 25) (by rfl)) (by decide +kernel)
set_option maxRecDepth 100000 in
theorem wd_1283 : Cond.instanceMethod yX8_best ∈ am_ws := am_wt6 (List.mem_of_getElem? (i := 26) (by rfl)) (by decide +kernel)
set_option maxRecDepth 100000 in
theorem wd_1284 : Cond.selects "LearnLoansModel" yX8_best yX8_best ∈ am_ws := am_wt6 (List.mem_of_getElem? (i := 27) (by rfl)) (by decide +kernel)
set_option maxRecDepth 100000 in
theorem wd_1285 : Cond.code yX8_best cX8_best 13 (some .int) ∈ am_ws := am_wt6 (List.mem_of_getElem? (i := 28) (by rfl)) (by decide +kernel)
def kL_c32 (Ln : Nat) (xs : Nat → Int32) : an_code := [(1652, an_lf (fun live => am_aload 1 1653)), (1653, an_lf (fun live => am_aload 0 1654)), (1654, an_lf (fun live => am_iload 3 1655)), (1655, an_lf (fun live => am_const (.int 1) 1656)), (1656, an_lf (fun live => am_i2 (fun x y => x + y) 1657)), (1657, an_sld Ln xs 1658), (1658, an_lf (fun live => am_aload 0 1659)), (1659, an_lf (fun live => am_iload 3 1660)), (1660, an_lf (fun live => am_const (.int 2) 1661)), (1661, an_lf (fun live => am_i2 (fun x y => x + y) 1662)), (1662, an_sld Ln xs 1663), (1663, an_lf (fun live => am_aload 0 1664)), (1664, an_lf (fun live => am_iload 3 1665)), (1665, an_lf (fun live => am_const (.int 3) 1666)), (1666, an_lf (fun live => am_i2 (fun x y => x + y) 1667)), (1667, an_sld Ln xs 1668), (1668, an_lf (fun live => am_aload 0 1669)), (1669, an_lf (fun live => am_iload 3 1670)), (1670, an_lf (fun live => am_const (.int 4) 1671)), (1671, an_lf (fun live => am_i2 (fun x y => x + y) 1672)), (1672, an_sld Ln xs 1673), (1673, an_lf (fun live => am_aload 0 1674)), (1674, an_lf (fun live => am_iload 3 1675)), (1675, an_lf (fun live => am_const (.int 5) 1676)), (1676, an_lf (fun live => am_i2 (fun x y => x + y) 1677)), (1677, an_sld Ln xs 1678), (1678, an_lf (fun live => am_aload 0 1679)), (1679, an_lf (fun live => am_iload 3 1680)), (1680, an_lf (fun live => am_const (.int 6) 1682)), (1682, an_lf (fun live => am_i2 (fun x y => x + y) 1683)), (1683, an_sld Ln xs 1684), (1684, an_lf (fun live => am_i2l 1685)), (1685, an_lf (fun live => am_const (.int 32) 1687)), (1687, an_lf (fun live => am_lsh (fun x y => x <<< (y.toInt64 &&& 63)) 1688)), (1688, an_lf (fun live => am_aload 0 1689)), (1689, an_lf (fun live => am_iload 3 1690)), (1690, an_lf (fun live => am_const (.int 7) 1692)), (1692, an_lf (fun live => am_i2 (fun x y => x + y) 1693)), (1693, an_sld Ln xs 1694), (1694, an_lf (fun live => am_i2l 1695)), (1695, an_lf (fun live => am_const (.long 4294967295) 1698)), (1698, an_lf (fun live => am_l2 (fun x y => x &&& y) 1699)), (1699, an_lf (fun live => am_l2 (fun x y => x ||| y) 1700)), (1700, an_lf (fun live => am_callV live 7 6 TW_best 1703)), (1703, an_lf (fun live => am_pop 1704)), (1704, an_lf (fun live => am_aload 2 1705)), (1705, an_lf (fun live => am_aload 0 1706)), (1706, an_lf (fun live => am_iload 3 1707)), (1707, an_lf (fun live => am_const (.int 1) 1708)), (1708, an_lf (fun live => am_i2 (fun x y => x + y) 1709)), (1709, an_sld Ln xs 1710), (1710, an_lf (fun live => am_aload 0 1711)), (1711, an_lf (fun live => am_iload 3 1712)), (1712, an_lf (fun live => am_const (.int 2) 1713)), (1713, an_lf (fun live => am_i2 (fun x y => x + y) 1714)), (1714, an_sld Ln xs 1715), (1715, an_lf (fun live => am_aload 0 1716)), (1716, an_lf (fun live => am_iload 3 1717)), (1717, an_lf (fun live => am_const (.int 3) 1718)), (1718, an_lf (fun live => am_i2 (fun x y => x + y) 1719)), (1719, an_sld Ln xs 1720), (1720, an_lf (fun live => am_aload 0 1721)), (1721, an_lf (fun live => am_iload 3 1722)), (1722, an_lf (fun live => am_const (.int 4) 1723)), (1723, an_lf (fun live => am_i2 (fun x y => x + y) 1724)), (1724, an_sld Ln xs 1725), (1725, an_lf (fun live => am_aload 0 1726)), (1726, an_lf (fun live => am_iload 3 1727)), (1727, an_lf (fun live => am_const (.int 5) 1728)), (1728, an_lf (fun live => am_i2 (fun x y => x + y) 1729)), (1729, an_sld Ln xs 1730), (1730, an_lf (fun live => am_aload 0 1731)), (1731, an_lf (fun live => am_iload 3 1732)), (1732, an_lf (fun live => am_const (.int 6) 1734)), (1734, an_lf (fun live => am_i2 (fun x y => x + y) 1735)), (1735, an_sld Ln xs 1736), (1736, an_lf (fun live => am_i2l 1737)), (1737, an_lf (fun live => am_const (.int 32) 1739)), (1739, an_lf (fun live => am_lsh (fun x y => x <<< (y.toInt64 &&& 63)) 1740)), (1740, an_lf (fun live => am_aload 0 1741)), (1741, an_lf (fun live => am_iload 3 1742)), (1742, an_lf (fun live => am_const (.int 7) 1744)), (1744, an_lf (fun live => am_i2 (fun x y => x + y) 1745)), (1745, an_sld Ln xs 1746), (1746, an_lf (fun live => am_i2l 1747)), (1747, an_lf (fun live => am_const (.long 4294967295) 1750)), (1750, an_lf (fun live => am_l2 (fun x y => x &&& y) 1751)), (1751, an_lf (fun live => am_l2 (fun x y => x ||| y) 1752)), (1752, an_lf (fun live => am_callV live 8 6 TV_best 1755)), (1755, an_lf (fun live => am_pop 1756)), (1756, an_lf (fun live => am_goto 1841))]
theorem koL_c32 (Ln : Nat) (xs : Nat → Int32) : ∀ q ∈ kL_c32 Ln xs, an_ok RL cL_law 4 (some .boolean) 2000 80000 600000 7302250 false (lawP Ln xs) an_noR q.1 q.2 :=
  am_kz dzL_c32 <|
  an_kd (fun d => an_lift (fun live => ak_aload_n d rfl rfl)) <|
  an_kd (fun d => an_lift (fun live => ak_aload_n d rfl rfl)) <|
  an_kd (fun d => an_lift (fun live => ak_iload_n d rfl rfl)) <|
  an_kd (fun d => an_lift (fun live => ak_iconst d (by decide +kernel) rfl)) <|
  an_kd (fun d => an_lift (fun live => ak_iadd d rfl)) <|
  an_kd (fun d => nk_sld d rfl) <|
  an_kd (fun d => an_lift (fun live => ak_aload_n d rfl rfl)) <|
  an_kd (fun d => an_lift (fun live => ak_iload_n d rfl rfl)) <|
  an_kd (fun d => an_lift (fun live => ak_iconst d (by decide +kernel) rfl)) <|
  an_kd (fun d => an_lift (fun live => ak_iadd d rfl)) <|
  an_kd (fun d => nk_sld d rfl) <|
  an_kd (fun d => an_lift (fun live => ak_aload_n d rfl rfl)) <|
  an_kd (fun d => an_lift (fun live => ak_iload_n d rfl rfl)) <|
  an_kd (fun d => an_lift (fun live => ak_iconst d (by decide +kernel) rfl)) <|
  an_kd (fun d => an_lift (fun live => ak_iadd d rfl)) <|
  an_kd (fun d => nk_sld d rfl) <|
  an_kd (fun d => an_lift (fun live => ak_aload_n d rfl rfl)) <|
  an_kd (fun d => an_lift (fun live => ak_iload_n d rfl rfl)) <|
  an_kd (fun d => an_lift (fun live => ak_iconst d (by decide +kernel) rfl)) <|
  an_kd (fun d => an_lift (fun live => ak_iadd d rfl)) <|
  an_kd (fun d => nk_sld d rfl) <|
  an_kd (fun d => an_lift (fun live => ak_aload_n d rfl rfl)) <|
  an_kd (fun d => an_lift (fun live => ak_iload_n d rfl rfl)) <|
  an_kd (fun d => an_lift (fun live => ak_iconst d (by decide +kernel) rfl)) <|
  an_kd (fun d => an_lift (fun live => ak_iadd d rfl)) <|
  an_kd (fun d => nk_sld d rfl) <|
  an_kd (fun d => an_lift (fun live => ak_aload_n d rfl rfl)) <|
  an_kd (fun d => an_lift (fun live => ak_iload_n d rfl rfl)) <|
  an_kd (fun d => an_lift (fun live => ak_bipush d (by decide +kernel) rfl)) <|
  an_kd (fun d => an_lift (fun live => ak_iadd d rfl)) <|
  an_kd (fun d => nk_sld d rfl) <|
  an_kd (fun d => an_lift (fun live => ak_i2l d rfl)) <|
  an_kd (fun d => an_lift (fun live => ak_bipush d (by decide +kernel) rfl)) <|
  an_kd (fun d => an_lift (fun live => ak_lshl d rfl)) <|
  an_kd (fun d => an_lift (fun live => ak_aload_n d rfl rfl)) <|
  an_kd (fun d => an_lift (fun live => ak_iload_n d rfl rfl)) <|
  an_kd (fun d => an_lift (fun live => ak_bipush d (by decide +kernel) rfl)) <|
  an_kd (fun d => an_lift (fun live => ak_iadd d rfl)) <|
  an_kd (fun d => nk_sld d rfl) <|
  an_kd (fun d => an_lift (fun live => ak_i2l d rfl)) <|
  an_kd (fun d => an_lift (fun live => ak_ldc2 wd_1307 d rfl)) <|
  an_kd (fun d => an_lift (fun live => ak_land d rfl)) <|
  an_kd (fun d => an_lift (fun live => ak_lor d rfl)) <|
  an_kd (fun d => an_lift (fun live => ak_callV (C := RX7) (F := TX7) (N := 4) metW_best rfl ⟨rfl, hy_X7_best⟩ (am_w5 wd_820 wd_821 wd_822 wd_58 wd_823) (by decide) d rfl)) <|
  an_kd (fun d => an_lift (fun live => ak_pop d rfl)) <|
  an_kd (fun d => an_lift (fun live => ak_aload_n d rfl rfl)) <|
  an_kd (fun d => an_lift (fun live => ak_aload_n d rfl rfl)) <|
  an_kd (fun d => an_lift (fun live => ak_iload_n d rfl rfl)) <|
  an_kd (fun d => an_lift (fun live => ak_iconst d (by decide +kernel) rfl)) <|
  an_kd (fun d => an_lift (fun live => ak_iadd d rfl)) <|
  an_kd (fun d => nk_sld d rfl) <|
  an_kd (fun d => an_lift (fun live => ak_aload_n d rfl rfl)) <|
  an_kd (fun d => an_lift (fun live => ak_iload_n d rfl rfl)) <|
  an_kd (fun d => an_lift (fun live => ak_iconst d (by decide +kernel) rfl)) <|
  an_kd (fun d => an_lift (fun live => ak_iadd d rfl)) <|
  an_kd (fun d => nk_sld d rfl) <|
  an_kd (fun d => an_lift (fun live => ak_aload_n d rfl rfl)) <|
  an_kd (fun d => an_lift (fun live => ak_iload_n d rfl rfl)) <|
  an_kd (fun d => an_lift (fun live => ak_iconst d (by decide +kernel) rfl)) <|
  an_kd (fun d => an_lift (fun live => ak_iadd d rfl)) <|
  an_kd (fun d => nk_sld d rfl) <|
  an_kd (fun d => an_lift (fun live => ak_aload_n d rfl rfl)) <|
  an_kd (fun d => an_lift (fun live => ak_iload_n d rfl rfl)) <|
  an_kd (fun d => an_lift (fun live => ak_iconst d (by decide +kernel) rfl)) <|
  an_kd (fun d => an_lift (fun live => ak_iadd d rfl)) <|
  an_kd (fun d => nk_sld d rfl) <|
  an_kd (fun d => an_lift (fun live => ak_aload_n d rfl rfl)) <|
  an_kd (fun d => an_lift (fun live => ak_iload_n d rfl rfl)) <|
  an_kd (fun d => an_lift (fun live => ak_iconst d (by decide +kernel) rfl)) <|
  an_kd (fun d => an_lift (fun live => ak_iadd d rfl)) <|
  an_kd (fun d => nk_sld d rfl) <|
  an_kd (fun d => an_lift (fun live => ak_aload_n d rfl rfl)) <|
  an_kd (fun d => an_lift (fun live => ak_iload_n d rfl rfl)) <|
  an_kd (fun d => an_lift (fun live => ak_bipush d (by decide +kernel) rfl)) <|
  an_kd (fun d => an_lift (fun live => ak_iadd d rfl)) <|
  an_kd (fun d => nk_sld d rfl) <|
  an_kd (fun d => an_lift (fun live => ak_i2l d rfl)) <|
  an_kd (fun d => an_lift (fun live => ak_bipush d (by decide +kernel) rfl)) <|
  an_kd (fun d => an_lift (fun live => ak_lshl d rfl)) <|
  an_kd (fun d => an_lift (fun live => ak_aload_n d rfl rfl)) <|
  an_kd (fun d => an_lift (fun live => ak_iload_n d rfl rfl)) <|
  an_kd (fun d => an_lift (fun live => ak_bipush d (by decide +kernel) rfl)) <|
  an_kd (fun d => an_lift (fun live => ak_iadd d rfl)) <|
  an_kd (fun d => nk_sld d rfl) <|
  an_kd (fun d => an_lift (fun live => ak_i2l d rfl)) <|
  an_kd (fun d => an_lift (fun live => ak_ldc2 wd_1307 d rfl)) <|
  an_kd (fun d => an_lift (fun live => ak_land d rfl)) <|
  an_kd (fun d => an_lift (fun live => ak_lor d rfl)) <|
  an_kd (fun d => an_lift (fun live => ak_callV (C := RX8) (F := TX8) (N := 27) metV_best rfl ⟨rfl, hy_X8_best⟩ (am_w5 wd_1282 wd_1283 wd_1284 wd_67 wd_1285) (by decide) d rfl)) <|
  an_kd (fun d => an_lift (fun live => ak_pop d rfl)) <|
  an_kd (fun d => an_lift (fun live => ak_goto d (by decide +kernel))) <| an_kdn
set_option maxRecDepth 100000 in
set_option maxHeartbeats 4000000 in
theorem caseL_c32 {Ln : Nat} (xs : Nat → Int32) {i : Int32} {i1 i2 : Bool} {kc kn : Nat} {M : am_M} (h : LI i1 i2 M) (hi : lawI Ln i kc kn) : an_wp (kL_c32 Ln xs) (lawC Ln i) 200 (an_go (kL_c32 Ln xs) 1652) (lawL i) [] ((am_lv i1 i2, am_q i1 i2), kc, kn, M) := by
    obtain ⟨⟨f1, f2, f3, f4, f5, f6, f7⟩, k1, k2, k3, k4⟩ := hi.f
    have hmn : am_mn (am_lv i1 i2, am_q i1 i2) := ⟨_, _, rfl⟩
    repeat' (first | (with_reducible exact f1) | (with_reducible exact f2) | (with_reducible exact f3) | (with_reducible exact f4) | (with_reducible exact f5) | (with_reducible exact f6) | (with_reducible exact f7) | (with_reducible exact hmn) | (with_reducible exact h) | (with_reducible exact k1) | (with_reducible exact k2) | (with_reducible exact k3) | (with_reducible exact k4) | apply And.intro | exact rfl | ((with_reducible change r_I _); (with_reducible assumption)) | (intro hx; exact absurd hx (by decide)) | (intro hx; exact absurd (by decide) hx) | decide | intro hx | (refine Exists.intro _ (And.intro rfl ?_)) | (refine Exists.intro _ (Exists.intro _ (And.intro rfl (And.intro rfl ?_)))) | ((with_reducible change LI _ _ _); (with_reducible assumption)) | ((with_reducible change _ = true); simp only [k1, k2, k3, k4, Bool.true_and]; rfl))
    all_goals try first | (with_reducible change am_tI _ _) | (change Ret _ _) | (change Ret _ _ _) | (change Exists _)
    all_goals try dsimp only at *
    all_goals try (with_reducible exact absurd ‹(1000 : Int64) = 0› am_z1000)
    all_goals first
      | exact ⟨_, _, rfl⟩
      | exact lawE.mk hi (by with_reducible assumption) (by omega) (by omega)
      | skip
def rwL_c33 : List dz_r := [(1759, .aload_n 1, 1), (1760, .aload_n 0, 1), (1761, .iload_n 3, 1), (1762, .iconst 1, 1), (1763, .iadd, 1), (1764, .iaload, 1), (1765, .invokevirtual 160, 3), (1768, .pop, 1), (1769, .aload_n 2, 1), (1770, .aload_n 0, 1), (1771, .iload_n 3, 1), (1772, .iconst 1, 1), (1773, .iadd, 1), (1774, .iaload, 1), (1775, .invokevirtual 163, 3), (1778, .pop, 1), (1779, .goto 62, 3)]
theorem dzL_c33 : dz cL_law rwL_c33 := dz_all 1759 (by decide +kernel)
theorem hy_X7_image : yX7_image.cls ≠ "java/lang/invoke/MethodHandle" ∧ yX7_image.cls ≠ "java/lang/invoke/VarHandle" ∧ (parseMethodDescriptor yX7_image.desc).map (fun d => d.parameters.length) = some 1 := ⟨by decide +kernel, by decide +kernel, by decide +kernel⟩
set_option maxRecDepth 100000 in
theorem wd_831 : Cond.methodLink "LearnLoansLaw" 160 yX7_image ∈ am_ws := am_wt4 (List.mem_of_getElem? (i := 54) (by rfl)) (by decide +kernel)
set_option maxRecDepth 100000 in
theorem wd_832 : Cond.instanceMethod yX7_image ∈ am_ws := am_wt4 (List.mem_of_getElem? (i := 55) (by rfl)) (by decide +kernel)
set_option maxRecDepth 100000 in
theorem wd_833 : Cond.selects "LearnLoans" yX7_image yX7_image ∈ am_ws := am_wt4 (List.mem_of_getElem? (i := 56) (by rfl)) (by decide +kernel)
set_option maxRecDepth 100000 in
theorem wd_834 : Cond.code yX7_image cX7_image 2 (some .int) ∈ am_ws := am_wt4 (List.mem_of_getElem? (i := 57) (by rfl)) (by decide +kernel)
theorem hy_X8_image : yX8_image.cls ≠ "java/lang/invoke/MethodHandle" ∧ yX8_image.cls ≠ "java/lang/invoke/VarHandle" ∧ (parseMethodDescriptor yX8_image.desc).map (fun d => d.parameters.length) = some 1 := ⟨by decide +kernel, by decide +kernel, by decide +kernel⟩
set_option maxRecDepth 100000 in
theorem wd_1289 : Cond.methodLink "LearnLoansLaw" 163 yX8_image ∈ am_ws := am_wt6 (List.mem_of_getElem? (i := 32) (by rfl)) (by decide +kernel)
set_option maxRecDepth 100000 in
theorem wd_1290 : Cond.instanceMethod yX8_image ∈ am_ws := am_wt6 (List.mem_of_getElem? (i := 33) (by rfl)) (by decide +kernel)
set_option maxRecDepth 100000 in
theorem wd_1291 : Cond.selects "LearnLoansModel" yX8_image yX8_image ∈ am_ws := am_wt6 (List.mem_of_getElem? (i := 34) (by rfl)) (by decide +kernel)
set_option maxRecDepth 100000 in
theorem wd_1292 : Cond.code yX8_image cX8_image 3 (some .int) ∈ am_ws := am_wt6 (List.mem_of_getElem? (i := 35) (by rfl)) (by decide +kernel)
def kL_c33 (Ln : Nat) (xs : Nat → Int32) : an_code := [(1759, an_lf (fun live => am_aload 1 1760)), (1760, an_lf (fun live => am_aload 0 1761)), (1761, an_lf (fun live => am_iload 3 1762)), (1762, an_lf (fun live => am_const (.int 1) 1763)), (1763, an_lf (fun live => am_i2 (fun x y => x + y) 1764)), (1764, an_sld Ln xs 1765), (1765, an_callI 7 1 TW_image 600000 7302250 39 5272 1768), (1768, an_lf (fun live => am_pop 1769)), (1769, an_lf (fun live => am_aload 2 1770)), (1770, an_lf (fun live => am_aload 0 1771)), (1771, an_lf (fun live => am_iload 3 1772)), (1772, an_lf (fun live => am_const (.int 1) 1773)), (1773, an_lf (fun live => am_i2 (fun x y => x + y) 1774)), (1774, an_sld Ln xs 1775), (1775, an_lf (fun live => am_callV live 8 1 TX8_image 1778)), (1778, an_lf (fun live => am_pop 1779)), (1779, an_lf (fun live => am_goto 1841))]
theorem koL_c33 (Ln : Nat) (xs : Nat → Int32) : ∀ q ∈ kL_c33 Ln xs, an_ok RL cL_law 4 (some .boolean) 2000 80000 600000 7302250 false (lawP Ln xs) an_noR q.1 q.2 :=
  am_kz dzL_c33 <|
  an_kd (fun d => an_lift (fun live => ak_aload_n d rfl rfl)) <|
  an_kd (fun d => an_lift (fun live => ak_aload_n d rfl rfl)) <|
  an_kd (fun d => an_lift (fun live => ak_iload_n d rfl rfl)) <|
  an_kd (fun d => an_lift (fun live => ak_iconst d (by decide +kernel) rfl)) <|
  an_kd (fun d => an_lift (fun live => ak_iadd d rfl)) <|
  an_kd (fun d => nk_sld d rfl) <|
  an_kd (fun d => nk_callV (C := RX7) (F := TX7) (N := 4) metW_image rfl ⟨rfl, hy_X7_image⟩ (am_w5 wd_831 wd_832 wd_833 wd_58 wd_834) (by decide) d rfl) <|
  an_kd (fun d => an_lift (fun live => ak_pop d rfl)) <|
  an_kd (fun d => an_lift (fun live => ak_aload_n d rfl rfl)) <|
  an_kd (fun d => an_lift (fun live => ak_aload_n d rfl rfl)) <|
  an_kd (fun d => an_lift (fun live => ak_iload_n d rfl rfl)) <|
  an_kd (fun d => an_lift (fun live => ak_iconst d (by decide +kernel) rfl)) <|
  an_kd (fun d => an_lift (fun live => ak_iadd d rfl)) <|
  an_kd (fun d => nk_sld d rfl) <|
  an_kd (fun d => an_lift (fun live => ak_callV (C := RX8) (F := TX8) (N := 27) metX8_image rfl ⟨rfl, hy_X8_image⟩ (am_w5 wd_1289 wd_1290 wd_1291 wd_67 wd_1292) (by decide) d rfl)) <|
  an_kd (fun d => an_lift (fun live => ak_pop d rfl)) <|
  an_kd (fun d => an_lift (fun live => ak_goto d (by decide +kernel))) <| an_kdn
set_option maxRecDepth 100000 in
set_option maxHeartbeats 4000000 in
theorem caseL_c33 {Ln : Nat} (xs : Nat → Int32) {i : Int32} {i1 i2 : Bool} {kc kn : Nat} {M : am_M} (h : LI i1 i2 M) (hi : lawI Ln i kc kn) : an_wp (kL_c33 Ln xs) (lawC Ln i) 200 (an_go (kL_c33 Ln xs) 1759) (lawL i) [] ((am_lv i1 i2, am_q i1 i2), kc, kn, M) := by
    obtain ⟨⟨f1, f2, f3, f4, f5, f6, f7⟩, k1, k2, k3, k4⟩ := hi.f
    have hmn : am_mn (am_lv i1 i2, am_q i1 i2) := ⟨_, _, rfl⟩
    repeat' (first | (with_reducible exact f1) | (with_reducible exact f2) | (with_reducible exact f3) | (with_reducible exact f4) | (with_reducible exact f5) | (with_reducible exact f6) | (with_reducible exact f7) | (with_reducible exact hmn) | (with_reducible exact h) | (with_reducible exact k1) | (with_reducible exact k2) | (with_reducible exact k3) | (with_reducible exact k4) | apply And.intro | exact rfl | ((with_reducible change r_I _); (with_reducible assumption)) | (intro hx; exact absurd hx (by decide)) | (intro hx; exact absurd (by decide) hx) | decide | intro hx | (refine Exists.intro _ (And.intro rfl ?_)) | (refine Exists.intro _ (Exists.intro _ (And.intro rfl (And.intro rfl ?_)))) | ((with_reducible change LI _ _ _); (with_reducible assumption)) | ((with_reducible change _ = true); simp only [k1, k2, k3, k4, Bool.true_and]; rfl))
    all_goals try first | (with_reducible change am_tI _ _) | (change Ret _ _) | (change Ret _ _ _) | (change Exists _)
    all_goals try dsimp only at *
    all_goals try (with_reducible exact absurd ‹(1000 : Int64) = 0› am_z1000)
    all_goals first
      | exact ⟨_, _, rfl⟩
      | exact lawE.mk hi (by with_reducible assumption) (by omega) (by omega)
      | skip
def rwL_c34 : List dz_r := [(1782, .aload_n 1, 1), (1783, .aload_n 0, 1), (1784, .iload_n 3, 1), (1785, .iconst 1, 1), (1786, .iadd, 1), (1787, .iaload, 1), (1788, .invokevirtual 164, 3), (1791, .pop, 1), (1792, .aload_n 2, 1), (1793, .aload_n 0, 1), (1794, .iload_n 3, 1), (1795, .iconst 1, 1), (1796, .iadd, 1), (1797, .iaload, 1), (1798, .invokevirtual 167, 3), (1801, .pop, 1), (1802, .goto 39, 3)]
theorem dzL_c34 : dz cL_law rwL_c34 := dz_all 1782 (by decide +kernel)
theorem hy_X7_from : yX7_from.cls ≠ "java/lang/invoke/MethodHandle" ∧ yX7_from.cls ≠ "java/lang/invoke/VarHandle" ∧ (parseMethodDescriptor yX7_from.desc).map (fun d => d.parameters.length) = some 1 := ⟨by decide +kernel, by decide +kernel, by decide +kernel⟩
set_option maxRecDepth 100000 in
theorem wd_859 : Cond.methodLink "LearnLoansLaw" 164 yX7_from ∈ am_ws := am_wt4 (List.mem_of_getElem? (i := 82) (by rfl)) (by decide +kernel)
set_option maxRecDepth 100000 in
theorem wd_860 : Cond.instanceMethod yX7_from ∈ am_ws := am_wt4 (List.mem_of_getElem? (i := 83) (by rfl)) (by decide +kernel)
set_option maxRecDepth 100000 in
theorem wd_861 : Cond.selects "LearnLoans" yX7_from yX7_from ∈ am_ws := am_wt4 (List.mem_of_getElem? (i := 84) (by rfl)) (by decide +kernel)
set_option maxRecDepth 100000 in
theorem wd_862 : Cond.code yX7_from cX7_from 2 (some .int) ∈ am_ws := am_wt4 (List.mem_of_getElem? (i := 85) (by rfl)) (by decide +kernel)
theorem hy_X8_from : yX8_from.cls ≠ "java/lang/invoke/MethodHandle" ∧ yX8_from.cls ≠ "java/lang/invoke/VarHandle" ∧ (parseMethodDescriptor yX8_from.desc).map (fun d => d.parameters.length) = some 1 := ⟨by decide +kernel, by decide +kernel, by decide +kernel⟩
set_option maxRecDepth 100000 in
theorem wd_1293 : Cond.methodLink "LearnLoansLaw" 167 yX8_from ∈ am_ws := am_wt6 (List.mem_of_getElem? (i := 36) (by rfl)) (by decide +kernel)
set_option maxRecDepth 100000 in
theorem wd_1294 : Cond.instanceMethod yX8_from ∈ am_ws := am_wt6 (List.mem_of_getElem? (i := 37) (by rfl)) (by decide +kernel)
set_option maxRecDepth 100000 in
theorem wd_1295 : Cond.selects "LearnLoansModel" yX8_from yX8_from ∈ am_ws := am_wt6 (List.mem_of_getElem? (i := 38) (by rfl)) (by decide +kernel)
set_option maxRecDepth 100000 in
theorem wd_1296 : Cond.code yX8_from cX8_from 3 (some .int) ∈ am_ws := am_wt6 (List.mem_of_getElem? (i := 39) (by rfl)) (by decide +kernel)
def kL_c34 (Ln : Nat) (xs : Nat → Int32) : an_code := [(1782, an_lf (fun live => am_aload 1 1783)), (1783, an_lf (fun live => am_aload 0 1784)), (1784, an_lf (fun live => am_iload 3 1785)), (1785, an_lf (fun live => am_const (.int 1) 1786)), (1786, an_lf (fun live => am_i2 (fun x y => x + y) 1787)), (1787, an_sld Ln xs 1788), (1788, an_callI 7 1 TW_from 600000 7302250 0 0 1791), (1791, an_lf (fun live => am_pop 1792)), (1792, an_lf (fun live => am_aload 2 1793)), (1793, an_lf (fun live => am_aload 0 1794)), (1794, an_lf (fun live => am_iload 3 1795)), (1795, an_lf (fun live => am_const (.int 1) 1796)), (1796, an_lf (fun live => am_i2 (fun x y => x + y) 1797)), (1797, an_sld Ln xs 1798), (1798, an_lf (fun live => am_callV live 8 1 TX8_from 1801)), (1801, an_lf (fun live => am_pop 1802)), (1802, an_lf (fun live => am_goto 1841))]
theorem koL_c34 (Ln : Nat) (xs : Nat → Int32) : ∀ q ∈ kL_c34 Ln xs, an_ok RL cL_law 4 (some .boolean) 2000 80000 600000 7302250 false (lawP Ln xs) an_noR q.1 q.2 :=
  am_kz dzL_c34 <|
  an_kd (fun d => an_lift (fun live => ak_aload_n d rfl rfl)) <|
  an_kd (fun d => an_lift (fun live => ak_aload_n d rfl rfl)) <|
  an_kd (fun d => an_lift (fun live => ak_iload_n d rfl rfl)) <|
  an_kd (fun d => an_lift (fun live => ak_iconst d (by decide +kernel) rfl)) <|
  an_kd (fun d => an_lift (fun live => ak_iadd d rfl)) <|
  an_kd (fun d => nk_sld d rfl) <|
  an_kd (fun d => nk_callV (C := RX7) (F := TX7) (N := 4) metW_from rfl ⟨rfl, hy_X7_from⟩ (am_w5 wd_859 wd_860 wd_861 wd_58 wd_862) (by decide) d rfl) <|
  an_kd (fun d => an_lift (fun live => ak_pop d rfl)) <|
  an_kd (fun d => an_lift (fun live => ak_aload_n d rfl rfl)) <|
  an_kd (fun d => an_lift (fun live => ak_aload_n d rfl rfl)) <|
  an_kd (fun d => an_lift (fun live => ak_iload_n d rfl rfl)) <|
  an_kd (fun d => an_lift (fun live => ak_iconst d (by decide +kernel) rfl)) <|
  an_kd (fun d => an_lift (fun live => ak_iadd d rfl)) <|
  an_kd (fun d => nk_sld d rfl) <|
  an_kd (fun d => an_lift (fun live => ak_callV (C := RX8) (F := TX8) (N := 27) metX8_from rfl ⟨rfl, hy_X8_from⟩ (am_w5 wd_1293 wd_1294 wd_1295 wd_67 wd_1296) (by decide) d rfl)) <|
  an_kd (fun d => an_lift (fun live => ak_pop d rfl)) <|
  an_kd (fun d => an_lift (fun live => ak_goto d (by decide +kernel))) <| an_kdn
set_option maxRecDepth 100000 in
set_option maxHeartbeats 4000000 in
theorem caseL_c34 {Ln : Nat} (xs : Nat → Int32) {i : Int32} {i1 i2 : Bool} {kc kn : Nat} {M : am_M} (h : LI i1 i2 M) (hi : lawI Ln i kc kn) : an_wp (kL_c34 Ln xs) (lawC Ln i) 200 (an_go (kL_c34 Ln xs) 1782) (lawL i) [] ((am_lv i1 i2, am_q i1 i2), kc, kn, M) := by
    obtain ⟨⟨f1, f2, f3, f4, f5, f6, f7⟩, k1, k2, k3, k4⟩ := hi.f
    have hmn : am_mn (am_lv i1 i2, am_q i1 i2) := ⟨_, _, rfl⟩
    repeat' (first | (with_reducible exact f1) | (with_reducible exact f2) | (with_reducible exact f3) | (with_reducible exact f4) | (with_reducible exact f5) | (with_reducible exact f6) | (with_reducible exact f7) | (with_reducible exact hmn) | (with_reducible exact h) | (with_reducible exact k1) | (with_reducible exact k2) | (with_reducible exact k3) | (with_reducible exact k4) | apply And.intro | exact rfl | ((with_reducible change r_I _); (with_reducible assumption)) | (intro hx; exact absurd hx (by decide)) | (intro hx; exact absurd (by decide) hx) | decide | intro hx | (refine Exists.intro _ (And.intro rfl ?_)) | (refine Exists.intro _ (Exists.intro _ (And.intro rfl (And.intro rfl ?_)))) | ((with_reducible change LI _ _ _); (with_reducible assumption)) | ((with_reducible change _ = true); simp only [k1, k2, k3, k4, Bool.true_and]; rfl))
    all_goals try first | (with_reducible change am_tI _ _) | (change Ret _ _) | (change Ret _ _ _) | (change Exists _)
    all_goals try dsimp only at *
    all_goals try (with_reducible exact absurd ‹(1000 : Int64) = 0› am_z1000)
    all_goals first
      | exact ⟨_, _, rfl⟩
      | exact lawE.mk hi (by with_reducible assumption) (by omega) (by omega)
      | skip
def rwL_c35 : List dz_r := [(1805, .aload_n 1, 1), (1806, .aload_n 0, 1), (1807, .iload_n 3, 1), (1808, .iconst 1, 1), (1809, .iadd, 1), (1810, .iaload, 1), (1811, .invokevirtual 168, 3), (1814, .aload_n 2, 1), (1815, .aload_n 0, 1), (1816, .iload_n 3, 1), (1817, .iconst 1, 1), (1818, .iadd, 1), (1819, .iaload, 1), (1820, .invokevirtual 171, 3), (1823, .if_icmp .eq 18, 3), (1826, .iconst 0, 1), (1827, .ireturn, 1)]
theorem dzL_c35 : dz cL_law rwL_c35 := dz_all 1805 (by decide +kernel)
set_option maxRecDepth 100000 in
theorem wd_863 : Cond.methodLink "LearnLoansLaw" 168 yX7_count ∈ am_ws := am_wt4 (List.mem_of_getElem? (i := 86) (by rfl)) (by decide +kernel)
theorem hy_X8_count : yX8_count.cls ≠ "java/lang/invoke/MethodHandle" ∧ yX8_count.cls ≠ "java/lang/invoke/VarHandle" ∧ (parseMethodDescriptor yX8_count.desc).map (fun d => d.parameters.length) = some 1 := ⟨by decide +kernel, by decide +kernel, by decide +kernel⟩
set_option maxRecDepth 100000 in
theorem wd_1297 : Cond.methodLink "LearnLoansLaw" 171 yX8_count ∈ am_ws := am_wt6 (List.mem_of_getElem? (i := 40) (by rfl)) (by decide +kernel)
set_option maxRecDepth 100000 in
theorem wd_1298 : Cond.instanceMethod yX8_count ∈ am_ws := am_wt6 (List.mem_of_getElem? (i := 41) (by rfl)) (by decide +kernel)
set_option maxRecDepth 100000 in
theorem wd_1299 : Cond.selects "LearnLoansModel" yX8_count yX8_count ∈ am_ws := am_wt6 (List.mem_of_getElem? (i := 42) (by rfl)) (by decide +kernel)
set_option maxRecDepth 100000 in
theorem wd_1300 : Cond.code yX8_count cX8_count 2 (some .int) ∈ am_ws := am_wt6 (List.mem_of_getElem? (i := 43) (by rfl)) (by decide +kernel)
def kL_c35 (Ln : Nat) (xs : Nat → Int32) : an_code := [(1805, an_lf (fun live => am_aload 1 1806)), (1806, an_lf (fun live => am_aload 0 1807)), (1807, an_lf (fun live => am_iload 3 1808)), (1808, an_lf (fun live => am_const (.int 1) 1809)), (1809, an_lf (fun live => am_i2 (fun x y => x + y) 1810)), (1810, an_sld Ln xs 1811), (1811, an_lf (fun live => am_callV live 7 1 TW_count 1814)), (1814, an_lf (fun live => am_aload 2 1815)), (1815, an_lf (fun live => am_aload 0 1816)), (1816, an_lf (fun live => am_iload 3 1817)), (1817, an_lf (fun live => am_const (.int 1) 1818)), (1818, an_lf (fun live => am_i2 (fun x y => x + y) 1819)), (1819, an_sld Ln xs 1820), (1820, an_lf (fun live => am_callV live 8 1 TX8_count 1823)), (1823, an_lf (fun live => am_if2 (fun x y => x = y) 1841 1826))]
theorem koL_c35 (Ln : Nat) (xs : Nat → Int32) : ∀ q ∈ kL_c35 Ln xs, an_ok RL cL_law 4 (some .boolean) 2000 80000 600000 7302250 false (lawP Ln xs) an_noR q.1 q.2 :=
  am_kz dzL_c35 <|
  an_kd (fun d => an_lift (fun live => ak_aload_n d rfl rfl)) <|
  an_kd (fun d => an_lift (fun live => ak_aload_n d rfl rfl)) <|
  an_kd (fun d => an_lift (fun live => ak_iload_n d rfl rfl)) <|
  an_kd (fun d => an_lift (fun live => ak_iconst d (by decide +kernel) rfl)) <|
  an_kd (fun d => an_lift (fun live => ak_iadd d rfl)) <|
  an_kd (fun d => nk_sld d rfl) <|
  an_kd (fun d => an_lift (fun live => ak_callV (C := RX7) (F := TX7) (N := 4) metW_count rfl ⟨rfl, hy_X7_count⟩ (am_w5 wd_863 wd_864 wd_865 wd_58 wd_866) (by decide) d rfl)) <|
  an_kd (fun d => an_lift (fun live => ak_aload_n d rfl rfl)) <|
  an_kd (fun d => an_lift (fun live => ak_aload_n d rfl rfl)) <|
  an_kd (fun d => an_lift (fun live => ak_iload_n d rfl rfl)) <|
  an_kd (fun d => an_lift (fun live => ak_iconst d (by decide +kernel) rfl)) <|
  an_kd (fun d => an_lift (fun live => ak_iadd d rfl)) <|
  an_kd (fun d => nk_sld d rfl) <|
  an_kd (fun d => an_lift (fun live => ak_callV (C := RX8) (F := TX8) (N := 27) metX8_count rfl ⟨rfl, hy_X8_count⟩ (am_w5 wd_1297 wd_1298 wd_1299 wd_67 wd_1300) (by decide) d rfl)) <|
  an_kd (fun d => an_lift (fun live => ak_icmp_eq d (by decide +kernel) rfl)) <|
  an_ks <|
  an_ks <| an_kdn
set_option maxRecDepth 100000 in
set_option maxHeartbeats 4000000 in
theorem caseL_c35 {Ln : Nat} (xs : Nat → Int32) {i : Int32} {i1 i2 : Bool} {kc kn : Nat} {M : am_M} (h : LI i1 i2 M) (hi : lawI Ln i kc kn) : an_wp (kL_c35 Ln xs) (lawC Ln i) 200 (an_go (kL_c35 Ln xs) 1805) (lawL i) [] ((am_lv i1 i2, am_q i1 i2), kc, kn, M) := by
    obtain ⟨⟨f1, f2, f3, f4, f5, f6, f7⟩, k1, k2, k3, k4⟩ := hi.f
    have hmn : am_mn (am_lv i1 i2, am_q i1 i2) := ⟨_, _, rfl⟩
    repeat' (first | (with_reducible exact f1) | (with_reducible exact f2) | (with_reducible exact f3) | (with_reducible exact f4) | (with_reducible exact f5) | (with_reducible exact f6) | (with_reducible exact f7) | (with_reducible exact hmn) | (with_reducible exact h) | (with_reducible exact k1) | (with_reducible exact k2) | (with_reducible exact k3) | (with_reducible exact k4) | apply And.intro | exact rfl | (intro hx; with_reducible exact absurd rfl hx) | (intro hx; with_reducible exact absurd ((lg_cmp_eq _ _).mpr rfl) hx) | ((with_reducible change r_I _); (with_reducible assumption)) | (intro hx; exact absurd hx (by decide)) | (intro hx; exact absurd (by decide) hx) | decide | (intro hx; refine absurd ?_ hx; with_reducible assumption) | intro hx | (refine Exists.intro _ (And.intro rfl ?_)) | (refine Exists.intro _ (Exists.intro _ (And.intro rfl (And.intro rfl ?_)))) | ((with_reducible change LI _ _ _); (with_reducible assumption)) | ((with_reducible change _ = true); simp only [k1, k2, k3, k4, Bool.true_and]; rfl))
    all_goals try first | (with_reducible change am_tI _ _) | (change Ret _ _) | (change Ret _ _ _) | (change Exists _)
    all_goals try dsimp only at *
    all_goals try (with_reducible exact absurd ‹(1000 : Int64) = 0› am_z1000)
    all_goals first
      | exact ⟨_, _, rfl⟩
      | exact lawE.mk hi (by with_reducible assumption) (by omega) (by omega)
      | skip
def rwL_c36 : List dz_r := [(1828, .aload_n 1, 1), (1829, .invokevirtual 172, 3), (1832, .pop2, 1), (1833, .aload_n 2, 1), (1834, .invokevirtual 176, 3), (1837, .pop2, 1), (1838, .goto 3, 3)]
theorem dzL_c36 : dz cL_law rwL_c36 := dz_all 1828 (by decide +kernel)
theorem hy_X7_digest : yX7_digest.cls ≠ "java/lang/invoke/MethodHandle" ∧ yX7_digest.cls ≠ "java/lang/invoke/VarHandle" ∧ (parseMethodDescriptor yX7_digest.desc).map (fun d => d.parameters.length) = some 0 := ⟨by decide +kernel, by decide +kernel, by decide +kernel⟩
set_option maxRecDepth 100000 in
theorem wd_867 : Cond.methodLink "LearnLoansLaw" 172 yX7_digest ∈ am_ws := am_wt4 (List.mem_of_getElem? (i := 90) (by rfl)) (by decide +kernel)
set_option maxRecDepth 100000 in
theorem wd_868 : Cond.instanceMethod yX7_digest ∈ am_ws := am_wt4 (List.mem_of_getElem? (i := 91) (by rfl)) (by decide +kernel)
set_option maxRecDepth 100000 in
theorem wd_869 : Cond.selects "LearnLoans" yX7_digest yX7_digest ∈ am_ws := am_wt4 (List.mem_of_getElem? (i := 92) (by rfl)) (by decide +kernel)
set_option maxRecDepth 100000 in
theorem wd_870 : Cond.code yX7_digest cX7_digest 4 (some .long) ∈ am_ws := am_wt4 (List.mem_of_getElem? (i := 93) (by rfl)) (by decide +kernel)
theorem hy_X8_digest : yX8_digest.cls ≠ "java/lang/invoke/MethodHandle" ∧ yX8_digest.cls ≠ "java/lang/invoke/VarHandle" ∧ (parseMethodDescriptor yX8_digest.desc).map (fun d => d.parameters.length) = some 0 := ⟨by decide +kernel, by decide +kernel, by decide +kernel⟩
set_option maxRecDepth 100000 in
theorem wd_1301 : Cond.methodLink "LearnLoansLaw" 176 yX8_digest ∈ am_ws := am_wt6 (List.mem_of_getElem? (i := 44) (by rfl)) (by decide +kernel)
set_option maxRecDepth 100000 in
theorem wd_1302 : Cond.instanceMethod yX8_digest ∈ am_ws := am_wt6 (List.mem_of_getElem? (i := 45) (by rfl)) (by decide +kernel)
set_option maxRecDepth 100000 in
theorem wd_1303 : Cond.selects "LearnLoansModel" yX8_digest yX8_digest ∈ am_ws := am_wt6 (List.mem_of_getElem? (i := 46) (by rfl)) (by decide +kernel)
set_option maxRecDepth 100000 in
theorem wd_1304 : Cond.code yX8_digest cX8_digest 5 (some .long) ∈ am_ws := am_wt6 (List.mem_of_getElem? (i := 47) (by rfl)) (by decide +kernel)
def kL_c36 (Ln : Nat) (xs : Nat → Int32) : an_code := [(1828, an_lf (fun live => am_aload 1 1829)), (1829, an_lf (fun live => am_callV live 7 0 TW_digest 1832)), (1832, an_lf (fun live => am_pop2 1833)), (1833, an_lf (fun live => am_aload 2 1834)), (1834, an_lf (fun live => am_callV live 8 0 TV_digest 1837)), (1837, an_lf (fun live => am_pop2 1838)), (1838, an_lf (fun live => am_goto 1841))]
theorem koL_c36 (Ln : Nat) (xs : Nat → Int32) : ∀ q ∈ kL_c36 Ln xs, an_ok RL cL_law 4 (some .boolean) 2000 80000 600000 7302250 false (lawP Ln xs) an_noR q.1 q.2 :=
  am_kz dzL_c36 <|
  an_kd (fun d => an_lift (fun live => ak_aload_n d rfl rfl)) <|
  an_kd (fun d => an_lift (fun live => ak_callV (C := RX7) (F := TX7) (N := 4) metW_digest rfl ⟨rfl, hy_X7_digest⟩ (am_w5 wd_867 wd_868 wd_869 wd_58 wd_870) (by decide) d rfl)) <|
  an_kd (fun d => an_lift (fun live => ak_pop2 d rfl)) <|
  an_kd (fun d => an_lift (fun live => ak_aload_n d rfl rfl)) <|
  an_kd (fun d => an_lift (fun live => ak_callV (C := RX8) (F := TX8) (N := 27) metV_digest rfl ⟨rfl, hy_X8_digest⟩ (am_w5 wd_1301 wd_1302 wd_1303 wd_67 wd_1304) (by decide) d rfl)) <|
  an_kd (fun d => an_lift (fun live => ak_pop2 d rfl)) <|
  an_kd (fun d => an_lift (fun live => ak_goto d (by decide +kernel))) <| an_kdn
set_option maxRecDepth 100000 in
set_option maxHeartbeats 4000000 in
theorem caseL_c36 {Ln : Nat} (xs : Nat → Int32) {i : Int32} {i1 i2 : Bool} {kc kn : Nat} {M : am_M} (h : LI i1 i2 M) (hi : lawI Ln i kc kn) : an_wp (kL_c36 Ln xs) (lawC Ln i) 200 (an_go (kL_c36 Ln xs) 1828) (lawL i) [] ((am_lv i1 i2, am_q i1 i2), kc, kn, M) := by
    obtain ⟨⟨f1, f2, f3, f4, f5, f6, f7⟩, k1, k2, k3, k4⟩ := hi.f
    have hmn : am_mn (am_lv i1 i2, am_q i1 i2) := ⟨_, _, rfl⟩
    repeat' (first | (with_reducible exact f1) | (with_reducible exact f2) | (with_reducible exact f3) | (with_reducible exact f4) | (with_reducible exact f5) | (with_reducible exact f6) | (with_reducible exact f7) | (with_reducible exact hmn) | (with_reducible exact h) | (with_reducible exact k1) | (with_reducible exact k2) | (with_reducible exact k3) | (with_reducible exact k4) | apply And.intro | exact rfl | ((with_reducible change r_I _); (with_reducible assumption)) | (intro hx; exact absurd hx (by decide)) | (intro hx; exact absurd (by decide) hx) | decide | intro hx | (refine Exists.intro _ (And.intro rfl ?_)) | (refine Exists.intro _ (Exists.intro _ (And.intro rfl (And.intro rfl ?_)))) | ((with_reducible change LI _ _ _); (with_reducible assumption)) | ((with_reducible change _ = true); simp only [k1, k2, k3, k4, Bool.true_and]; rfl))
    all_goals try first | (with_reducible change am_tI _ _) | (change Ret _ _) | (change Ret _ _ _) | (change Exists _)
    all_goals try dsimp only at *
    all_goals try (with_reducible exact absurd ‹(1000 : Int64) = 0› am_z1000)
    all_goals first
      | exact ⟨_, _, rfl⟩
      | exact lawE.mk hi (by with_reducible assumption) (by omega) (by omega)
      | skip
end
-- part 89.law.lean.txt
section
/-! the law: its head, its turn and its end -/
def lawS : List Nat := [196, 219, 272, 305, 338, 371, 424, 477, 520, 595, 648, 727, 760, 803, 836, 889, 942, 985, 1028, 1061, 1084, 1107, 1150, 1193, 1246, 1299, 1352, 1415, 1478, 1553, 1616, 1639, 1652, 1759, 1782, 1805, 1828]
def lawZ : an_cut := fun pc => match Nat.beq pc 1847 with
  | true => some (fun _ st _ => st = [])
  | false => none
def lawT (i : Int32) (X0 : am_X) : an_cut := fun pc => match Nat.beq pc 18 with
  | true => some (fun L st X => am_nm [0, 1, 2, 3] L = lawL i ∧ st = [] ∧ X = X0)
  | false => none
def lawB (i : Int32) (X0 : am_X) : an_cut := fun pc => match lawS.contains pc || Nat.beq pc 1841 with
  | true => some (fun L st X => L = lawL i ∧ st = [] ∧ X = X0)
  | false => none
def rwL_Z : List dz_r := [(1841, .iinc 3 8, 3), (1844, .goto (-1826), 3)]
theorem dzL_Z : dz cL_law rwL_Z := dz_all 1841 (by decide +kernel)
def kL_Z (Ln : Nat) (xs : Nat → Int32) : an_code := [(1841, an_lf (fun live => am_iinc 3 4 8 1844)), (1844, an_lf (fun live => am_goto 18))]
theorem koL_Z (Ln : Nat) (xs : Nat → Int32) : ∀ q ∈ kL_Z Ln xs, an_ok RL cL_law 4 (some .boolean) 2000 80000 600000 7302250 false (lawP Ln xs) an_noR q.1 q.2 :=
  am_kz dzL_Z <|
  an_kd (fun d => an_lift (fun live => ak_iinc d (by decide +kernel) rfl)) <|
  an_kd (fun d => an_lift (fun live => ak_goto d (by decide +kernel))) <| an_kdn
set_option maxRecDepth 100000 in
set_option maxHeartbeats 4000000 in
theorem segL_Z (Ln : Nat) (xs : Nat → Int32) (i : Int32) (X : am_X) : an_wp (kL_Z Ln xs) (lawT (i + 8) X) 60 (an_go (kL_Z Ln xs) 1841) (lawL i) [] X := by
    obtain ⟨E, k, n, M⟩ := X
    repeat' (first | apply And.intro | exact rfl | (intro hx; exact absurd hx (by decide)) | (intro hx; exact absurd (by decide) hx) | decide | intro hx | (refine Exists.intro _ (And.intro rfl ?_)))
    all_goals try first | (with_reducible change am_tI _ _) | (change Ret _ _) | (change Ret _ _ _) | (change Exists _)
    all_goals try dsimp only at *
    all_goals try (with_reducible exact absurd ‹(1000 : Int64) = 0› am_z1000)
def rwL_A : List dz_r := [(0, .new 7, 3), (3, .dup, 1), (4, .invokespecial 9, 3), (7, .astore_n 1, 1), (8, .new 10, 3), (11, .dup, 1), (12, .invokespecial 12, 3), (15, .astore_n 2, 1), (16, .iconst 0, 1), (17, .istore_n 3, 1)]
theorem dzL_A : dz cL_law rwL_A := dz_all 0 (by decide +kernel)
set_option maxRecDepth 100000 in
theorem wd_70 : Cond.classLink "LearnLoansLaw" 7 "LearnLoans" ∈ am_ws := am_wt1 (List.mem_of_getElem? (i := 13) (by rfl)) (by decide +kernel)
set_option maxRecDepth 100000 in
theorem wd_71 : Cond.instantiable "LearnLoans" 4 ∈ am_ws := am_wt1 (List.mem_of_getElem? (i := 14) (by rfl)) (by decide +kernel)
theorem hy_X7_init : yX7_init.cls ≠ "java/lang/invoke/MethodHandle" ∧ yX7_init.cls ≠ "java/lang/invoke/VarHandle" ∧ (parseMethodDescriptor yX7_init.desc).map (fun d => d.parameters.length) = some 0 := ⟨by decide +kernel, by decide +kernel, by decide +kernel⟩
set_option maxRecDepth 100000 in
theorem wd_72 : Cond.methodLink "LearnLoansLaw" 9 yX7_init ∈ am_ws := am_wt1 (List.mem_of_getElem? (i := 15) (by rfl)) (by decide +kernel)
set_option maxRecDepth 100000 in
theorem wd_73 : Cond.instanceMethod yX7_init ∈ am_ws := am_wt1 (List.mem_of_getElem? (i := 16) (by rfl)) (by decide +kernel)
set_option maxRecDepth 100000 in
theorem wd_74 : Cond.code yX7_init cX7_init 1 none ∈ am_ws := am_wt1 (List.mem_of_getElem? (i := 17) (by rfl)) (by decide +kernel)
set_option maxRecDepth 100000 in
theorem wd_889 : Cond.classLink "LearnLoansLaw" 10 "LearnLoansModel" ∈ am_ws := am_wt4 (List.mem_of_getElem? (i := 112) (by rfl)) (by decide +kernel)
set_option maxRecDepth 100000 in
theorem wd_890 : Cond.instantiable "LearnLoansModel" 27 ∈ am_ws := am_wt4 (List.mem_of_getElem? (i := 113) (by rfl)) (by decide +kernel)
theorem hy_X8_init : yX8_init.cls ≠ "java/lang/invoke/MethodHandle" ∧ yX8_init.cls ≠ "java/lang/invoke/VarHandle" ∧ (parseMethodDescriptor yX8_init.desc).map (fun d => d.parameters.length) = some 0 := ⟨by decide +kernel, by decide +kernel, by decide +kernel⟩
set_option maxRecDepth 100000 in
theorem wd_891 : Cond.methodLink "LearnLoansLaw" 12 yX8_init ∈ am_ws := am_wt4 (List.mem_of_getElem? (i := 114) (by rfl)) (by decide +kernel)
set_option maxRecDepth 100000 in
theorem wd_892 : Cond.instanceMethod yX8_init ∈ am_ws := am_wt4 (List.mem_of_getElem? (i := 115) (by rfl)) (by decide +kernel)
set_option maxRecDepth 100000 in
theorem wd_893 : Cond.code yX8_init cX8_init 2 none ∈ am_ws := am_wt4 (List.mem_of_getElem? (i := 116) (by rfl)) (by decide +kernel)
def kL_A (Ln : Nat) (xs : Nat → Int32) : an_code := [(0, an_new 7 4 (fun L => 0) 600000 7302250 3), (3, an_lf (fun live => am_dup 4)), (4, an_callI 7 0 TX7_init 600000 7302250 49 6949 7), (7, an_lf (fun live => am_astore 1 4 8)), (8, an_new 8 27 (fun L => 200) 600000 7302250 11), (11, an_lf (fun live => am_dup 12)), (12, an_callI 8 0 TX8_init 600000 7302250 15 11799 15), (15, an_lf (fun live => am_astore 2 4 16)), (16, an_lf (fun live => am_const (.int 0) 17)), (17, an_lf (fun live => am_istore 3 4 18))]
theorem koL_A (Ln : Nat) (xs : Nat → Int32) : ∀ q ∈ kL_A Ln xs, an_ok RL cL_law 4 (some .boolean) 2000 80000 600000 7302250 false (lawP Ln xs) an_noR q.1 q.2 :=
  am_kz dzL_A <|
  an_kd (fun d => nk_new (C := RX7) (T := TX7) (N := 4) (ty := tyX7) rfl inX7w tyX7_ok rfl zX7 (am_w3 wd_70 wd_71 wd_58) d rfl) <|
  an_kd (fun d => an_lift (fun live => ak_dup d rfl)) <|
  an_kd (fun d => nk_callI metX7_init rfl hy_X7_init (am_w4 wd_58 wd_72 wd_73 wd_74) (by decide) d rfl) <|
  an_kd (fun d => an_lift (fun live => ak_astore_n d rfl rfl)) <|
  an_kd (fun d => nk_new (C := RX8) (T := TX8) (N := 27) (ty := tyX8) rfl inX8w tyX8_ok rfl zX8 (am_w3 wd_889 wd_890 wd_67) d rfl) <|
  an_kd (fun d => an_lift (fun live => ak_dup d rfl)) <|
  an_kd (fun d => nk_callI metX8_init rfl hy_X8_init (am_w4 wd_67 wd_891 wd_892 wd_893) (by decide) d rfl) <|
  an_kd (fun d => an_lift (fun live => ak_astore_n d rfl rfl)) <|
  an_kd (fun d => an_lift (fun live => ak_iconst d (by decide +kernel) rfl)) <|
  an_kd (fun d => an_lift (fun live => ak_istore_n d rfl rfl)) <| an_kdn
set_option maxRecDepth 100000 in
set_option maxHeartbeats 4000000 in
theorem segL_A (Ln : Nat) (xs : Nat → Int32) : an_wp (kL_A Ln xs) (lawT 0 (an_Ef, 66, 18779, an_Mf)) 120 (an_go (kL_A Ln xs) 0) [(0, .ref 2000)] [] (an_E0, 0, 0, an_M0) := by
    repeat' (first | apply And.intro | exact rfl | (intro hx; exact absurd hx (by decide)) | (intro hx; exact absurd (by decide) hx) | decide | intro hx | (refine Exists.intro _ (And.intro rfl ?_)))
    all_goals try first | (with_reducible change am_tI _ _) | (change Ret _ _) | (change Ret _ _ _) | (change Exists _)
    all_goals try dsimp only at *
    all_goals try (with_reducible exact absurd ‹(1000 : Int64) = 0› am_z1000)
theorem dL_law_18 : decode cL_law 18 = .ok (.iload_n 3, 1) := by decide +kernel
theorem dL_law_19 : decode cL_law 19 = .ok (.aload_n 0, 1) := by decide +kernel
theorem dL_law_20 : decode cL_law 20 = .ok (.arraylength, 1) := by decide +kernel
theorem dL_law_21 : decode cL_law 21 = .ok (.bipush 8, 2) := by decide +kernel
theorem dL_law_23 : decode cL_law 23 = .ok (.isub, 1) := by decide +kernel
theorem dL_law_24 : decode cL_law 24 = .ok (.if_icmp .gt 1823, 3) := by decide +kernel
theorem dL_law_27 : decode cL_law 27 = .ok (.aload_n 0, 1) := by decide +kernel
theorem dL_law_28 : decode cL_law 28 = .ok (.iload_n 3, 1) := by decide +kernel
theorem dL_law_29 : decode cL_law 29 = .ok (.iaload, 1) := by decide +kernel
theorem dL_law_30 : decode cL_law 30 = .ok (.bipush 63, 2) := by decide +kernel
theorem dL_law_32 : decode cL_law 32 = .ok (.iand, 1) := by decide +kernel
theorem dL_law_33 : decode cL_law 33 = .ok (.tableswitch 1808 0 36 #[163, 186, 239, 272, 305, 338, 391, 444, 487, 562, 615, 694, 727, 770, 803, 856, 909, 952, 995, 1028, 1051, 1074, 1117, 1160, 1213, 1266, 1319, 1382, 1445, 1520, 1583, 1606, 1619, 1726, 1749, 1772, 1795], 163) := by decide +kernel
def kL_B (Ln : Nat) (xs : Nat → Int32) : an_code := [(18, an_lf (fun live => am_iload 3 19)), (19, an_lf (fun live => am_aload 0 20)), (20, an_slen Ln 21), (21, an_lf (fun live => am_const (.int 8) 23)), (23, an_lf (fun live => am_i2 (fun x y => x - y) 24)), (24, an_lf (fun live => am_if2 (fun x y => y < x) 1847 27)), (27, an_lf (fun live => am_aload 0 28)), (28, an_lf (fun live => am_iload 3 29)), (29, an_sld Ln xs 30), (30, an_lf (fun live => am_const (.int 63) 32)), (32, an_lf (fun live => am_i2 (fun x y => x &&& y) 33)), (33, an_lf (fun live => am_switch [(0, 196), (1, 219), (2, 272), (3, 305), (4, 338), (5, 371), (6, 424), (7, 477), (8, 520), (9, 595), (10, 648), (11, 727), (12, 760), (13, 803), (14, 836), (15, 889), (16, 942), (17, 985), (18, 1028), (19, 1061), (20, 1084), (21, 1107), (22, 1150), (23, 1193), (24, 1246), (25, 1299), (26, 1352), (27, 1415), (28, 1478), (29, 1553), (30, 1616), (31, 1639), (32, 1652), (33, 1759), (34, 1782), (35, 1805), (36, 1828)] 1841))]
theorem koL_B (Ln : Nat) (xs : Nat → Int32) : ∀ q ∈ kL_B Ln xs, an_ok RL cL_law 4 (some .boolean) 2000 80000 600000 7302250 false (lawP Ln xs) an_noR q.1 q.2 :=
  an_kc (an_lift (fun live => ak_iload_n dL_law_18 rfl rfl)) <|
  an_kc (an_lift (fun live => ak_aload_n dL_law_19 rfl rfl)) <|
  an_kc (nk_slen dL_law_20 rfl) <|
  an_kc (an_lift (fun live => ak_bipush dL_law_21 (by decide +kernel) rfl)) <|
  an_kc (an_lift (fun live => ak_isub dL_law_23 rfl)) <|
  an_kc (an_lift (fun live => ak_icmp_gt dL_law_24 (by decide +kernel) rfl)) <|
  an_kc (an_lift (fun live => ak_aload_n dL_law_27 rfl rfl)) <|
  an_kc (an_lift (fun live => ak_iload_n dL_law_28 rfl rfl)) <|
  an_kc (nk_sld dL_law_29 rfl) <|
  an_kc (an_lift (fun live => ak_bipush dL_law_30 (by decide +kernel) rfl)) <|
  an_kc (an_lift (fun live => ak_iand dL_law_32 rfl)) <|
  an_kc (an_lift (fun live => ak_tswitch dL_law_33 (by decide +kernel) (by decide +kernel) (by decide +kernel) (by decide +kernel) (by decide +kernel) (by decide +kernel))) <| an_kn
set_option maxRecDepth 100000 in
set_option maxHeartbeats 4000000 in
theorem segL_B {Ln : Nat} (xs : Nat → Int32) {i : Int32} (X : am_X) (hz : ¬ Int32.ofNat Ln - 8 < i) (hi : am_in i Ln) : an_wp (kL_B Ln xs) (lawB i X) 120 (an_go (kL_B Ln xs) 18) (lawL i) [] X := by
    obtain ⟨E, k, n, M⟩ := X
    repeat' (first | (with_reducible exact hi) | apply And.intro | exact rfl | (intro hx; with_reducible exact absurd hx hz) | intro hx | (refine Exists.intro _ (And.intro rfl ?_)))
    all_goals try first | (with_reducible change am_tI _ _) | (change Ret _ _) | (change Ret _ _ _) | (change Exists _)
    all_goals try dsimp only at *
    all_goals try (with_reducible exact absurd ‹(1000 : Int64) = 0› am_z1000)
    all_goals first | (with_reducible exact hi.1) | (with_reducible exact hi.2) | exact hi.1 | exact hi.2 | skip
set_option maxRecDepth 100000 in
set_option maxHeartbeats 4000000 in
theorem segL_B2 {Ln : Nat} (xs : Nat → Int32) {i : Int32} (X : am_X) (hz : Int32.ofNat Ln - 8 < i) : an_wp (kL_B Ln xs) lawZ 120 (an_go (kL_B Ln xs) 18) (lawL i) [] X := by
    obtain ⟨E, k, n, M⟩ := X
    repeat' (first | apply And.intro | exact rfl | (intro hx; with_reducible exact absurd hz hx) | intro hx | (refine Exists.intro _ (And.intro rfl ?_)))
    all_goals try first | (with_reducible change am_tI _ _) | (change Ret _ _) | (change Ret _ _ _) | (change Exists _)
    all_goals try dsimp only at *
    all_goals try (with_reducible exact absurd ‹(1000 : Int64) = 0› am_z1000)
end
