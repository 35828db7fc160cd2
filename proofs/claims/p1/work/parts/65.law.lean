/-! p1: the law, cases from 27 -/
theorem dL_law_1420 : decode cL_law 1420 = .ok (.aload_n 1, 1) := by decide +kernel
theorem dL_law_1421 : decode cL_law 1421 = .ok (.aload_n 0, 1) := by decide +kernel
theorem dL_law_1422 : decode cL_law 1422 = .ok (.iload_n 3, 1) := by decide +kernel
theorem dL_law_1423 : decode cL_law 1423 = .ok (.iconst 1, 1) := by decide +kernel
theorem dL_law_1424 : decode cL_law 1424 = .ok (.iadd, 1) := by decide +kernel
theorem dL_law_1425 : decode cL_law 1425 = .ok (.iaload, 1) := by decide +kernel
theorem dL_law_1426 : decode cL_law 1426 = .ok (.aload_n 0, 1) := by decide +kernel
theorem dL_law_1427 : decode cL_law 1427 = .ok (.iload_n 3, 1) := by decide +kernel
theorem dL_law_1428 : decode cL_law 1428 = .ok (.iconst 2, 1) := by decide +kernel
theorem dL_law_1429 : decode cL_law 1429 = .ok (.iadd, 1) := by decide +kernel
theorem dL_law_1430 : decode cL_law 1430 = .ok (.iaload, 1) := by decide +kernel
theorem dL_law_1431 : decode cL_law 1431 = .ok (.aload_n 0, 1) := by decide +kernel
theorem dL_law_1432 : decode cL_law 1432 = .ok (.iload_n 3, 1) := by decide +kernel
theorem dL_law_1433 : decode cL_law 1433 = .ok (.iconst 3, 1) := by decide +kernel
theorem dL_law_1434 : decode cL_law 1434 = .ok (.iadd, 1) := by decide +kernel
theorem dL_law_1435 : decode cL_law 1435 = .ok (.iaload, 1) := by decide +kernel
theorem dL_law_1436 : decode cL_law 1436 = .ok (.aload_n 0, 1) := by decide +kernel
theorem dL_law_1437 : decode cL_law 1437 = .ok (.iload_n 3, 1) := by decide +kernel
theorem dL_law_1438 : decode cL_law 1438 = .ok (.iconst 4, 1) := by decide +kernel
theorem dL_law_1439 : decode cL_law 1439 = .ok (.iadd, 1) := by decide +kernel
theorem dL_law_1440 : decode cL_law 1440 = .ok (.iaload, 1) := by decide +kernel
theorem dL_law_1441 : decode cL_law 1441 = .ok (.aload_n 0, 1) := by decide +kernel
theorem dL_law_1442 : decode cL_law 1442 = .ok (.iload_n 3, 1) := by decide +kernel
theorem dL_law_1443 : decode cL_law 1443 = .ok (.iconst 5, 1) := by decide +kernel
theorem dL_law_1444 : decode cL_law 1444 = .ok (.iadd, 1) := by decide +kernel
theorem dL_law_1445 : decode cL_law 1445 = .ok (.iaload, 1) := by decide +kernel
theorem wd_769 : Cond.methodLink "LearnLoansLaw" 130 yX7_chances ∈ am_ws := am_wsi (List.mem_of_getElem? (i := 769) (by decide +kernel)) (by decide +kernel)
theorem wd_770 : Cond.instanceMethod yX7_chances ∈ am_ws := am_wsi (List.mem_of_getElem? (i := 770) (by decide +kernel)) (by decide +kernel)
theorem wd_771 : Cond.selects "LearnLoans" yX7_chances yX7_chances ∈ am_ws := am_wsi (List.mem_of_getElem? (i := 771) (by decide +kernel)) (by decide +kernel)
theorem wd_772 : Cond.code yX7_chances cX7_chances 7 (some .int) ∈ am_ws := am_wsi (List.mem_of_getElem? (i := 772) (by decide +kernel)) (by decide +kernel)
theorem dL_law_1446 : decode cL_law 1446 = .ok (.invokevirtual 130, 3) := by decide +kernel
theorem dL_law_1449 : decode cL_law 1449 = .ok (.aload_n 2, 1) := by decide +kernel
theorem dL_law_1450 : decode cL_law 1450 = .ok (.aload_n 0, 1) := by decide +kernel
theorem dL_law_1451 : decode cL_law 1451 = .ok (.iload_n 3, 1) := by decide +kernel
theorem dL_law_1452 : decode cL_law 1452 = .ok (.iconst 1, 1) := by decide +kernel
theorem dL_law_1453 : decode cL_law 1453 = .ok (.iadd, 1) := by decide +kernel
theorem dL_law_1454 : decode cL_law 1454 = .ok (.iaload, 1) := by decide +kernel
theorem dL_law_1455 : decode cL_law 1455 = .ok (.aload_n 0, 1) := by decide +kernel
theorem dL_law_1456 : decode cL_law 1456 = .ok (.iload_n 3, 1) := by decide +kernel
theorem dL_law_1457 : decode cL_law 1457 = .ok (.iconst 2, 1) := by decide +kernel
theorem dL_law_1458 : decode cL_law 1458 = .ok (.iadd, 1) := by decide +kernel
theorem dL_law_1459 : decode cL_law 1459 = .ok (.iaload, 1) := by decide +kernel
theorem dL_law_1460 : decode cL_law 1460 = .ok (.aload_n 0, 1) := by decide +kernel
theorem dL_law_1461 : decode cL_law 1461 = .ok (.iload_n 3, 1) := by decide +kernel
theorem dL_law_1462 : decode cL_law 1462 = .ok (.iconst 3, 1) := by decide +kernel
theorem dL_law_1463 : decode cL_law 1463 = .ok (.iadd, 1) := by decide +kernel
theorem dL_law_1464 : decode cL_law 1464 = .ok (.iaload, 1) := by decide +kernel
theorem dL_law_1465 : decode cL_law 1465 = .ok (.aload_n 0, 1) := by decide +kernel
theorem dL_law_1466 : decode cL_law 1466 = .ok (.iload_n 3, 1) := by decide +kernel
theorem dL_law_1467 : decode cL_law 1467 = .ok (.iconst 4, 1) := by decide +kernel
theorem dL_law_1468 : decode cL_law 1468 = .ok (.iadd, 1) := by decide +kernel
theorem dL_law_1469 : decode cL_law 1469 = .ok (.iaload, 1) := by decide +kernel
theorem dL_law_1470 : decode cL_law 1470 = .ok (.aload_n 0, 1) := by decide +kernel
theorem dL_law_1471 : decode cL_law 1471 = .ok (.iload_n 3, 1) := by decide +kernel
theorem dL_law_1472 : decode cL_law 1472 = .ok (.iconst 5, 1) := by decide +kernel
theorem dL_law_1473 : decode cL_law 1473 = .ok (.iadd, 1) := by decide +kernel
theorem dL_law_1474 : decode cL_law 1474 = .ok (.iaload, 1) := by decide +kernel
theorem wd_1240 : Cond.methodLink "LearnLoansLaw" 134 yX8_chances ∈ am_ws := am_wsi (List.mem_of_getElem? (i := 1240) (by decide +kernel)) (by decide +kernel)
theorem wd_1241 : Cond.instanceMethod yX8_chances ∈ am_ws := am_wsi (List.mem_of_getElem? (i := 1241) (by decide +kernel)) (by decide +kernel)
theorem wd_1242 : Cond.selects "LearnLoansModel" yX8_chances yX8_chances ∈ am_ws := am_wsi (List.mem_of_getElem? (i := 1242) (by decide +kernel)) (by decide +kernel)
theorem wd_1243 : Cond.code yX8_chances cX8_chances 6 (some .int) ∈ am_ws := am_wsi (List.mem_of_getElem? (i := 1243) (by decide +kernel)) (by decide +kernel)
theorem dL_law_1475 : decode cL_law 1475 = .ok (.invokevirtual 134, 3) := by decide +kernel
theorem dL_law_1478 : decode cL_law 1478 = .ok (.if_icmp .eq 371, 3) := by decide +kernel
def kL_c27 (Ln : Nat) (xs : Nat → Int32) : an_code := [(1420, an_lf (fun live => am_aload 1 1421)), (1421, an_lf (fun live => am_aload 0 1422)), (1422, an_lf (fun live => am_iload 3 1423)), (1423, an_lf (fun live => am_const (.int 1) 1424)), (1424, an_lf (fun live => am_i2 (fun x y => x + y) 1425)), (1425, an_sld Ln xs 1426), (1426, an_lf (fun live => am_aload 0 1427)), (1427, an_lf (fun live => am_iload 3 1428)), (1428, an_lf (fun live => am_const (.int 2) 1429)), (1429, an_lf (fun live => am_i2 (fun x y => x + y) 1430)), (1430, an_sld Ln xs 1431), (1431, an_lf (fun live => am_aload 0 1432)), (1432, an_lf (fun live => am_iload 3 1433)), (1433, an_lf (fun live => am_const (.int 3) 1434)), (1434, an_lf (fun live => am_i2 (fun x y => x + y) 1435)), (1435, an_sld Ln xs 1436), (1436, an_lf (fun live => am_aload 0 1437)), (1437, an_lf (fun live => am_iload 3 1438)), (1438, an_lf (fun live => am_const (.int 4) 1439)), (1439, an_lf (fun live => am_i2 (fun x y => x + y) 1440)), (1440, an_sld Ln xs 1441), (1441, an_lf (fun live => am_aload 0 1442)), (1442, an_lf (fun live => am_iload 3 1443)), (1443, an_lf (fun live => am_const (.int 5) 1444)), (1444, an_lf (fun live => am_i2 (fun x y => x + y) 1445)), (1445, an_sld Ln xs 1446), (1446, an_lf (fun live => am_callV live 7 5 TX7_chances 1449)), (1449, an_lf (fun live => am_aload 2 1450)), (1450, an_lf (fun live => am_aload 0 1451)), (1451, an_lf (fun live => am_iload 3 1452)), (1452, an_lf (fun live => am_const (.int 1) 1453)), (1453, an_lf (fun live => am_i2 (fun x y => x + y) 1454)), (1454, an_sld Ln xs 1455), (1455, an_lf (fun live => am_aload 0 1456)), (1456, an_lf (fun live => am_iload 3 1457)), (1457, an_lf (fun live => am_const (.int 2) 1458)), (1458, an_lf (fun live => am_i2 (fun x y => x + y) 1459)), (1459, an_sld Ln xs 1460), (1460, an_lf (fun live => am_aload 0 1461)), (1461, an_lf (fun live => am_iload 3 1462)), (1462, an_lf (fun live => am_const (.int 3) 1463)), (1463, an_lf (fun live => am_i2 (fun x y => x + y) 1464)), (1464, an_sld Ln xs 1465), (1465, an_lf (fun live => am_aload 0 1466)), (1466, an_lf (fun live => am_iload 3 1467)), (1467, an_lf (fun live => am_const (.int 4) 1468)), (1468, an_lf (fun live => am_i2 (fun x y => x + y) 1469)), (1469, an_sld Ln xs 1470), (1470, an_lf (fun live => am_aload 0 1471)), (1471, an_lf (fun live => am_iload 3 1472)), (1472, an_lf (fun live => am_const (.int 5) 1473)), (1473, an_lf (fun live => am_i2 (fun x y => x + y) 1474)), (1474, an_sld Ln xs 1475), (1475, an_lf (fun live => am_callV live 8 5 TX8_chances 1478)), (1478, an_lf (fun live => am_if2 (fun x y => x = y) 1849 1481))]
theorem koL_c27 (Ln : Nat) (xs : Nat → Int32) : ∀ q ∈ kL_c27 Ln xs, an_ok RL cL_law 4 (some .boolean) 2000 80000 600000 7302250 false (lawP Ln xs) an_noR q.1 q.2 :=
  an_kc (an_lift (fun live => ak_aload_n dL_law_1420 rfl rfl)) <|
  an_kc (an_lift (fun live => ak_aload_n dL_law_1421 rfl rfl)) <|
  an_kc (an_lift (fun live => ak_iload_n dL_law_1422 rfl rfl)) <|
  an_kc (an_lift (fun live => ak_iconst dL_law_1423 (by decide +kernel) rfl)) <|
  an_kc (an_lift (fun live => ak_iadd dL_law_1424 rfl)) <|
  an_kc (nk_sld dL_law_1425 rfl) <|
  an_kc (an_lift (fun live => ak_aload_n dL_law_1426 rfl rfl)) <|
  an_kc (an_lift (fun live => ak_iload_n dL_law_1427 rfl rfl)) <|
  an_kc (an_lift (fun live => ak_iconst dL_law_1428 (by decide +kernel) rfl)) <|
  an_kc (an_lift (fun live => ak_iadd dL_law_1429 rfl)) <|
  an_kc (nk_sld dL_law_1430 rfl) <|
  an_kc (an_lift (fun live => ak_aload_n dL_law_1431 rfl rfl)) <|
  an_kc (an_lift (fun live => ak_iload_n dL_law_1432 rfl rfl)) <|
  an_kc (an_lift (fun live => ak_iconst dL_law_1433 (by decide +kernel) rfl)) <|
  an_kc (an_lift (fun live => ak_iadd dL_law_1434 rfl)) <|
  an_kc (nk_sld dL_law_1435 rfl) <|
  an_kc (an_lift (fun live => ak_aload_n dL_law_1436 rfl rfl)) <|
  an_kc (an_lift (fun live => ak_iload_n dL_law_1437 rfl rfl)) <|
  an_kc (an_lift (fun live => ak_iconst dL_law_1438 (by decide +kernel) rfl)) <|
  an_kc (an_lift (fun live => ak_iadd dL_law_1439 rfl)) <|
  an_kc (nk_sld dL_law_1440 rfl) <|
  an_kc (an_lift (fun live => ak_aload_n dL_law_1441 rfl rfl)) <|
  an_kc (an_lift (fun live => ak_iload_n dL_law_1442 rfl rfl)) <|
  an_kc (an_lift (fun live => ak_iconst dL_law_1443 (by decide +kernel) rfl)) <|
  an_kc (an_lift (fun live => ak_iadd dL_law_1444 rfl)) <|
  an_kc (nk_sld dL_law_1445 rfl) <|
  an_kc (an_lift (fun live => ak_callV (C := RX7) (F := TX7) (N := 4) metX7_chances rfl ⟨rfl, by decide +kernel, by decide +kernel, by decide +kernel⟩ (am_w5 wd_769 wd_770 wd_771 wd_58 wd_772) (by decide) dL_law_1446 rfl)) <|
  an_kc (an_lift (fun live => ak_aload_n dL_law_1449 rfl rfl)) <|
  an_kc (an_lift (fun live => ak_aload_n dL_law_1450 rfl rfl)) <|
  an_kc (an_lift (fun live => ak_iload_n dL_law_1451 rfl rfl)) <|
  an_kc (an_lift (fun live => ak_iconst dL_law_1452 (by decide +kernel) rfl)) <|
  an_kc (an_lift (fun live => ak_iadd dL_law_1453 rfl)) <|
  an_kc (nk_sld dL_law_1454 rfl) <|
  an_kc (an_lift (fun live => ak_aload_n dL_law_1455 rfl rfl)) <|
  an_kc (an_lift (fun live => ak_iload_n dL_law_1456 rfl rfl)) <|
  an_kc (an_lift (fun live => ak_iconst dL_law_1457 (by decide +kernel) rfl)) <|
  an_kc (an_lift (fun live => ak_iadd dL_law_1458 rfl)) <|
  an_kc (nk_sld dL_law_1459 rfl) <|
  an_kc (an_lift (fun live => ak_aload_n dL_law_1460 rfl rfl)) <|
  an_kc (an_lift (fun live => ak_iload_n dL_law_1461 rfl rfl)) <|
  an_kc (an_lift (fun live => ak_iconst dL_law_1462 (by decide +kernel) rfl)) <|
  an_kc (an_lift (fun live => ak_iadd dL_law_1463 rfl)) <|
  an_kc (nk_sld dL_law_1464 rfl) <|
  an_kc (an_lift (fun live => ak_aload_n dL_law_1465 rfl rfl)) <|
  an_kc (an_lift (fun live => ak_iload_n dL_law_1466 rfl rfl)) <|
  an_kc (an_lift (fun live => ak_iconst dL_law_1467 (by decide +kernel) rfl)) <|
  an_kc (an_lift (fun live => ak_iadd dL_law_1468 rfl)) <|
  an_kc (nk_sld dL_law_1469 rfl) <|
  an_kc (an_lift (fun live => ak_aload_n dL_law_1470 rfl rfl)) <|
  an_kc (an_lift (fun live => ak_iload_n dL_law_1471 rfl rfl)) <|
  an_kc (an_lift (fun live => ak_iconst dL_law_1472 (by decide +kernel) rfl)) <|
  an_kc (an_lift (fun live => ak_iadd dL_law_1473 rfl)) <|
  an_kc (nk_sld dL_law_1474 rfl) <|
  an_kc (an_lift (fun live => ak_callV (C := RX8) (F := TX8) (N := 27) metX8_chances rfl ⟨rfl, by decide +kernel, by decide +kernel, by decide +kernel⟩ (am_w5 wd_1240 wd_1241 wd_1242 wd_67 wd_1243) (by decide) dL_law_1475 rfl)) <|
  an_kc (an_lift (fun live => ak_icmp_eq dL_law_1478 (by decide +kernel) rfl)) <| an_kn
set_option maxRecDepth 100000 in
set_option maxHeartbeats 4000000 in
theorem caseL_c27 (xs : Nat → Int32) : an_wp (kL_c27 8 xs) lawC 200 (an_go (kL_c27 8 xs) 1420) lawL [] lawX := by
    have f7 := an_Mf7
    have f8 := an_Mf8
    repeat' (first | (with_reducible exact f7) | (with_reducible exact f8) | apply And.intro | exact rfl | (intro hx; with_reducible exact absurd rfl hx) | (intro hx; with_reducible exact absurd ((lg_cmp_eq _ _).mpr rfl) hx) | (intro hx; exact absurd hx (by decide)) | (intro hx; exact absurd (by decide) hx) | decide | intro hx | (refine Exists.intro _ (And.intro rfl ?_)))
    all_goals try first | (with_reducible change am_tI _ _) | (change Ret _ _) | (change Ret _ _ _) | (change Exists _)
    all_goals try dsimp only at *
    all_goals try exact absurd ‹(1000 : Int64) = 0› (by decide)
    all_goals first
      | exact ⟨_, _, rfl⟩
      | exact f8.lo ‹am_ch am_lo _ _›
      | exact (f8.lo ‹am_ch am_lo _ _›).1 _ ‹_›
      | exact (f8.lo ‹am_ch am_lo _ _›).2.1 _ ‹_›
      | exact (f8.lo ‹am_ch am_lo _ _›).2.2.1 _ ‹_›
      | exact (f8.lo ‹am_ch am_lo _ _›).2.2.2.1 _ ‹_›
      | exact (f8.lo ‹am_ch am_lo _ _›).2.2.2.2 _ ‹_›
      | exact (f8.hi ‹∀ a k, 200 ≤ a → _›).1 _ ‹_›
      | exact (f8.hi ‹∀ a k, 200 ≤ a → _›).2.1 _ ‹_›
      | exact (f8.hi ‹∀ a k, 200 ≤ a → _›).2.2.1 _ ‹_›
      | exact (f8.hi ‹∀ a k, 200 ≤ a → _›).2.2.2.1 _ ‹_›
      | exact (f8.hi ‹∀ a k, 200 ≤ a → _›).2.2.2.2 _ ‹_›
      | decide
theorem dL_law_1483 : decode cL_law 1483 = .ok (.aload_n 1, 1) := by decide +kernel
theorem dL_law_1484 : decode cL_law 1484 = .ok (.aload_n 0, 1) := by decide +kernel
theorem dL_law_1485 : decode cL_law 1485 = .ok (.iload_n 3, 1) := by decide +kernel
theorem dL_law_1486 : decode cL_law 1486 = .ok (.iconst 1, 1) := by decide +kernel
theorem dL_law_1487 : decode cL_law 1487 = .ok (.iadd, 1) := by decide +kernel
theorem dL_law_1488 : decode cL_law 1488 = .ok (.iaload, 1) := by decide +kernel
theorem dL_law_1489 : decode cL_law 1489 = .ok (.aload_n 0, 1) := by decide +kernel
theorem dL_law_1490 : decode cL_law 1490 = .ok (.iload_n 3, 1) := by decide +kernel
theorem dL_law_1491 : decode cL_law 1491 = .ok (.iconst 2, 1) := by decide +kernel
theorem dL_law_1492 : decode cL_law 1492 = .ok (.iadd, 1) := by decide +kernel
theorem dL_law_1493 : decode cL_law 1493 = .ok (.iaload, 1) := by decide +kernel
theorem dL_law_1494 : decode cL_law 1494 = .ok (.aload_n 0, 1) := by decide +kernel
theorem dL_law_1495 : decode cL_law 1495 = .ok (.iload_n 3, 1) := by decide +kernel
theorem dL_law_1496 : decode cL_law 1496 = .ok (.iconst 3, 1) := by decide +kernel
theorem dL_law_1497 : decode cL_law 1497 = .ok (.iadd, 1) := by decide +kernel
theorem dL_law_1498 : decode cL_law 1498 = .ok (.iaload, 1) := by decide +kernel
theorem dL_law_1499 : decode cL_law 1499 = .ok (.aload_n 0, 1) := by decide +kernel
theorem dL_law_1500 : decode cL_law 1500 = .ok (.iload_n 3, 1) := by decide +kernel
theorem dL_law_1501 : decode cL_law 1501 = .ok (.iconst 4, 1) := by decide +kernel
theorem dL_law_1502 : decode cL_law 1502 = .ok (.iadd, 1) := by decide +kernel
theorem dL_law_1503 : decode cL_law 1503 = .ok (.iaload, 1) := by decide +kernel
theorem dL_law_1504 : decode cL_law 1504 = .ok (.aload_n 0, 1) := by decide +kernel
theorem dL_law_1505 : decode cL_law 1505 = .ok (.iload_n 3, 1) := by decide +kernel
theorem dL_law_1506 : decode cL_law 1506 = .ok (.iconst 5, 1) := by decide +kernel
theorem dL_law_1507 : decode cL_law 1507 = .ok (.iadd, 1) := by decide +kernel
theorem dL_law_1508 : decode cL_law 1508 = .ok (.iaload, 1) := by decide +kernel
theorem dL_law_1509 : decode cL_law 1509 = .ok (.aload_n 0, 1) := by decide +kernel
theorem dL_law_1510 : decode cL_law 1510 = .ok (.iload_n 3, 1) := by decide +kernel
theorem dL_law_1511 : decode cL_law 1511 = .ok (.bipush 6, 2) := by decide +kernel
theorem dL_law_1513 : decode cL_law 1513 = .ok (.iadd, 1) := by decide +kernel
theorem dL_law_1514 : decode cL_law 1514 = .ok (.iaload, 1) := by decide +kernel
theorem wd_776 : Cond.methodLink "LearnLoansLaw" 135 yX7_foretold ∈ am_ws := am_wsi (List.mem_of_getElem? (i := 776) (by decide +kernel)) (by decide +kernel)
theorem wd_777 : Cond.instanceMethod yX7_foretold ∈ am_ws := am_wsi (List.mem_of_getElem? (i := 777) (by decide +kernel)) (by decide +kernel)
theorem wd_778 : Cond.selects "LearnLoans" yX7_foretold yX7_foretold ∈ am_ws := am_wsi (List.mem_of_getElem? (i := 778) (by decide +kernel)) (by decide +kernel)
theorem wd_779 : Cond.code yX7_foretold cX7_foretold 7 (some .long) ∈ am_ws := am_wsi (List.mem_of_getElem? (i := 779) (by decide +kernel)) (by decide +kernel)
theorem dL_law_1515 : decode cL_law 1515 = .ok (.invokevirtual 135, 3) := by decide +kernel
theorem dL_law_1518 : decode cL_law 1518 = .ok (.aload_n 2, 1) := by decide +kernel
theorem dL_law_1519 : decode cL_law 1519 = .ok (.aload_n 0, 1) := by decide +kernel
theorem dL_law_1520 : decode cL_law 1520 = .ok (.iload_n 3, 1) := by decide +kernel
theorem dL_law_1521 : decode cL_law 1521 = .ok (.iconst 1, 1) := by decide +kernel
theorem dL_law_1522 : decode cL_law 1522 = .ok (.iadd, 1) := by decide +kernel
theorem dL_law_1523 : decode cL_law 1523 = .ok (.iaload, 1) := by decide +kernel
theorem dL_law_1524 : decode cL_law 1524 = .ok (.aload_n 0, 1) := by decide +kernel
theorem dL_law_1525 : decode cL_law 1525 = .ok (.iload_n 3, 1) := by decide +kernel
theorem dL_law_1526 : decode cL_law 1526 = .ok (.iconst 2, 1) := by decide +kernel
theorem dL_law_1527 : decode cL_law 1527 = .ok (.iadd, 1) := by decide +kernel
theorem dL_law_1528 : decode cL_law 1528 = .ok (.iaload, 1) := by decide +kernel
theorem dL_law_1529 : decode cL_law 1529 = .ok (.aload_n 0, 1) := by decide +kernel
theorem dL_law_1530 : decode cL_law 1530 = .ok (.iload_n 3, 1) := by decide +kernel
theorem dL_law_1531 : decode cL_law 1531 = .ok (.iconst 3, 1) := by decide +kernel
theorem dL_law_1532 : decode cL_law 1532 = .ok (.iadd, 1) := by decide +kernel
theorem dL_law_1533 : decode cL_law 1533 = .ok (.iaload, 1) := by decide +kernel
theorem dL_law_1534 : decode cL_law 1534 = .ok (.aload_n 0, 1) := by decide +kernel
theorem dL_law_1535 : decode cL_law 1535 = .ok (.iload_n 3, 1) := by decide +kernel
theorem dL_law_1536 : decode cL_law 1536 = .ok (.iconst 4, 1) := by decide +kernel
theorem dL_law_1537 : decode cL_law 1537 = .ok (.iadd, 1) := by decide +kernel
theorem dL_law_1538 : decode cL_law 1538 = .ok (.iaload, 1) := by decide +kernel
theorem dL_law_1539 : decode cL_law 1539 = .ok (.aload_n 0, 1) := by decide +kernel
theorem dL_law_1540 : decode cL_law 1540 = .ok (.iload_n 3, 1) := by decide +kernel
theorem dL_law_1541 : decode cL_law 1541 = .ok (.iconst 5, 1) := by decide +kernel
theorem dL_law_1542 : decode cL_law 1542 = .ok (.iadd, 1) := by decide +kernel
theorem dL_law_1543 : decode cL_law 1543 = .ok (.iaload, 1) := by decide +kernel
theorem dL_law_1544 : decode cL_law 1544 = .ok (.aload_n 0, 1) := by decide +kernel
theorem dL_law_1545 : decode cL_law 1545 = .ok (.iload_n 3, 1) := by decide +kernel
theorem dL_law_1546 : decode cL_law 1546 = .ok (.bipush 6, 2) := by decide +kernel
theorem dL_law_1548 : decode cL_law 1548 = .ok (.iadd, 1) := by decide +kernel
theorem dL_law_1549 : decode cL_law 1549 = .ok (.iaload, 1) := by decide +kernel
theorem wd_1245 : Cond.methodLink "LearnLoansLaw" 139 yX8_foretold ∈ am_ws := am_wsi (List.mem_of_getElem? (i := 1245) (by decide +kernel)) (by decide +kernel)
theorem wd_1246 : Cond.instanceMethod yX8_foretold ∈ am_ws := am_wsi (List.mem_of_getElem? (i := 1246) (by decide +kernel)) (by decide +kernel)
theorem wd_1247 : Cond.selects "LearnLoansModel" yX8_foretold yX8_foretold ∈ am_ws := am_wsi (List.mem_of_getElem? (i := 1247) (by decide +kernel)) (by decide +kernel)
theorem wd_1248 : Cond.code yX8_foretold cX8_foretold 18 (some .long) ∈ am_ws := am_wsi (List.mem_of_getElem? (i := 1248) (by decide +kernel)) (by decide +kernel)
theorem dL_law_1550 : decode cL_law 1550 = .ok (.invokevirtual 139, 3) := by decide +kernel
theorem dL_law_1553 : decode cL_law 1553 = .ok (.lcmp, 1) := by decide +kernel
theorem dL_law_1554 : decode cL_law 1554 = .ok (.ifCond .eq 295, 3) := by decide +kernel
def kL_c28 (Ln : Nat) (xs : Nat → Int32) : an_code := [(1483, an_lf (fun live => am_aload 1 1484)), (1484, an_lf (fun live => am_aload 0 1485)), (1485, an_lf (fun live => am_iload 3 1486)), (1486, an_lf (fun live => am_const (.int 1) 1487)), (1487, an_lf (fun live => am_i2 (fun x y => x + y) 1488)), (1488, an_sld Ln xs 1489), (1489, an_lf (fun live => am_aload 0 1490)), (1490, an_lf (fun live => am_iload 3 1491)), (1491, an_lf (fun live => am_const (.int 2) 1492)), (1492, an_lf (fun live => am_i2 (fun x y => x + y) 1493)), (1493, an_sld Ln xs 1494), (1494, an_lf (fun live => am_aload 0 1495)), (1495, an_lf (fun live => am_iload 3 1496)), (1496, an_lf (fun live => am_const (.int 3) 1497)), (1497, an_lf (fun live => am_i2 (fun x y => x + y) 1498)), (1498, an_sld Ln xs 1499), (1499, an_lf (fun live => am_aload 0 1500)), (1500, an_lf (fun live => am_iload 3 1501)), (1501, an_lf (fun live => am_const (.int 4) 1502)), (1502, an_lf (fun live => am_i2 (fun x y => x + y) 1503)), (1503, an_sld Ln xs 1504), (1504, an_lf (fun live => am_aload 0 1505)), (1505, an_lf (fun live => am_iload 3 1506)), (1506, an_lf (fun live => am_const (.int 5) 1507)), (1507, an_lf (fun live => am_i2 (fun x y => x + y) 1508)), (1508, an_sld Ln xs 1509), (1509, an_lf (fun live => am_aload 0 1510)), (1510, an_lf (fun live => am_iload 3 1511)), (1511, an_lf (fun live => am_const (.int 6) 1513)), (1513, an_lf (fun live => am_i2 (fun x y => x + y) 1514)), (1514, an_sld Ln xs 1515), (1515, an_lf (fun live => am_callV live 7 6 TX7_foretold 1518)), (1518, an_lf (fun live => am_aload 2 1519)), (1519, an_lf (fun live => am_aload 0 1520)), (1520, an_lf (fun live => am_iload 3 1521)), (1521, an_lf (fun live => am_const (.int 1) 1522)), (1522, an_lf (fun live => am_i2 (fun x y => x + y) 1523)), (1523, an_sld Ln xs 1524), (1524, an_lf (fun live => am_aload 0 1525)), (1525, an_lf (fun live => am_iload 3 1526)), (1526, an_lf (fun live => am_const (.int 2) 1527)), (1527, an_lf (fun live => am_i2 (fun x y => x + y) 1528)), (1528, an_sld Ln xs 1529), (1529, an_lf (fun live => am_aload 0 1530)), (1530, an_lf (fun live => am_iload 3 1531)), (1531, an_lf (fun live => am_const (.int 3) 1532)), (1532, an_lf (fun live => am_i2 (fun x y => x + y) 1533)), (1533, an_sld Ln xs 1534), (1534, an_lf (fun live => am_aload 0 1535)), (1535, an_lf (fun live => am_iload 3 1536)), (1536, an_lf (fun live => am_const (.int 4) 1537)), (1537, an_lf (fun live => am_i2 (fun x y => x + y) 1538)), (1538, an_sld Ln xs 1539), (1539, an_lf (fun live => am_aload 0 1540)), (1540, an_lf (fun live => am_iload 3 1541)), (1541, an_lf (fun live => am_const (.int 5) 1542)), (1542, an_lf (fun live => am_i2 (fun x y => x + y) 1543)), (1543, an_sld Ln xs 1544), (1544, an_lf (fun live => am_aload 0 1545)), (1545, an_lf (fun live => am_iload 3 1546)), (1546, an_lf (fun live => am_const (.int 6) 1548)), (1548, an_lf (fun live => am_i2 (fun x y => x + y) 1549)), (1549, an_sld Ln xs 1550), (1550, an_lf (fun live => am_callV live 8 6 TX8_foretold 1553)), (1553, an_lf (fun live => am_lcmp 1554)), (1554, an_lf (fun live => am_if1 (fun x => x = 0) 1849 1557))]
theorem koL_c28 (Ln : Nat) (xs : Nat → Int32) : ∀ q ∈ kL_c28 Ln xs, an_ok RL cL_law 4 (some .boolean) 2000 80000 600000 7302250 false (lawP Ln xs) an_noR q.1 q.2 :=
  an_kc (an_lift (fun live => ak_aload_n dL_law_1483 rfl rfl)) <|
  an_kc (an_lift (fun live => ak_aload_n dL_law_1484 rfl rfl)) <|
  an_kc (an_lift (fun live => ak_iload_n dL_law_1485 rfl rfl)) <|
  an_kc (an_lift (fun live => ak_iconst dL_law_1486 (by decide +kernel) rfl)) <|
  an_kc (an_lift (fun live => ak_iadd dL_law_1487 rfl)) <|
  an_kc (nk_sld dL_law_1488 rfl) <|
  an_kc (an_lift (fun live => ak_aload_n dL_law_1489 rfl rfl)) <|
  an_kc (an_lift (fun live => ak_iload_n dL_law_1490 rfl rfl)) <|
  an_kc (an_lift (fun live => ak_iconst dL_law_1491 (by decide +kernel) rfl)) <|
  an_kc (an_lift (fun live => ak_iadd dL_law_1492 rfl)) <|
  an_kc (nk_sld dL_law_1493 rfl) <|
  an_kc (an_lift (fun live => ak_aload_n dL_law_1494 rfl rfl)) <|
  an_kc (an_lift (fun live => ak_iload_n dL_law_1495 rfl rfl)) <|
  an_kc (an_lift (fun live => ak_iconst dL_law_1496 (by decide +kernel) rfl)) <|
  an_kc (an_lift (fun live => ak_iadd dL_law_1497 rfl)) <|
  an_kc (nk_sld dL_law_1498 rfl) <|
  an_kc (an_lift (fun live => ak_aload_n dL_law_1499 rfl rfl)) <|
  an_kc (an_lift (fun live => ak_iload_n dL_law_1500 rfl rfl)) <|
  an_kc (an_lift (fun live => ak_iconst dL_law_1501 (by decide +kernel) rfl)) <|
  an_kc (an_lift (fun live => ak_iadd dL_law_1502 rfl)) <|
  an_kc (nk_sld dL_law_1503 rfl) <|
  an_kc (an_lift (fun live => ak_aload_n dL_law_1504 rfl rfl)) <|
  an_kc (an_lift (fun live => ak_iload_n dL_law_1505 rfl rfl)) <|
  an_kc (an_lift (fun live => ak_iconst dL_law_1506 (by decide +kernel) rfl)) <|
  an_kc (an_lift (fun live => ak_iadd dL_law_1507 rfl)) <|
  an_kc (nk_sld dL_law_1508 rfl) <|
  an_kc (an_lift (fun live => ak_aload_n dL_law_1509 rfl rfl)) <|
  an_kc (an_lift (fun live => ak_iload_n dL_law_1510 rfl rfl)) <|
  an_kc (an_lift (fun live => ak_bipush dL_law_1511 (by decide +kernel) rfl)) <|
  an_kc (an_lift (fun live => ak_iadd dL_law_1513 rfl)) <|
  an_kc (nk_sld dL_law_1514 rfl) <|
  an_kc (an_lift (fun live => ak_callV (C := RX7) (F := TX7) (N := 4) metX7_foretold rfl ⟨rfl, by decide +kernel, by decide +kernel, by decide +kernel⟩ (am_w5 wd_776 wd_777 wd_778 wd_58 wd_779) (by decide) dL_law_1515 rfl)) <|
  an_kc (an_lift (fun live => ak_aload_n dL_law_1518 rfl rfl)) <|
  an_kc (an_lift (fun live => ak_aload_n dL_law_1519 rfl rfl)) <|
  an_kc (an_lift (fun live => ak_iload_n dL_law_1520 rfl rfl)) <|
  an_kc (an_lift (fun live => ak_iconst dL_law_1521 (by decide +kernel) rfl)) <|
  an_kc (an_lift (fun live => ak_iadd dL_law_1522 rfl)) <|
  an_kc (nk_sld dL_law_1523 rfl) <|
  an_kc (an_lift (fun live => ak_aload_n dL_law_1524 rfl rfl)) <|
  an_kc (an_lift (fun live => ak_iload_n dL_law_1525 rfl rfl)) <|
  an_kc (an_lift (fun live => ak_iconst dL_law_1526 (by decide +kernel) rfl)) <|
  an_kc (an_lift (fun live => ak_iadd dL_law_1527 rfl)) <|
  an_kc (nk_sld dL_law_1528 rfl) <|
  an_kc (an_lift (fun live => ak_aload_n dL_law_1529 rfl rfl)) <|
  an_kc (an_lift (fun live => ak_iload_n dL_law_1530 rfl rfl)) <|
  an_kc (an_lift (fun live => ak_iconst dL_law_1531 (by decide +kernel) rfl)) <|
  an_kc (an_lift (fun live => ak_iadd dL_law_1532 rfl)) <|
  an_kc (nk_sld dL_law_1533 rfl) <|
  an_kc (an_lift (fun live => ak_aload_n dL_law_1534 rfl rfl)) <|
  an_kc (an_lift (fun live => ak_iload_n dL_law_1535 rfl rfl)) <|
  an_kc (an_lift (fun live => ak_iconst dL_law_1536 (by decide +kernel) rfl)) <|
  an_kc (an_lift (fun live => ak_iadd dL_law_1537 rfl)) <|
  an_kc (nk_sld dL_law_1538 rfl) <|
  an_kc (an_lift (fun live => ak_aload_n dL_law_1539 rfl rfl)) <|
  an_kc (an_lift (fun live => ak_iload_n dL_law_1540 rfl rfl)) <|
  an_kc (an_lift (fun live => ak_iconst dL_law_1541 (by decide +kernel) rfl)) <|
  an_kc (an_lift (fun live => ak_iadd dL_law_1542 rfl)) <|
  an_kc (nk_sld dL_law_1543 rfl) <|
  an_kc (an_lift (fun live => ak_aload_n dL_law_1544 rfl rfl)) <|
  an_kc (an_lift (fun live => ak_iload_n dL_law_1545 rfl rfl)) <|
  an_kc (an_lift (fun live => ak_bipush dL_law_1546 (by decide +kernel) rfl)) <|
  an_kc (an_lift (fun live => ak_iadd dL_law_1548 rfl)) <|
  an_kc (nk_sld dL_law_1549 rfl) <|
  an_kc (an_lift (fun live => ak_callV (C := RX8) (F := TX8) (N := 27) metX8_foretold rfl ⟨rfl, by decide +kernel, by decide +kernel, by decide +kernel⟩ (am_w5 wd_1245 wd_1246 wd_1247 wd_67 wd_1248) (by decide) dL_law_1550 rfl)) <|
  an_kc (an_lift (fun live => ak_lcmp dL_law_1553 rfl)) <|
  an_kc (an_lift (fun live => ak_if_eq dL_law_1554 (by decide +kernel) rfl)) <| an_kn
set_option maxRecDepth 100000 in
set_option maxHeartbeats 4000000 in
theorem caseL_c28 (xs : Nat → Int32) : an_wp (kL_c28 8 xs) lawC 200 (an_go (kL_c28 8 xs) 1483) lawL [] lawX := by
    have f7 := an_Mf7
    have f8 := an_Mf8
    repeat' (first | (with_reducible exact f7) | (with_reducible exact f8) | apply And.intro | exact rfl | (intro hx; with_reducible exact absurd rfl hx) | (intro hx; with_reducible exact absurd ((lg_cmp_eq _ _).mpr rfl) hx) | (intro hx; exact absurd hx (by decide)) | (intro hx; exact absurd (by decide) hx) | decide | intro hx | (refine Exists.intro _ (And.intro rfl ?_)))
    all_goals try first | (with_reducible change am_tI _ _) | (change Ret _ _) | (change Ret _ _ _) | (change Exists _)
    all_goals try dsimp only at *
    all_goals try exact absurd ‹(1000 : Int64) = 0› (by decide)
    all_goals first
      | exact ⟨_, _, rfl⟩
      | exact f8.lo ‹am_ch am_lo _ _›
      | exact (f8.lo ‹am_ch am_lo _ _›).1 _ ‹_›
      | exact (f8.lo ‹am_ch am_lo _ _›).2.1 _ ‹_›
      | exact (f8.lo ‹am_ch am_lo _ _›).2.2.1 _ ‹_›
      | exact (f8.lo ‹am_ch am_lo _ _›).2.2.2.1 _ ‹_›
      | exact (f8.lo ‹am_ch am_lo _ _›).2.2.2.2 _ ‹_›
      | exact (f8.hi ‹∀ a k, 200 ≤ a → _›).1 _ ‹_›
      | exact (f8.hi ‹∀ a k, 200 ≤ a → _›).2.1 _ ‹_›
      | exact (f8.hi ‹∀ a k, 200 ≤ a → _›).2.2.1 _ ‹_›
      | exact (f8.hi ‹∀ a k, 200 ≤ a → _›).2.2.2.1 _ ‹_›
      | exact (f8.hi ‹∀ a k, 200 ≤ a → _›).2.2.2.2 _ ‹_›
      | decide
theorem dL_law_1559 : decode cL_law 1559 = .ok (.aload_n 1, 1) := by decide +kernel
theorem dL_law_1560 : decode cL_law 1560 = .ok (.aload_n 0, 1) := by decide +kernel
theorem dL_law_1561 : decode cL_law 1561 = .ok (.iload_n 3, 1) := by decide +kernel
theorem dL_law_1562 : decode cL_law 1562 = .ok (.iconst 1, 1) := by decide +kernel
theorem dL_law_1563 : decode cL_law 1563 = .ok (.iadd, 1) := by decide +kernel
theorem dL_law_1564 : decode cL_law 1564 = .ok (.iaload, 1) := by decide +kernel
theorem dL_law_1565 : decode cL_law 1565 = .ok (.aload_n 0, 1) := by decide +kernel
theorem dL_law_1566 : decode cL_law 1566 = .ok (.iload_n 3, 1) := by decide +kernel
theorem dL_law_1567 : decode cL_law 1567 = .ok (.iconst 2, 1) := by decide +kernel
theorem dL_law_1568 : decode cL_law 1568 = .ok (.iadd, 1) := by decide +kernel
theorem dL_law_1569 : decode cL_law 1569 = .ok (.iaload, 1) := by decide +kernel
theorem dL_law_1570 : decode cL_law 1570 = .ok (.aload_n 0, 1) := by decide +kernel
theorem dL_law_1571 : decode cL_law 1571 = .ok (.iload_n 3, 1) := by decide +kernel
theorem dL_law_1572 : decode cL_law 1572 = .ok (.iconst 3, 1) := by decide +kernel
theorem dL_law_1573 : decode cL_law 1573 = .ok (.iadd, 1) := by decide +kernel
theorem dL_law_1574 : decode cL_law 1574 = .ok (.iaload, 1) := by decide +kernel
theorem dL_law_1575 : decode cL_law 1575 = .ok (.aload_n 0, 1) := by decide +kernel
theorem dL_law_1576 : decode cL_law 1576 = .ok (.iload_n 3, 1) := by decide +kernel
theorem dL_law_1577 : decode cL_law 1577 = .ok (.iconst 4, 1) := by decide +kernel
theorem dL_law_1578 : decode cL_law 1578 = .ok (.iadd, 1) := by decide +kernel
theorem dL_law_1579 : decode cL_law 1579 = .ok (.iaload, 1) := by decide +kernel
theorem dL_law_1580 : decode cL_law 1580 = .ok (.aload_n 0, 1) := by decide +kernel
theorem dL_law_1581 : decode cL_law 1581 = .ok (.iload_n 3, 1) := by decide +kernel
theorem dL_law_1582 : decode cL_law 1582 = .ok (.iconst 5, 1) := by decide +kernel
theorem dL_law_1583 : decode cL_law 1583 = .ok (.iadd, 1) := by decide +kernel
theorem dL_law_1584 : decode cL_law 1584 = .ok (.iaload, 1) := by decide +kernel
theorem wd_800 : Cond.methodLink "LearnLoansLaw" 140 yX7_tried ∈ am_ws := am_wsi (List.mem_of_getElem? (i := 800) (by decide +kernel)) (by decide +kernel)
theorem wd_801 : Cond.instanceMethod yX7_tried ∈ am_ws := am_wsi (List.mem_of_getElem? (i := 801) (by decide +kernel)) (by decide +kernel)
theorem wd_802 : Cond.selects "LearnLoans" yX7_tried yX7_tried ∈ am_ws := am_wsi (List.mem_of_getElem? (i := 802) (by decide +kernel)) (by decide +kernel)
theorem wd_803 : Cond.code yX7_tried cX7_tried 6 (some .long) ∈ am_ws := am_wsi (List.mem_of_getElem? (i := 803) (by decide +kernel)) (by decide +kernel)
theorem dL_law_1585 : decode cL_law 1585 = .ok (.invokevirtual 140, 3) := by decide +kernel
theorem dL_law_1588 : decode cL_law 1588 = .ok (.aload_n 2, 1) := by decide +kernel
theorem dL_law_1589 : decode cL_law 1589 = .ok (.aload_n 0, 1) := by decide +kernel
theorem dL_law_1590 : decode cL_law 1590 = .ok (.iload_n 3, 1) := by decide +kernel
theorem dL_law_1591 : decode cL_law 1591 = .ok (.iconst 1, 1) := by decide +kernel
theorem dL_law_1592 : decode cL_law 1592 = .ok (.iadd, 1) := by decide +kernel
theorem dL_law_1593 : decode cL_law 1593 = .ok (.iaload, 1) := by decide +kernel
theorem dL_law_1594 : decode cL_law 1594 = .ok (.aload_n 0, 1) := by decide +kernel
theorem dL_law_1595 : decode cL_law 1595 = .ok (.iload_n 3, 1) := by decide +kernel
theorem dL_law_1596 : decode cL_law 1596 = .ok (.iconst 2, 1) := by decide +kernel
theorem dL_law_1597 : decode cL_law 1597 = .ok (.iadd, 1) := by decide +kernel
theorem dL_law_1598 : decode cL_law 1598 = .ok (.iaload, 1) := by decide +kernel
theorem dL_law_1599 : decode cL_law 1599 = .ok (.aload_n 0, 1) := by decide +kernel
theorem dL_law_1600 : decode cL_law 1600 = .ok (.iload_n 3, 1) := by decide +kernel
theorem dL_law_1601 : decode cL_law 1601 = .ok (.iconst 3, 1) := by decide +kernel
theorem dL_law_1602 : decode cL_law 1602 = .ok (.iadd, 1) := by decide +kernel
theorem dL_law_1603 : decode cL_law 1603 = .ok (.iaload, 1) := by decide +kernel
theorem dL_law_1604 : decode cL_law 1604 = .ok (.aload_n 0, 1) := by decide +kernel
theorem dL_law_1605 : decode cL_law 1605 = .ok (.iload_n 3, 1) := by decide +kernel
theorem dL_law_1606 : decode cL_law 1606 = .ok (.iconst 4, 1) := by decide +kernel
theorem dL_law_1607 : decode cL_law 1607 = .ok (.iadd, 1) := by decide +kernel
theorem dL_law_1608 : decode cL_law 1608 = .ok (.iaload, 1) := by decide +kernel
theorem dL_law_1609 : decode cL_law 1609 = .ok (.aload_n 0, 1) := by decide +kernel
theorem dL_law_1610 : decode cL_law 1610 = .ok (.iload_n 3, 1) := by decide +kernel
theorem dL_law_1611 : decode cL_law 1611 = .ok (.iconst 5, 1) := by decide +kernel
theorem dL_law_1612 : decode cL_law 1612 = .ok (.iadd, 1) := by decide +kernel
theorem dL_law_1613 : decode cL_law 1613 = .ok (.iaload, 1) := by decide +kernel
theorem wd_1266 : Cond.methodLink "LearnLoansLaw" 143 yX8_tried ∈ am_ws := am_wsi (List.mem_of_getElem? (i := 1266) (by decide +kernel)) (by decide +kernel)
theorem wd_1267 : Cond.instanceMethod yX8_tried ∈ am_ws := am_wsi (List.mem_of_getElem? (i := 1267) (by decide +kernel)) (by decide +kernel)
theorem wd_1268 : Cond.selects "LearnLoansModel" yX8_tried yX8_tried ∈ am_ws := am_wsi (List.mem_of_getElem? (i := 1268) (by decide +kernel)) (by decide +kernel)
theorem wd_1269 : Cond.code yX8_tried cX8_tried 6 (some .long) ∈ am_ws := am_wsi (List.mem_of_getElem? (i := 1269) (by decide +kernel)) (by decide +kernel)
theorem dL_law_1614 : decode cL_law 1614 = .ok (.invokevirtual 143, 3) := by decide +kernel
theorem dL_law_1617 : decode cL_law 1617 = .ok (.lcmp, 1) := by decide +kernel
theorem dL_law_1618 : decode cL_law 1618 = .ok (.ifCond .eq 231, 3) := by decide +kernel
def kL_c29 (Ln : Nat) (xs : Nat → Int32) : an_code := [(1559, an_lf (fun live => am_aload 1 1560)), (1560, an_lf (fun live => am_aload 0 1561)), (1561, an_lf (fun live => am_iload 3 1562)), (1562, an_lf (fun live => am_const (.int 1) 1563)), (1563, an_lf (fun live => am_i2 (fun x y => x + y) 1564)), (1564, an_sld Ln xs 1565), (1565, an_lf (fun live => am_aload 0 1566)), (1566, an_lf (fun live => am_iload 3 1567)), (1567, an_lf (fun live => am_const (.int 2) 1568)), (1568, an_lf (fun live => am_i2 (fun x y => x + y) 1569)), (1569, an_sld Ln xs 1570), (1570, an_lf (fun live => am_aload 0 1571)), (1571, an_lf (fun live => am_iload 3 1572)), (1572, an_lf (fun live => am_const (.int 3) 1573)), (1573, an_lf (fun live => am_i2 (fun x y => x + y) 1574)), (1574, an_sld Ln xs 1575), (1575, an_lf (fun live => am_aload 0 1576)), (1576, an_lf (fun live => am_iload 3 1577)), (1577, an_lf (fun live => am_const (.int 4) 1578)), (1578, an_lf (fun live => am_i2 (fun x y => x + y) 1579)), (1579, an_sld Ln xs 1580), (1580, an_lf (fun live => am_aload 0 1581)), (1581, an_lf (fun live => am_iload 3 1582)), (1582, an_lf (fun live => am_const (.int 5) 1583)), (1583, an_lf (fun live => am_i2 (fun x y => x + y) 1584)), (1584, an_sld Ln xs 1585), (1585, an_lf (fun live => am_callV live 7 5 TX7_tried 1588)), (1588, an_lf (fun live => am_aload 2 1589)), (1589, an_lf (fun live => am_aload 0 1590)), (1590, an_lf (fun live => am_iload 3 1591)), (1591, an_lf (fun live => am_const (.int 1) 1592)), (1592, an_lf (fun live => am_i2 (fun x y => x + y) 1593)), (1593, an_sld Ln xs 1594), (1594, an_lf (fun live => am_aload 0 1595)), (1595, an_lf (fun live => am_iload 3 1596)), (1596, an_lf (fun live => am_const (.int 2) 1597)), (1597, an_lf (fun live => am_i2 (fun x y => x + y) 1598)), (1598, an_sld Ln xs 1599), (1599, an_lf (fun live => am_aload 0 1600)), (1600, an_lf (fun live => am_iload 3 1601)), (1601, an_lf (fun live => am_const (.int 3) 1602)), (1602, an_lf (fun live => am_i2 (fun x y => x + y) 1603)), (1603, an_sld Ln xs 1604), (1604, an_lf (fun live => am_aload 0 1605)), (1605, an_lf (fun live => am_iload 3 1606)), (1606, an_lf (fun live => am_const (.int 4) 1607)), (1607, an_lf (fun live => am_i2 (fun x y => x + y) 1608)), (1608, an_sld Ln xs 1609), (1609, an_lf (fun live => am_aload 0 1610)), (1610, an_lf (fun live => am_iload 3 1611)), (1611, an_lf (fun live => am_const (.int 5) 1612)), (1612, an_lf (fun live => am_i2 (fun x y => x + y) 1613)), (1613, an_sld Ln xs 1614), (1614, an_lf (fun live => am_callV live 8 5 TX8_tried 1617)), (1617, an_lf (fun live => am_lcmp 1618)), (1618, an_lf (fun live => am_if1 (fun x => x = 0) 1849 1621))]
theorem koL_c29 (Ln : Nat) (xs : Nat → Int32) : ∀ q ∈ kL_c29 Ln xs, an_ok RL cL_law 4 (some .boolean) 2000 80000 600000 7302250 false (lawP Ln xs) an_noR q.1 q.2 :=
  an_kc (an_lift (fun live => ak_aload_n dL_law_1559 rfl rfl)) <|
  an_kc (an_lift (fun live => ak_aload_n dL_law_1560 rfl rfl)) <|
  an_kc (an_lift (fun live => ak_iload_n dL_law_1561 rfl rfl)) <|
  an_kc (an_lift (fun live => ak_iconst dL_law_1562 (by decide +kernel) rfl)) <|
  an_kc (an_lift (fun live => ak_iadd dL_law_1563 rfl)) <|
  an_kc (nk_sld dL_law_1564 rfl) <|
  an_kc (an_lift (fun live => ak_aload_n dL_law_1565 rfl rfl)) <|
  an_kc (an_lift (fun live => ak_iload_n dL_law_1566 rfl rfl)) <|
  an_kc (an_lift (fun live => ak_iconst dL_law_1567 (by decide +kernel) rfl)) <|
  an_kc (an_lift (fun live => ak_iadd dL_law_1568 rfl)) <|
  an_kc (nk_sld dL_law_1569 rfl) <|
  an_kc (an_lift (fun live => ak_aload_n dL_law_1570 rfl rfl)) <|
  an_kc (an_lift (fun live => ak_iload_n dL_law_1571 rfl rfl)) <|
  an_kc (an_lift (fun live => ak_iconst dL_law_1572 (by decide +kernel) rfl)) <|
  an_kc (an_lift (fun live => ak_iadd dL_law_1573 rfl)) <|
  an_kc (nk_sld dL_law_1574 rfl) <|
  an_kc (an_lift (fun live => ak_aload_n dL_law_1575 rfl rfl)) <|
  an_kc (an_lift (fun live => ak_iload_n dL_law_1576 rfl rfl)) <|
  an_kc (an_lift (fun live => ak_iconst dL_law_1577 (by decide +kernel) rfl)) <|
  an_kc (an_lift (fun live => ak_iadd dL_law_1578 rfl)) <|
  an_kc (nk_sld dL_law_1579 rfl) <|
  an_kc (an_lift (fun live => ak_aload_n dL_law_1580 rfl rfl)) <|
  an_kc (an_lift (fun live => ak_iload_n dL_law_1581 rfl rfl)) <|
  an_kc (an_lift (fun live => ak_iconst dL_law_1582 (by decide +kernel) rfl)) <|
  an_kc (an_lift (fun live => ak_iadd dL_law_1583 rfl)) <|
  an_kc (nk_sld dL_law_1584 rfl) <|
  an_kc (an_lift (fun live => ak_callV (C := RX7) (F := TX7) (N := 4) metX7_tried rfl ⟨rfl, by decide +kernel, by decide +kernel, by decide +kernel⟩ (am_w5 wd_800 wd_801 wd_802 wd_58 wd_803) (by decide) dL_law_1585 rfl)) <|
  an_kc (an_lift (fun live => ak_aload_n dL_law_1588 rfl rfl)) <|
  an_kc (an_lift (fun live => ak_aload_n dL_law_1589 rfl rfl)) <|
  an_kc (an_lift (fun live => ak_iload_n dL_law_1590 rfl rfl)) <|
  an_kc (an_lift (fun live => ak_iconst dL_law_1591 (by decide +kernel) rfl)) <|
  an_kc (an_lift (fun live => ak_iadd dL_law_1592 rfl)) <|
  an_kc (nk_sld dL_law_1593 rfl) <|
  an_kc (an_lift (fun live => ak_aload_n dL_law_1594 rfl rfl)) <|
  an_kc (an_lift (fun live => ak_iload_n dL_law_1595 rfl rfl)) <|
  an_kc (an_lift (fun live => ak_iconst dL_law_1596 (by decide +kernel) rfl)) <|
  an_kc (an_lift (fun live => ak_iadd dL_law_1597 rfl)) <|
  an_kc (nk_sld dL_law_1598 rfl) <|
  an_kc (an_lift (fun live => ak_aload_n dL_law_1599 rfl rfl)) <|
  an_kc (an_lift (fun live => ak_iload_n dL_law_1600 rfl rfl)) <|
  an_kc (an_lift (fun live => ak_iconst dL_law_1601 (by decide +kernel) rfl)) <|
  an_kc (an_lift (fun live => ak_iadd dL_law_1602 rfl)) <|
  an_kc (nk_sld dL_law_1603 rfl) <|
  an_kc (an_lift (fun live => ak_aload_n dL_law_1604 rfl rfl)) <|
  an_kc (an_lift (fun live => ak_iload_n dL_law_1605 rfl rfl)) <|
  an_kc (an_lift (fun live => ak_iconst dL_law_1606 (by decide +kernel) rfl)) <|
  an_kc (an_lift (fun live => ak_iadd dL_law_1607 rfl)) <|
  an_kc (nk_sld dL_law_1608 rfl) <|
  an_kc (an_lift (fun live => ak_aload_n dL_law_1609 rfl rfl)) <|
  an_kc (an_lift (fun live => ak_iload_n dL_law_1610 rfl rfl)) <|
  an_kc (an_lift (fun live => ak_iconst dL_law_1611 (by decide +kernel) rfl)) <|
  an_kc (an_lift (fun live => ak_iadd dL_law_1612 rfl)) <|
  an_kc (nk_sld dL_law_1613 rfl) <|
  an_kc (an_lift (fun live => ak_callV (C := RX8) (F := TX8) (N := 27) metX8_tried rfl ⟨rfl, by decide +kernel, by decide +kernel, by decide +kernel⟩ (am_w5 wd_1266 wd_1267 wd_1268 wd_67 wd_1269) (by decide) dL_law_1614 rfl)) <|
  an_kc (an_lift (fun live => ak_lcmp dL_law_1617 rfl)) <|
  an_kc (an_lift (fun live => ak_if_eq dL_law_1618 (by decide +kernel) rfl)) <| an_kn
set_option maxRecDepth 100000 in
set_option maxHeartbeats 4000000 in
theorem caseL_c29 (xs : Nat → Int32) : an_wp (kL_c29 8 xs) lawC 200 (an_go (kL_c29 8 xs) 1559) lawL [] lawX := by
    have f7 := an_Mf7
    have f8 := an_Mf8
    repeat' (first | (with_reducible exact f7) | (with_reducible exact f8) | apply And.intro | exact rfl | (intro hx; with_reducible exact absurd rfl hx) | (intro hx; with_reducible exact absurd ((lg_cmp_eq _ _).mpr rfl) hx) | (intro hx; exact absurd hx (by decide)) | (intro hx; exact absurd (by decide) hx) | decide | intro hx | (refine Exists.intro _ (And.intro rfl ?_)))
    all_goals try first | (with_reducible change am_tI _ _) | (change Ret _ _) | (change Ret _ _ _) | (change Exists _)
    all_goals try dsimp only at *
    all_goals try exact absurd ‹(1000 : Int64) = 0› (by decide)
    all_goals first
      | exact ⟨_, _, rfl⟩
      | exact f8.lo ‹am_ch am_lo _ _›
      | exact (f8.lo ‹am_ch am_lo _ _›).1 _ ‹_›
      | exact (f8.lo ‹am_ch am_lo _ _›).2.1 _ ‹_›
      | exact (f8.lo ‹am_ch am_lo _ _›).2.2.1 _ ‹_›
      | exact (f8.lo ‹am_ch am_lo _ _›).2.2.2.1 _ ‹_›
      | exact (f8.lo ‹am_ch am_lo _ _›).2.2.2.2 _ ‹_›
      | exact (f8.hi ‹∀ a k, 200 ≤ a → _›).1 _ ‹_›
      | exact (f8.hi ‹∀ a k, 200 ≤ a → _›).2.1 _ ‹_›
      | exact (f8.hi ‹∀ a k, 200 ≤ a → _›).2.2.1 _ ‹_›
      | exact (f8.hi ‹∀ a k, 200 ≤ a → _›).2.2.2.1 _ ‹_›
      | exact (f8.hi ‹∀ a k, 200 ≤ a → _›).2.2.2.2 _ ‹_›
      | decide
theorem dL_law_1623 : decode cL_law 1623 = .ok (.aload_n 1, 1) := by decide +kernel
theorem dL_law_1624 : decode cL_law 1624 = .ok (.aload_n 0, 1) := by decide +kernel
theorem dL_law_1625 : decode cL_law 1625 = .ok (.iload_n 3, 1) := by decide +kernel
theorem dL_law_1626 : decode cL_law 1626 = .ok (.iconst 1, 1) := by decide +kernel
theorem dL_law_1627 : decode cL_law 1627 = .ok (.iadd, 1) := by decide +kernel
theorem dL_law_1628 : decode cL_law 1628 = .ok (.iaload, 1) := by decide +kernel
theorem wd_812 : Cond.methodLink "LearnLoansLaw" 144 yX7_tell ∈ am_ws := am_wsi (List.mem_of_getElem? (i := 812) (by decide +kernel)) (by decide +kernel)
theorem wd_813 : Cond.instanceMethod yX7_tell ∈ am_ws := am_wsi (List.mem_of_getElem? (i := 813) (by decide +kernel)) (by decide +kernel)
theorem wd_814 : Cond.selects "LearnLoans" yX7_tell yX7_tell ∈ am_ws := am_wsi (List.mem_of_getElem? (i := 814) (by decide +kernel)) (by decide +kernel)
theorem wd_815 : Cond.code yX7_tell cX7_tell 2 (some .int) ∈ am_ws := am_wsi (List.mem_of_getElem? (i := 815) (by decide +kernel)) (by decide +kernel)
theorem dL_law_1629 : decode cL_law 1629 = .ok (.invokevirtual 144, 3) := by decide +kernel
theorem dL_law_1632 : decode cL_law 1632 = .ok (.aload_n 2, 1) := by decide +kernel
theorem dL_law_1633 : decode cL_law 1633 = .ok (.aload_n 0, 1) := by decide +kernel
theorem dL_law_1634 : decode cL_law 1634 = .ok (.iload_n 3, 1) := by decide +kernel
theorem dL_law_1635 : decode cL_law 1635 = .ok (.iconst 1, 1) := by decide +kernel
theorem dL_law_1636 : decode cL_law 1636 = .ok (.iadd, 1) := by decide +kernel
theorem dL_law_1637 : decode cL_law 1637 = .ok (.iaload, 1) := by decide +kernel
theorem wd_1274 : Cond.methodLink "LearnLoansLaw" 147 yX8_tell ∈ am_ws := am_wsi (List.mem_of_getElem? (i := 1274) (by decide +kernel)) (by decide +kernel)
theorem wd_1275 : Cond.instanceMethod yX8_tell ∈ am_ws := am_wsi (List.mem_of_getElem? (i := 1275) (by decide +kernel)) (by decide +kernel)
theorem wd_1276 : Cond.selects "LearnLoansModel" yX8_tell yX8_tell ∈ am_ws := am_wsi (List.mem_of_getElem? (i := 1276) (by decide +kernel)) (by decide +kernel)
theorem wd_1277 : Cond.code yX8_tell cX8_tell 2 (some .int) ∈ am_ws := am_wsi (List.mem_of_getElem? (i := 1277) (by decide +kernel)) (by decide +kernel)
theorem dL_law_1638 : decode cL_law 1638 = .ok (.invokevirtual 147, 3) := by decide +kernel
theorem dL_law_1641 : decode cL_law 1641 = .ok (.if_icmp .eq 208, 3) := by decide +kernel
def kL_c30 (Ln : Nat) (xs : Nat → Int32) : an_code := [(1623, an_lf (fun live => am_aload 1 1624)), (1624, an_lf (fun live => am_aload 0 1625)), (1625, an_lf (fun live => am_iload 3 1626)), (1626, an_lf (fun live => am_const (.int 1) 1627)), (1627, an_lf (fun live => am_i2 (fun x y => x + y) 1628)), (1628, an_sld Ln xs 1629), (1629, an_lf (fun live => am_callV live 7 1 TX7_tell 1632)), (1632, an_lf (fun live => am_aload 2 1633)), (1633, an_lf (fun live => am_aload 0 1634)), (1634, an_lf (fun live => am_iload 3 1635)), (1635, an_lf (fun live => am_const (.int 1) 1636)), (1636, an_lf (fun live => am_i2 (fun x y => x + y) 1637)), (1637, an_sld Ln xs 1638), (1638, an_lf (fun live => am_callV live 8 1 TX8_tell 1641)), (1641, an_lf (fun live => am_if2 (fun x y => x = y) 1849 1644))]
theorem koL_c30 (Ln : Nat) (xs : Nat → Int32) : ∀ q ∈ kL_c30 Ln xs, an_ok RL cL_law 4 (some .boolean) 2000 80000 600000 7302250 false (lawP Ln xs) an_noR q.1 q.2 :=
  an_kc (an_lift (fun live => ak_aload_n dL_law_1623 rfl rfl)) <|
  an_kc (an_lift (fun live => ak_aload_n dL_law_1624 rfl rfl)) <|
  an_kc (an_lift (fun live => ak_iload_n dL_law_1625 rfl rfl)) <|
  an_kc (an_lift (fun live => ak_iconst dL_law_1626 (by decide +kernel) rfl)) <|
  an_kc (an_lift (fun live => ak_iadd dL_law_1627 rfl)) <|
  an_kc (nk_sld dL_law_1628 rfl) <|
  an_kc (an_lift (fun live => ak_callV (C := RX7) (F := TX7) (N := 4) metX7_tell rfl ⟨rfl, by decide +kernel, by decide +kernel, by decide +kernel⟩ (am_w5 wd_812 wd_813 wd_814 wd_58 wd_815) (by decide) dL_law_1629 rfl)) <|
  an_kc (an_lift (fun live => ak_aload_n dL_law_1632 rfl rfl)) <|
  an_kc (an_lift (fun live => ak_aload_n dL_law_1633 rfl rfl)) <|
  an_kc (an_lift (fun live => ak_iload_n dL_law_1634 rfl rfl)) <|
  an_kc (an_lift (fun live => ak_iconst dL_law_1635 (by decide +kernel) rfl)) <|
  an_kc (an_lift (fun live => ak_iadd dL_law_1636 rfl)) <|
  an_kc (nk_sld dL_law_1637 rfl) <|
  an_kc (an_lift (fun live => ak_callV (C := RX8) (F := TX8) (N := 27) metX8_tell rfl ⟨rfl, by decide +kernel, by decide +kernel, by decide +kernel⟩ (am_w5 wd_1274 wd_1275 wd_1276 wd_67 wd_1277) (by decide) dL_law_1638 rfl)) <|
  an_kc (an_lift (fun live => ak_icmp_eq dL_law_1641 (by decide +kernel) rfl)) <| an_kn
set_option maxRecDepth 100000 in
set_option maxHeartbeats 4000000 in
theorem caseL_c30 (xs : Nat → Int32) : an_wp (kL_c30 8 xs) lawC 200 (an_go (kL_c30 8 xs) 1623) lawL [] lawX := by
    have f7 := an_Mf7
    have f8 := an_Mf8
    repeat' (first | (with_reducible exact f7) | (with_reducible exact f8) | apply And.intro | exact rfl | (intro hx; with_reducible exact absurd rfl hx) | (intro hx; with_reducible exact absurd ((lg_cmp_eq _ _).mpr rfl) hx) | (intro hx; exact absurd hx (by decide)) | (intro hx; exact absurd (by decide) hx) | decide | intro hx | (refine Exists.intro _ (And.intro rfl ?_)))
    all_goals try first | (with_reducible change am_tI _ _) | (change Ret _ _) | (change Ret _ _ _) | (change Exists _)
    all_goals try dsimp only at *
    all_goals try exact absurd ‹(1000 : Int64) = 0› (by decide)
    all_goals first
      | exact ⟨_, _, rfl⟩
      | exact f8.lo ‹am_ch am_lo _ _›
      | exact (f8.lo ‹am_ch am_lo _ _›).1 _ ‹_›
      | exact (f8.lo ‹am_ch am_lo _ _›).2.1 _ ‹_›
      | exact (f8.lo ‹am_ch am_lo _ _›).2.2.1 _ ‹_›
      | exact (f8.lo ‹am_ch am_lo _ _›).2.2.2.1 _ ‹_›
      | exact (f8.lo ‹am_ch am_lo _ _›).2.2.2.2 _ ‹_›
      | exact (f8.hi ‹∀ a k, 200 ≤ a → _›).1 _ ‹_›
      | exact (f8.hi ‹∀ a k, 200 ≤ a → _›).2.1 _ ‹_›
      | exact (f8.hi ‹∀ a k, 200 ≤ a → _›).2.2.1 _ ‹_›
      | exact (f8.hi ‹∀ a k, 200 ≤ a → _›).2.2.2.1 _ ‹_›
      | exact (f8.hi ‹∀ a k, 200 ≤ a → _›).2.2.2.2 _ ‹_›
      | decide
theorem dL_law_1646 : decode cL_law 1646 = .ok (.aload_n 1, 1) := by decide +kernel
theorem wd_816 : Cond.methodLink "LearnLoansLaw" 148 yX7_untell ∈ am_ws := am_wsi (List.mem_of_getElem? (i := 816) (by decide +kernel)) (by decide +kernel)
theorem wd_817 : Cond.instanceMethod yX7_untell ∈ am_ws := am_wsi (List.mem_of_getElem? (i := 817) (by decide +kernel)) (by decide +kernel)
theorem wd_818 : Cond.selects "LearnLoans" yX7_untell yX7_untell ∈ am_ws := am_wsi (List.mem_of_getElem? (i := 818) (by decide +kernel)) (by decide +kernel)
theorem wd_819 : Cond.code yX7_untell cX7_untell 2 (some .int) ∈ am_ws := am_wsi (List.mem_of_getElem? (i := 819) (by decide +kernel)) (by decide +kernel)
theorem dL_law_1647 : decode cL_law 1647 = .ok (.invokevirtual 148, 3) := by decide +kernel
theorem dL_law_1650 : decode cL_law 1650 = .ok (.aload_n 2, 1) := by decide +kernel
theorem wd_1278 : Cond.methodLink "LearnLoansLaw" 152 yX8_untell ∈ am_ws := am_wsi (List.mem_of_getElem? (i := 1278) (by decide +kernel)) (by decide +kernel)
theorem wd_1279 : Cond.instanceMethod yX8_untell ∈ am_ws := am_wsi (List.mem_of_getElem? (i := 1279) (by decide +kernel)) (by decide +kernel)
theorem wd_1280 : Cond.selects "LearnLoansModel" yX8_untell yX8_untell ∈ am_ws := am_wsi (List.mem_of_getElem? (i := 1280) (by decide +kernel)) (by decide +kernel)
theorem wd_1281 : Cond.code yX8_untell cX8_untell 2 (some .int) ∈ am_ws := am_wsi (List.mem_of_getElem? (i := 1281) (by decide +kernel)) (by decide +kernel)
theorem dL_law_1651 : decode cL_law 1651 = .ok (.invokevirtual 152, 3) := by decide +kernel
theorem dL_law_1654 : decode cL_law 1654 = .ok (.if_icmp .eq 195, 3) := by decide +kernel
def kL_c31 (Ln : Nat) (xs : Nat → Int32) : an_code := [(1646, an_lf (fun live => am_aload 1 1647)), (1647, an_lf (fun live => am_callV live 7 0 TX7_untell 1650)), (1650, an_lf (fun live => am_aload 2 1651)), (1651, an_lf (fun live => am_callV live 8 0 TX8_untell 1654)), (1654, an_lf (fun live => am_if2 (fun x y => x = y) 1849 1657))]
theorem koL_c31 (Ln : Nat) (xs : Nat → Int32) : ∀ q ∈ kL_c31 Ln xs, an_ok RL cL_law 4 (some .boolean) 2000 80000 600000 7302250 false (lawP Ln xs) an_noR q.1 q.2 :=
  an_kc (an_lift (fun live => ak_aload_n dL_law_1646 rfl rfl)) <|
  an_kc (an_lift (fun live => ak_callV (C := RX7) (F := TX7) (N := 4) metX7_untell rfl ⟨rfl, by decide +kernel, by decide +kernel, by decide +kernel⟩ (am_w5 wd_816 wd_817 wd_818 wd_58 wd_819) (by decide) dL_law_1647 rfl)) <|
  an_kc (an_lift (fun live => ak_aload_n dL_law_1650 rfl rfl)) <|
  an_kc (an_lift (fun live => ak_callV (C := RX8) (F := TX8) (N := 27) metX8_untell rfl ⟨rfl, by decide +kernel, by decide +kernel, by decide +kernel⟩ (am_w5 wd_1278 wd_1279 wd_1280 wd_67 wd_1281) (by decide) dL_law_1651 rfl)) <|
  an_kc (an_lift (fun live => ak_icmp_eq dL_law_1654 (by decide +kernel) rfl)) <| an_kn
set_option maxRecDepth 100000 in
set_option maxHeartbeats 4000000 in
theorem caseL_c31 (xs : Nat → Int32) : an_wp (kL_c31 8 xs) lawC 200 (an_go (kL_c31 8 xs) 1646) lawL [] lawX := by
    have f7 := an_Mf7
    have f8 := an_Mf8
    repeat' (first | (with_reducible exact f7) | (with_reducible exact f8) | apply And.intro | exact rfl | (intro hx; with_reducible exact absurd rfl hx) | (intro hx; with_reducible exact absurd ((lg_cmp_eq _ _).mpr rfl) hx) | (intro hx; exact absurd hx (by decide)) | (intro hx; exact absurd (by decide) hx) | decide | intro hx | (refine Exists.intro _ (And.intro rfl ?_)))
    all_goals try first | (with_reducible change am_tI _ _) | (change Ret _ _) | (change Ret _ _ _) | (change Exists _)
    all_goals try dsimp only at *
    all_goals try exact absurd ‹(1000 : Int64) = 0› (by decide)
    all_goals first
      | exact ⟨_, _, rfl⟩
      | exact f8.lo ‹am_ch am_lo _ _›
      | exact (f8.lo ‹am_ch am_lo _ _›).1 _ ‹_›
      | exact (f8.lo ‹am_ch am_lo _ _›).2.1 _ ‹_›
      | exact (f8.lo ‹am_ch am_lo _ _›).2.2.1 _ ‹_›
      | exact (f8.lo ‹am_ch am_lo _ _›).2.2.2.1 _ ‹_›
      | exact (f8.lo ‹am_ch am_lo _ _›).2.2.2.2 _ ‹_›
      | exact (f8.hi ‹∀ a k, 200 ≤ a → _›).1 _ ‹_›
      | exact (f8.hi ‹∀ a k, 200 ≤ a → _›).2.1 _ ‹_›
      | exact (f8.hi ‹∀ a k, 200 ≤ a → _›).2.2.1 _ ‹_›
      | exact (f8.hi ‹∀ a k, 200 ≤ a → _›).2.2.2.1 _ ‹_›
      | exact (f8.hi ‹∀ a k, 200 ≤ a → _›).2.2.2.2 _ ‹_›
      | decide
theorem dL_law_1659 : decode cL_law 1659 = .ok (.aload_n 1, 1) := by decide +kernel
theorem dL_law_1660 : decode cL_law 1660 = .ok (.aload_n 0, 1) := by decide +kernel
theorem dL_law_1661 : decode cL_law 1661 = .ok (.iload_n 3, 1) := by decide +kernel
theorem dL_law_1662 : decode cL_law 1662 = .ok (.iconst 1, 1) := by decide +kernel
theorem dL_law_1663 : decode cL_law 1663 = .ok (.iadd, 1) := by decide +kernel
theorem dL_law_1664 : decode cL_law 1664 = .ok (.iaload, 1) := by decide +kernel
theorem dL_law_1665 : decode cL_law 1665 = .ok (.aload_n 0, 1) := by decide +kernel
theorem dL_law_1666 : decode cL_law 1666 = .ok (.iload_n 3, 1) := by decide +kernel
theorem dL_law_1667 : decode cL_law 1667 = .ok (.iconst 2, 1) := by decide +kernel
theorem dL_law_1668 : decode cL_law 1668 = .ok (.iadd, 1) := by decide +kernel
theorem dL_law_1669 : decode cL_law 1669 = .ok (.iaload, 1) := by decide +kernel
theorem dL_law_1670 : decode cL_law 1670 = .ok (.aload_n 0, 1) := by decide +kernel
theorem dL_law_1671 : decode cL_law 1671 = .ok (.iload_n 3, 1) := by decide +kernel
theorem dL_law_1672 : decode cL_law 1672 = .ok (.iconst 3, 1) := by decide +kernel
theorem dL_law_1673 : decode cL_law 1673 = .ok (.iadd, 1) := by decide +kernel
theorem dL_law_1674 : decode cL_law 1674 = .ok (.iaload, 1) := by decide +kernel
theorem dL_law_1675 : decode cL_law 1675 = .ok (.aload_n 0, 1) := by decide +kernel
theorem dL_law_1676 : decode cL_law 1676 = .ok (.iload_n 3, 1) := by decide +kernel
theorem dL_law_1677 : decode cL_law 1677 = .ok (.iconst 4, 1) := by decide +kernel
theorem dL_law_1678 : decode cL_law 1678 = .ok (.iadd, 1) := by decide +kernel
theorem dL_law_1679 : decode cL_law 1679 = .ok (.iaload, 1) := by decide +kernel
theorem dL_law_1680 : decode cL_law 1680 = .ok (.aload_n 0, 1) := by decide +kernel
theorem dL_law_1681 : decode cL_law 1681 = .ok (.iload_n 3, 1) := by decide +kernel
theorem dL_law_1682 : decode cL_law 1682 = .ok (.iconst 5, 1) := by decide +kernel
theorem dL_law_1683 : decode cL_law 1683 = .ok (.iadd, 1) := by decide +kernel
theorem dL_law_1684 : decode cL_law 1684 = .ok (.iaload, 1) := by decide +kernel
theorem dL_law_1685 : decode cL_law 1685 = .ok (.aload_n 0, 1) := by decide +kernel
theorem dL_law_1686 : decode cL_law 1686 = .ok (.iload_n 3, 1) := by decide +kernel
theorem dL_law_1687 : decode cL_law 1687 = .ok (.bipush 6, 2) := by decide +kernel
theorem dL_law_1689 : decode cL_law 1689 = .ok (.iadd, 1) := by decide +kernel
theorem dL_law_1690 : decode cL_law 1690 = .ok (.iaload, 1) := by decide +kernel
theorem dL_law_1691 : decode cL_law 1691 = .ok (.i2l, 1) := by decide +kernel
theorem dL_law_1692 : decode cL_law 1692 = .ok (.bipush 32, 2) := by decide +kernel
theorem dL_law_1694 : decode cL_law 1694 = .ok (.lshl, 1) := by decide +kernel
theorem dL_law_1695 : decode cL_law 1695 = .ok (.aload_n 0, 1) := by decide +kernel
theorem dL_law_1696 : decode cL_law 1696 = .ok (.iload_n 3, 1) := by decide +kernel
theorem dL_law_1697 : decode cL_law 1697 = .ok (.bipush 7, 2) := by decide +kernel
theorem dL_law_1699 : decode cL_law 1699 = .ok (.iadd, 1) := by decide +kernel
theorem dL_law_1700 : decode cL_law 1700 = .ok (.iaload, 1) := by decide +kernel
theorem dL_law_1701 : decode cL_law 1701 = .ok (.i2l, 1) := by decide +kernel
theorem wd_1307 : Cond.constantLong "LearnLoansLaw" 153 4294967295 ∈ am_ws := am_wsi (List.mem_of_getElem? (i := 1307) (by decide +kernel)) (by decide +kernel)
theorem dL_law_1702 : decode cL_law 1702 = .ok (.ldc2_w 153, 3) := by decide +kernel
theorem dL_law_1705 : decode cL_law 1705 = .ok (.land, 1) := by decide +kernel
theorem dL_law_1706 : decode cL_law 1706 = .ok (.lor, 1) := by decide +kernel
theorem wd_820 : Cond.methodLink "LearnLoansLaw" 155 yX7_best ∈ am_ws := am_wsi (List.mem_of_getElem? (i := 820) (by decide +kernel)) (by decide +kernel)
theorem wd_821 : Cond.instanceMethod yX7_best ∈ am_ws := am_wsi (List.mem_of_getElem? (i := 821) (by decide +kernel)) (by decide +kernel)
theorem wd_822 : Cond.selects "LearnLoans" yX7_best yX7_best ∈ am_ws := am_wsi (List.mem_of_getElem? (i := 822) (by decide +kernel)) (by decide +kernel)
theorem wd_823 : Cond.code yX7_best cX7_best 12 (some .int) ∈ am_ws := am_wsi (List.mem_of_getElem? (i := 823) (by decide +kernel)) (by decide +kernel)
theorem dL_law_1707 : decode cL_law 1707 = .ok (.invokevirtual 155, 3) := by decide +kernel
theorem dL_law_1710 : decode cL_law 1710 = .ok (.aload_n 2, 1) := by decide +kernel
theorem dL_law_1711 : decode cL_law 1711 = .ok (.aload_n 0, 1) := by decide +kernel
theorem dL_law_1712 : decode cL_law 1712 = .ok (.iload_n 3, 1) := by decide +kernel
theorem dL_law_1713 : decode cL_law 1713 = .ok (.iconst 1, 1) := by decide +kernel
theorem dL_law_1714 : decode cL_law 1714 = .ok (.iadd, 1) := by decide +kernel
theorem dL_law_1715 : decode cL_law 1715 = .ok (.iaload, 1) := by decide +kernel
theorem dL_law_1716 : decode cL_law 1716 = .ok (.aload_n 0, 1) := by decide +kernel
theorem dL_law_1717 : decode cL_law 1717 = .ok (.iload_n 3, 1) := by decide +kernel
theorem dL_law_1718 : decode cL_law 1718 = .ok (.iconst 2, 1) := by decide +kernel
theorem dL_law_1719 : decode cL_law 1719 = .ok (.iadd, 1) := by decide +kernel
theorem dL_law_1720 : decode cL_law 1720 = .ok (.iaload, 1) := by decide +kernel
theorem dL_law_1721 : decode cL_law 1721 = .ok (.aload_n 0, 1) := by decide +kernel
theorem dL_law_1722 : decode cL_law 1722 = .ok (.iload_n 3, 1) := by decide +kernel
theorem dL_law_1723 : decode cL_law 1723 = .ok (.iconst 3, 1) := by decide +kernel
theorem dL_law_1724 : decode cL_law 1724 = .ok (.iadd, 1) := by decide +kernel
theorem dL_law_1725 : decode cL_law 1725 = .ok (.iaload, 1) := by decide +kernel
theorem dL_law_1726 : decode cL_law 1726 = .ok (.aload_n 0, 1) := by decide +kernel
theorem dL_law_1727 : decode cL_law 1727 = .ok (.iload_n 3, 1) := by decide +kernel
theorem dL_law_1728 : decode cL_law 1728 = .ok (.iconst 4, 1) := by decide +kernel
theorem dL_law_1729 : decode cL_law 1729 = .ok (.iadd, 1) := by decide +kernel
theorem dL_law_1730 : decode cL_law 1730 = .ok (.iaload, 1) := by decide +kernel
theorem dL_law_1731 : decode cL_law 1731 = .ok (.aload_n 0, 1) := by decide +kernel
theorem dL_law_1732 : decode cL_law 1732 = .ok (.iload_n 3, 1) := by decide +kernel
theorem dL_law_1733 : decode cL_law 1733 = .ok (.iconst 5, 1) := by decide +kernel
theorem dL_law_1734 : decode cL_law 1734 = .ok (.iadd, 1) := by decide +kernel
theorem dL_law_1735 : decode cL_law 1735 = .ok (.iaload, 1) := by decide +kernel
theorem dL_law_1736 : decode cL_law 1736 = .ok (.aload_n 0, 1) := by decide +kernel
theorem dL_law_1737 : decode cL_law 1737 = .ok (.iload_n 3, 1) := by decide +kernel
theorem dL_law_1738 : decode cL_law 1738 = .ok (.bipush 6, 2) := by decide +kernel
theorem dL_law_1740 : decode cL_law 1740 = .ok (.iadd, 1) := by decide +kernel
theorem dL_law_1741 : decode cL_law 1741 = .ok (.iaload, 1) := by decide +kernel
theorem dL_law_1742 : decode cL_law 1742 = .ok (.i2l, 1) := by decide +kernel
theorem dL_law_1743 : decode cL_law 1743 = .ok (.bipush 32, 2) := by decide +kernel
theorem dL_law_1745 : decode cL_law 1745 = .ok (.lshl, 1) := by decide +kernel
theorem dL_law_1746 : decode cL_law 1746 = .ok (.aload_n 0, 1) := by decide +kernel
theorem dL_law_1747 : decode cL_law 1747 = .ok (.iload_n 3, 1) := by decide +kernel
theorem dL_law_1748 : decode cL_law 1748 = .ok (.bipush 7, 2) := by decide +kernel
theorem dL_law_1750 : decode cL_law 1750 = .ok (.iadd, 1) := by decide +kernel
theorem dL_law_1751 : decode cL_law 1751 = .ok (.iaload, 1) := by decide +kernel
theorem dL_law_1752 : decode cL_law 1752 = .ok (.i2l, 1) := by decide +kernel
theorem dL_law_1753 : decode cL_law 1753 = .ok (.ldc2_w 153, 3) := by decide +kernel
theorem dL_law_1756 : decode cL_law 1756 = .ok (.land, 1) := by decide +kernel
theorem dL_law_1757 : decode cL_law 1757 = .ok (.lor, 1) := by decide +kernel
theorem wd_1282 : Cond.methodLink "LearnLoansLaw" 159 yX8_best ∈ am_ws := am_wsi (List.mem_of_getElem? (i := 1282) (by decide +kernel)) (by decide +kernel)
theorem wd_1283 : Cond.instanceMethod yX8_best ∈ am_ws := am_wsi (List.mem_of_getElem? (i := 1283) (by decide +kernel)) (by decide +kernel)
theorem wd_1284 : Cond.selects "LearnLoansModel" yX8_best yX8_best ∈ am_ws := am_wsi (List.mem_of_getElem? (i := 1284) (by decide +kernel)) (by decide +kernel)
theorem wd_1285 : Cond.code yX8_best cX8_best 13 (some .int) ∈ am_ws := am_wsi (List.mem_of_getElem? (i := 1285) (by decide +kernel)) (by decide +kernel)
theorem dL_law_1758 : decode cL_law 1758 = .ok (.invokevirtual 159, 3) := by decide +kernel
theorem dL_law_1761 : decode cL_law 1761 = .ok (.if_icmp .eq 88, 3) := by decide +kernel
def kL_c32 (Ln : Nat) (xs : Nat → Int32) : an_code := [(1659, an_lf (fun live => am_aload 1 1660)), (1660, an_lf (fun live => am_aload 0 1661)), (1661, an_lf (fun live => am_iload 3 1662)), (1662, an_lf (fun live => am_const (.int 1) 1663)), (1663, an_lf (fun live => am_i2 (fun x y => x + y) 1664)), (1664, an_sld Ln xs 1665), (1665, an_lf (fun live => am_aload 0 1666)), (1666, an_lf (fun live => am_iload 3 1667)), (1667, an_lf (fun live => am_const (.int 2) 1668)), (1668, an_lf (fun live => am_i2 (fun x y => x + y) 1669)), (1669, an_sld Ln xs 1670), (1670, an_lf (fun live => am_aload 0 1671)), (1671, an_lf (fun live => am_iload 3 1672)), (1672, an_lf (fun live => am_const (.int 3) 1673)), (1673, an_lf (fun live => am_i2 (fun x y => x + y) 1674)), (1674, an_sld Ln xs 1675), (1675, an_lf (fun live => am_aload 0 1676)), (1676, an_lf (fun live => am_iload 3 1677)), (1677, an_lf (fun live => am_const (.int 4) 1678)), (1678, an_lf (fun live => am_i2 (fun x y => x + y) 1679)), (1679, an_sld Ln xs 1680), (1680, an_lf (fun live => am_aload 0 1681)), (1681, an_lf (fun live => am_iload 3 1682)), (1682, an_lf (fun live => am_const (.int 5) 1683)), (1683, an_lf (fun live => am_i2 (fun x y => x + y) 1684)), (1684, an_sld Ln xs 1685), (1685, an_lf (fun live => am_aload 0 1686)), (1686, an_lf (fun live => am_iload 3 1687)), (1687, an_lf (fun live => am_const (.int 6) 1689)), (1689, an_lf (fun live => am_i2 (fun x y => x + y) 1690)), (1690, an_sld Ln xs 1691), (1691, an_lf (fun live => am_i2l 1692)), (1692, an_lf (fun live => am_const (.int 32) 1694)), (1694, an_lf (fun live => am_lsh (fun x y => x <<< (y.toInt64 &&& 63)) 1695)), (1695, an_lf (fun live => am_aload 0 1696)), (1696, an_lf (fun live => am_iload 3 1697)), (1697, an_lf (fun live => am_const (.int 7) 1699)), (1699, an_lf (fun live => am_i2 (fun x y => x + y) 1700)), (1700, an_sld Ln xs 1701), (1701, an_lf (fun live => am_i2l 1702)), (1702, an_lf (fun live => am_const (.long 4294967295) 1705)), (1705, an_lf (fun live => am_l2 (fun x y => x &&& y) 1706)), (1706, an_lf (fun live => am_l2 (fun x y => x ||| y) 1707)), (1707, an_lf (fun live => am_callV live 7 6 TX7_best 1710)), (1710, an_lf (fun live => am_aload 2 1711)), (1711, an_lf (fun live => am_aload 0 1712)), (1712, an_lf (fun live => am_iload 3 1713)), (1713, an_lf (fun live => am_const (.int 1) 1714)), (1714, an_lf (fun live => am_i2 (fun x y => x + y) 1715)), (1715, an_sld Ln xs 1716), (1716, an_lf (fun live => am_aload 0 1717)), (1717, an_lf (fun live => am_iload 3 1718)), (1718, an_lf (fun live => am_const (.int 2) 1719)), (1719, an_lf (fun live => am_i2 (fun x y => x + y) 1720)), (1720, an_sld Ln xs 1721), (1721, an_lf (fun live => am_aload 0 1722)), (1722, an_lf (fun live => am_iload 3 1723)), (1723, an_lf (fun live => am_const (.int 3) 1724)), (1724, an_lf (fun live => am_i2 (fun x y => x + y) 1725)), (1725, an_sld Ln xs 1726), (1726, an_lf (fun live => am_aload 0 1727)), (1727, an_lf (fun live => am_iload 3 1728)), (1728, an_lf (fun live => am_const (.int 4) 1729)), (1729, an_lf (fun live => am_i2 (fun x y => x + y) 1730)), (1730, an_sld Ln xs 1731), (1731, an_lf (fun live => am_aload 0 1732)), (1732, an_lf (fun live => am_iload 3 1733)), (1733, an_lf (fun live => am_const (.int 5) 1734)), (1734, an_lf (fun live => am_i2 (fun x y => x + y) 1735)), (1735, an_sld Ln xs 1736), (1736, an_lf (fun live => am_aload 0 1737)), (1737, an_lf (fun live => am_iload 3 1738)), (1738, an_lf (fun live => am_const (.int 6) 1740)), (1740, an_lf (fun live => am_i2 (fun x y => x + y) 1741)), (1741, an_sld Ln xs 1742), (1742, an_lf (fun live => am_i2l 1743)), (1743, an_lf (fun live => am_const (.int 32) 1745)), (1745, an_lf (fun live => am_lsh (fun x y => x <<< (y.toInt64 &&& 63)) 1746)), (1746, an_lf (fun live => am_aload 0 1747)), (1747, an_lf (fun live => am_iload 3 1748)), (1748, an_lf (fun live => am_const (.int 7) 1750)), (1750, an_lf (fun live => am_i2 (fun x y => x + y) 1751)), (1751, an_sld Ln xs 1752), (1752, an_lf (fun live => am_i2l 1753)), (1753, an_lf (fun live => am_const (.long 4294967295) 1756)), (1756, an_lf (fun live => am_l2 (fun x y => x &&& y) 1757)), (1757, an_lf (fun live => am_l2 (fun x y => x ||| y) 1758)), (1758, an_lf (fun live => am_callV live 8 6 TX8_best 1761)), (1761, an_lf (fun live => am_if2 (fun x y => x = y) 1849 1764))]
theorem koL_c32 (Ln : Nat) (xs : Nat → Int32) : ∀ q ∈ kL_c32 Ln xs, an_ok RL cL_law 4 (some .boolean) 2000 80000 600000 7302250 false (lawP Ln xs) an_noR q.1 q.2 :=
  an_kc (an_lift (fun live => ak_aload_n dL_law_1659 rfl rfl)) <|
  an_kc (an_lift (fun live => ak_aload_n dL_law_1660 rfl rfl)) <|
  an_kc (an_lift (fun live => ak_iload_n dL_law_1661 rfl rfl)) <|
  an_kc (an_lift (fun live => ak_iconst dL_law_1662 (by decide +kernel) rfl)) <|
  an_kc (an_lift (fun live => ak_iadd dL_law_1663 rfl)) <|
  an_kc (nk_sld dL_law_1664 rfl) <|
  an_kc (an_lift (fun live => ak_aload_n dL_law_1665 rfl rfl)) <|
  an_kc (an_lift (fun live => ak_iload_n dL_law_1666 rfl rfl)) <|
  an_kc (an_lift (fun live => ak_iconst dL_law_1667 (by decide +kernel) rfl)) <|
  an_kc (an_lift (fun live => ak_iadd dL_law_1668 rfl)) <|
  an_kc (nk_sld dL_law_1669 rfl) <|
  an_kc (an_lift (fun live => ak_aload_n dL_law_1670 rfl rfl)) <|
  an_kc (an_lift (fun live => ak_iload_n dL_law_1671 rfl rfl)) <|
  an_kc (an_lift (fun live => ak_iconst dL_law_1672 (by decide +kernel) rfl)) <|
  an_kc (an_lift (fun live => ak_iadd dL_law_1673 rfl)) <|
  an_kc (nk_sld dL_law_1674 rfl) <|
  an_kc (an_lift (fun live => ak_aload_n dL_law_1675 rfl rfl)) <|
  an_kc (an_lift (fun live => ak_iload_n dL_law_1676 rfl rfl)) <|
  an_kc (an_lift (fun live => ak_iconst dL_law_1677 (by decide +kernel) rfl)) <|
  an_kc (an_lift (fun live => ak_iadd dL_law_1678 rfl)) <|
  an_kc (nk_sld dL_law_1679 rfl) <|
  an_kc (an_lift (fun live => ak_aload_n dL_law_1680 rfl rfl)) <|
  an_kc (an_lift (fun live => ak_iload_n dL_law_1681 rfl rfl)) <|
  an_kc (an_lift (fun live => ak_iconst dL_law_1682 (by decide +kernel) rfl)) <|
  an_kc (an_lift (fun live => ak_iadd dL_law_1683 rfl)) <|
  an_kc (nk_sld dL_law_1684 rfl) <|
  an_kc (an_lift (fun live => ak_aload_n dL_law_1685 rfl rfl)) <|
  an_kc (an_lift (fun live => ak_iload_n dL_law_1686 rfl rfl)) <|
  an_kc (an_lift (fun live => ak_bipush dL_law_1687 (by decide +kernel) rfl)) <|
  an_kc (an_lift (fun live => ak_iadd dL_law_1689 rfl)) <|
  an_kc (nk_sld dL_law_1690 rfl) <|
  an_kc (an_lift (fun live => ak_i2l dL_law_1691 rfl)) <|
  an_kc (an_lift (fun live => ak_bipush dL_law_1692 (by decide +kernel) rfl)) <|
  an_kc (an_lift (fun live => ak_lshl dL_law_1694 rfl)) <|
  an_kc (an_lift (fun live => ak_aload_n dL_law_1695 rfl rfl)) <|
  an_kc (an_lift (fun live => ak_iload_n dL_law_1696 rfl rfl)) <|
  an_kc (an_lift (fun live => ak_bipush dL_law_1697 (by decide +kernel) rfl)) <|
  an_kc (an_lift (fun live => ak_iadd dL_law_1699 rfl)) <|
  an_kc (nk_sld dL_law_1700 rfl) <|
  an_kc (an_lift (fun live => ak_i2l dL_law_1701 rfl)) <|
  an_kc (an_lift (fun live => ak_ldc2 wd_1307 dL_law_1702 rfl)) <|
  an_kc (an_lift (fun live => ak_land dL_law_1705 rfl)) <|
  an_kc (an_lift (fun live => ak_lor dL_law_1706 rfl)) <|
  an_kc (an_lift (fun live => ak_callV (C := RX7) (F := TX7) (N := 4) metX7_best rfl ⟨rfl, by decide +kernel, by decide +kernel, by decide +kernel⟩ (am_w5 wd_820 wd_821 wd_822 wd_58 wd_823) (by decide) dL_law_1707 rfl)) <|
  an_kc (an_lift (fun live => ak_aload_n dL_law_1710 rfl rfl)) <|
  an_kc (an_lift (fun live => ak_aload_n dL_law_1711 rfl rfl)) <|
  an_kc (an_lift (fun live => ak_iload_n dL_law_1712 rfl rfl)) <|
  an_kc (an_lift (fun live => ak_iconst dL_law_1713 (by decide +kernel) rfl)) <|
  an_kc (an_lift (fun live => ak_iadd dL_law_1714 rfl)) <|
  an_kc (nk_sld dL_law_1715 rfl) <|
  an_kc (an_lift (fun live => ak_aload_n dL_law_1716 rfl rfl)) <|
  an_kc (an_lift (fun live => ak_iload_n dL_law_1717 rfl rfl)) <|
  an_kc (an_lift (fun live => ak_iconst dL_law_1718 (by decide +kernel) rfl)) <|
  an_kc (an_lift (fun live => ak_iadd dL_law_1719 rfl)) <|
  an_kc (nk_sld dL_law_1720 rfl) <|
  an_kc (an_lift (fun live => ak_aload_n dL_law_1721 rfl rfl)) <|
  an_kc (an_lift (fun live => ak_iload_n dL_law_1722 rfl rfl)) <|
  an_kc (an_lift (fun live => ak_iconst dL_law_1723 (by decide +kernel) rfl)) <|
  an_kc (an_lift (fun live => ak_iadd dL_law_1724 rfl)) <|
  an_kc (nk_sld dL_law_1725 rfl) <|
  an_kc (an_lift (fun live => ak_aload_n dL_law_1726 rfl rfl)) <|
  an_kc (an_lift (fun live => ak_iload_n dL_law_1727 rfl rfl)) <|
  an_kc (an_lift (fun live => ak_iconst dL_law_1728 (by decide +kernel) rfl)) <|
  an_kc (an_lift (fun live => ak_iadd dL_law_1729 rfl)) <|
  an_kc (nk_sld dL_law_1730 rfl) <|
  an_kc (an_lift (fun live => ak_aload_n dL_law_1731 rfl rfl)) <|
  an_kc (an_lift (fun live => ak_iload_n dL_law_1732 rfl rfl)) <|
  an_kc (an_lift (fun live => ak_iconst dL_law_1733 (by decide +kernel) rfl)) <|
  an_kc (an_lift (fun live => ak_iadd dL_law_1734 rfl)) <|
  an_kc (nk_sld dL_law_1735 rfl) <|
  an_kc (an_lift (fun live => ak_aload_n dL_law_1736 rfl rfl)) <|
  an_kc (an_lift (fun live => ak_iload_n dL_law_1737 rfl rfl)) <|
  an_kc (an_lift (fun live => ak_bipush dL_law_1738 (by decide +kernel) rfl)) <|
  an_kc (an_lift (fun live => ak_iadd dL_law_1740 rfl)) <|
  an_kc (nk_sld dL_law_1741 rfl) <|
  an_kc (an_lift (fun live => ak_i2l dL_law_1742 rfl)) <|
  an_kc (an_lift (fun live => ak_bipush dL_law_1743 (by decide +kernel) rfl)) <|
  an_kc (an_lift (fun live => ak_lshl dL_law_1745 rfl)) <|
  an_kc (an_lift (fun live => ak_aload_n dL_law_1746 rfl rfl)) <|
  an_kc (an_lift (fun live => ak_iload_n dL_law_1747 rfl rfl)) <|
  an_kc (an_lift (fun live => ak_bipush dL_law_1748 (by decide +kernel) rfl)) <|
  an_kc (an_lift (fun live => ak_iadd dL_law_1750 rfl)) <|
  an_kc (nk_sld dL_law_1751 rfl) <|
  an_kc (an_lift (fun live => ak_i2l dL_law_1752 rfl)) <|
  an_kc (an_lift (fun live => ak_ldc2 wd_1307 dL_law_1753 rfl)) <|
  an_kc (an_lift (fun live => ak_land dL_law_1756 rfl)) <|
  an_kc (an_lift (fun live => ak_lor dL_law_1757 rfl)) <|
  an_kc (an_lift (fun live => ak_callV (C := RX8) (F := TX8) (N := 27) metX8_best rfl ⟨rfl, by decide +kernel, by decide +kernel, by decide +kernel⟩ (am_w5 wd_1282 wd_1283 wd_1284 wd_67 wd_1285) (by decide) dL_law_1758 rfl)) <|
  an_kc (an_lift (fun live => ak_icmp_eq dL_law_1761 (by decide +kernel) rfl)) <| an_kn
set_option maxRecDepth 100000 in
set_option maxHeartbeats 4000000 in
theorem caseL_c32 (xs : Nat → Int32) : an_wp (kL_c32 8 xs) lawC 200 (an_go (kL_c32 8 xs) 1659) lawL [] lawX := by
    have f7 := an_Mf7
    have f8 := an_Mf8
    repeat' (first | (with_reducible exact f7) | (with_reducible exact f8) | apply And.intro | exact rfl | (intro hx; with_reducible exact absurd rfl hx) | (intro hx; with_reducible exact absurd ((lg_cmp_eq _ _).mpr rfl) hx) | (intro hx; exact absurd hx (by decide)) | (intro hx; exact absurd (by decide) hx) | decide | intro hx | (refine Exists.intro _ (And.intro rfl ?_)))
    all_goals try first | (with_reducible change am_tI _ _) | (change Ret _ _) | (change Ret _ _ _) | (change Exists _)
    all_goals try dsimp only at *
    all_goals try exact absurd ‹(1000 : Int64) = 0› (by decide)
    all_goals first
      | exact ⟨_, _, rfl⟩
      | exact f8.lo ‹am_ch am_lo _ _›
      | exact (f8.lo ‹am_ch am_lo _ _›).1 _ ‹_›
      | exact (f8.lo ‹am_ch am_lo _ _›).2.1 _ ‹_›
      | exact (f8.lo ‹am_ch am_lo _ _›).2.2.1 _ ‹_›
      | exact (f8.lo ‹am_ch am_lo _ _›).2.2.2.1 _ ‹_›
      | exact (f8.lo ‹am_ch am_lo _ _›).2.2.2.2 _ ‹_›
      | exact (f8.hi ‹∀ a k, 200 ≤ a → _›).1 _ ‹_›
      | exact (f8.hi ‹∀ a k, 200 ≤ a → _›).2.1 _ ‹_›
      | exact (f8.hi ‹∀ a k, 200 ≤ a → _›).2.2.1 _ ‹_›
      | exact (f8.hi ‹∀ a k, 200 ≤ a → _›).2.2.2.1 _ ‹_›
      | exact (f8.hi ‹∀ a k, 200 ≤ a → _›).2.2.2.2 _ ‹_›
      | decide
