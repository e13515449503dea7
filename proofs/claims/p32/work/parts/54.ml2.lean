theorem dL_law_1457 : decode cL_law 1457 = .ok (.aload_n 1, 1) := by decide +kernel
theorem dL_law_1458 : decode cL_law 1458 = .ok (.aload_n 0, 1) := by decide +kernel
theorem dL_law_1459 : decode cL_law 1459 = .ok (.iload 4, 2) := by decide +kernel
theorem dL_law_1461 : decode cL_law 1461 = .ok (.iconst 1, 1) := by decide +kernel
theorem dL_law_1462 : decode cL_law 1462 = .ok (.iadd, 1) := by decide +kernel
theorem dL_law_1463 : decode cL_law 1463 = .ok (.iaload, 1) := by decide +kernel
theorem dL_law_1464 : decode cL_law 1464 = .ok (.aload_n 0, 1) := by decide +kernel
theorem dL_law_1465 : decode cL_law 1465 = .ok (.iload 4, 2) := by decide +kernel
theorem dL_law_1467 : decode cL_law 1467 = .ok (.iconst 2, 1) := by decide +kernel
theorem dL_law_1468 : decode cL_law 1468 = .ok (.iadd, 1) := by decide +kernel
theorem dL_law_1469 : decode cL_law 1469 = .ok (.iaload, 1) := by decide +kernel
theorem dL_law_1470 : decode cL_law 1470 = .ok (.aload_n 0, 1) := by decide +kernel
theorem dL_law_1471 : decode cL_law 1471 = .ok (.iload 4, 2) := by decide +kernel
theorem dL_law_1473 : decode cL_law 1473 = .ok (.iconst 3, 1) := by decide +kernel
theorem dL_law_1474 : decode cL_law 1474 = .ok (.iadd, 1) := by decide +kernel
theorem dL_law_1475 : decode cL_law 1475 = .ok (.iaload, 1) := by decide +kernel
theorem dL_law_1476 : decode cL_law 1476 = .ok (.aload_n 0, 1) := by decide +kernel
theorem dL_law_1477 : decode cL_law 1477 = .ok (.iload 4, 2) := by decide +kernel
theorem dL_law_1479 : decode cL_law 1479 = .ok (.iconst 4, 1) := by decide +kernel
theorem dL_law_1480 : decode cL_law 1480 = .ok (.iadd, 1) := by decide +kernel
theorem dL_law_1481 : decode cL_law 1481 = .ok (.iaload, 1) := by decide +kernel
theorem dL_law_1482 : decode cL_law 1482 = .ok (.invokevirtual 139, 3) := by decide +kernel
theorem kw_1263 : Cond.code yX11_sheet prog_1_method_26_code 11 (some .int) ∈ uu := uu_in (i := 1263) (by decide +kernel) (by decide +kernel)
theorem kw_1260 : Cond.methodLink "LandSurveyLaw" 139 yX11_sheet ∈ uu := uu_in (i := 1260) (by decide +kernel) (by decide +kernel)
theorem kw_1261 : Cond.instanceMethod yX11_sheet ∈ uu := uu_in (i := 1261) (by decide +kernel) (by decide +kernel)
theorem kw_1262 : Cond.selects "LandSurvey" yX11_sheet yX11_sheet ∈ uu := uu_in (i := 1262) (by decide +kernel) (by decide +kernel)
theorem lk_LandSurveyLaw_139 : lkV "LandSurveyLaw" 139 yX11_sheet cX11_sheet 11 (some .int) 4 := ⟨kw_1260, kw_1261, kw_1262, kw_144, kw_1263, okX11_sheet⟩
theorem dL_law_1485 : decode cL_law 1485 = .ok (.pop, 1) := by decide +kernel
theorem dL_law_1486 : decode cL_law 1486 = .ok (.aload_n 2, 1) := by decide +kernel
theorem dL_law_1487 : decode cL_law 1487 = .ok (.aload_n 0, 1) := by decide +kernel
theorem dL_law_1488 : decode cL_law 1488 = .ok (.iload 4, 2) := by decide +kernel
theorem dL_law_1490 : decode cL_law 1490 = .ok (.iconst 1, 1) := by decide +kernel
theorem dL_law_1491 : decode cL_law 1491 = .ok (.iadd, 1) := by decide +kernel
theorem dL_law_1492 : decode cL_law 1492 = .ok (.iaload, 1) := by decide +kernel
theorem dL_law_1493 : decode cL_law 1493 = .ok (.aload_n 0, 1) := by decide +kernel
theorem dL_law_1494 : decode cL_law 1494 = .ok (.iload 4, 2) := by decide +kernel
theorem dL_law_1496 : decode cL_law 1496 = .ok (.iconst 2, 1) := by decide +kernel
theorem dL_law_1497 : decode cL_law 1497 = .ok (.iadd, 1) := by decide +kernel
theorem dL_law_1498 : decode cL_law 1498 = .ok (.iaload, 1) := by decide +kernel
theorem dL_law_1499 : decode cL_law 1499 = .ok (.aload_n 0, 1) := by decide +kernel
theorem dL_law_1500 : decode cL_law 1500 = .ok (.iload 4, 2) := by decide +kernel
theorem dL_law_1502 : decode cL_law 1502 = .ok (.iconst 3, 1) := by decide +kernel
theorem dL_law_1503 : decode cL_law 1503 = .ok (.iadd, 1) := by decide +kernel
theorem dL_law_1504 : decode cL_law 1504 = .ok (.iaload, 1) := by decide +kernel
theorem dL_law_1505 : decode cL_law 1505 = .ok (.aload_n 0, 1) := by decide +kernel
theorem dL_law_1506 : decode cL_law 1506 = .ok (.iload 4, 2) := by decide +kernel
theorem dL_law_1508 : decode cL_law 1508 = .ok (.iconst 4, 1) := by decide +kernel
theorem dL_law_1509 : decode cL_law 1509 = .ok (.iadd, 1) := by decide +kernel
theorem dL_law_1510 : decode cL_law 1510 = .ok (.iaload, 1) := by decide +kernel
theorem dL_law_1511 : decode cL_law 1511 = .ok (.invokevirtual 142, 3) := by decide +kernel
theorem kw_2179 : Cond.code yX12_sheet prog_14_method_108_code 7 (some .int) ∈ uu := uu_in (i := 2179) (by decide +kernel) (by decide +kernel)
theorem kw_2176 : Cond.methodLink "LandSurveyLaw" 142 yX12_sheet ∈ uu := uu_in (i := 2176) (by decide +kernel) (by decide +kernel)
theorem kw_2177 : Cond.instanceMethod yX12_sheet ∈ uu := uu_in (i := 2177) (by decide +kernel) (by decide +kernel)
theorem kw_2178 : Cond.selects "LandSurveyModel" yX12_sheet yX12_sheet ∈ uu := uu_in (i := 2178) (by decide +kernel) (by decide +kernel)
theorem lk_LandSurveyLaw_142 : lkV "LandSurveyLaw" 142 yX12_sheet cX12_sheet 7 (some .int) 4 := ⟨kw_2176, kw_2177, kw_2178, kw_152, kw_2179, okX12_sheet⟩
theorem dL_law_1514 : decode cL_law 1514 = .ok (.pop, 1) := by decide +kernel
theorem dL_law_1515 : decode cL_law 1515 = .ok (.goto 381, 3) := by decide +kernel
theorem dL_law_1518 : decode cL_law 1518 = .ok (.aload_n 1, 1) := by decide +kernel
theorem dL_law_1519 : decode cL_law 1519 = .ok (.aload_n 0, 1) := by decide +kernel
theorem dL_law_1520 : decode cL_law 1520 = .ok (.iload 4, 2) := by decide +kernel
theorem dL_law_1522 : decode cL_law 1522 = .ok (.iconst 1, 1) := by decide +kernel
theorem dL_law_1523 : decode cL_law 1523 = .ok (.iadd, 1) := by decide +kernel
theorem dL_law_1524 : decode cL_law 1524 = .ok (.iaload, 1) := by decide +kernel
theorem dL_law_1525 : decode cL_law 1525 = .ok (.aload_n 0, 1) := by decide +kernel
theorem dL_law_1526 : decode cL_law 1526 = .ok (.iload 4, 2) := by decide +kernel
theorem dL_law_1528 : decode cL_law 1528 = .ok (.iconst 2, 1) := by decide +kernel
theorem dL_law_1529 : decode cL_law 1529 = .ok (.iadd, 1) := by decide +kernel
theorem dL_law_1530 : decode cL_law 1530 = .ok (.iaload, 1) := by decide +kernel
theorem dL_law_1531 : decode cL_law 1531 = .ok (.aload_n 0, 1) := by decide +kernel
theorem dL_law_1532 : decode cL_law 1532 = .ok (.iload 4, 2) := by decide +kernel
theorem dL_law_1534 : decode cL_law 1534 = .ok (.iconst 3, 1) := by decide +kernel
theorem dL_law_1535 : decode cL_law 1535 = .ok (.iadd, 1) := by decide +kernel
theorem dL_law_1536 : decode cL_law 1536 = .ok (.iaload, 1) := by decide +kernel
theorem dL_law_1537 : decode cL_law 1537 = .ok (.invokevirtual 143, 3) := by decide +kernel
theorem kw_1278 : Cond.code yX11_drawn prog_1_method_27_code 5 (some .int) ∈ uu := uu_in (i := 1278) (by decide +kernel) (by decide +kernel)
theorem kw_1275 : Cond.methodLink "LandSurveyLaw" 143 yX11_drawn ∈ uu := uu_in (i := 1275) (by decide +kernel) (by decide +kernel)
theorem kw_1276 : Cond.instanceMethod yX11_drawn ∈ uu := uu_in (i := 1276) (by decide +kernel) (by decide +kernel)
theorem kw_1277 : Cond.selects "LandSurvey" yX11_drawn yX11_drawn ∈ uu := uu_in (i := 1277) (by decide +kernel) (by decide +kernel)
theorem lk_LandSurveyLaw_143 : lkV "LandSurveyLaw" 143 yX11_drawn cX11_drawn 5 (some .int) 3 := ⟨kw_1275, kw_1276, kw_1277, kw_144, kw_1278, okX11_drawn⟩
theorem dL_law_1540 : decode cL_law 1540 = .ok (.pop, 1) := by decide +kernel
theorem dL_law_1541 : decode cL_law 1541 = .ok (.aload_n 2, 1) := by decide +kernel
theorem dL_law_1542 : decode cL_law 1542 = .ok (.aload_n 0, 1) := by decide +kernel
theorem dL_law_1543 : decode cL_law 1543 = .ok (.iload 4, 2) := by decide +kernel
theorem dL_law_1545 : decode cL_law 1545 = .ok (.iconst 1, 1) := by decide +kernel
theorem dL_law_1546 : decode cL_law 1546 = .ok (.iadd, 1) := by decide +kernel
theorem dL_law_1547 : decode cL_law 1547 = .ok (.iaload, 1) := by decide +kernel
theorem dL_law_1548 : decode cL_law 1548 = .ok (.aload_n 0, 1) := by decide +kernel
theorem dL_law_1549 : decode cL_law 1549 = .ok (.iload 4, 2) := by decide +kernel
theorem dL_law_1551 : decode cL_law 1551 = .ok (.iconst 2, 1) := by decide +kernel
theorem dL_law_1552 : decode cL_law 1552 = .ok (.iadd, 1) := by decide +kernel
theorem dL_law_1553 : decode cL_law 1553 = .ok (.iaload, 1) := by decide +kernel
theorem dL_law_1554 : decode cL_law 1554 = .ok (.aload_n 0, 1) := by decide +kernel
theorem dL_law_1555 : decode cL_law 1555 = .ok (.iload 4, 2) := by decide +kernel
theorem dL_law_1557 : decode cL_law 1557 = .ok (.iconst 3, 1) := by decide +kernel
theorem dL_law_1558 : decode cL_law 1558 = .ok (.iadd, 1) := by decide +kernel
theorem dL_law_1559 : decode cL_law 1559 = .ok (.iaload, 1) := by decide +kernel
theorem dL_law_1560 : decode cL_law 1560 = .ok (.invokevirtual 146, 3) := by decide +kernel
theorem kw_2183 : Cond.code yX12_drawn prog_14_method_110_code 4 (some .int) ∈ uu := uu_in (i := 2183) (by decide +kernel) (by decide +kernel)
theorem kw_2180 : Cond.methodLink "LandSurveyLaw" 146 yX12_drawn ∈ uu := uu_in (i := 2180) (by decide +kernel) (by decide +kernel)
theorem kw_2181 : Cond.instanceMethod yX12_drawn ∈ uu := uu_in (i := 2181) (by decide +kernel) (by decide +kernel)
theorem kw_2182 : Cond.selects "LandSurveyModel" yX12_drawn yX12_drawn ∈ uu := uu_in (i := 2182) (by decide +kernel) (by decide +kernel)
theorem lk_LandSurveyLaw_146 : lkV "LandSurveyLaw" 146 yX12_drawn cX12_drawn 4 (some .int) 3 := ⟨kw_2180, kw_2181, kw_2182, kw_152, kw_2183, okX12_drawn⟩
theorem dL_law_1563 : decode cL_law 1563 = .ok (.pop, 1) := by decide +kernel
theorem dL_law_1564 : decode cL_law 1564 = .ok (.goto 332, 3) := by decide +kernel
theorem dL_law_1567 : decode cL_law 1567 = .ok (.aload_n 1, 1) := by decide +kernel
theorem dL_law_1568 : decode cL_law 1568 = .ok (.aload_n 0, 1) := by decide +kernel
theorem dL_law_1569 : decode cL_law 1569 = .ok (.iload 4, 2) := by decide +kernel
theorem dL_law_1571 : decode cL_law 1571 = .ok (.iconst 1, 1) := by decide +kernel
theorem dL_law_1572 : decode cL_law 1572 = .ok (.iadd, 1) := by decide +kernel
theorem dL_law_1573 : decode cL_law 1573 = .ok (.iaload, 1) := by decide +kernel
theorem dL_law_1574 : decode cL_law 1574 = .ok (.aload_n 0, 1) := by decide +kernel
theorem dL_law_1575 : decode cL_law 1575 = .ok (.iload 4, 2) := by decide +kernel
theorem dL_law_1577 : decode cL_law 1577 = .ok (.iconst 2, 1) := by decide +kernel
theorem dL_law_1578 : decode cL_law 1578 = .ok (.iadd, 1) := by decide +kernel
theorem dL_law_1579 : decode cL_law 1579 = .ok (.iaload, 1) := by decide +kernel
theorem dL_law_1580 : decode cL_law 1580 = .ok (.invokevirtual 147, 3) := by decide +kernel
theorem kw_1286 : Cond.code yX11_quarrel prog_1_method_28_code 7 (some .int) ∈ uu := uu_in (i := 1286) (by decide +kernel) (by decide +kernel)
theorem kw_1283 : Cond.methodLink "LandSurveyLaw" 147 yX11_quarrel ∈ uu := uu_in (i := 1283) (by decide +kernel) (by decide +kernel)
theorem kw_1284 : Cond.instanceMethod yX11_quarrel ∈ uu := uu_in (i := 1284) (by decide +kernel) (by decide +kernel)
theorem kw_1285 : Cond.selects "LandSurvey" yX11_quarrel yX11_quarrel ∈ uu := uu_in (i := 1285) (by decide +kernel) (by decide +kernel)
theorem lk_LandSurveyLaw_147 : lkV "LandSurveyLaw" 147 yX11_quarrel cX11_quarrel 7 (some .int) 2 := ⟨kw_1283, kw_1284, kw_1285, kw_144, kw_1286, okX11_quarrel⟩
theorem dL_law_1583 : decode cL_law 1583 = .ok (.pop, 1) := by decide +kernel
theorem dL_law_1584 : decode cL_law 1584 = .ok (.aload_n 2, 1) := by decide +kernel
theorem dL_law_1585 : decode cL_law 1585 = .ok (.aload_n 0, 1) := by decide +kernel
theorem dL_law_1586 : decode cL_law 1586 = .ok (.iload 4, 2) := by decide +kernel
theorem dL_law_1588 : decode cL_law 1588 = .ok (.iconst 1, 1) := by decide +kernel
theorem dL_law_1589 : decode cL_law 1589 = .ok (.iadd, 1) := by decide +kernel
theorem dL_law_1590 : decode cL_law 1590 = .ok (.iaload, 1) := by decide +kernel
theorem dL_law_1591 : decode cL_law 1591 = .ok (.aload_n 0, 1) := by decide +kernel
theorem dL_law_1592 : decode cL_law 1592 = .ok (.iload 4, 2) := by decide +kernel
theorem dL_law_1594 : decode cL_law 1594 = .ok (.iconst 2, 1) := by decide +kernel
theorem dL_law_1595 : decode cL_law 1595 = .ok (.iadd, 1) := by decide +kernel
theorem dL_law_1596 : decode cL_law 1596 = .ok (.iaload, 1) := by decide +kernel
theorem dL_law_1597 : decode cL_law 1597 = .ok (.invokevirtual 150, 3) := by decide +kernel
theorem kw_2191 : Cond.code yX12_quarrel prog_14_method_111_code 7 (some .int) ∈ uu := uu_in (i := 2191) (by decide +kernel) (by decide +kernel)
theorem kw_2188 : Cond.methodLink "LandSurveyLaw" 150 yX12_quarrel ∈ uu := uu_in (i := 2188) (by decide +kernel) (by decide +kernel)
theorem kw_2189 : Cond.instanceMethod yX12_quarrel ∈ uu := uu_in (i := 2189) (by decide +kernel) (by decide +kernel)
theorem kw_2190 : Cond.selects "LandSurveyModel" yX12_quarrel yX12_quarrel ∈ uu := uu_in (i := 2190) (by decide +kernel) (by decide +kernel)
theorem lk_LandSurveyLaw_150 : lkV "LandSurveyLaw" 150 yX12_quarrel cX12_quarrel 7 (some .int) 2 := ⟨kw_2188, kw_2189, kw_2190, kw_152, kw_2191, okX12_quarrel⟩
theorem dL_law_1600 : decode cL_law 1600 = .ok (.pop, 1) := by decide +kernel
theorem dL_law_1601 : decode cL_law 1601 = .ok (.goto 295, 3) := by decide +kernel
theorem dL_law_1604 : decode cL_law 1604 = .ok (.aload_n 1, 1) := by decide +kernel
theorem dL_law_1605 : decode cL_law 1605 = .ok (.aload_n 0, 1) := by decide +kernel
theorem dL_law_1606 : decode cL_law 1606 = .ok (.iload 4, 2) := by decide +kernel
theorem dL_law_1608 : decode cL_law 1608 = .ok (.iconst 1, 1) := by decide +kernel
theorem dL_law_1609 : decode cL_law 1609 = .ok (.iadd, 1) := by decide +kernel
theorem dL_law_1610 : decode cL_law 1610 = .ok (.iaload, 1) := by decide +kernel
theorem dL_law_1611 : decode cL_law 1611 = .ok (.invokevirtual 151, 3) := by decide +kernel
theorem kw_1290 : Cond.code yX11_stale prog_1_method_29_code 5 (some .int) ∈ uu := uu_in (i := 1290) (by decide +kernel) (by decide +kernel)
theorem kw_1287 : Cond.methodLink "LandSurveyLaw" 151 yX11_stale ∈ uu := uu_in (i := 1287) (by decide +kernel) (by decide +kernel)
theorem kw_1288 : Cond.instanceMethod yX11_stale ∈ uu := uu_in (i := 1288) (by decide +kernel) (by decide +kernel)
theorem kw_1289 : Cond.selects "LandSurvey" yX11_stale yX11_stale ∈ uu := uu_in (i := 1289) (by decide +kernel) (by decide +kernel)
theorem lk_LandSurveyLaw_151 : lkV "LandSurveyLaw" 151 yX11_stale cX11_stale 5 (some .int) 1 := ⟨kw_1287, kw_1288, kw_1289, kw_144, kw_1290, okX11_stale⟩
theorem dL_law_1614 : decode cL_law 1614 = .ok (.pop, 1) := by decide +kernel
theorem dL_law_1615 : decode cL_law 1615 = .ok (.aload_n 2, 1) := by decide +kernel
theorem dL_law_1616 : decode cL_law 1616 = .ok (.aload_n 0, 1) := by decide +kernel
theorem dL_law_1617 : decode cL_law 1617 = .ok (.iload 4, 2) := by decide +kernel
theorem dL_law_1619 : decode cL_law 1619 = .ok (.iconst 1, 1) := by decide +kernel
theorem dL_law_1620 : decode cL_law 1620 = .ok (.iadd, 1) := by decide +kernel
theorem dL_law_1621 : decode cL_law 1621 = .ok (.iaload, 1) := by decide +kernel
theorem dL_law_1622 : decode cL_law 1622 = .ok (.invokevirtual 154, 3) := by decide +kernel
theorem kw_2195 : Cond.code yX12_stale prog_14_method_112_code 5 (some .int) ∈ uu := uu_in (i := 2195) (by decide +kernel) (by decide +kernel)
theorem kw_2192 : Cond.methodLink "LandSurveyLaw" 154 yX12_stale ∈ uu := uu_in (i := 2192) (by decide +kernel) (by decide +kernel)
theorem kw_2193 : Cond.instanceMethod yX12_stale ∈ uu := uu_in (i := 2193) (by decide +kernel) (by decide +kernel)
theorem kw_2194 : Cond.selects "LandSurveyModel" yX12_stale yX12_stale ∈ uu := uu_in (i := 2194) (by decide +kernel) (by decide +kernel)
theorem lk_LandSurveyLaw_154 : lkV "LandSurveyLaw" 154 yX12_stale cX12_stale 5 (some .int) 1 := ⟨kw_2192, kw_2193, kw_2194, kw_152, kw_2195, okX12_stale⟩
theorem dL_law_1625 : decode cL_law 1625 = .ok (.pop, 1) := by decide +kernel
theorem dL_law_1626 : decode cL_law 1626 = .ok (.goto 270, 3) := by decide +kernel
theorem dL_law_1629 : decode cL_law 1629 = .ok (.aload_n 1, 1) := by decide +kernel
theorem dL_law_1630 : decode cL_law 1630 = .ok (.aload_n 0, 1) := by decide +kernel
theorem dL_law_1631 : decode cL_law 1631 = .ok (.iload 4, 2) := by decide +kernel
theorem dL_law_1633 : decode cL_law 1633 = .ok (.iconst 1, 1) := by decide +kernel
theorem dL_law_1634 : decode cL_law 1634 = .ok (.iadd, 1) := by decide +kernel
theorem dL_law_1635 : decode cL_law 1635 = .ok (.iaload, 1) := by decide +kernel
theorem dL_law_1636 : decode cL_law 1636 = .ok (.aload_n 0, 1) := by decide +kernel
theorem dL_law_1637 : decode cL_law 1637 = .ok (.iload 4, 2) := by decide +kernel
theorem dL_law_1639 : decode cL_law 1639 = .ok (.iconst 2, 1) := by decide +kernel
theorem dL_law_1640 : decode cL_law 1640 = .ok (.iadd, 1) := by decide +kernel
theorem dL_law_1641 : decode cL_law 1641 = .ok (.iaload, 1) := by decide +kernel
theorem dL_law_1642 : decode cL_law 1642 = .ok (.aload_n 0, 1) := by decide +kernel
theorem dL_law_1643 : decode cL_law 1643 = .ok (.iload 4, 2) := by decide +kernel
theorem dL_law_1645 : decode cL_law 1645 = .ok (.iconst 3, 1) := by decide +kernel
theorem dL_law_1646 : decode cL_law 1646 = .ok (.iadd, 1) := by decide +kernel
theorem dL_law_1647 : decode cL_law 1647 = .ok (.iaload, 1) := by decide +kernel
theorem dL_law_1648 : decode cL_law 1648 = .ok (.invokevirtual 155, 3) := by decide +kernel
theorem kw_1294 : Cond.code yX11_doubles prog_1_method_30_code 7 (some .int) ∈ uu := uu_in (i := 1294) (by decide +kernel) (by decide +kernel)
theorem kw_1291 : Cond.methodLink "LandSurveyLaw" 155 yX11_doubles ∈ uu := uu_in (i := 1291) (by decide +kernel) (by decide +kernel)
theorem kw_1292 : Cond.instanceMethod yX11_doubles ∈ uu := uu_in (i := 1292) (by decide +kernel) (by decide +kernel)
theorem kw_1293 : Cond.selects "LandSurvey" yX11_doubles yX11_doubles ∈ uu := uu_in (i := 1293) (by decide +kernel) (by decide +kernel)
theorem lk_LandSurveyLaw_155 : lkV "LandSurveyLaw" 155 yX11_doubles cX11_doubles 7 (some .int) 3 := ⟨kw_1291, kw_1292, kw_1293, kw_144, kw_1294, okX11_doubles⟩
theorem dL_law_1651 : decode cL_law 1651 = .ok (.pop, 1) := by decide +kernel
theorem dL_law_1652 : decode cL_law 1652 = .ok (.aload_n 2, 1) := by decide +kernel
theorem dL_law_1653 : decode cL_law 1653 = .ok (.aload_n 0, 1) := by decide +kernel
theorem dL_law_1654 : decode cL_law 1654 = .ok (.iload 4, 2) := by decide +kernel
theorem dL_law_1656 : decode cL_law 1656 = .ok (.iconst 1, 1) := by decide +kernel
theorem dL_law_1657 : decode cL_law 1657 = .ok (.iadd, 1) := by decide +kernel
theorem dL_law_1658 : decode cL_law 1658 = .ok (.iaload, 1) := by decide +kernel
theorem dL_law_1659 : decode cL_law 1659 = .ok (.aload_n 0, 1) := by decide +kernel
theorem dL_law_1660 : decode cL_law 1660 = .ok (.iload 4, 2) := by decide +kernel
theorem dL_law_1662 : decode cL_law 1662 = .ok (.iconst 2, 1) := by decide +kernel
theorem dL_law_1663 : decode cL_law 1663 = .ok (.iadd, 1) := by decide +kernel
theorem dL_law_1664 : decode cL_law 1664 = .ok (.iaload, 1) := by decide +kernel
theorem dL_law_1665 : decode cL_law 1665 = .ok (.aload_n 0, 1) := by decide +kernel
theorem dL_law_1666 : decode cL_law 1666 = .ok (.iload 4, 2) := by decide +kernel
theorem dL_law_1668 : decode cL_law 1668 = .ok (.iconst 3, 1) := by decide +kernel
theorem dL_law_1669 : decode cL_law 1669 = .ok (.iadd, 1) := by decide +kernel
theorem dL_law_1670 : decode cL_law 1670 = .ok (.iaload, 1) := by decide +kernel
theorem dL_law_1671 : decode cL_law 1671 = .ok (.invokevirtual 158, 3) := by decide +kernel
theorem kw_2199 : Cond.code yX12_doubles prog_14_method_114_code 7 (some .int) ∈ uu := uu_in (i := 2199) (by decide +kernel) (by decide +kernel)
theorem kw_2196 : Cond.methodLink "LandSurveyLaw" 158 yX12_doubles ∈ uu := uu_in (i := 2196) (by decide +kernel) (by decide +kernel)
theorem kw_2197 : Cond.instanceMethod yX12_doubles ∈ uu := uu_in (i := 2197) (by decide +kernel) (by decide +kernel)
theorem kw_2198 : Cond.selects "LandSurveyModel" yX12_doubles yX12_doubles ∈ uu := uu_in (i := 2198) (by decide +kernel) (by decide +kernel)
theorem lk_LandSurveyLaw_158 : lkV "LandSurveyLaw" 158 yX12_doubles cX12_doubles 7 (some .int) 3 := ⟨kw_2196, kw_2197, kw_2198, kw_152, kw_2199, okX12_doubles⟩
theorem dL_law_1674 : decode cL_law 1674 = .ok (.pop, 1) := by decide +kernel
theorem dL_law_1675 : decode cL_law 1675 = .ok (.goto 221, 3) := by decide +kernel
theorem dL_law_1678 : decode cL_law 1678 = .ok (.aload_n 1, 1) := by decide +kernel
theorem dL_law_1679 : decode cL_law 1679 = .ok (.aload_n 0, 1) := by decide +kernel
theorem dL_law_1680 : decode cL_law 1680 = .ok (.iload 4, 2) := by decide +kernel
theorem dL_law_1682 : decode cL_law 1682 = .ok (.iconst 1, 1) := by decide +kernel
theorem dL_law_1683 : decode cL_law 1683 = .ok (.iadd, 1) := by decide +kernel
theorem dL_law_1684 : decode cL_law 1684 = .ok (.iaload, 1) := by decide +kernel
theorem dL_law_1685 : decode cL_law 1685 = .ok (.aload_n 3, 1) := by decide +kernel
theorem dL_law_1686 : decode cL_law 1686 = .ok (.invokestatic 159, 3) := by decide +kernel
theorem kw_1452 : Cond.methodLink "LandSurveyLaw" 159 yL_habit ∈ uu := uu_in (i := 1452) (by decide +kernel) (by decide +kernel)
theorem kw_1453 : Cond.static yL_habit ∈ uu := uu_in (i := 1453) (by decide +kernel) (by decide +kernel)
theorem kw_1454 : Cond.codeWith yL_habit method_6_code 4 (some .int) [(0, 9, 12, 13)] ∈ uu := uu_in (i := 1454) (by decide +kernel) (by decide +kernel)
theorem dL_law_1689 : decode cL_law 1689 = .ok (.istore 5, 2) := by decide +kernel
theorem dL_law_1691 : decode cL_law 1691 = .ok (.aload_n 2, 1) := by decide +kernel
theorem dL_law_1692 : decode cL_law 1692 = .ok (.aload_n 0, 1) := by decide +kernel
theorem dL_law_1693 : decode cL_law 1693 = .ok (.iload 4, 2) := by decide +kernel
theorem dL_law_1695 : decode cL_law 1695 = .ok (.iconst 1, 1) := by decide +kernel
theorem dL_law_1696 : decode cL_law 1696 = .ok (.iadd, 1) := by decide +kernel
theorem dL_law_1697 : decode cL_law 1697 = .ok (.iaload, 1) := by decide +kernel
theorem dL_law_1698 : decode cL_law 1698 = .ok (.invokevirtual 162, 3) := by decide +kernel
theorem kw_2207 : Cond.code yX12_habit prog_14_method_115_code 6 (some .int) ∈ uu := uu_in (i := 2207) (by decide +kernel) (by decide +kernel)
theorem kw_2204 : Cond.methodLink "LandSurveyLaw" 162 yX12_habit ∈ uu := uu_in (i := 2204) (by decide +kernel) (by decide +kernel)
theorem kw_2205 : Cond.instanceMethod yX12_habit ∈ uu := uu_in (i := 2205) (by decide +kernel) (by decide +kernel)
theorem kw_2206 : Cond.selects "LandSurveyModel" yX12_habit yX12_habit ∈ uu := uu_in (i := 2206) (by decide +kernel) (by decide +kernel)
theorem lk_LandSurveyLaw_162 : lkV "LandSurveyLaw" 162 yX12_habit cX12_habit 6 (some .int) 1 := ⟨kw_2204, kw_2205, kw_2206, kw_152, kw_2207, okX12_habit⟩
theorem dL_law_1701 : decode cL_law 1701 = .ok (.istore 6, 2) := by decide +kernel
theorem dL_law_1703 : decode cL_law 1703 = .ok (.goto 193, 3) := by decide +kernel
theorem dL_law_1706 : decode cL_law 1706 = .ok (.aload_n 1, 1) := by decide +kernel
theorem dL_law_1707 : decode cL_law 1707 = .ok (.aload_n 0, 1) := by decide +kernel
theorem dL_law_1708 : decode cL_law 1708 = .ok (.iload 4, 2) := by decide +kernel
theorem dL_law_1710 : decode cL_law 1710 = .ok (.iconst 1, 1) := by decide +kernel
theorem dL_law_1711 : decode cL_law 1711 = .ok (.iadd, 1) := by decide +kernel
theorem dL_law_1712 : decode cL_law 1712 = .ok (.iaload, 1) := by decide +kernel
theorem dL_law_1713 : decode cL_law 1713 = .ok (.aload_n 0, 1) := by decide +kernel
theorem dL_law_1714 : decode cL_law 1714 = .ok (.iload 4, 2) := by decide +kernel
theorem dL_law_1716 : decode cL_law 1716 = .ok (.iconst 2, 1) := by decide +kernel
theorem dL_law_1717 : decode cL_law 1717 = .ok (.iadd, 1) := by decide +kernel
theorem dL_law_1718 : decode cL_law 1718 = .ok (.iaload, 1) := by decide +kernel
theorem dL_law_1719 : decode cL_law 1719 = .ok (.aload_n 0, 1) := by decide +kernel
theorem dL_law_1720 : decode cL_law 1720 = .ok (.iload 4, 2) := by decide +kernel
theorem dL_law_1722 : decode cL_law 1722 = .ok (.iconst 3, 1) := by decide +kernel
theorem dL_law_1723 : decode cL_law 1723 = .ok (.iadd, 1) := by decide +kernel
theorem dL_law_1724 : decode cL_law 1724 = .ok (.iaload, 1) := by decide +kernel
theorem dL_law_1725 : decode cL_law 1725 = .ok (.ifCond .eq 7, 3) := by decide +kernel
theorem dL_law_1732 : decode cL_law 1732 = .ok (.iconst 0, 1) := by decide +kernel
theorem dL_law_1733 : decode cL_law 1733 = .ok (.invokevirtual 163, 3) := by decide +kernel
theorem kw_1304 : Cond.code yX11_question prog_1_method_32_code 5 (some .boolean) ∈ uu := uu_in (i := 1304) (by decide +kernel) (by decide +kernel)
theorem kw_1301 : Cond.methodLink "LandSurveyLaw" 163 yX11_question ∈ uu := uu_in (i := 1301) (by decide +kernel) (by decide +kernel)
theorem kw_1302 : Cond.instanceMethod yX11_question ∈ uu := uu_in (i := 1302) (by decide +kernel) (by decide +kernel)
theorem kw_1303 : Cond.selects "LandSurvey" yX11_question yX11_question ∈ uu := uu_in (i := 1303) (by decide +kernel) (by decide +kernel)
theorem lk_LandSurveyLaw_163 : lkV "LandSurveyLaw" 163 yX11_question cX11_question 5 (some .boolean) 3 := ⟨kw_1301, kw_1302, kw_1303, kw_144, kw_1304, okX11_question⟩
theorem dL_law_1736 : decode cL_law 1736 = .ok (.aload_n 2, 1) := by decide +kernel
theorem dL_law_1737 : decode cL_law 1737 = .ok (.aload_n 0, 1) := by decide +kernel
theorem dL_law_1738 : decode cL_law 1738 = .ok (.iload 4, 2) := by decide +kernel
theorem dL_law_1740 : decode cL_law 1740 = .ok (.iconst 1, 1) := by decide +kernel
theorem dL_law_1741 : decode cL_law 1741 = .ok (.iadd, 1) := by decide +kernel
theorem dL_law_1742 : decode cL_law 1742 = .ok (.iaload, 1) := by decide +kernel
theorem dL_law_1743 : decode cL_law 1743 = .ok (.aload_n 0, 1) := by decide +kernel
theorem dL_law_1744 : decode cL_law 1744 = .ok (.iload 4, 2) := by decide +kernel
theorem dL_law_1746 : decode cL_law 1746 = .ok (.iconst 2, 1) := by decide +kernel
theorem dL_law_1747 : decode cL_law 1747 = .ok (.iadd, 1) := by decide +kernel
theorem dL_law_1748 : decode cL_law 1748 = .ok (.iaload, 1) := by decide +kernel
theorem dL_law_1749 : decode cL_law 1749 = .ok (.aload_n 0, 1) := by decide +kernel
theorem dL_law_1750 : decode cL_law 1750 = .ok (.iload 4, 2) := by decide +kernel
theorem dL_law_1752 : decode cL_law 1752 = .ok (.iconst 3, 1) := by decide +kernel
theorem dL_law_1753 : decode cL_law 1753 = .ok (.iadd, 1) := by decide +kernel
theorem dL_law_1754 : decode cL_law 1754 = .ok (.iaload, 1) := by decide +kernel
theorem dL_law_1755 : decode cL_law 1755 = .ok (.ifCond .eq 7, 3) := by decide +kernel
theorem dL_law_1762 : decode cL_law 1762 = .ok (.iconst 0, 1) := by decide +kernel
theorem dL_law_1763 : decode cL_law 1763 = .ok (.invokevirtual 166, 3) := by decide +kernel
theorem kw_2211 : Cond.code yX12_question prog_14_method_117_code 4 (some .boolean) ∈ uu := uu_in (i := 2211) (by decide +kernel) (by decide +kernel)
theorem kw_2208 : Cond.methodLink "LandSurveyLaw" 166 yX12_question ∈ uu := uu_in (i := 2208) (by decide +kernel) (by decide +kernel)
theorem kw_2209 : Cond.instanceMethod yX12_question ∈ uu := uu_in (i := 2209) (by decide +kernel) (by decide +kernel)
theorem kw_2210 : Cond.selects "LandSurveyModel" yX12_question yX12_question ∈ uu := uu_in (i := 2210) (by decide +kernel) (by decide +kernel)
theorem lk_LandSurveyLaw_166 : lkV "LandSurveyLaw" 166 yX12_question cX12_question 4 (some .boolean) 3 := ⟨kw_2208, kw_2209, kw_2210, kw_152, kw_2211, okX12_question⟩
theorem dL_law_1766 : decode cL_law 1766 = .ok (.if_icmp .eq 130, 3) := by decide +kernel
theorem dL_law_1728 : decode cL_law 1728 = .ok (.iconst 1, 1) := by decide +kernel
theorem dL_law_1729 : decode cL_law 1729 = .ok (.goto 4, 3) := by decide +kernel
theorem dL_law_1758 : decode cL_law 1758 = .ok (.iconst 1, 1) := by decide +kernel
theorem dL_law_1759 : decode cL_law 1759 = .ok (.goto 4, 3) := by decide +kernel
theorem dL_law_1771 : decode cL_law 1771 = .ok (.aload_n 1, 1) := by decide +kernel
theorem dL_law_1772 : decode cL_law 1772 = .ok (.aload_n 0, 1) := by decide +kernel
theorem dL_law_1773 : decode cL_law 1773 = .ok (.iload 4, 2) := by decide +kernel
theorem dL_law_1775 : decode cL_law 1775 = .ok (.iconst 1, 1) := by decide +kernel
theorem dL_law_1776 : decode cL_law 1776 = .ok (.iadd, 1) := by decide +kernel
theorem dL_law_1777 : decode cL_law 1777 = .ok (.iaload, 1) := by decide +kernel
theorem dL_law_1778 : decode cL_law 1778 = .ok (.aload_n 0, 1) := by decide +kernel
theorem dL_law_1779 : decode cL_law 1779 = .ok (.iload 4, 2) := by decide +kernel
theorem dL_law_1781 : decode cL_law 1781 = .ok (.iconst 2, 1) := by decide +kernel
theorem dL_law_1782 : decode cL_law 1782 = .ok (.iadd, 1) := by decide +kernel
theorem dL_law_1783 : decode cL_law 1783 = .ok (.iaload, 1) := by decide +kernel
theorem dL_law_1784 : decode cL_law 1784 = .ok (.aload_n 0, 1) := by decide +kernel
theorem dL_law_1785 : decode cL_law 1785 = .ok (.iload 4, 2) := by decide +kernel
theorem dL_law_1787 : decode cL_law 1787 = .ok (.iconst 3, 1) := by decide +kernel
theorem dL_law_1788 : decode cL_law 1788 = .ok (.iadd, 1) := by decide +kernel
theorem dL_law_1789 : decode cL_law 1789 = .ok (.iaload, 1) := by decide +kernel
theorem dL_law_1790 : decode cL_law 1790 = .ok (.invokevirtual 167, 3) := by decide +kernel
theorem kw_1308 : Cond.code yX11_place prog_1_method_33_code 5 (some .int) ∈ uu := uu_in (i := 1308) (by decide +kernel) (by decide +kernel)
theorem kw_1305 : Cond.methodLink "LandSurveyLaw" 167 yX11_place ∈ uu := uu_in (i := 1305) (by decide +kernel) (by decide +kernel)
theorem kw_1306 : Cond.instanceMethod yX11_place ∈ uu := uu_in (i := 1306) (by decide +kernel) (by decide +kernel)
theorem kw_1307 : Cond.selects "LandSurvey" yX11_place yX11_place ∈ uu := uu_in (i := 1307) (by decide +kernel) (by decide +kernel)
theorem lk_LandSurveyLaw_167 : lkV "LandSurveyLaw" 167 yX11_place cX11_place 5 (some .int) 3 := ⟨kw_1305, kw_1306, kw_1307, kw_144, kw_1308, okX11_place⟩
theorem dL_law_1793 : decode cL_law 1793 = .ok (.pop, 1) := by decide +kernel
theorem dL_law_1794 : decode cL_law 1794 = .ok (.aload_n 2, 1) := by decide +kernel
theorem dL_law_1795 : decode cL_law 1795 = .ok (.aload_n 0, 1) := by decide +kernel
theorem dL_law_1796 : decode cL_law 1796 = .ok (.iload 4, 2) := by decide +kernel
theorem dL_law_1798 : decode cL_law 1798 = .ok (.iconst 1, 1) := by decide +kernel
theorem dL_law_1799 : decode cL_law 1799 = .ok (.iadd, 1) := by decide +kernel
theorem dL_law_1800 : decode cL_law 1800 = .ok (.iaload, 1) := by decide +kernel
theorem dL_law_1801 : decode cL_law 1801 = .ok (.aload_n 0, 1) := by decide +kernel
theorem dL_law_1802 : decode cL_law 1802 = .ok (.iload 4, 2) := by decide +kernel
theorem dL_law_1804 : decode cL_law 1804 = .ok (.iconst 2, 1) := by decide +kernel
theorem dL_law_1805 : decode cL_law 1805 = .ok (.iadd, 1) := by decide +kernel
theorem dL_law_1806 : decode cL_law 1806 = .ok (.iaload, 1) := by decide +kernel
theorem dL_law_1807 : decode cL_law 1807 = .ok (.aload_n 0, 1) := by decide +kernel
theorem dL_law_1808 : decode cL_law 1808 = .ok (.iload 4, 2) := by decide +kernel
theorem dL_law_1810 : decode cL_law 1810 = .ok (.iconst 3, 1) := by decide +kernel
theorem dL_law_1811 : decode cL_law 1811 = .ok (.iadd, 1) := by decide +kernel
theorem dL_law_1812 : decode cL_law 1812 = .ok (.iaload, 1) := by decide +kernel
theorem dL_law_1813 : decode cL_law 1813 = .ok (.invokevirtual 170, 3) := by decide +kernel
theorem kw_2219 : Cond.code yX12_place prog_14_method_118_code 4 (some .int) ∈ uu := uu_in (i := 2219) (by decide +kernel) (by decide +kernel)
theorem kw_2216 : Cond.methodLink "LandSurveyLaw" 170 yX12_place ∈ uu := uu_in (i := 2216) (by decide +kernel) (by decide +kernel)
theorem kw_2217 : Cond.instanceMethod yX12_place ∈ uu := uu_in (i := 2217) (by decide +kernel) (by decide +kernel)
theorem kw_2218 : Cond.selects "LandSurveyModel" yX12_place yX12_place ∈ uu := uu_in (i := 2218) (by decide +kernel) (by decide +kernel)
theorem lk_LandSurveyLaw_170 : lkV "LandSurveyLaw" 170 yX12_place cX12_place 4 (some .int) 3 := ⟨kw_2216, kw_2217, kw_2218, kw_152, kw_2219, okX12_place⟩
theorem dL_law_1816 : decode cL_law 1816 = .ok (.pop, 1) := by decide +kernel
theorem dL_law_1817 : decode cL_law 1817 = .ok (.goto 79, 3) := by decide +kernel
theorem dL_law_1820 : decode cL_law 1820 = .ok (.aload_n 1, 1) := by decide +kernel
theorem dL_law_1821 : decode cL_law 1821 = .ok (.invokevirtual 171, 3) := by decide +kernel
theorem kw_1312 : Cond.code yX11_doubt prog_1_method_34_code 2 (some .int) ∈ uu := uu_in (i := 1312) (by decide +kernel) (by decide +kernel)
theorem kw_1309 : Cond.methodLink "LandSurveyLaw" 171 yX11_doubt ∈ uu := uu_in (i := 1309) (by decide +kernel) (by decide +kernel)
theorem kw_1310 : Cond.instanceMethod yX11_doubt ∈ uu := uu_in (i := 1310) (by decide +kernel) (by decide +kernel)
theorem kw_1311 : Cond.selects "LandSurvey" yX11_doubt yX11_doubt ∈ uu := uu_in (i := 1311) (by decide +kernel) (by decide +kernel)
theorem lk_LandSurveyLaw_171 : lkV "LandSurveyLaw" 171 yX11_doubt cX11_doubt 2 (some .int) 0 := ⟨kw_1309, kw_1310, kw_1311, kw_144, kw_1312, okX11_doubt⟩
theorem dL_law_1824 : decode cL_law 1824 = .ok (.pop, 1) := by decide +kernel
theorem dL_law_1825 : decode cL_law 1825 = .ok (.aload_n 2, 1) := by decide +kernel
theorem dL_law_1826 : decode cL_law 1826 = .ok (.invokevirtual 174, 3) := by decide +kernel
theorem kw_2223 : Cond.code yX12_doubt prog_14_method_121_code 1 (some .int) ∈ uu := uu_in (i := 2223) (by decide +kernel) (by decide +kernel)
theorem kw_2220 : Cond.methodLink "LandSurveyLaw" 174 yX12_doubt ∈ uu := uu_in (i := 2220) (by decide +kernel) (by decide +kernel)
theorem kw_2221 : Cond.instanceMethod yX12_doubt ∈ uu := uu_in (i := 2221) (by decide +kernel) (by decide +kernel)
theorem kw_2222 : Cond.selects "LandSurveyModel" yX12_doubt yX12_doubt ∈ uu := uu_in (i := 2222) (by decide +kernel) (by decide +kernel)
theorem lk_LandSurveyLaw_174 : lkV "LandSurveyLaw" 174 yX12_doubt cX12_doubt 1 (some .int) 0 := ⟨kw_2220, kw_2221, kw_2222, kw_152, kw_2223, okX12_doubt⟩
theorem dL_law_1829 : decode cL_law 1829 = .ok (.pop, 1) := by decide +kernel
theorem dL_law_1830 : decode cL_law 1830 = .ok (.goto 66, 3) := by decide +kernel
theorem dL_law_1833 : decode cL_law 1833 = .ok (.aload_n 1, 1) := by decide +kernel
theorem dL_law_1834 : decode cL_law 1834 = .ok (.aload_n 0, 1) := by decide +kernel
theorem dL_law_1835 : decode cL_law 1835 = .ok (.iload 4, 2) := by decide +kernel
theorem dL_law_1837 : decode cL_law 1837 = .ok (.iconst 1, 1) := by decide +kernel
theorem dL_law_1838 : decode cL_law 1838 = .ok (.iadd, 1) := by decide +kernel
theorem dL_law_1839 : decode cL_law 1839 = .ok (.iaload, 1) := by decide +kernel
theorem dL_law_1840 : decode cL_law 1840 = .ok (.invokevirtual 175, 3) := by decide +kernel
theorem kw_1324 : Cond.code yX11_left prog_1_method_35_code 3 (some .int) ∈ uu := uu_in (i := 1324) (by decide +kernel) (by decide +kernel)
theorem kw_1321 : Cond.methodLink "LandSurveyLaw" 175 yX11_left ∈ uu := uu_in (i := 1321) (by decide +kernel) (by decide +kernel)
theorem kw_1322 : Cond.instanceMethod yX11_left ∈ uu := uu_in (i := 1322) (by decide +kernel) (by decide +kernel)
theorem kw_1323 : Cond.selects "LandSurvey" yX11_left yX11_left ∈ uu := uu_in (i := 1323) (by decide +kernel) (by decide +kernel)
theorem lk_LandSurveyLaw_175 : lkV "LandSurveyLaw" 175 yX11_left cX11_left 3 (some .int) 1 := ⟨kw_1321, kw_1322, kw_1323, kw_144, kw_1324, okX11_left⟩
theorem dL_law_1843 : decode cL_law 1843 = .ok (.pop, 1) := by decide +kernel
theorem dL_law_1844 : decode cL_law 1844 = .ok (.aload_n 2, 1) := by decide +kernel
theorem dL_law_1845 : decode cL_law 1845 = .ok (.aload_n 0, 1) := by decide +kernel
theorem dL_law_1846 : decode cL_law 1846 = .ok (.iload 4, 2) := by decide +kernel
theorem dL_law_1848 : decode cL_law 1848 = .ok (.iconst 1, 1) := by decide +kernel
theorem dL_law_1849 : decode cL_law 1849 = .ok (.iadd, 1) := by decide +kernel
theorem dL_law_1850 : decode cL_law 1850 = .ok (.iaload, 1) := by decide +kernel
theorem dL_law_1851 : decode cL_law 1851 = .ok (.invokevirtual 178, 3) := by decide +kernel
theorem kw_2235 : Cond.code yX12_left prog_14_method_125_code 2 (some .int) ∈ uu := uu_in (i := 2235) (by decide +kernel) (by decide +kernel)
theorem kw_2232 : Cond.methodLink "LandSurveyLaw" 178 yX12_left ∈ uu := uu_in (i := 2232) (by decide +kernel) (by decide +kernel)
theorem kw_2233 : Cond.instanceMethod yX12_left ∈ uu := uu_in (i := 2233) (by decide +kernel) (by decide +kernel)
theorem kw_2234 : Cond.selects "LandSurveyModel" yX12_left yX12_left ∈ uu := uu_in (i := 2234) (by decide +kernel) (by decide +kernel)
theorem lk_LandSurveyLaw_178 : lkV "LandSurveyLaw" 178 yX12_left cX12_left 2 (some .int) 1 := ⟨kw_2232, kw_2233, kw_2234, kw_152, kw_2235, okX12_left⟩
theorem dL_law_1854 : decode cL_law 1854 = .ok (.pop, 1) := by decide +kernel
theorem dL_law_1855 : decode cL_law 1855 = .ok (.goto 41, 3) := by decide +kernel
theorem dL_law_1858 : decode cL_law 1858 = .ok (.aload_n 1, 1) := by decide +kernel
theorem dL_law_1859 : decode cL_law 1859 = .ok (.invokevirtual 179, 3) := by decide +kernel
theorem kw_1344 : Cond.code yX11_next prog_1_method_36_code 11 (some .int) ∈ uu := uu_in (i := 1344) (by decide +kernel) (by decide +kernel)
theorem kw_1341 : Cond.methodLink "LandSurveyLaw" 179 yX11_next ∈ uu := uu_in (i := 1341) (by decide +kernel) (by decide +kernel)
theorem kw_1342 : Cond.instanceMethod yX11_next ∈ uu := uu_in (i := 1342) (by decide +kernel) (by decide +kernel)
theorem kw_1343 : Cond.selects "LandSurvey" yX11_next yX11_next ∈ uu := uu_in (i := 1343) (by decide +kernel) (by decide +kernel)
theorem lk_LandSurveyLaw_179 : lkV "LandSurveyLaw" 179 yX11_next cX11_next 11 (some .int) 0 := ⟨kw_1341, kw_1342, kw_1343, kw_144, kw_1344, okX11_next⟩
theorem dL_law_1862 : decode cL_law 1862 = .ok (.pop, 1) := by decide +kernel
theorem dL_law_1863 : decode cL_law 1863 = .ok (.aload_n 2, 1) := by decide +kernel
theorem dL_law_1864 : decode cL_law 1864 = .ok (.invokevirtual 182, 3) := by decide +kernel
theorem kw_2250 : Cond.code yX12_next prog_14_method_126_code 6 (some .int) ∈ uu := uu_in (i := 2250) (by decide +kernel) (by decide +kernel)
theorem kw_2247 : Cond.methodLink "LandSurveyLaw" 182 yX12_next ∈ uu := uu_in (i := 2247) (by decide +kernel) (by decide +kernel)
theorem kw_2248 : Cond.instanceMethod yX12_next ∈ uu := uu_in (i := 2248) (by decide +kernel) (by decide +kernel)
theorem kw_2249 : Cond.selects "LandSurveyModel" yX12_next yX12_next ∈ uu := uu_in (i := 2249) (by decide +kernel) (by decide +kernel)
theorem lk_LandSurveyLaw_182 : lkV "LandSurveyLaw" 182 yX12_next cX12_next 6 (some .int) 0 := ⟨kw_2247, kw_2248, kw_2249, kw_152, kw_2250, okX12_next⟩
theorem dL_law_1867 : decode cL_law 1867 = .ok (.pop, 1) := by decide +kernel
theorem dL_law_1868 : decode cL_law 1868 = .ok (.goto 28, 3) := by decide +kernel
theorem dL_law_1871 : decode cL_law 1871 = .ok (.aload_n 1, 1) := by decide +kernel
theorem dL_law_1872 : decode cL_law 1872 = .ok (.aload_n 0, 1) := by decide +kernel
theorem dL_law_1873 : decode cL_law 1873 = .ok (.iload 4, 2) := by decide +kernel
theorem dL_law_1875 : decode cL_law 1875 = .ok (.iconst 1, 1) := by decide +kernel
theorem dL_law_1876 : decode cL_law 1876 = .ok (.iadd, 1) := by decide +kernel
theorem dL_law_1877 : decode cL_law 1877 = .ok (.iaload, 1) := by decide +kernel
theorem dL_law_1878 : decode cL_law 1878 = .ok (.invokevirtual 183, 3) := by decide +kernel
theorem kw_1348 : Cond.code yX11_count prog_1_method_37_code 2 (some .int) ∈ uu := uu_in (i := 1348) (by decide +kernel) (by decide +kernel)
theorem kw_1345 : Cond.methodLink "LandSurveyLaw" 183 yX11_count ∈ uu := uu_in (i := 1345) (by decide +kernel) (by decide +kernel)
theorem kw_1346 : Cond.instanceMethod yX11_count ∈ uu := uu_in (i := 1346) (by decide +kernel) (by decide +kernel)
theorem kw_1347 : Cond.selects "LandSurvey" yX11_count yX11_count ∈ uu := uu_in (i := 1347) (by decide +kernel) (by decide +kernel)
theorem lk_LandSurveyLaw_183 : lkV "LandSurveyLaw" 183 yX11_count cX11_count 2 (some .int) 1 := ⟨kw_1345, kw_1346, kw_1347, kw_144, kw_1348, okX11_count⟩
theorem dL_law_1881 : decode cL_law 1881 = .ok (.pop, 1) := by decide +kernel
theorem dL_law_1882 : decode cL_law 1882 = .ok (.aload_n 2, 1) := by decide +kernel
theorem dL_law_1883 : decode cL_law 1883 = .ok (.aload_n 0, 1) := by decide +kernel
theorem dL_law_1884 : decode cL_law 1884 = .ok (.iload 4, 2) := by decide +kernel
theorem dL_law_1886 : decode cL_law 1886 = .ok (.iconst 1, 1) := by decide +kernel
theorem dL_law_1887 : decode cL_law 1887 = .ok (.iadd, 1) := by decide +kernel
theorem dL_law_1888 : decode cL_law 1888 = .ok (.iaload, 1) := by decide +kernel
theorem dL_law_1889 : decode cL_law 1889 = .ok (.invokevirtual 186, 3) := by decide +kernel
theorem kw_2254 : Cond.code yX12_count prog_14_method_129_code 2 (some .int) ∈ uu := uu_in (i := 2254) (by decide +kernel) (by decide +kernel)
theorem kw_2251 : Cond.methodLink "LandSurveyLaw" 186 yX12_count ∈ uu := uu_in (i := 2251) (by decide +kernel) (by decide +kernel)
theorem kw_2252 : Cond.instanceMethod yX12_count ∈ uu := uu_in (i := 2252) (by decide +kernel) (by decide +kernel)
theorem kw_2253 : Cond.selects "LandSurveyModel" yX12_count yX12_count ∈ uu := uu_in (i := 2253) (by decide +kernel) (by decide +kernel)
theorem lk_LandSurveyLaw_186 : lkV "LandSurveyLaw" 186 yX12_count cX12_count 2 (some .int) 1 := ⟨kw_2251, kw_2252, kw_2253, kw_152, kw_2254, okX12_count⟩
theorem dL_law_1892 : decode cL_law 1892 = .ok (.pop, 1) := by decide +kernel
theorem dL_law_1893 : decode cL_law 1893 = .ok (.goto 3, 3) := by decide +kernel
set_option maxRecDepth 100000 in
set_option maxHeartbeats 8000000 in
theorem law_c24 (l : Launch) (hst : l.stackTraces = false) {p : Program} {e : Env} {s : State} {m : MethodId} {below : List Frame} {meth : Method} {c : Code} {D : va_G} {cy : Nat → ClassId} {w : Nat → Nat} {z0 b L : Nat} {xs : Nat → Int32} {h : Hp} {x : Int} {n1 n2 n3 : Nat} (C : Cx p l room_1 s m #[Value.ref b] meth c D cy z0 7 cL_law "LandSurveyLaw" w) (hr : meth.sig.returnType = ret) (hX : va_X b L xs s s.heap) (hbl : b < s.heap.size) (hbz : b < z0) (hzs : s.heap.size ≤ z0) (hL : L ≤ 4096) (fx : 0 ≤ x ∧ x ≤ 4088) (hq : x ≤ (L : Int) - 8) (O : Okh h) (tn1 : Tg h n1 = 11) (tn2 : Tg h n2 = 12) (tn3 : Tg h n3 = 99102) (ln3 : Ln h n3 = 1) (pX : XInv h n1) (pM : MInv h n2) (hT : Qask h n1 = Qm 82 h n2 ∧ ASK h n1) (IH : ∀ (h1 : Hp), Okh h1 → Tg h1 n1 = 11 → Tg h1 n2 = 12 → Tg h1 n3 = 99102 → Ln h1 n3 = 1 → XInv h1 n1 → MInv h1 n2 → Qask h1 n1 = Qm 82 h1 n2 ∧ ASK h1 n1 → GW p l e room_1 s m #[Value.ref b] below meth c D cy z0 7 (lw_Z below #[Value.ref b] s) 23 [(4, .inl (x + 8)), (3, .inr (.inr n3)), (2, .inr (.inr n2)), (1, .inr (.inr n1)), (0, .inr (.inr (b + 1)))] [] h1 (13 * (x + 8).toNat + 119) (806 * (x + 8).toNat + 52115)) : GW p l e room_1 s m #[Value.ref b] below meth c D cy z0 7 (lw_Z below #[Value.ref b] s) 1457 [(4, .inl x), (3, .inr (.inr n3)), (2, .inr (.inr n2)), (1, .inr (.inr n1)), (0, .inr (.inr (b + 1)))] [] h (13 * x.toNat + 119) (806 * x.toNat + 52115) := by
  obtain ⟨F1, e2⟩ : ∃ z, Qask h n1 = z := ⟨_, rfl⟩
  have e3 : Qm 82 h n2 = F1 := (Eq.symm hT.1).trans e2
  refine g_aload_n C rfl 3 rfl dL_law_1457 ?_
  refine g_aload_n C rfl 4 rfl dL_law_1458 ?_
  refine g_iload C 0 rfl dL_law_1459 ?_
  refine g_iconst C dL_law_1461 ?_
  have f4 : (1 : Int) ≤ (x + 1) ∧ (x + 1) ≤ (4089 : Int) := ia_add fx (il 1) (by decide) (by decide)
  refine g_iadd C dL_law_1462 ?_
  refine g_sld C hX hbl hbz ⟨by omega, by omega⟩ (by omega) dL_law_1463 ?_
  have f5 : (-2147483648 : Int) ≤ (sx xs (x + 1)) ∧ (sx xs (x + 1)) ≤ (2147483647 : Int) := inR_of _
  refine g_aload_n C rfl 4 rfl dL_law_1464 ?_
  refine g_iload C 0 rfl dL_law_1465 ?_
  refine g_iconst C dL_law_1467 ?_
  have f6 : (2 : Int) ≤ (x + 2) ∧ (x + 2) ≤ (4090 : Int) := ia_add fx (il 2) (by decide) (by decide)
  refine g_iadd C dL_law_1468 ?_
  refine g_sld C hX hbl hbz ⟨by omega, by omega⟩ (by omega) dL_law_1469 ?_
  have f7 : (-2147483648 : Int) ≤ (sx xs (x + 2)) ∧ (sx xs (x + 2)) ≤ (2147483647 : Int) := inR_of _
  refine g_aload_n C rfl 4 rfl dL_law_1470 ?_
  refine g_iload C 0 rfl dL_law_1471 ?_
  refine g_iconst C dL_law_1473 ?_
  have f8 : (3 : Int) ≤ (x + 3) ∧ (x + 3) ≤ (4091 : Int) := ia_add fx (il 3) (by decide) (by decide)
  refine g_iadd C dL_law_1474 ?_
  refine g_sld C hX hbl hbz ⟨by omega, by omega⟩ (by omega) dL_law_1475 ?_
  have f9 : (-2147483648 : Int) ≤ (sx xs (x + 3)) ∧ (sx xs (x + 3)) ≤ (2147483647 : Int) := inR_of _
  refine g_aload_n C rfl 4 rfl dL_law_1476 ?_
  refine g_iload C 0 rfl dL_law_1477 ?_
  refine g_iconst C dL_law_1479 ?_
  have f10 : (4 : Int) ≤ (x + 4) ∧ (x + 4) ≤ (4092 : Int) := ia_add fx (il 4) (by decide) (by decide)
  refine g_iadd C dL_law_1480 ?_
  refine g_sld C hX hbl hbz ⟨by omega, by omega⟩ (by omega) dL_law_1481 ?_
  have f11 : (-2147483648 : Int) ≤ (sx xs (x + 4)) ∧ (sx xs (x + 4)) ≤ (2147483647 : Int) := inR_of _
  refine g_callI (st := []) (gc_V C lk_LandSurveyLaw_139 (k_X11_sheet l D cy w z0 O tn1 f5 f7 f9 f11 pX) tn1 rfl rfl rfl ⟨by decide, by decide⟩ (Nat.le_of_ble_eq_true rfl) dL_law_1482 ⟨(by show _ ≤ 601024; omega), (by show _ ≤ 7293034; omega)⟩) (fun r12 h13 f15 K14 => ?_)
  obtain ⟨O16, F17, f18, p19⟩ := K14
  refine g_pop C rfl dL_law_1485 ?_
  refine g_aload_n C rfl 2 rfl dL_law_1486 ?_
  refine g_aload_n C rfl 4 rfl dL_law_1487 ?_
  refine g_iload C 0 rfl dL_law_1488 ?_
  refine g_iconst C dL_law_1490 ?_
  refine g_iadd C dL_law_1491 ?_
  refine g_sld C hX hbl hbz ⟨by omega, by omega⟩ (by omega) dL_law_1492 ?_
  refine g_aload_n C rfl 4 rfl dL_law_1493 ?_
  refine g_iload C 0 rfl dL_law_1494 ?_
  refine g_iconst C dL_law_1496 ?_
  refine g_iadd C dL_law_1497 ?_
  refine g_sld C hX hbl hbz ⟨by omega, by omega⟩ (by omega) dL_law_1498 ?_
  refine g_aload_n C rfl 4 rfl dL_law_1499 ?_
  refine g_iload C 0 rfl dL_law_1500 ?_
  refine g_iconst C dL_law_1502 ?_
  refine g_iadd C dL_law_1503 ?_
  refine g_sld C hX hbl hbz ⟨by omega, by omega⟩ (by omega) dL_law_1504 ?_
  refine g_aload_n C rfl 4 rfl dL_law_1505 ?_
  refine g_iload C 0 rfl dL_law_1506 ?_
  refine g_iconst C dL_law_1508 ?_
  refine g_iadd C dL_law_1509 ?_
  refine g_sld C hX hbl hbz ⟨by omega, by omega⟩ (by omega) dL_law_1510 ?_
  have e20 : Tg h13 n2 = 12 := (fxT F17 tn2)
  have p21 := (MInv_fx O F17 tn2 rfl pM)
  refine g_callI (st := []) (gc_V C lk_LandSurveyLaw_142 (k_X12_sheet l D cy w z0 O16 e20 f5 f7 f9 f11 p21) e20 rfl rfl rfl ⟨by decide, by decide⟩ (Nat.le_of_ble_eq_true rfl) dL_law_1511 ⟨(by show _ ≤ 601024; omega), (by show _ ≤ 7293034; omega)⟩) (fun r22 h23 f25 K24 => ?_)
  obtain ⟨O26, F27, f28⟩ := K24
  refine g_pop C rfl dL_law_1514 ?_
  refine g_goto C 1896 (by decide) dL_law_1515 ?_
  have f29 : (8 : Int) ≤ (x + 8) ∧ (x + 8) ≤ (4096 : Int) := ia_add fx (il 8) (by decide) (by decide)
  refine g_iinc C [(4, .inl (x + 8)), (3, .inr (.inr n3)), (2, .inr (.inr n2)), (1, .inr (.inr n1)), (0, .inr (.inr (b + 1)))] 0 rfl (by decide) rfl dL_law_1896 ?_
  refine g_goto C 23 (by decide) dL_law_1899 ?_
  refine GW.sub [0, 1, 2, 3, 4] rfl ?_
  refine GW.widen (by omega : _ ≤ 13 * (x + 8).toNat + 119) (by omega : _ ≤ 806 * (x + 8).toNat + 52115) ?_
  have e30 : Qask h13 n1 = F1 := Eq.trans (show Qask h13 n1 = Qask h n1 from (Qask_fx O F17 tn1 rfl)) e2
  have e32 : Tg h13 n1 = 11 := (fxT F17 tn1)
  have e31 : Qask h23 n1 = F1 := Eq.trans (show Qask h23 n1 = Qask h13 n1 from (Qask_fx O16 F27 e32 rfl)) e30
  have e33 : Qm 82 h13 n2 = F1 := Eq.trans (show Qm 82 h13 n2 = Qm 82 h n2 from (mAI (j := 82) O F17 tn2 rE_12_82 ar_182101 rfl rfl)) e3
  have e34 : Qm 82 h23 n2 = F1 := Eq.trans (show Qm 82 h23 n2 = Qm 82 h13 n2 from (mAI (j := 82) O16 F27 e20 rE_12_82 ar_182101 rfl rfl)) e33
  have p35 := (ASK_fx O16 F27 e32 rfl (ASK_fx O F17 tn1 rfl hT.2))
  have p36 := (XInv_fx O16 F27 e32 rfl p19)
  have p37 := (MInv_fx O16 F27 e20 rfl p21)
  have e38 : Tg h23 n1 = 11 := (fxT F27 e32)
  have e39 : Tg h23 n2 = 12 := (fxT F27 e20)
  have e40 : Tg h23 n3 = 99102 := (fxT F27 (fxT F17 tn3))
  have e41 : Tg h13 n3 = 99102 := (fxT F17 tn3)
  have e42 : Ln h23 n3 = 1 := ((fxL F27 e41).trans ((fxL F17 tn3).trans ln3))
  exact IH _ O26 e38 e39 e40 e42 p36 p37 ⟨(e31.trans (Eq.symm e34)), p35⟩
set_option maxRecDepth 100000 in
set_option maxHeartbeats 8000000 in
theorem law_c25 (l : Launch) (hst : l.stackTraces = false) {p : Program} {e : Env} {s : State} {m : MethodId} {below : List Frame} {meth : Method} {c : Code} {D : va_G} {cy : Nat → ClassId} {w : Nat → Nat} {z0 b L : Nat} {xs : Nat → Int32} {h : Hp} {x : Int} {n1 n2 n3 : Nat} (C : Cx p l room_1 s m #[Value.ref b] meth c D cy z0 7 cL_law "LandSurveyLaw" w) (hr : meth.sig.returnType = ret) (hX : va_X b L xs s s.heap) (hbl : b < s.heap.size) (hbz : b < z0) (hzs : s.heap.size ≤ z0) (hL : L ≤ 4096) (fx : 0 ≤ x ∧ x ≤ 4088) (hq : x ≤ (L : Int) - 8) (O : Okh h) (tn1 : Tg h n1 = 11) (tn2 : Tg h n2 = 12) (tn3 : Tg h n3 = 99102) (ln3 : Ln h n3 = 1) (pX : XInv h n1) (pM : MInv h n2) (hT : Qask h n1 = Qm 82 h n2 ∧ ASK h n1) (IH : ∀ (h1 : Hp), Okh h1 → Tg h1 n1 = 11 → Tg h1 n2 = 12 → Tg h1 n3 = 99102 → Ln h1 n3 = 1 → XInv h1 n1 → MInv h1 n2 → Qask h1 n1 = Qm 82 h1 n2 ∧ ASK h1 n1 → GW p l e room_1 s m #[Value.ref b] below meth c D cy z0 7 (lw_Z below #[Value.ref b] s) 23 [(4, .inl (x + 8)), (3, .inr (.inr n3)), (2, .inr (.inr n2)), (1, .inr (.inr n1)), (0, .inr (.inr (b + 1)))] [] h1 (13 * (x + 8).toNat + 119) (806 * (x + 8).toNat + 52115)) : GW p l e room_1 s m #[Value.ref b] below meth c D cy z0 7 (lw_Z below #[Value.ref b] s) 1518 [(4, .inl x), (3, .inr (.inr n3)), (2, .inr (.inr n2)), (1, .inr (.inr n1)), (0, .inr (.inr (b + 1)))] [] h (13 * x.toNat + 119) (806 * x.toNat + 52115) := by
  obtain ⟨F1, e2⟩ : ∃ z, Qask h n1 = z := ⟨_, rfl⟩
  have e3 : Qm 82 h n2 = F1 := (Eq.symm hT.1).trans e2
  refine g_aload_n C rfl 3 rfl dL_law_1518 ?_
  refine g_aload_n C rfl 4 rfl dL_law_1519 ?_
  refine g_iload C 0 rfl dL_law_1520 ?_
  refine g_iconst C dL_law_1522 ?_
  have f4 : (1 : Int) ≤ (x + 1) ∧ (x + 1) ≤ (4089 : Int) := ia_add fx (il 1) (by decide) (by decide)
  refine g_iadd C dL_law_1523 ?_
  refine g_sld C hX hbl hbz ⟨by omega, by omega⟩ (by omega) dL_law_1524 ?_
  have f5 : (-2147483648 : Int) ≤ (sx xs (x + 1)) ∧ (sx xs (x + 1)) ≤ (2147483647 : Int) := inR_of _
  refine g_aload_n C rfl 4 rfl dL_law_1525 ?_
  refine g_iload C 0 rfl dL_law_1526 ?_
  refine g_iconst C dL_law_1528 ?_
  have f6 : (2 : Int) ≤ (x + 2) ∧ (x + 2) ≤ (4090 : Int) := ia_add fx (il 2) (by decide) (by decide)
  refine g_iadd C dL_law_1529 ?_
  refine g_sld C hX hbl hbz ⟨by omega, by omega⟩ (by omega) dL_law_1530 ?_
  have f7 : (-2147483648 : Int) ≤ (sx xs (x + 2)) ∧ (sx xs (x + 2)) ≤ (2147483647 : Int) := inR_of _
  refine g_aload_n C rfl 4 rfl dL_law_1531 ?_
  refine g_iload C 0 rfl dL_law_1532 ?_
  refine g_iconst C dL_law_1534 ?_
  have f8 : (3 : Int) ≤ (x + 3) ∧ (x + 3) ≤ (4091 : Int) := ia_add fx (il 3) (by decide) (by decide)
  refine g_iadd C dL_law_1535 ?_
  refine g_sld C hX hbl hbz ⟨by omega, by omega⟩ (by omega) dL_law_1536 ?_
  have f9 : (-2147483648 : Int) ≤ (sx xs (x + 3)) ∧ (sx xs (x + 3)) ≤ (2147483647 : Int) := inR_of _
  refine g_callI (st := []) (gc_V C lk_LandSurveyLaw_143 (k_X11_drawn l D cy w z0 O tn1 f5 f7 f9 pX) tn1 rfl rfl rfl ⟨by decide, by decide⟩ (Nat.le_of_ble_eq_true rfl) dL_law_1537 ⟨(by show _ ≤ 601024; omega), (by show _ ≤ 7293034; omega)⟩) (fun r10 h11 f13 K12 => ?_)
  obtain ⟨O14, F15, f16, p17⟩ := K12
  refine g_pop C rfl dL_law_1540 ?_
  refine g_aload_n C rfl 2 rfl dL_law_1541 ?_
  refine g_aload_n C rfl 4 rfl dL_law_1542 ?_
  refine g_iload C 0 rfl dL_law_1543 ?_
  refine g_iconst C dL_law_1545 ?_
  refine g_iadd C dL_law_1546 ?_
  refine g_sld C hX hbl hbz ⟨by omega, by omega⟩ (by omega) dL_law_1547 ?_
  refine g_aload_n C rfl 4 rfl dL_law_1548 ?_
  refine g_iload C 0 rfl dL_law_1549 ?_
  refine g_iconst C dL_law_1551 ?_
  refine g_iadd C dL_law_1552 ?_
  refine g_sld C hX hbl hbz ⟨by omega, by omega⟩ (by omega) dL_law_1553 ?_
  refine g_aload_n C rfl 4 rfl dL_law_1554 ?_
  refine g_iload C 0 rfl dL_law_1555 ?_
  refine g_iconst C dL_law_1557 ?_
  refine g_iadd C dL_law_1558 ?_
  refine g_sld C hX hbl hbz ⟨by omega, by omega⟩ (by omega) dL_law_1559 ?_
  have e18 : Tg h11 n2 = 12 := (fxT F15 tn2)
  have p19 := (MInv_fx O F15 tn2 rfl pM)
  refine g_callI (st := []) (gc_V C lk_LandSurveyLaw_146 (k_X12_drawn l D cy w z0 O14 e18 f5 f7 f9 p19) e18 rfl rfl rfl ⟨by decide, by decide⟩ (Nat.le_of_ble_eq_true rfl) dL_law_1560 ⟨(by show _ ≤ 601024; omega), (by show _ ≤ 7293034; omega)⟩) (fun r20 h21 f23 K22 => ?_)
  obtain ⟨O24, F25, f26⟩ := K22
  refine g_pop C rfl dL_law_1563 ?_
  refine g_goto C 1896 (by decide) dL_law_1564 ?_
  have f27 : (8 : Int) ≤ (x + 8) ∧ (x + 8) ≤ (4096 : Int) := ia_add fx (il 8) (by decide) (by decide)
  refine g_iinc C [(4, .inl (x + 8)), (3, .inr (.inr n3)), (2, .inr (.inr n2)), (1, .inr (.inr n1)), (0, .inr (.inr (b + 1)))] 0 rfl (by decide) rfl dL_law_1896 ?_
  refine g_goto C 23 (by decide) dL_law_1899 ?_
  refine GW.sub [0, 1, 2, 3, 4] rfl ?_
  refine GW.widen (by omega : _ ≤ 13 * (x + 8).toNat + 119) (by omega : _ ≤ 806 * (x + 8).toNat + 52115) ?_
  have e28 : Qask h11 n1 = F1 := Eq.trans (show Qask h11 n1 = Qask h n1 from (Qask_fx O F15 tn1 rfl)) e2
  have e30 : Tg h11 n1 = 11 := (fxT F15 tn1)
  have e29 : Qask h21 n1 = F1 := Eq.trans (show Qask h21 n1 = Qask h11 n1 from (Qask_fx O14 F25 e30 rfl)) e28
  have e31 : Qm 82 h11 n2 = F1 := Eq.trans (show Qm 82 h11 n2 = Qm 82 h n2 from (mAI (j := 82) O F15 tn2 rE_12_82 ar_182101 rfl rfl)) e3
  have e32 : Qm 82 h21 n2 = F1 := Eq.trans (show Qm 82 h21 n2 = Qm 82 h11 n2 from (mAI (j := 82) O14 F25 e18 rE_12_82 ar_182101 rfl rfl)) e31
  have p33 := (ASK_fx O14 F25 e30 rfl (ASK_fx O F15 tn1 rfl hT.2))
  have p34 := (XInv_fx O14 F25 e30 rfl p17)
  have p35 := (MInv_fx O14 F25 e18 rfl p19)
  have e36 : Tg h21 n1 = 11 := (fxT F25 e30)
  have e37 : Tg h21 n2 = 12 := (fxT F25 e18)
  have e38 : Tg h21 n3 = 99102 := (fxT F25 (fxT F15 tn3))
  have e39 : Tg h11 n3 = 99102 := (fxT F15 tn3)
  have e40 : Ln h21 n3 = 1 := ((fxL F25 e39).trans ((fxL F15 tn3).trans ln3))
  exact IH _ O24 e36 e37 e38 e40 p34 p35 ⟨(e29.trans (Eq.symm e32)), p33⟩
set_option maxRecDepth 100000 in
set_option maxHeartbeats 8000000 in
theorem law_c26 (l : Launch) (hst : l.stackTraces = false) {p : Program} {e : Env} {s : State} {m : MethodId} {below : List Frame} {meth : Method} {c : Code} {D : va_G} {cy : Nat → ClassId} {w : Nat → Nat} {z0 b L : Nat} {xs : Nat → Int32} {h : Hp} {x : Int} {n1 n2 n3 : Nat} (C : Cx p l room_1 s m #[Value.ref b] meth c D cy z0 7 cL_law "LandSurveyLaw" w) (hr : meth.sig.returnType = ret) (hX : va_X b L xs s s.heap) (hbl : b < s.heap.size) (hbz : b < z0) (hzs : s.heap.size ≤ z0) (hL : L ≤ 4096) (fx : 0 ≤ x ∧ x ≤ 4088) (hq : x ≤ (L : Int) - 8) (O : Okh h) (tn1 : Tg h n1 = 11) (tn2 : Tg h n2 = 12) (tn3 : Tg h n3 = 99102) (ln3 : Ln h n3 = 1) (pX : XInv h n1) (pM : MInv h n2) (hT : Qask h n1 = Qm 82 h n2 ∧ ASK h n1) (IH : ∀ (h1 : Hp), Okh h1 → Tg h1 n1 = 11 → Tg h1 n2 = 12 → Tg h1 n3 = 99102 → Ln h1 n3 = 1 → XInv h1 n1 → MInv h1 n2 → Qask h1 n1 = Qm 82 h1 n2 ∧ ASK h1 n1 → GW p l e room_1 s m #[Value.ref b] below meth c D cy z0 7 (lw_Z below #[Value.ref b] s) 23 [(4, .inl (x + 8)), (3, .inr (.inr n3)), (2, .inr (.inr n2)), (1, .inr (.inr n1)), (0, .inr (.inr (b + 1)))] [] h1 (13 * (x + 8).toNat + 119) (806 * (x + 8).toNat + 52115)) : GW p l e room_1 s m #[Value.ref b] below meth c D cy z0 7 (lw_Z below #[Value.ref b] s) 1567 [(4, .inl x), (3, .inr (.inr n3)), (2, .inr (.inr n2)), (1, .inr (.inr n1)), (0, .inr (.inr (b + 1)))] [] h (13 * x.toNat + 119) (806 * x.toNat + 52115) := by
  obtain ⟨F1, e2⟩ : ∃ z, Qask h n1 = z := ⟨_, rfl⟩
  have e3 : Qm 82 h n2 = F1 := (Eq.symm hT.1).trans e2
  refine g_aload_n C rfl 3 rfl dL_law_1567 ?_
  refine g_aload_n C rfl 4 rfl dL_law_1568 ?_
  refine g_iload C 0 rfl dL_law_1569 ?_
  refine g_iconst C dL_law_1571 ?_
  have f4 : (1 : Int) ≤ (x + 1) ∧ (x + 1) ≤ (4089 : Int) := ia_add fx (il 1) (by decide) (by decide)
  refine g_iadd C dL_law_1572 ?_
  refine g_sld C hX hbl hbz ⟨by omega, by omega⟩ (by omega) dL_law_1573 ?_
  have f5 : (-2147483648 : Int) ≤ (sx xs (x + 1)) ∧ (sx xs (x + 1)) ≤ (2147483647 : Int) := inR_of _
  refine g_aload_n C rfl 4 rfl dL_law_1574 ?_
  refine g_iload C 0 rfl dL_law_1575 ?_
  refine g_iconst C dL_law_1577 ?_
  have f6 : (2 : Int) ≤ (x + 2) ∧ (x + 2) ≤ (4090 : Int) := ia_add fx (il 2) (by decide) (by decide)
  refine g_iadd C dL_law_1578 ?_
  refine g_sld C hX hbl hbz ⟨by omega, by omega⟩ (by omega) dL_law_1579 ?_
  have f7 : (-2147483648 : Int) ≤ (sx xs (x + 2)) ∧ (sx xs (x + 2)) ≤ (2147483647 : Int) := inR_of _
  refine g_callI (st := []) (gc_V C lk_LandSurveyLaw_147 (k_X11_quarrel l D cy w z0 O tn1 f5 f7 pX) tn1 rfl rfl rfl ⟨by decide, by decide⟩ (Nat.le_of_ble_eq_true rfl) dL_law_1580 ⟨(by show _ ≤ 601024; omega), (by show _ ≤ 7293034; omega)⟩) (fun r8 h9 f11 K10 => ?_)
  obtain ⟨O12, F13, f14, p15⟩ := K10
  refine g_pop C rfl dL_law_1583 ?_
  refine g_aload_n C rfl 2 rfl dL_law_1584 ?_
  refine g_aload_n C rfl 4 rfl dL_law_1585 ?_
  refine g_iload C 0 rfl dL_law_1586 ?_
  refine g_iconst C dL_law_1588 ?_
  refine g_iadd C dL_law_1589 ?_
  refine g_sld C hX hbl hbz ⟨by omega, by omega⟩ (by omega) dL_law_1590 ?_
  refine g_aload_n C rfl 4 rfl dL_law_1591 ?_
  refine g_iload C 0 rfl dL_law_1592 ?_
  refine g_iconst C dL_law_1594 ?_
  refine g_iadd C dL_law_1595 ?_
  refine g_sld C hX hbl hbz ⟨by omega, by omega⟩ (by omega) dL_law_1596 ?_
  have e16 : Tg h9 n2 = 12 := (fxT F13 tn2)
  have p17 := (MInv_fx O F13 tn2 rfl pM)
  refine g_callI (st := []) (gc_V C lk_LandSurveyLaw_150 (k_X12_quarrel l D cy w z0 O12 e16 f5 f7 p17) e16 rfl rfl rfl ⟨by decide, by decide⟩ (Nat.le_of_ble_eq_true rfl) dL_law_1597 ⟨(by show _ ≤ 601024; omega), (by show _ ≤ 7293034; omega)⟩) (fun r18 h19 f21 K20 => ?_)
  obtain ⟨O22, F23, f24⟩ := K20
  refine g_pop C rfl dL_law_1600 ?_
  refine g_goto C 1896 (by decide) dL_law_1601 ?_
  have f25 : (8 : Int) ≤ (x + 8) ∧ (x + 8) ≤ (4096 : Int) := ia_add fx (il 8) (by decide) (by decide)
  refine g_iinc C [(4, .inl (x + 8)), (3, .inr (.inr n3)), (2, .inr (.inr n2)), (1, .inr (.inr n1)), (0, .inr (.inr (b + 1)))] 0 rfl (by decide) rfl dL_law_1896 ?_
  refine g_goto C 23 (by decide) dL_law_1899 ?_
  refine GW.sub [0, 1, 2, 3, 4] rfl ?_
  refine GW.widen (by omega : _ ≤ 13 * (x + 8).toNat + 119) (by omega : _ ≤ 806 * (x + 8).toNat + 52115) ?_
  have e26 : Qask h9 n1 = F1 := Eq.trans (show Qask h9 n1 = Qask h n1 from (Qask_fx O F13 tn1 rfl)) e2
  have e28 : Tg h9 n1 = 11 := (fxT F13 tn1)
  have e27 : Qask h19 n1 = F1 := Eq.trans (show Qask h19 n1 = Qask h9 n1 from (Qask_fx O12 F23 e28 rfl)) e26
  have e29 : Qm 82 h9 n2 = F1 := Eq.trans (show Qm 82 h9 n2 = Qm 82 h n2 from (mAI (j := 82) O F13 tn2 rE_12_82 ar_182101 rfl rfl)) e3
  have e30 : Qm 82 h19 n2 = F1 := Eq.trans (show Qm 82 h19 n2 = Qm 82 h9 n2 from (mAI (j := 82) O12 F23 e16 rE_12_82 ar_182101 rfl rfl)) e29
  have p31 := (ASK_fx O12 F23 e28 rfl (ASK_fx O F13 tn1 rfl hT.2))
  have p32 := (XInv_fx O12 F23 e28 rfl p15)
  have p33 := (MInv_fx O12 F23 e16 rfl p17)
  have e34 : Tg h19 n1 = 11 := (fxT F23 e28)
  have e35 : Tg h19 n2 = 12 := (fxT F23 e16)
  have e36 : Tg h19 n3 = 99102 := (fxT F23 (fxT F13 tn3))
  have e37 : Tg h9 n3 = 99102 := (fxT F13 tn3)
  have e38 : Ln h19 n3 = 1 := ((fxL F23 e37).trans ((fxL F13 tn3).trans ln3))
  exact IH _ O22 e34 e35 e36 e38 p32 p33 ⟨(e27.trans (Eq.symm e30)), p31⟩
set_option maxRecDepth 100000 in
set_option maxHeartbeats 8000000 in
theorem law_c27 (l : Launch) (hst : l.stackTraces = false) {p : Program} {e : Env} {s : State} {m : MethodId} {below : List Frame} {meth : Method} {c : Code} {D : va_G} {cy : Nat → ClassId} {w : Nat → Nat} {z0 b L : Nat} {xs : Nat → Int32} {h : Hp} {x : Int} {n1 n2 n3 : Nat} (C : Cx p l room_1 s m #[Value.ref b] meth c D cy z0 7 cL_law "LandSurveyLaw" w) (hr : meth.sig.returnType = ret) (hX : va_X b L xs s s.heap) (hbl : b < s.heap.size) (hbz : b < z0) (hzs : s.heap.size ≤ z0) (hL : L ≤ 4096) (fx : 0 ≤ x ∧ x ≤ 4088) (hq : x ≤ (L : Int) - 8) (O : Okh h) (tn1 : Tg h n1 = 11) (tn2 : Tg h n2 = 12) (tn3 : Tg h n3 = 99102) (ln3 : Ln h n3 = 1) (pX : XInv h n1) (pM : MInv h n2) (hT : Qask h n1 = Qm 82 h n2 ∧ ASK h n1) (IH : ∀ (h1 : Hp), Okh h1 → Tg h1 n1 = 11 → Tg h1 n2 = 12 → Tg h1 n3 = 99102 → Ln h1 n3 = 1 → XInv h1 n1 → MInv h1 n2 → Qask h1 n1 = Qm 82 h1 n2 ∧ ASK h1 n1 → GW p l e room_1 s m #[Value.ref b] below meth c D cy z0 7 (lw_Z below #[Value.ref b] s) 23 [(4, .inl (x + 8)), (3, .inr (.inr n3)), (2, .inr (.inr n2)), (1, .inr (.inr n1)), (0, .inr (.inr (b + 1)))] [] h1 (13 * (x + 8).toNat + 119) (806 * (x + 8).toNat + 52115)) : GW p l e room_1 s m #[Value.ref b] below meth c D cy z0 7 (lw_Z below #[Value.ref b] s) 1604 [(4, .inl x), (3, .inr (.inr n3)), (2, .inr (.inr n2)), (1, .inr (.inr n1)), (0, .inr (.inr (b + 1)))] [] h (13 * x.toNat + 119) (806 * x.toNat + 52115) := by
  obtain ⟨F1, e2⟩ : ∃ z, Qask h n1 = z := ⟨_, rfl⟩
  have e3 : Qm 82 h n2 = F1 := (Eq.symm hT.1).trans e2
  refine g_aload_n C rfl 3 rfl dL_law_1604 ?_
  refine g_aload_n C rfl 4 rfl dL_law_1605 ?_
  refine g_iload C 0 rfl dL_law_1606 ?_
  refine g_iconst C dL_law_1608 ?_
  have f4 : (1 : Int) ≤ (x + 1) ∧ (x + 1) ≤ (4089 : Int) := ia_add fx (il 1) (by decide) (by decide)
  refine g_iadd C dL_law_1609 ?_
  refine g_sld C hX hbl hbz ⟨by omega, by omega⟩ (by omega) dL_law_1610 ?_
  have f5 : (-2147483648 : Int) ≤ (sx xs (x + 1)) ∧ (sx xs (x + 1)) ≤ (2147483647 : Int) := inR_of _
  refine g_callI (st := []) (gc_V C lk_LandSurveyLaw_151 (k_X11_stale l D cy w z0 O tn1 f5 pX) tn1 rfl rfl rfl ⟨by decide, by decide⟩ (Nat.le_of_ble_eq_true rfl) dL_law_1611 ⟨(by show _ ≤ 601024; omega), (by show _ ≤ 7293034; omega)⟩) (fun r6 h7 f9 K8 => ?_)
  obtain ⟨O10, F11, f12, p13⟩ := K8
  refine g_pop C rfl dL_law_1614 ?_
  refine g_aload_n C rfl 2 rfl dL_law_1615 ?_
  refine g_aload_n C rfl 4 rfl dL_law_1616 ?_
  refine g_iload C 0 rfl dL_law_1617 ?_
  refine g_iconst C dL_law_1619 ?_
  refine g_iadd C dL_law_1620 ?_
  refine g_sld C hX hbl hbz ⟨by omega, by omega⟩ (by omega) dL_law_1621 ?_
  have e14 : Tg h7 n2 = 12 := (fxT F11 tn2)
  have p15 := (MInv_fx O F11 tn2 rfl pM)
  refine g_callI (st := []) (gc_V C lk_LandSurveyLaw_154 (k_X12_stale l D cy w z0 O10 e14 f5 p15) e14 rfl rfl rfl ⟨by decide, by decide⟩ (Nat.le_of_ble_eq_true rfl) dL_law_1622 ⟨(by show _ ≤ 601024; omega), (by show _ ≤ 7293034; omega)⟩) (fun r16 h17 f19 K18 => ?_)
  obtain ⟨O20, F21, f22⟩ := K18
  refine g_pop C rfl dL_law_1625 ?_
  refine g_goto C 1896 (by decide) dL_law_1626 ?_
  have f23 : (8 : Int) ≤ (x + 8) ∧ (x + 8) ≤ (4096 : Int) := ia_add fx (il 8) (by decide) (by decide)
  refine g_iinc C [(4, .inl (x + 8)), (3, .inr (.inr n3)), (2, .inr (.inr n2)), (1, .inr (.inr n1)), (0, .inr (.inr (b + 1)))] 0 rfl (by decide) rfl dL_law_1896 ?_
  refine g_goto C 23 (by decide) dL_law_1899 ?_
  refine GW.sub [0, 1, 2, 3, 4] rfl ?_
  refine GW.widen (by omega : _ ≤ 13 * (x + 8).toNat + 119) (by omega : _ ≤ 806 * (x + 8).toNat + 52115) ?_
  have e24 : Qask h7 n1 = F1 := Eq.trans (show Qask h7 n1 = Qask h n1 from (Qask_fx O F11 tn1 rfl)) e2
  have e26 : Tg h7 n1 = 11 := (fxT F11 tn1)
  have e25 : Qask h17 n1 = F1 := Eq.trans (show Qask h17 n1 = Qask h7 n1 from (Qask_fx O10 F21 e26 rfl)) e24
  have e27 : Qm 82 h7 n2 = F1 := Eq.trans (show Qm 82 h7 n2 = Qm 82 h n2 from (mAI (j := 82) O F11 tn2 rE_12_82 ar_182101 rfl rfl)) e3
  have e28 : Qm 82 h17 n2 = F1 := Eq.trans (show Qm 82 h17 n2 = Qm 82 h7 n2 from (mAI (j := 82) O10 F21 e14 rE_12_82 ar_182101 rfl rfl)) e27
  have p29 := (ASK_fx O10 F21 e26 rfl (ASK_fx O F11 tn1 rfl hT.2))
  have p30 := (XInv_fx O10 F21 e26 rfl p13)
  have p31 := (MInv_fx O10 F21 e14 rfl p15)
  have e32 : Tg h17 n1 = 11 := (fxT F21 e26)
  have e33 : Tg h17 n2 = 12 := (fxT F21 e14)
  have e34 : Tg h17 n3 = 99102 := (fxT F21 (fxT F11 tn3))
  have e35 : Tg h7 n3 = 99102 := (fxT F11 tn3)
  have e36 : Ln h17 n3 = 1 := ((fxL F21 e35).trans ((fxL F11 tn3).trans ln3))
  exact IH _ O20 e32 e33 e34 e36 p30 p31 ⟨(e25.trans (Eq.symm e28)), p29⟩
set_option maxRecDepth 100000 in
set_option maxHeartbeats 8000000 in
theorem law_c28 (l : Launch) (hst : l.stackTraces = false) {p : Program} {e : Env} {s : State} {m : MethodId} {below : List Frame} {meth : Method} {c : Code} {D : va_G} {cy : Nat → ClassId} {w : Nat → Nat} {z0 b L : Nat} {xs : Nat → Int32} {h : Hp} {x : Int} {n1 n2 n3 : Nat} (C : Cx p l room_1 s m #[Value.ref b] meth c D cy z0 7 cL_law "LandSurveyLaw" w) (hr : meth.sig.returnType = ret) (hX : va_X b L xs s s.heap) (hbl : b < s.heap.size) (hbz : b < z0) (hzs : s.heap.size ≤ z0) (hL : L ≤ 4096) (fx : 0 ≤ x ∧ x ≤ 4088) (hq : x ≤ (L : Int) - 8) (O : Okh h) (tn1 : Tg h n1 = 11) (tn2 : Tg h n2 = 12) (tn3 : Tg h n3 = 99102) (ln3 : Ln h n3 = 1) (pX : XInv h n1) (pM : MInv h n2) (hT : Qask h n1 = Qm 82 h n2 ∧ ASK h n1) (IH : ∀ (h1 : Hp), Okh h1 → Tg h1 n1 = 11 → Tg h1 n2 = 12 → Tg h1 n3 = 99102 → Ln h1 n3 = 1 → XInv h1 n1 → MInv h1 n2 → Qask h1 n1 = Qm 82 h1 n2 ∧ ASK h1 n1 → GW p l e room_1 s m #[Value.ref b] below meth c D cy z0 7 (lw_Z below #[Value.ref b] s) 23 [(4, .inl (x + 8)), (3, .inr (.inr n3)), (2, .inr (.inr n2)), (1, .inr (.inr n1)), (0, .inr (.inr (b + 1)))] [] h1 (13 * (x + 8).toNat + 119) (806 * (x + 8).toNat + 52115)) : GW p l e room_1 s m #[Value.ref b] below meth c D cy z0 7 (lw_Z below #[Value.ref b] s) 1629 [(4, .inl x), (3, .inr (.inr n3)), (2, .inr (.inr n2)), (1, .inr (.inr n1)), (0, .inr (.inr (b + 1)))] [] h (13 * x.toNat + 119) (806 * x.toNat + 52115) := by
  obtain ⟨F1, e2⟩ : ∃ z, Qask h n1 = z := ⟨_, rfl⟩
  have e3 : Qm 82 h n2 = F1 := (Eq.symm hT.1).trans e2
  refine g_aload_n C rfl 3 rfl dL_law_1629 ?_
  refine g_aload_n C rfl 4 rfl dL_law_1630 ?_
  refine g_iload C 0 rfl dL_law_1631 ?_
  refine g_iconst C dL_law_1633 ?_
  have f4 : (1 : Int) ≤ (x + 1) ∧ (x + 1) ≤ (4089 : Int) := ia_add fx (il 1) (by decide) (by decide)
  refine g_iadd C dL_law_1634 ?_
  refine g_sld C hX hbl hbz ⟨by omega, by omega⟩ (by omega) dL_law_1635 ?_
  have f5 : (-2147483648 : Int) ≤ (sx xs (x + 1)) ∧ (sx xs (x + 1)) ≤ (2147483647 : Int) := inR_of _
  refine g_aload_n C rfl 4 rfl dL_law_1636 ?_
  refine g_iload C 0 rfl dL_law_1637 ?_
  refine g_iconst C dL_law_1639 ?_
  have f6 : (2 : Int) ≤ (x + 2) ∧ (x + 2) ≤ (4090 : Int) := ia_add fx (il 2) (by decide) (by decide)
  refine g_iadd C dL_law_1640 ?_
  refine g_sld C hX hbl hbz ⟨by omega, by omega⟩ (by omega) dL_law_1641 ?_
  have f7 : (-2147483648 : Int) ≤ (sx xs (x + 2)) ∧ (sx xs (x + 2)) ≤ (2147483647 : Int) := inR_of _
  refine g_aload_n C rfl 4 rfl dL_law_1642 ?_
  refine g_iload C 0 rfl dL_law_1643 ?_
  refine g_iconst C dL_law_1645 ?_
  have f8 : (3 : Int) ≤ (x + 3) ∧ (x + 3) ≤ (4091 : Int) := ia_add fx (il 3) (by decide) (by decide)
  refine g_iadd C dL_law_1646 ?_
  refine g_sld C hX hbl hbz ⟨by omega, by omega⟩ (by omega) dL_law_1647 ?_
  have f9 : (-2147483648 : Int) ≤ (sx xs (x + 3)) ∧ (sx xs (x + 3)) ≤ (2147483647 : Int) := inR_of _
  refine g_callI (st := []) (gc_V C lk_LandSurveyLaw_155 (k_X11_doubles l D cy w z0 O tn1 f5 f7 f9 pX) tn1 rfl rfl rfl ⟨by decide, by decide⟩ (Nat.le_of_ble_eq_true rfl) dL_law_1648 ⟨(by show _ ≤ 601024; omega), (by show _ ≤ 7293034; omega)⟩) (fun r10 h11 f13 K12 => ?_)
  obtain ⟨O14, F15, f16, p17⟩ := K12
  refine g_pop C rfl dL_law_1651 ?_
  refine g_aload_n C rfl 2 rfl dL_law_1652 ?_
  refine g_aload_n C rfl 4 rfl dL_law_1653 ?_
  refine g_iload C 0 rfl dL_law_1654 ?_
  refine g_iconst C dL_law_1656 ?_
  refine g_iadd C dL_law_1657 ?_
  refine g_sld C hX hbl hbz ⟨by omega, by omega⟩ (by omega) dL_law_1658 ?_
  refine g_aload_n C rfl 4 rfl dL_law_1659 ?_
  refine g_iload C 0 rfl dL_law_1660 ?_
  refine g_iconst C dL_law_1662 ?_
  refine g_iadd C dL_law_1663 ?_
  refine g_sld C hX hbl hbz ⟨by omega, by omega⟩ (by omega) dL_law_1664 ?_
  refine g_aload_n C rfl 4 rfl dL_law_1665 ?_
  refine g_iload C 0 rfl dL_law_1666 ?_
  refine g_iconst C dL_law_1668 ?_
  refine g_iadd C dL_law_1669 ?_
  refine g_sld C hX hbl hbz ⟨by omega, by omega⟩ (by omega) dL_law_1670 ?_
  have e18 : Tg h11 n2 = 12 := (fxT F15 tn2)
  have p19 := (MInv_fx O F15 tn2 rfl pM)
  refine g_callI (st := []) (gc_V C lk_LandSurveyLaw_158 (k_X12_doubles l D cy w z0 O14 e18 f5 f7 f9 p19) e18 rfl rfl rfl ⟨by decide, by decide⟩ (Nat.le_of_ble_eq_true rfl) dL_law_1671 ⟨(by show _ ≤ 601024; omega), (by show _ ≤ 7293034; omega)⟩) (fun r20 h21 f23 K22 => ?_)
  obtain ⟨O24, F25, f26⟩ := K22
  refine g_pop C rfl dL_law_1674 ?_
  refine g_goto C 1896 (by decide) dL_law_1675 ?_
  have f27 : (8 : Int) ≤ (x + 8) ∧ (x + 8) ≤ (4096 : Int) := ia_add fx (il 8) (by decide) (by decide)
  refine g_iinc C [(4, .inl (x + 8)), (3, .inr (.inr n3)), (2, .inr (.inr n2)), (1, .inr (.inr n1)), (0, .inr (.inr (b + 1)))] 0 rfl (by decide) rfl dL_law_1896 ?_
  refine g_goto C 23 (by decide) dL_law_1899 ?_
  refine GW.sub [0, 1, 2, 3, 4] rfl ?_
  refine GW.widen (by omega : _ ≤ 13 * (x + 8).toNat + 119) (by omega : _ ≤ 806 * (x + 8).toNat + 52115) ?_
  have e28 : Qask h11 n1 = F1 := Eq.trans (show Qask h11 n1 = Qask h n1 from (Qask_fx O F15 tn1 rfl)) e2
  have e30 : Tg h11 n1 = 11 := (fxT F15 tn1)
  have e29 : Qask h21 n1 = F1 := Eq.trans (show Qask h21 n1 = Qask h11 n1 from (Qask_fx O14 F25 e30 rfl)) e28
  have e31 : Qm 82 h11 n2 = F1 := Eq.trans (show Qm 82 h11 n2 = Qm 82 h n2 from (mAI (j := 82) O F15 tn2 rE_12_82 ar_182101 rfl rfl)) e3
  have e32 : Qm 82 h21 n2 = F1 := Eq.trans (show Qm 82 h21 n2 = Qm 82 h11 n2 from (mAI (j := 82) O14 F25 e18 rE_12_82 ar_182101 rfl rfl)) e31
  have p33 := (ASK_fx O14 F25 e30 rfl (ASK_fx O F15 tn1 rfl hT.2))
  have p34 := (XInv_fx O14 F25 e30 rfl p17)
  have p35 := (MInv_fx O14 F25 e18 rfl p19)
  have e36 : Tg h21 n1 = 11 := (fxT F25 e30)
  have e37 : Tg h21 n2 = 12 := (fxT F25 e18)
  have e38 : Tg h21 n3 = 99102 := (fxT F25 (fxT F15 tn3))
  have e39 : Tg h11 n3 = 99102 := (fxT F15 tn3)
  have e40 : Ln h21 n3 = 1 := ((fxL F25 e39).trans ((fxL F15 tn3).trans ln3))
  exact IH _ O24 e36 e37 e38 e40 p34 p35 ⟨(e29.trans (Eq.symm e32)), p33⟩
set_option maxRecDepth 100000 in
set_option maxHeartbeats 8000000 in
theorem law_c29 (l : Launch) (hst : l.stackTraces = false) {p : Program} {e : Env} {s : State} {m : MethodId} {below : List Frame} {meth : Method} {c : Code} {D : va_G} {cy : Nat → ClassId} {w : Nat → Nat} {z0 b L : Nat} {xs : Nat → Int32} {h : Hp} {x : Int} {n1 n2 n3 : Nat} (C : Cx p l room_1 s m #[Value.ref b] meth c D cy z0 7 cL_law "LandSurveyLaw" w) (hr : meth.sig.returnType = ret) (hX : va_X b L xs s s.heap) (hbl : b < s.heap.size) (hbz : b < z0) (hzs : s.heap.size ≤ z0) (hL : L ≤ 4096) (fx : 0 ≤ x ∧ x ≤ 4088) (hq : x ≤ (L : Int) - 8) (O : Okh h) (tn1 : Tg h n1 = 11) (tn2 : Tg h n2 = 12) (tn3 : Tg h n3 = 99102) (ln3 : Ln h n3 = 1) (pX : XInv h n1) (pM : MInv h n2) (hT : Qask h n1 = Qm 82 h n2 ∧ ASK h n1) (IH : ∀ (h1 : Hp), Okh h1 → Tg h1 n1 = 11 → Tg h1 n2 = 12 → Tg h1 n3 = 99102 → Ln h1 n3 = 1 → XInv h1 n1 → MInv h1 n2 → Qask h1 n1 = Qm 82 h1 n2 ∧ ASK h1 n1 → GW p l e room_1 s m #[Value.ref b] below meth c D cy z0 7 (lw_Z below #[Value.ref b] s) 23 [(4, .inl (x + 8)), (3, .inr (.inr n3)), (2, .inr (.inr n2)), (1, .inr (.inr n1)), (0, .inr (.inr (b + 1)))] [] h1 (13 * (x + 8).toNat + 119) (806 * (x + 8).toNat + 52115)) : GW p l e room_1 s m #[Value.ref b] below meth c D cy z0 7 (lw_Z below #[Value.ref b] s) 1678 [(4, .inl x), (3, .inr (.inr n3)), (2, .inr (.inr n2)), (1, .inr (.inr n1)), (0, .inr (.inr (b + 1)))] [] h (13 * x.toNat + 119) (806 * x.toNat + 52115) := by
  obtain ⟨F1, e2⟩ : ∃ z, Qask h n1 = z := ⟨_, rfl⟩
  have e3 : Qm 82 h n2 = F1 := (Eq.symm hT.1).trans e2
  refine g_aload_n C rfl 3 rfl dL_law_1678 ?_
  refine g_aload_n C rfl 4 rfl dL_law_1679 ?_
  refine g_iload C 0 rfl dL_law_1680 ?_
  refine g_iconst C dL_law_1682 ?_
  have f4 : (1 : Int) ≤ (x + 1) ∧ (x + 1) ≤ (4089 : Int) := ia_add fx (il 1) (by decide) (by decide)
  refine g_iadd C dL_law_1683 ?_
  refine g_sld C hX hbl hbz ⟨by omega, by omega⟩ (by omega) dL_law_1684 ?_
  have f5 : (-2147483648 : Int) ≤ (sx xs (x + 1)) ∧ (sx xs (x + 1)) ≤ (2147483647 : Int) := inR_of _
  refine g_aload_n C rfl 1 rfl dL_law_1685 ?_
  refine g_callI (st := []) (gw_S C (k_L_habit l hst D cy w z0 O tn1 f5 tn3 ln3 pX) kw_1452 kw_1453 kw_143 kw_1454 okL_habit rfl ⟨by decide, by decide⟩ (Nat.le_of_ble_eq_true rfl) dL_law_1686 ⟨(by show _ ≤ 601024; omega), (by show _ ≤ 7293034; omega)⟩) (fun r6 h7 f8 K9 => ?_)
  obtain ⟨O10, F11, f12, p13⟩ := K9
  refine g_istore C [(5, .inl r6), (4, .inl x), (3, .inr (.inr n3)), (2, .inr (.inr n2)), (1, .inr (.inr n1)), (0, .inr (.inr (b + 1)))] (by decide) rfl dL_law_1689 ?_
  refine g_aload_n C rfl 3 rfl dL_law_1691 ?_
  refine g_aload_n C rfl 5 rfl dL_law_1692 ?_
  refine g_iload C 1 rfl dL_law_1693 ?_
  refine g_iconst C dL_law_1695 ?_
  refine g_iadd C dL_law_1696 ?_
  refine g_sld C hX hbl hbz ⟨by omega, by omega⟩ (by omega) dL_law_1697 ?_
  have e14 : Tg h7 n2 = 12 := (fxT F11 tn2)
  have p15 := (MInv_fx O F11 tn2 rfl pM)
  refine g_callI (st := []) (gc_V C lk_LandSurveyLaw_162 (k_X12_habit l D cy w z0 O10 e14 f5 p15) e14 rfl rfl rfl ⟨by decide, by decide⟩ (Nat.le_of_ble_eq_true rfl) dL_law_1698 ⟨(by show _ ≤ 601024; omega), (by show _ ≤ 7293034; omega)⟩) (fun r16 h17 f19 K18 => ?_)
  obtain ⟨O20, F21, f22⟩ := K18
  refine g_istore C [(6, .inl r16), (5, .inl r6), (4, .inl x), (3, .inr (.inr n3)), (2, .inr (.inr n2)), (1, .inr (.inr n1)), (0, .inr (.inr (b + 1)))] (by decide) rfl dL_law_1701 ?_
  refine g_goto C 1896 (by decide) dL_law_1703 ?_
  have f23 : (8 : Int) ≤ (x + 8) ∧ (x + 8) ≤ (4096 : Int) := ia_add fx (il 8) (by decide) (by decide)
  refine g_iinc C [(4, .inl (x + 8)), (6, .inl r16), (5, .inl r6), (3, .inr (.inr n3)), (2, .inr (.inr n2)), (1, .inr (.inr n1)), (0, .inr (.inr (b + 1)))] 2 rfl (by decide) rfl dL_law_1896 ?_
  refine g_goto C 23 (by decide) dL_law_1899 ?_
  refine GW.sub [0, 3, 4, 5, 6] rfl ?_
  refine GW.widen (by omega : _ ≤ 13 * (x + 8).toNat + 119) (by omega : _ ≤ 806 * (x + 8).toNat + 52115) ?_
  have e24 : Qask h7 n1 = F1 := Eq.trans (show Qask h7 n1 = Qask h n1 from (Qask_fx O F11 tn1 rfl)) e2
  have e26 : Tg h7 n1 = 11 := (fxT F11 tn1)
  have e25 : Qask h17 n1 = F1 := Eq.trans (show Qask h17 n1 = Qask h7 n1 from (Qask_fx O10 F21 e26 rfl)) e24
  have e27 : Qm 82 h7 n2 = F1 := Eq.trans (show Qm 82 h7 n2 = Qm 82 h n2 from (mAI (j := 82) O F11 tn2 rE_12_82 ar_182101 rfl rfl)) e3
  have e28 : Qm 82 h17 n2 = F1 := Eq.trans (show Qm 82 h17 n2 = Qm 82 h7 n2 from (mAI (j := 82) O10 F21 e14 rE_12_82 ar_182101 rfl rfl)) e27
  have p29 := (ASK_fx O10 F21 e26 rfl (ASK_fx O F11 tn1 rfl hT.2))
  have p30 := (XInv_fx O10 F21 e26 rfl p13)
  have p31 := (MInv_fx O10 F21 e14 rfl p15)
  have e32 : Tg h17 n1 = 11 := (fxT F21 e26)
  have e33 : Tg h17 n2 = 12 := (fxT F21 e14)
  have e34 : Tg h17 n3 = 99102 := (fxT F21 (fxT F11 tn3))
  have e35 : Tg h7 n3 = 99102 := (fxT F11 tn3)
  have e36 : Ln h17 n3 = 1 := ((fxL F21 e35).trans ((fxL F11 tn3).trans ln3))
  exact IH _ O20 e32 e33 e34 e36 p30 p31 ⟨(e25.trans (Eq.symm e28)), p29⟩
set_option maxRecDepth 100000 in
set_option maxHeartbeats 8000000 in
theorem law_c30 (l : Launch) (hst : l.stackTraces = false) {p : Program} {e : Env} {s : State} {m : MethodId} {below : List Frame} {meth : Method} {c : Code} {D : va_G} {cy : Nat → ClassId} {w : Nat → Nat} {z0 b L : Nat} {xs : Nat → Int32} {h : Hp} {x : Int} {n1 n2 n3 : Nat} (C : Cx p l room_1 s m #[Value.ref b] meth c D cy z0 7 cL_law "LandSurveyLaw" w) (hr : meth.sig.returnType = ret) (hX : va_X b L xs s s.heap) (hbl : b < s.heap.size) (hbz : b < z0) (hzs : s.heap.size ≤ z0) (hL : L ≤ 4096) (fx : 0 ≤ x ∧ x ≤ 4088) (hq : x ≤ (L : Int) - 8) (O : Okh h) (tn1 : Tg h n1 = 11) (tn2 : Tg h n2 = 12) (tn3 : Tg h n3 = 99102) (ln3 : Ln h n3 = 1) (pX : XInv h n1) (pM : MInv h n2) (hT : Qask h n1 = Qm 82 h n2 ∧ ASK h n1) (IH : ∀ (h1 : Hp), Okh h1 → Tg h1 n1 = 11 → Tg h1 n2 = 12 → Tg h1 n3 = 99102 → Ln h1 n3 = 1 → XInv h1 n1 → MInv h1 n2 → Qask h1 n1 = Qm 82 h1 n2 ∧ ASK h1 n1 → GW p l e room_1 s m #[Value.ref b] below meth c D cy z0 7 (lw_Z below #[Value.ref b] s) 23 [(4, .inl (x + 8)), (3, .inr (.inr n3)), (2, .inr (.inr n2)), (1, .inr (.inr n1)), (0, .inr (.inr (b + 1)))] [] h1 (13 * (x + 8).toNat + 119) (806 * (x + 8).toNat + 52115)) : GW p l e room_1 s m #[Value.ref b] below meth c D cy z0 7 (lw_Z below #[Value.ref b] s) 1706 [(4, .inl x), (3, .inr (.inr n3)), (2, .inr (.inr n2)), (1, .inr (.inr n1)), (0, .inr (.inr (b + 1)))] [] h (13 * x.toNat + 119) (806 * x.toNat + 52115) := by
  obtain ⟨F1, e2⟩ : ∃ z, Qask h n1 = z := ⟨_, rfl⟩
  have e3 : Qm 82 h n2 = F1 := (Eq.symm hT.1).trans e2
  refine g_aload_n C rfl 3 rfl dL_law_1706 ?_
  refine g_aload_n C rfl 4 rfl dL_law_1707 ?_
  refine g_iload C 0 rfl dL_law_1708 ?_
  refine g_iconst C dL_law_1710 ?_
  have f4 : (1 : Int) ≤ (x + 1) ∧ (x + 1) ≤ (4089 : Int) := ia_add fx (il 1) (by decide) (by decide)
  refine g_iadd C dL_law_1711 ?_
  refine g_sld C hX hbl hbz ⟨by omega, by omega⟩ (by omega) dL_law_1712 ?_
  have f5 : (-2147483648 : Int) ≤ (sx xs (x + 1)) ∧ (sx xs (x + 1)) ≤ (2147483647 : Int) := inR_of _
  refine g_aload_n C rfl 4 rfl dL_law_1713 ?_
  refine g_iload C 0 rfl dL_law_1714 ?_
  refine g_iconst C dL_law_1716 ?_
  have f6 : (2 : Int) ≤ (x + 2) ∧ (x + 2) ≤ (4090 : Int) := ia_add fx (il 2) (by decide) (by decide)
  refine g_iadd C dL_law_1717 ?_
  refine g_sld C hX hbl hbz ⟨by omega, by omega⟩ (by omega) dL_law_1718 ?_
  have f7 : (-2147483648 : Int) ≤ (sx xs (x + 2)) ∧ (sx xs (x + 2)) ≤ (2147483647 : Int) := inR_of _
  refine g_aload_n C rfl 4 rfl dL_law_1719 ?_
  refine g_iload C 0 rfl dL_law_1720 ?_
  refine g_iconst C dL_law_1722 ?_
  have f8 : (3 : Int) ≤ (x + 3) ∧ (x + 3) ≤ (4091 : Int) := ia_add fx (il 3) (by decide) (by decide)
  refine g_iadd C dL_law_1723 ?_
  refine g_sld C hX hbl hbz ⟨by omega, by omega⟩ (by omega) dL_law_1724 ?_
  have f9 : (-2147483648 : Int) ≤ (sx xs (x + 3)) ∧ (sx xs (x + 3)) ≤ (2147483647 : Int) := inR_of _
  refine g_if_eq C f9 1732 (by decide) dL_law_1725 (fun q10 => ?_) (fun q11 => ?_)
  · have f12 : (0 : Int) ≤ (sx xs (x + 3)) ∧ (sx xs (x + 3)) ≤ (0 : Int) := ii f9 (r_eq (il 0) q10) (by decide) (by decide)
    refine g_iconst C dL_law_1732 ?_
    refine g_callI (st := []) (gc_V C lk_LandSurveyLaw_163 (k3_X11_question l D cy w z0 O tn1 f5 f7 (iw (il 0) (by decide) (by decide)) pX hT.2) tn1 rfl rfl rfl ⟨by decide, by decide⟩ (Nat.le_of_ble_eq_true rfl) dL_law_1733 ⟨(by show _ ≤ 601024; omega), (by show _ ≤ 7293034; omega)⟩) (fun r13 h14 f16 K15 => ?_)
    obtain ⟨O17, F18, f19, p20, p21, p22, p23⟩ := K15
    try rw [e2] at p22
    try rw [e2] at p23
    refine g_aload_n C rfl 2 rfl dL_law_1736 ?_
    refine g_aload_n C rfl 4 rfl dL_law_1737 ?_
    refine g_iload C 0 rfl dL_law_1738 ?_
    refine g_iconst C dL_law_1740 ?_
    refine g_iadd C dL_law_1741 ?_
    refine g_sld C hX hbl hbz ⟨by omega, by omega⟩ (by omega) dL_law_1742 ?_
    refine g_aload_n C rfl 4 rfl dL_law_1743 ?_
    refine g_iload C 0 rfl dL_law_1744 ?_
    refine g_iconst C dL_law_1746 ?_
    refine g_iadd C dL_law_1747 ?_
    refine g_sld C hX hbl hbz ⟨by omega, by omega⟩ (by omega) dL_law_1748 ?_
    refine g_aload_n C rfl 4 rfl dL_law_1749 ?_
    refine g_iload C 0 rfl dL_law_1750 ?_
    refine g_iconst C dL_law_1752 ?_
    refine g_iadd C dL_law_1753 ?_
    refine g_sld C hX hbl hbz ⟨by omega, by omega⟩ (by omega) dL_law_1754 ?_
    refine g_if_eq C (iw f12 (by decide) (by decide)) 1762 (by decide) dL_law_1755 (fun q24 => ?_) (fun q25 => ?_)
    · refine g_iconst C dL_law_1762 ?_
      have e26 : Tg h14 n2 = 12 := (fxT F18 tn2)
      refine g_callI (st := [.inl r13]) (gc_V C lk_LandSurveyLaw_166 (k3_X12_question l D cy w z0 O17 e26 f5 f7 (iw (il 0) (by decide) (by decide))) e26 rfl rfl rfl ⟨by decide, by decide⟩ (Nat.le_of_ble_eq_true rfl) dL_law_1763 ⟨(by show _ ≤ 601024; omega), (by show _ ≤ 7293034; omega)⟩) (fun r27 h28 f30 K29 => ?_)
      obtain ⟨O31, F32, f33, p34, p35⟩ := K29
      have e36 : Qm 82 h14 n2 = F1 := Eq.trans (show Qm 82 h14 n2 = Qm 82 h n2 from (mAI (j := 82) O F18 tn2 rE_12_82 ar_182101 rfl rfl)) e3
      try rw [e36] at p34
      try rw [e36] at p35
      refine g_icmp_eq C (iw f19 (by decide) (by decide)) (iw f33 (by decide) (by decide)) 1896 (by decide) dL_law_1766 (fun q37 => ?_) (fun q38 => ?_)
      · have f39 : (8 : Int) ≤ (x + 8) ∧ (x + 8) ≤ (4096 : Int) := ia_add fx (il 8) (by decide) (by decide)
        refine g_iinc C [(4, .inl (x + 8)), (3, .inr (.inr n3)), (2, .inr (.inr n2)), (1, .inr (.inr n1)), (0, .inr (.inr (b + 1)))] 0 rfl (by decide) rfl dL_law_1896 ?_
        refine g_goto C 23 (by decide) dL_law_1899 ?_
        refine GW.sub [0, 1, 2, 3, 4] rfl ?_
        refine GW.widen (by omega : _ ≤ 13 * (x + 8).toNat + 119) (by omega : _ ≤ 806 * (x + 8).toNat + 52115) ?_
        have e41 : Tg h14 n1 = 11 := (fxT F18 tn1)
        have e40 : Qask h28 n1 = (quU (sx xs (x + 1)) (sx xs (x + 2)) 0 F1) := Eq.trans (show Qask h28 n1 = Qask h14 n1 from (Qask_fx O17 F32 e41 rfl)) p23
        have p42 := (ASK_fx O17 F32 e41 rfl p21)
        have p43 := (XInv_fx O17 F32 e41 rfl p20)
        have p44 := (MInv_fx O17 F32 e26 rfl (MInv_fx O F18 tn2 rfl pM))
        have e45 : Tg h28 n1 = 11 := (fxT F32 e41)
        have e46 : Tg h28 n2 = 12 := (fxT F32 e26)
        have e47 : Tg h28 n3 = 99102 := (fxT F32 (fxT F18 tn3))
        have e48 : Tg h14 n3 = 99102 := (fxT F18 tn3)
        have e49 : Ln h28 n3 = 1 := ((fxL F32 e48).trans ((fxL F18 tn3).trans ln3))
        exact IH _ O31 e45 e46 e47 e49 p43 p44 ⟨(e40.trans (Eq.symm p35)), p42⟩
      · exact (show False by omega).elim
    · exact (no_ne f12 (il 0) q25 (by decide)).elim
  · refine g_iconst C dL_law_1728 ?_
    refine g_goto C 1733 (by decide) dL_law_1729 ?_
    refine g_callI (st := []) (gc_V C lk_LandSurveyLaw_163 (k3_X11_question l D cy w z0 O tn1 f5 f7 (iw (il 1) (by decide) (by decide)) pX hT.2) tn1 rfl rfl rfl ⟨by decide, by decide⟩ (Nat.le_of_ble_eq_true rfl) dL_law_1733 ⟨(by show _ ≤ 601024; omega), (by show _ ≤ 7293034; omega)⟩) (fun r50 h51 f53 K52 => ?_)
    obtain ⟨O54, F55, f56, p57, p58, p59, p60⟩ := K52
    try rw [e2] at p59
    try rw [e2] at p60
    refine g_aload_n C rfl 2 rfl dL_law_1736 ?_
    refine g_aload_n C rfl 4 rfl dL_law_1737 ?_
    refine g_iload C 0 rfl dL_law_1738 ?_
    refine g_iconst C dL_law_1740 ?_
    refine g_iadd C dL_law_1741 ?_
    refine g_sld C hX hbl hbz ⟨by omega, by omega⟩ (by omega) dL_law_1742 ?_
    refine g_aload_n C rfl 4 rfl dL_law_1743 ?_
    refine g_iload C 0 rfl dL_law_1744 ?_
    refine g_iconst C dL_law_1746 ?_
    refine g_iadd C dL_law_1747 ?_
    refine g_sld C hX hbl hbz ⟨by omega, by omega⟩ (by omega) dL_law_1748 ?_
    refine g_aload_n C rfl 4 rfl dL_law_1749 ?_
    refine g_iload C 0 rfl dL_law_1750 ?_
    refine g_iconst C dL_law_1752 ?_
    refine g_iadd C dL_law_1753 ?_
    refine g_sld C hX hbl hbz ⟨by omega, by omega⟩ (by omega) dL_law_1754 ?_
    refine g_if_eq C f9 1762 (by decide) dL_law_1755 (fun q61 => ?_) (fun q62 => ?_)
    · have f63 : (0 : Int) ≤ (sx xs (x + 3)) ∧ (sx xs (x + 3)) ≤ (0 : Int) := ii f9 (r_eq (il 0) q61) (by decide) (by decide)
      refine g_iconst C dL_law_1762 ?_
      have e64 : Tg h51 n2 = 12 := (fxT F55 tn2)
      refine g_callI (st := [.inl r50]) (gc_V C lk_LandSurveyLaw_166 (k3_X12_question l D cy w z0 O54 e64 f5 f7 (iw (il 0) (by decide) (by decide))) e64 rfl rfl rfl ⟨by decide, by decide⟩ (Nat.le_of_ble_eq_true rfl) dL_law_1763 ⟨(by show _ ≤ 601024; omega), (by show _ ≤ 7293034; omega)⟩) (fun r65 h66 f68 K67 => ?_)
      obtain ⟨O69, F70, f71, p72, p73⟩ := K67
      have e74 : Qm 82 h51 n2 = F1 := Eq.trans (show Qm 82 h51 n2 = Qm 82 h n2 from (mAI (j := 82) O F55 tn2 rE_12_82 ar_182101 rfl rfl)) e3
      try rw [e74] at p72
      try rw [e74] at p73
      refine g_icmp_eq C (iw f56 (by decide) (by decide)) (iw f71 (by decide) (by decide)) 1896 (by decide) dL_law_1766 (fun q75 => ?_) (fun q76 => ?_)
      · have f77 : (8 : Int) ≤ (x + 8) ∧ (x + 8) ≤ (4096 : Int) := ia_add fx (il 8) (by decide) (by decide)
        refine g_iinc C [(4, .inl (x + 8)), (3, .inr (.inr n3)), (2, .inr (.inr n2)), (1, .inr (.inr n1)), (0, .inr (.inr (b + 1)))] 0 rfl (by decide) rfl dL_law_1896 ?_
        refine g_goto C 23 (by decide) dL_law_1899 ?_
        refine GW.sub [0, 1, 2, 3, 4] rfl ?_
        refine GW.widen (by omega : _ ≤ 13 * (x + 8).toNat + 119) (by omega : _ ≤ 806 * (x + 8).toNat + 52115) ?_
        have e79 : Tg h51 n1 = 11 := (fxT F55 tn1)
        have e78 : Qask h66 n1 = (quU (sx xs (x + 1)) (sx xs (x + 2)) 1 F1) := Eq.trans (show Qask h66 n1 = Qask h51 n1 from (Qask_fx O54 F70 e79 rfl)) p60
        exact (show False by omega).elim
      · exact (show False by omega).elim
    · refine g_iconst C dL_law_1758 ?_
      refine g_goto C 1763 (by decide) dL_law_1759 ?_
      have e80 : Tg h51 n2 = 12 := (fxT F55 tn2)
      refine g_callI (st := [.inl r50]) (gc_V C lk_LandSurveyLaw_166 (k3_X12_question l D cy w z0 O54 e80 f5 f7 (iw (il 1) (by decide) (by decide))) e80 rfl rfl rfl ⟨by decide, by decide⟩ (Nat.le_of_ble_eq_true rfl) dL_law_1763 ⟨(by show _ ≤ 601024; omega), (by show _ ≤ 7293034; omega)⟩) (fun r81 h82 f84 K83 => ?_)
      obtain ⟨O85, F86, f87, p88, p89⟩ := K83
      have e90 : Qm 82 h51 n2 = F1 := Eq.trans (show Qm 82 h51 n2 = Qm 82 h n2 from (mAI (j := 82) O F55 tn2 rE_12_82 ar_182101 rfl rfl)) e3
      try rw [e90] at p88
      try rw [e90] at p89
      refine g_icmp_eq C (iw f56 (by decide) (by decide)) (iw f87 (by decide) (by decide)) 1896 (by decide) dL_law_1766 (fun q91 => ?_) (fun q92 => ?_)
      · have f93 : (8 : Int) ≤ (x + 8) ∧ (x + 8) ≤ (4096 : Int) := ia_add fx (il 8) (by decide) (by decide)
        refine g_iinc C [(4, .inl (x + 8)), (3, .inr (.inr n3)), (2, .inr (.inr n2)), (1, .inr (.inr n1)), (0, .inr (.inr (b + 1)))] 0 rfl (by decide) rfl dL_law_1896 ?_
        refine g_goto C 23 (by decide) dL_law_1899 ?_
        refine GW.sub [0, 1, 2, 3, 4] rfl ?_
        refine GW.widen (by omega : _ ≤ 13 * (x + 8).toNat + 119) (by omega : _ ≤ 806 * (x + 8).toNat + 52115) ?_
        have e95 : Tg h51 n1 = 11 := (fxT F55 tn1)
        have e94 : Qask h82 n1 = (quU (sx xs (x + 1)) (sx xs (x + 2)) 1 F1) := Eq.trans (show Qask h82 n1 = Qask h51 n1 from (Qask_fx O54 F86 e95 rfl)) p60
        have p96 := (ASK_fx O54 F86 e95 rfl p58)
        have p97 := (XInv_fx O54 F86 e95 rfl p57)
        have p98 := (MInv_fx O54 F86 e80 rfl (MInv_fx O F55 tn2 rfl pM))
        have e99 : Tg h82 n1 = 11 := (fxT F86 e95)
        have e100 : Tg h82 n2 = 12 := (fxT F86 e80)
        have e101 : Tg h82 n3 = 99102 := (fxT F86 (fxT F55 tn3))
        have e102 : Tg h51 n3 = 99102 := (fxT F55 tn3)
        have e103 : Ln h82 n3 = 1 := ((fxL F86 e102).trans ((fxL F55 tn3).trans ln3))
        exact IH _ O85 e99 e100 e101 e103 p97 p98 ⟨(e94.trans (Eq.symm p89)), p96⟩
      · exact (show False by omega).elim
set_option maxRecDepth 100000 in
set_option maxHeartbeats 8000000 in
theorem law_c31 (l : Launch) (hst : l.stackTraces = false) {p : Program} {e : Env} {s : State} {m : MethodId} {below : List Frame} {meth : Method} {c : Code} {D : va_G} {cy : Nat → ClassId} {w : Nat → Nat} {z0 b L : Nat} {xs : Nat → Int32} {h : Hp} {x : Int} {n1 n2 n3 : Nat} (C : Cx p l room_1 s m #[Value.ref b] meth c D cy z0 7 cL_law "LandSurveyLaw" w) (hr : meth.sig.returnType = ret) (hX : va_X b L xs s s.heap) (hbl : b < s.heap.size) (hbz : b < z0) (hzs : s.heap.size ≤ z0) (hL : L ≤ 4096) (fx : 0 ≤ x ∧ x ≤ 4088) (hq : x ≤ (L : Int) - 8) (O : Okh h) (tn1 : Tg h n1 = 11) (tn2 : Tg h n2 = 12) (tn3 : Tg h n3 = 99102) (ln3 : Ln h n3 = 1) (pX : XInv h n1) (pM : MInv h n2) (hT : Qask h n1 = Qm 82 h n2 ∧ ASK h n1) (IH : ∀ (h1 : Hp), Okh h1 → Tg h1 n1 = 11 → Tg h1 n2 = 12 → Tg h1 n3 = 99102 → Ln h1 n3 = 1 → XInv h1 n1 → MInv h1 n2 → Qask h1 n1 = Qm 82 h1 n2 ∧ ASK h1 n1 → GW p l e room_1 s m #[Value.ref b] below meth c D cy z0 7 (lw_Z below #[Value.ref b] s) 23 [(4, .inl (x + 8)), (3, .inr (.inr n3)), (2, .inr (.inr n2)), (1, .inr (.inr n1)), (0, .inr (.inr (b + 1)))] [] h1 (13 * (x + 8).toNat + 119) (806 * (x + 8).toNat + 52115)) : GW p l e room_1 s m #[Value.ref b] below meth c D cy z0 7 (lw_Z below #[Value.ref b] s) 1771 [(4, .inl x), (3, .inr (.inr n3)), (2, .inr (.inr n2)), (1, .inr (.inr n1)), (0, .inr (.inr (b + 1)))] [] h (13 * x.toNat + 119) (806 * x.toNat + 52115) := by
  obtain ⟨F1, e2⟩ : ∃ z, Qask h n1 = z := ⟨_, rfl⟩
  have e3 : Qm 82 h n2 = F1 := (Eq.symm hT.1).trans e2
  refine g_aload_n C rfl 3 rfl dL_law_1771 ?_
  refine g_aload_n C rfl 4 rfl dL_law_1772 ?_
  refine g_iload C 0 rfl dL_law_1773 ?_
  refine g_iconst C dL_law_1775 ?_
  have f4 : (1 : Int) ≤ (x + 1) ∧ (x + 1) ≤ (4089 : Int) := ia_add fx (il 1) (by decide) (by decide)
  refine g_iadd C dL_law_1776 ?_
  refine g_sld C hX hbl hbz ⟨by omega, by omega⟩ (by omega) dL_law_1777 ?_
  have f5 : (-2147483648 : Int) ≤ (sx xs (x + 1)) ∧ (sx xs (x + 1)) ≤ (2147483647 : Int) := inR_of _
  refine g_aload_n C rfl 4 rfl dL_law_1778 ?_
  refine g_iload C 0 rfl dL_law_1779 ?_
  refine g_iconst C dL_law_1781 ?_
  have f6 : (2 : Int) ≤ (x + 2) ∧ (x + 2) ≤ (4090 : Int) := ia_add fx (il 2) (by decide) (by decide)
  refine g_iadd C dL_law_1782 ?_
  refine g_sld C hX hbl hbz ⟨by omega, by omega⟩ (by omega) dL_law_1783 ?_
  have f7 : (-2147483648 : Int) ≤ (sx xs (x + 2)) ∧ (sx xs (x + 2)) ≤ (2147483647 : Int) := inR_of _
  refine g_aload_n C rfl 4 rfl dL_law_1784 ?_
  refine g_iload C 0 rfl dL_law_1785 ?_
  refine g_iconst C dL_law_1787 ?_
  have f8 : (3 : Int) ≤ (x + 3) ∧ (x + 3) ≤ (4091 : Int) := ia_add fx (il 3) (by decide) (by decide)
  refine g_iadd C dL_law_1788 ?_
  refine g_sld C hX hbl hbz ⟨by omega, by omega⟩ (by omega) dL_law_1789 ?_
  have f9 : (-2147483648 : Int) ≤ (sx xs (x + 3)) ∧ (sx xs (x + 3)) ≤ (2147483647 : Int) := inR_of _
  refine g_callI (st := []) (gc_V C lk_LandSurveyLaw_167 (k_X11_place l D cy w z0 O tn1 f5 f7 f9 pX) tn1 rfl rfl rfl ⟨by decide, by decide⟩ (Nat.le_of_ble_eq_true rfl) dL_law_1790 ⟨(by show _ ≤ 601024; omega), (by show _ ≤ 7293034; omega)⟩) (fun r10 h11 f13 K12 => ?_)
  obtain ⟨O14, F15, f16, p17⟩ := K12
  refine g_pop C rfl dL_law_1793 ?_
  refine g_aload_n C rfl 2 rfl dL_law_1794 ?_
  refine g_aload_n C rfl 4 rfl dL_law_1795 ?_
  refine g_iload C 0 rfl dL_law_1796 ?_
  refine g_iconst C dL_law_1798 ?_
  refine g_iadd C dL_law_1799 ?_
  refine g_sld C hX hbl hbz ⟨by omega, by omega⟩ (by omega) dL_law_1800 ?_
  refine g_aload_n C rfl 4 rfl dL_law_1801 ?_
  refine g_iload C 0 rfl dL_law_1802 ?_
  refine g_iconst C dL_law_1804 ?_
  refine g_iadd C dL_law_1805 ?_
  refine g_sld C hX hbl hbz ⟨by omega, by omega⟩ (by omega) dL_law_1806 ?_
  refine g_aload_n C rfl 4 rfl dL_law_1807 ?_
  refine g_iload C 0 rfl dL_law_1808 ?_
  refine g_iconst C dL_law_1810 ?_
  refine g_iadd C dL_law_1811 ?_
  refine g_sld C hX hbl hbz ⟨by omega, by omega⟩ (by omega) dL_law_1812 ?_
  have e18 : Tg h11 n2 = 12 := (fxT F15 tn2)
  refine g_callI (st := []) (gc_V C lk_LandSurveyLaw_170 (k_X12_place l D cy w z0 O14 e18 f5 f7 f9) e18 rfl rfl rfl ⟨by decide, by decide⟩ (Nat.le_of_ble_eq_true rfl) dL_law_1813 ⟨(by show _ ≤ 601024; omega), (by show _ ≤ 7293034; omega)⟩) (fun r19 h20 f22 K21 => ?_)
  obtain ⟨O23, F24, f25⟩ := K21
  refine g_pop C rfl dL_law_1816 ?_
  refine g_goto C 1896 (by decide) dL_law_1817 ?_
  have f26 : (8 : Int) ≤ (x + 8) ∧ (x + 8) ≤ (4096 : Int) := ia_add fx (il 8) (by decide) (by decide)
  refine g_iinc C [(4, .inl (x + 8)), (3, .inr (.inr n3)), (2, .inr (.inr n2)), (1, .inr (.inr n1)), (0, .inr (.inr (b + 1)))] 0 rfl (by decide) rfl dL_law_1896 ?_
  refine g_goto C 23 (by decide) dL_law_1899 ?_
  refine GW.sub [0, 1, 2, 3, 4] rfl ?_
  refine GW.widen (by omega : _ ≤ 13 * (x + 8).toNat + 119) (by omega : _ ≤ 806 * (x + 8).toNat + 52115) ?_
  have e27 : Qask h11 n1 = F1 := Eq.trans (show Qask h11 n1 = Qask h n1 from (Qask_fx O F15 tn1 rfl)) e2
  have e29 : Tg h11 n1 = 11 := (fxT F15 tn1)
  have e28 : Qask h20 n1 = F1 := Eq.trans (show Qask h20 n1 = Qask h11 n1 from (Qask_fx O14 F24 e29 rfl)) e27
  have e30 : Qm 82 h11 n2 = F1 := Eq.trans (show Qm 82 h11 n2 = Qm 82 h n2 from (mAI (j := 82) O F15 tn2 rE_12_82 ar_182101 rfl rfl)) e3
  have e31 : Qm 82 h20 n2 = F1 := Eq.trans (show Qm 82 h20 n2 = Qm 82 h11 n2 from (mAI (j := 82) O14 F24 e18 rE_12_82 ar_182101 rfl rfl)) e30
  have p32 := (ASK_fx O14 F24 e29 rfl (ASK_fx O F15 tn1 rfl hT.2))
  have p33 := (XInv_fx O14 F24 e29 rfl p17)
  have p34 := (MInv_fx O14 F24 e18 rfl (MInv_fx O F15 tn2 rfl pM))
  have e35 : Tg h20 n1 = 11 := (fxT F24 e29)
  have e36 : Tg h20 n2 = 12 := (fxT F24 e18)
  have e37 : Tg h20 n3 = 99102 := (fxT F24 (fxT F15 tn3))
  have e38 : Tg h11 n3 = 99102 := (fxT F15 tn3)
  have e39 : Ln h20 n3 = 1 := ((fxL F24 e38).trans ((fxL F15 tn3).trans ln3))
  exact IH _ O23 e35 e36 e37 e39 p33 p34 ⟨(e28.trans (Eq.symm e31)), p32⟩
set_option maxRecDepth 100000 in
set_option maxHeartbeats 8000000 in
theorem law_c32 (l : Launch) (hst : l.stackTraces = false) {p : Program} {e : Env} {s : State} {m : MethodId} {below : List Frame} {meth : Method} {c : Code} {D : va_G} {cy : Nat → ClassId} {w : Nat → Nat} {z0 b L : Nat} {xs : Nat → Int32} {h : Hp} {x : Int} {n1 n2 n3 : Nat} (C : Cx p l room_1 s m #[Value.ref b] meth c D cy z0 7 cL_law "LandSurveyLaw" w) (hr : meth.sig.returnType = ret) (hX : va_X b L xs s s.heap) (hbl : b < s.heap.size) (hbz : b < z0) (hzs : s.heap.size ≤ z0) (hL : L ≤ 4096) (fx : 0 ≤ x ∧ x ≤ 4088) (hq : x ≤ (L : Int) - 8) (O : Okh h) (tn1 : Tg h n1 = 11) (tn2 : Tg h n2 = 12) (tn3 : Tg h n3 = 99102) (ln3 : Ln h n3 = 1) (pX : XInv h n1) (pM : MInv h n2) (hT : Qask h n1 = Qm 82 h n2 ∧ ASK h n1) (IH : ∀ (h1 : Hp), Okh h1 → Tg h1 n1 = 11 → Tg h1 n2 = 12 → Tg h1 n3 = 99102 → Ln h1 n3 = 1 → XInv h1 n1 → MInv h1 n2 → Qask h1 n1 = Qm 82 h1 n2 ∧ ASK h1 n1 → GW p l e room_1 s m #[Value.ref b] below meth c D cy z0 7 (lw_Z below #[Value.ref b] s) 23 [(4, .inl (x + 8)), (3, .inr (.inr n3)), (2, .inr (.inr n2)), (1, .inr (.inr n1)), (0, .inr (.inr (b + 1)))] [] h1 (13 * (x + 8).toNat + 119) (806 * (x + 8).toNat + 52115)) : GW p l e room_1 s m #[Value.ref b] below meth c D cy z0 7 (lw_Z below #[Value.ref b] s) 1820 [(4, .inl x), (3, .inr (.inr n3)), (2, .inr (.inr n2)), (1, .inr (.inr n1)), (0, .inr (.inr (b + 1)))] [] h (13 * x.toNat + 119) (806 * x.toNat + 52115) := by
  obtain ⟨F1, e2⟩ : ∃ z, Qask h n1 = z := ⟨_, rfl⟩
  have e3 : Qm 82 h n2 = F1 := (Eq.symm hT.1).trans e2
  refine g_aload_n C rfl 3 rfl dL_law_1820 ?_
  refine g_callI (st := []) (gc_V C lk_LandSurveyLaw_171 (k_X11_doubt l D cy w z0 O tn1 pX) tn1 rfl rfl rfl ⟨by decide, by decide⟩ (Nat.le_of_ble_eq_true rfl) dL_law_1821 ⟨(by show _ ≤ 601024; omega), (by show _ ≤ 7293034; omega)⟩) (fun r4 h5 f7 K6 => ?_)
  obtain ⟨O8, F9, f10, p11⟩ := K6
  refine g_pop C rfl dL_law_1824 ?_
  refine g_aload_n C rfl 2 rfl dL_law_1825 ?_
  have e12 : Tg h5 n2 = 12 := (fxT F9 tn2)
  have p13 := (MInv_fx O F9 tn2 rfl pM)
  refine g_callI (st := []) (gc_V C lk_LandSurveyLaw_174 (k_X12_doubt l D cy w z0 O8 e12 p13) e12 rfl rfl rfl ⟨by decide, by decide⟩ (Nat.le_of_ble_eq_true rfl) dL_law_1826 ⟨(by show _ ≤ 601024; omega), (by show _ ≤ 7293034; omega)⟩) (fun r14 h15 f17 K16 => ?_)
  obtain ⟨O18, F19, f20⟩ := K16
  refine g_pop C rfl dL_law_1829 ?_
  refine g_goto C 1896 (by decide) dL_law_1830 ?_
  have f21 : (8 : Int) ≤ (x + 8) ∧ (x + 8) ≤ (4096 : Int) := ia_add fx (il 8) (by decide) (by decide)
  refine g_iinc C [(4, .inl (x + 8)), (3, .inr (.inr n3)), (2, .inr (.inr n2)), (1, .inr (.inr n1)), (0, .inr (.inr (b + 1)))] 0 rfl (by decide) rfl dL_law_1896 ?_
  refine g_goto C 23 (by decide) dL_law_1899 ?_
  refine GW.sub [0, 1, 2, 3, 4] rfl ?_
  refine GW.widen (by omega : _ ≤ 13 * (x + 8).toNat + 119) (by omega : _ ≤ 806 * (x + 8).toNat + 52115) ?_
  have e22 : Qask h5 n1 = F1 := Eq.trans (show Qask h5 n1 = Qask h n1 from (Qask_fx O F9 tn1 rfl)) e2
  have e24 : Tg h5 n1 = 11 := (fxT F9 tn1)
  have e23 : Qask h15 n1 = F1 := Eq.trans (show Qask h15 n1 = Qask h5 n1 from (Qask_fx O8 F19 e24 rfl)) e22
  have e25 : Qm 82 h5 n2 = F1 := Eq.trans (show Qm 82 h5 n2 = Qm 82 h n2 from (mAI (j := 82) O F9 tn2 rE_12_82 ar_182101 rfl rfl)) e3
  have e26 : Qm 82 h15 n2 = F1 := Eq.trans (show Qm 82 h15 n2 = Qm 82 h5 n2 from (mAI (j := 82) O8 F19 e12 rE_12_82 ar_182101 rfl rfl)) e25
  have p27 := (ASK_fx O8 F19 e24 rfl (ASK_fx O F9 tn1 rfl hT.2))
  have p28 := (XInv_fx O8 F19 e24 rfl p11)
  have p29 := (MInv_fx O8 F19 e12 rfl p13)
  have e30 : Tg h15 n1 = 11 := (fxT F19 e24)
  have e31 : Tg h15 n2 = 12 := (fxT F19 e12)
  have e32 : Tg h15 n3 = 99102 := (fxT F19 (fxT F9 tn3))
  have e33 : Tg h5 n3 = 99102 := (fxT F9 tn3)
  have e34 : Ln h15 n3 = 1 := ((fxL F19 e33).trans ((fxL F9 tn3).trans ln3))
  exact IH _ O18 e30 e31 e32 e34 p28 p29 ⟨(e23.trans (Eq.symm e26)), p27⟩
set_option maxRecDepth 100000 in
set_option maxHeartbeats 8000000 in
theorem law_c33 (l : Launch) (hst : l.stackTraces = false) {p : Program} {e : Env} {s : State} {m : MethodId} {below : List Frame} {meth : Method} {c : Code} {D : va_G} {cy : Nat → ClassId} {w : Nat → Nat} {z0 b L : Nat} {xs : Nat → Int32} {h : Hp} {x : Int} {n1 n2 n3 : Nat} (C : Cx p l room_1 s m #[Value.ref b] meth c D cy z0 7 cL_law "LandSurveyLaw" w) (hr : meth.sig.returnType = ret) (hX : va_X b L xs s s.heap) (hbl : b < s.heap.size) (hbz : b < z0) (hzs : s.heap.size ≤ z0) (hL : L ≤ 4096) (fx : 0 ≤ x ∧ x ≤ 4088) (hq : x ≤ (L : Int) - 8) (O : Okh h) (tn1 : Tg h n1 = 11) (tn2 : Tg h n2 = 12) (tn3 : Tg h n3 = 99102) (ln3 : Ln h n3 = 1) (pX : XInv h n1) (pM : MInv h n2) (hT : Qask h n1 = Qm 82 h n2 ∧ ASK h n1) (IH : ∀ (h1 : Hp), Okh h1 → Tg h1 n1 = 11 → Tg h1 n2 = 12 → Tg h1 n3 = 99102 → Ln h1 n3 = 1 → XInv h1 n1 → MInv h1 n2 → Qask h1 n1 = Qm 82 h1 n2 ∧ ASK h1 n1 → GW p l e room_1 s m #[Value.ref b] below meth c D cy z0 7 (lw_Z below #[Value.ref b] s) 23 [(4, .inl (x + 8)), (3, .inr (.inr n3)), (2, .inr (.inr n2)), (1, .inr (.inr n1)), (0, .inr (.inr (b + 1)))] [] h1 (13 * (x + 8).toNat + 119) (806 * (x + 8).toNat + 52115)) : GW p l e room_1 s m #[Value.ref b] below meth c D cy z0 7 (lw_Z below #[Value.ref b] s) 1833 [(4, .inl x), (3, .inr (.inr n3)), (2, .inr (.inr n2)), (1, .inr (.inr n1)), (0, .inr (.inr (b + 1)))] [] h (13 * x.toNat + 119) (806 * x.toNat + 52115) := by
  obtain ⟨F1, e2⟩ : ∃ z, Qask h n1 = z := ⟨_, rfl⟩
  have e3 : Qm 82 h n2 = F1 := (Eq.symm hT.1).trans e2
  refine g_aload_n C rfl 3 rfl dL_law_1833 ?_
  refine g_aload_n C rfl 4 rfl dL_law_1834 ?_
  refine g_iload C 0 rfl dL_law_1835 ?_
  refine g_iconst C dL_law_1837 ?_
  have f4 : (1 : Int) ≤ (x + 1) ∧ (x + 1) ≤ (4089 : Int) := ia_add fx (il 1) (by decide) (by decide)
  refine g_iadd C dL_law_1838 ?_
  refine g_sld C hX hbl hbz ⟨by omega, by omega⟩ (by omega) dL_law_1839 ?_
  have f5 : (-2147483648 : Int) ≤ (sx xs (x + 1)) ∧ (sx xs (x + 1)) ≤ (2147483647 : Int) := inR_of _
  refine g_callI (st := []) (gc_V C lk_LandSurveyLaw_175 (k_X11_left l D cy w z0 O tn1 f5 pX) tn1 rfl rfl rfl ⟨by decide, by decide⟩ (Nat.le_of_ble_eq_true rfl) dL_law_1840 ⟨(by show _ ≤ 601024; omega), (by show _ ≤ 7293034; omega)⟩) (fun r6 h7 f9 K8 => ?_)
  obtain ⟨O10, F11, f12, p13⟩ := K8
  refine g_pop C rfl dL_law_1843 ?_
  refine g_aload_n C rfl 2 rfl dL_law_1844 ?_
  refine g_aload_n C rfl 4 rfl dL_law_1845 ?_
  refine g_iload C 0 rfl dL_law_1846 ?_
  refine g_iconst C dL_law_1848 ?_
  refine g_iadd C dL_law_1849 ?_
  refine g_sld C hX hbl hbz ⟨by omega, by omega⟩ (by omega) dL_law_1850 ?_
  have e14 : Tg h7 n2 = 12 := (fxT F11 tn2)
  have p15 := (MInv_fx O F11 tn2 rfl pM)
  refine g_callI (st := []) (gc_V C lk_LandSurveyLaw_178 (k_X12_left l D cy w z0 O10 e14 f5 p15) e14 rfl rfl rfl ⟨by decide, by decide⟩ (Nat.le_of_ble_eq_true rfl) dL_law_1851 ⟨(by show _ ≤ 601024; omega), (by show _ ≤ 7293034; omega)⟩) (fun r16 h17 f19 K18 => ?_)
  obtain ⟨O20, F21, f22⟩ := K18
  refine g_pop C rfl dL_law_1854 ?_
  refine g_goto C 1896 (by decide) dL_law_1855 ?_
  have f23 : (8 : Int) ≤ (x + 8) ∧ (x + 8) ≤ (4096 : Int) := ia_add fx (il 8) (by decide) (by decide)
  refine g_iinc C [(4, .inl (x + 8)), (3, .inr (.inr n3)), (2, .inr (.inr n2)), (1, .inr (.inr n1)), (0, .inr (.inr (b + 1)))] 0 rfl (by decide) rfl dL_law_1896 ?_
  refine g_goto C 23 (by decide) dL_law_1899 ?_
  refine GW.sub [0, 1, 2, 3, 4] rfl ?_
  refine GW.widen (by omega : _ ≤ 13 * (x + 8).toNat + 119) (by omega : _ ≤ 806 * (x + 8).toNat + 52115) ?_
  have e24 : Qask h7 n1 = F1 := Eq.trans (show Qask h7 n1 = Qask h n1 from (Qask_fx O F11 tn1 rfl)) e2
  have e26 : Tg h7 n1 = 11 := (fxT F11 tn1)
  have e25 : Qask h17 n1 = F1 := Eq.trans (show Qask h17 n1 = Qask h7 n1 from (Qask_fx O10 F21 e26 rfl)) e24
  have e27 : Qm 82 h7 n2 = F1 := Eq.trans (show Qm 82 h7 n2 = Qm 82 h n2 from (mAI (j := 82) O F11 tn2 rE_12_82 ar_182101 rfl rfl)) e3
  have e28 : Qm 82 h17 n2 = F1 := Eq.trans (show Qm 82 h17 n2 = Qm 82 h7 n2 from (mAI (j := 82) O10 F21 e14 rE_12_82 ar_182101 rfl rfl)) e27
  have p29 := (ASK_fx O10 F21 e26 rfl (ASK_fx O F11 tn1 rfl hT.2))
  have p30 := (XInv_fx O10 F21 e26 rfl p13)
  have p31 := (MInv_fx O10 F21 e14 rfl p15)
  have e32 : Tg h17 n1 = 11 := (fxT F21 e26)
  have e33 : Tg h17 n2 = 12 := (fxT F21 e14)
  have e34 : Tg h17 n3 = 99102 := (fxT F21 (fxT F11 tn3))
  have e35 : Tg h7 n3 = 99102 := (fxT F11 tn3)
  have e36 : Ln h17 n3 = 1 := ((fxL F21 e35).trans ((fxL F11 tn3).trans ln3))
  exact IH _ O20 e32 e33 e34 e36 p30 p31 ⟨(e25.trans (Eq.symm e28)), p29⟩
set_option maxRecDepth 100000 in
set_option maxHeartbeats 8000000 in
theorem law_c34 (l : Launch) (hst : l.stackTraces = false) {p : Program} {e : Env} {s : State} {m : MethodId} {below : List Frame} {meth : Method} {c : Code} {D : va_G} {cy : Nat → ClassId} {w : Nat → Nat} {z0 b L : Nat} {xs : Nat → Int32} {h : Hp} {x : Int} {n1 n2 n3 : Nat} (C : Cx p l room_1 s m #[Value.ref b] meth c D cy z0 7 cL_law "LandSurveyLaw" w) (hr : meth.sig.returnType = ret) (hX : va_X b L xs s s.heap) (hbl : b < s.heap.size) (hbz : b < z0) (hzs : s.heap.size ≤ z0) (hL : L ≤ 4096) (fx : 0 ≤ x ∧ x ≤ 4088) (hq : x ≤ (L : Int) - 8) (O : Okh h) (tn1 : Tg h n1 = 11) (tn2 : Tg h n2 = 12) (tn3 : Tg h n3 = 99102) (ln3 : Ln h n3 = 1) (pX : XInv h n1) (pM : MInv h n2) (hT : Qask h n1 = Qm 82 h n2 ∧ ASK h n1) (IH : ∀ (h1 : Hp), Okh h1 → Tg h1 n1 = 11 → Tg h1 n2 = 12 → Tg h1 n3 = 99102 → Ln h1 n3 = 1 → XInv h1 n1 → MInv h1 n2 → Qask h1 n1 = Qm 82 h1 n2 ∧ ASK h1 n1 → GW p l e room_1 s m #[Value.ref b] below meth c D cy z0 7 (lw_Z below #[Value.ref b] s) 23 [(4, .inl (x + 8)), (3, .inr (.inr n3)), (2, .inr (.inr n2)), (1, .inr (.inr n1)), (0, .inr (.inr (b + 1)))] [] h1 (13 * (x + 8).toNat + 119) (806 * (x + 8).toNat + 52115)) : GW p l e room_1 s m #[Value.ref b] below meth c D cy z0 7 (lw_Z below #[Value.ref b] s) 1858 [(4, .inl x), (3, .inr (.inr n3)), (2, .inr (.inr n2)), (1, .inr (.inr n1)), (0, .inr (.inr (b + 1)))] [] h (13 * x.toNat + 119) (806 * x.toNat + 52115) := by
  obtain ⟨F1, e2⟩ : ∃ z, Qask h n1 = z := ⟨_, rfl⟩
  have e3 : Qm 82 h n2 = F1 := (Eq.symm hT.1).trans e2
  refine g_aload_n C rfl 3 rfl dL_law_1858 ?_
  refine g_callI (st := []) (gc_V C lk_LandSurveyLaw_179 (k_X11_next l D cy w z0 O tn1 pX) tn1 rfl rfl rfl ⟨by decide, by decide⟩ (Nat.le_of_ble_eq_true rfl) dL_law_1859 ⟨(by show _ ≤ 601024; omega), (by show _ ≤ 7293034; omega)⟩) (fun r4 h5 f7 K6 => ?_)
  obtain ⟨O8, F9, f10, p11⟩ := K6
  refine g_pop C rfl dL_law_1862 ?_
  refine g_aload_n C rfl 2 rfl dL_law_1863 ?_
  have e12 : Tg h5 n2 = 12 := (fxT F9 tn2)
  have p13 := (MInv_fx O F9 tn2 rfl pM)
  refine g_callI (st := []) (gc_V C lk_LandSurveyLaw_182 (k_X12_next l D cy w z0 O8 e12 p13) e12 rfl rfl rfl ⟨by decide, by decide⟩ (Nat.le_of_ble_eq_true rfl) dL_law_1864 ⟨(by show _ ≤ 601024; omega), (by show _ ≤ 7293034; omega)⟩) (fun r14 h15 f17 K16 => ?_)
  obtain ⟨O18, F19, f20⟩ := K16
  refine g_pop C rfl dL_law_1867 ?_
  refine g_goto C 1896 (by decide) dL_law_1868 ?_
  have f21 : (8 : Int) ≤ (x + 8) ∧ (x + 8) ≤ (4096 : Int) := ia_add fx (il 8) (by decide) (by decide)
  refine g_iinc C [(4, .inl (x + 8)), (3, .inr (.inr n3)), (2, .inr (.inr n2)), (1, .inr (.inr n1)), (0, .inr (.inr (b + 1)))] 0 rfl (by decide) rfl dL_law_1896 ?_
  refine g_goto C 23 (by decide) dL_law_1899 ?_
  refine GW.sub [0, 1, 2, 3, 4] rfl ?_
  refine GW.widen (by omega : _ ≤ 13 * (x + 8).toNat + 119) (by omega : _ ≤ 806 * (x + 8).toNat + 52115) ?_
  have e22 : Qask h5 n1 = F1 := Eq.trans (show Qask h5 n1 = Qask h n1 from (Qask_fx O F9 tn1 rfl)) e2
  have e24 : Tg h5 n1 = 11 := (fxT F9 tn1)
  have e23 : Qask h15 n1 = F1 := Eq.trans (show Qask h15 n1 = Qask h5 n1 from (Qask_fx O8 F19 e24 rfl)) e22
  have e25 : Qm 82 h5 n2 = F1 := Eq.trans (show Qm 82 h5 n2 = Qm 82 h n2 from (mAI (j := 82) O F9 tn2 rE_12_82 ar_182101 rfl rfl)) e3
  have e26 : Qm 82 h15 n2 = F1 := Eq.trans (show Qm 82 h15 n2 = Qm 82 h5 n2 from (mAI (j := 82) O8 F19 e12 rE_12_82 ar_182101 rfl rfl)) e25
  have p27 := (ASK_fx O8 F19 e24 rfl (ASK_fx O F9 tn1 rfl hT.2))
  have p28 := (XInv_fx O8 F19 e24 rfl p11)
  have p29 := (MInv_fx O8 F19 e12 rfl p13)
  have e30 : Tg h15 n1 = 11 := (fxT F19 e24)
  have e31 : Tg h15 n2 = 12 := (fxT F19 e12)
  have e32 : Tg h15 n3 = 99102 := (fxT F19 (fxT F9 tn3))
  have e33 : Tg h5 n3 = 99102 := (fxT F9 tn3)
  have e34 : Ln h15 n3 = 1 := ((fxL F19 e33).trans ((fxL F9 tn3).trans ln3))
  exact IH _ O18 e30 e31 e32 e34 p28 p29 ⟨(e23.trans (Eq.symm e26)), p27⟩
set_option maxRecDepth 100000 in
set_option maxHeartbeats 8000000 in
theorem law_c35 (l : Launch) (hst : l.stackTraces = false) {p : Program} {e : Env} {s : State} {m : MethodId} {below : List Frame} {meth : Method} {c : Code} {D : va_G} {cy : Nat → ClassId} {w : Nat → Nat} {z0 b L : Nat} {xs : Nat → Int32} {h : Hp} {x : Int} {n1 n2 n3 : Nat} (C : Cx p l room_1 s m #[Value.ref b] meth c D cy z0 7 cL_law "LandSurveyLaw" w) (hr : meth.sig.returnType = ret) (hX : va_X b L xs s s.heap) (hbl : b < s.heap.size) (hbz : b < z0) (hzs : s.heap.size ≤ z0) (hL : L ≤ 4096) (fx : 0 ≤ x ∧ x ≤ 4088) (hq : x ≤ (L : Int) - 8) (O : Okh h) (tn1 : Tg h n1 = 11) (tn2 : Tg h n2 = 12) (tn3 : Tg h n3 = 99102) (ln3 : Ln h n3 = 1) (pX : XInv h n1) (pM : MInv h n2) (hT : Qask h n1 = Qm 82 h n2 ∧ ASK h n1) (IH : ∀ (h1 : Hp), Okh h1 → Tg h1 n1 = 11 → Tg h1 n2 = 12 → Tg h1 n3 = 99102 → Ln h1 n3 = 1 → XInv h1 n1 → MInv h1 n2 → Qask h1 n1 = Qm 82 h1 n2 ∧ ASK h1 n1 → GW p l e room_1 s m #[Value.ref b] below meth c D cy z0 7 (lw_Z below #[Value.ref b] s) 23 [(4, .inl (x + 8)), (3, .inr (.inr n3)), (2, .inr (.inr n2)), (1, .inr (.inr n1)), (0, .inr (.inr (b + 1)))] [] h1 (13 * (x + 8).toNat + 119) (806 * (x + 8).toNat + 52115)) : GW p l e room_1 s m #[Value.ref b] below meth c D cy z0 7 (lw_Z below #[Value.ref b] s) 1871 [(4, .inl x), (3, .inr (.inr n3)), (2, .inr (.inr n2)), (1, .inr (.inr n1)), (0, .inr (.inr (b + 1)))] [] h (13 * x.toNat + 119) (806 * x.toNat + 52115) := by
  obtain ⟨F1, e2⟩ : ∃ z, Qask h n1 = z := ⟨_, rfl⟩
  have e3 : Qm 82 h n2 = F1 := (Eq.symm hT.1).trans e2
  refine g_aload_n C rfl 3 rfl dL_law_1871 ?_
  refine g_aload_n C rfl 4 rfl dL_law_1872 ?_
  refine g_iload C 0 rfl dL_law_1873 ?_
  refine g_iconst C dL_law_1875 ?_
  have f4 : (1 : Int) ≤ (x + 1) ∧ (x + 1) ≤ (4089 : Int) := ia_add fx (il 1) (by decide) (by decide)
  refine g_iadd C dL_law_1876 ?_
  refine g_sld C hX hbl hbz ⟨by omega, by omega⟩ (by omega) dL_law_1877 ?_
  have f5 : (-2147483648 : Int) ≤ (sx xs (x + 1)) ∧ (sx xs (x + 1)) ≤ (2147483647 : Int) := inR_of _
  refine g_callI (st := []) (gc_V C lk_LandSurveyLaw_183 (k_X11_count l D cy w z0 O tn1 f5 pX) tn1 rfl rfl rfl ⟨by decide, by decide⟩ (Nat.le_of_ble_eq_true rfl) dL_law_1878 ⟨(by show _ ≤ 601024; omega), (by show _ ≤ 7293034; omega)⟩) (fun r6 h7 f9 K8 => ?_)
  obtain ⟨O10, F11, f12, p13⟩ := K8
  refine g_pop C rfl dL_law_1881 ?_
  refine g_aload_n C rfl 2 rfl dL_law_1882 ?_
  refine g_aload_n C rfl 4 rfl dL_law_1883 ?_
  refine g_iload C 0 rfl dL_law_1884 ?_
  refine g_iconst C dL_law_1886 ?_
  refine g_iadd C dL_law_1887 ?_
  refine g_sld C hX hbl hbz ⟨by omega, by omega⟩ (by omega) dL_law_1888 ?_
  have e14 : Tg h7 n2 = 12 := (fxT F11 tn2)
  have p15 := (MInv_fx O F11 tn2 rfl pM)
  refine g_callI (st := []) (gc_V C lk_LandSurveyLaw_186 (k_X12_count l D cy w z0 O10 e14 f5 p15) e14 rfl rfl rfl ⟨by decide, by decide⟩ (Nat.le_of_ble_eq_true rfl) dL_law_1889 ⟨(by show _ ≤ 601024; omega), (by show _ ≤ 7293034; omega)⟩) (fun r16 h17 f19 K18 => ?_)
  obtain ⟨O20, F21, f22⟩ := K18
  refine g_pop C rfl dL_law_1892 ?_
  refine g_goto C 1896 (by decide) dL_law_1893 ?_
  have f23 : (8 : Int) ≤ (x + 8) ∧ (x + 8) ≤ (4096 : Int) := ia_add fx (il 8) (by decide) (by decide)
  refine g_iinc C [(4, .inl (x + 8)), (3, .inr (.inr n3)), (2, .inr (.inr n2)), (1, .inr (.inr n1)), (0, .inr (.inr (b + 1)))] 0 rfl (by decide) rfl dL_law_1896 ?_
  refine g_goto C 23 (by decide) dL_law_1899 ?_
  refine GW.sub [0, 1, 2, 3, 4] rfl ?_
  refine GW.widen (by omega : _ ≤ 13 * (x + 8).toNat + 119) (by omega : _ ≤ 806 * (x + 8).toNat + 52115) ?_
  have e24 : Qask h7 n1 = F1 := Eq.trans (show Qask h7 n1 = Qask h n1 from (Qask_fx O F11 tn1 rfl)) e2
  have e26 : Tg h7 n1 = 11 := (fxT F11 tn1)
  have e25 : Qask h17 n1 = F1 := Eq.trans (show Qask h17 n1 = Qask h7 n1 from (Qask_fx O10 F21 e26 rfl)) e24
  have e27 : Qm 82 h7 n2 = F1 := Eq.trans (show Qm 82 h7 n2 = Qm 82 h n2 from (mAI (j := 82) O F11 tn2 rE_12_82 ar_182101 rfl rfl)) e3
  have e28 : Qm 82 h17 n2 = F1 := Eq.trans (show Qm 82 h17 n2 = Qm 82 h7 n2 from (mAI (j := 82) O10 F21 e14 rE_12_82 ar_182101 rfl rfl)) e27
  have p29 := (ASK_fx O10 F21 e26 rfl (ASK_fx O F11 tn1 rfl hT.2))
  have p30 := (XInv_fx O10 F21 e26 rfl p13)
  have p31 := (MInv_fx O10 F21 e14 rfl p15)
  have e32 : Tg h17 n1 = 11 := (fxT F21 e26)
  have e33 : Tg h17 n2 = 12 := (fxT F21 e14)
  have e34 : Tg h17 n3 = 99102 := (fxT F21 (fxT F11 tn3))
  have e35 : Tg h7 n3 = 99102 := (fxT F11 tn3)
  have e36 : Ln h17 n3 = 1 := ((fxL F21 e35).trans ((fxL F11 tn3).trans ln3))
  exact IH _ O20 e32 e33 e34 e36 p30 p31 ⟨(e25.trans (Eq.symm e28)), p29⟩
set_option maxRecDepth 100000 in
set_option maxHeartbeats 8000000 in
theorem law_cx (l : Launch) (hst : l.stackTraces = false) {p : Program} {e : Env} {s : State} {m : MethodId} {below : List Frame} {meth : Method} {c : Code} {D : va_G} {cy : Nat → ClassId} {w : Nat → Nat} {z0 b L : Nat} {xs : Nat → Int32} {h : Hp} {x : Int} {n1 n2 n3 : Nat} (C : Cx p l room_1 s m #[Value.ref b] meth c D cy z0 7 cL_law "LandSurveyLaw" w) (hr : meth.sig.returnType = ret) (hX : va_X b L xs s s.heap) (hbl : b < s.heap.size) (hbz : b < z0) (hzs : s.heap.size ≤ z0) (hL : L ≤ 4096) (fx : 0 ≤ x ∧ x ≤ 4088) (hq : x ≤ (L : Int) - 8) (O : Okh h) (tn1 : Tg h n1 = 11) (tn2 : Tg h n2 = 12) (tn3 : Tg h n3 = 99102) (ln3 : Ln h n3 = 1) (pX : XInv h n1) (pM : MInv h n2) (hT : Qask h n1 = Qm 82 h n2 ∧ ASK h n1) (IH : ∀ (h1 : Hp), Okh h1 → Tg h1 n1 = 11 → Tg h1 n2 = 12 → Tg h1 n3 = 99102 → Ln h1 n3 = 1 → XInv h1 n1 → MInv h1 n2 → Qask h1 n1 = Qm 82 h1 n2 ∧ ASK h1 n1 → GW p l e room_1 s m #[Value.ref b] below meth c D cy z0 7 (lw_Z below #[Value.ref b] s) 23 [(4, .inl (x + 8)), (3, .inr (.inr n3)), (2, .inr (.inr n2)), (1, .inr (.inr n1)), (0, .inr (.inr (b + 1)))] [] h1 (13 * (x + 8).toNat + 119) (806 * (x + 8).toNat + 52115)) : GW p l e room_1 s m #[Value.ref b] below meth c D cy z0 7 (lw_Z below #[Value.ref b] s) 1896 [(4, .inl x), (3, .inr (.inr n3)), (2, .inr (.inr n2)), (1, .inr (.inr n1)), (0, .inr (.inr (b + 1)))] [] h (13 * x.toNat + 119) (806 * x.toNat + 52115) := by
  obtain ⟨F1, e2⟩ : ∃ z, Qask h n1 = z := ⟨_, rfl⟩
  have e3 : Qm 82 h n2 = F1 := (Eq.symm hT.1).trans e2
  have f4 : (8 : Int) ≤ (x + 8) ∧ (x + 8) ≤ (4096 : Int) := ia_add fx (il 8) (by decide) (by decide)
  refine g_iinc C [(4, .inl (x + 8)), (3, .inr (.inr n3)), (2, .inr (.inr n2)), (1, .inr (.inr n1)), (0, .inr (.inr (b + 1)))] 0 rfl (by decide) rfl dL_law_1896 ?_
  refine g_goto C 23 (by decide) dL_law_1899 ?_
  refine GW.sub [0, 1, 2, 3, 4] rfl ?_
  refine GW.widen (by omega : _ ≤ 13 * (x + 8).toNat + 119) (by omega : _ ≤ 806 * (x + 8).toNat + 52115) ?_
  exact IH _ O tn1 tn2 tn3 ln3 pX pM ⟨(e2.trans (Eq.symm e3)), hT.2⟩
