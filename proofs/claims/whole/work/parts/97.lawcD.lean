/-! THE LAW: cases 34 to 43 (printed by gen94.py) -/
theorem dL_law_1497 : decode cL_law 1497 = .ok (.aload_n 1, 1) := by decide +kernel
theorem dL_law_1498 : decode cL_law 1498 = .ok (.aload_n 0, 1) := by decide +kernel
theorem dL_law_1499 : decode cL_law 1499 = .ok (.iload_n 3, 1) := by decide +kernel
theorem dL_law_1500 : decode cL_law 1500 = .ok (.iconst 1, 1) := by decide +kernel
theorem dL_law_1501 : decode cL_law 1501 = .ok (.iadd, 1) := by decide +kernel
theorem dL_law_1502 : decode cL_law 1502 = .ok (.iaload, 1) := by decide +kernel
theorem dL_law_1503 : decode cL_law 1503 = .ok (.aload_n 0, 1) := by decide +kernel
theorem dL_law_1504 : decode cL_law 1504 = .ok (.iload_n 3, 1) := by decide +kernel
theorem dL_law_1505 : decode cL_law 1505 = .ok (.iconst 2, 1) := by decide +kernel
theorem dL_law_1506 : decode cL_law 1506 = .ok (.iadd, 1) := by decide +kernel
theorem dL_law_1507 : decode cL_law 1507 = .ok (.iaload, 1) := by decide +kernel
theorem dL_law_1508 : decode cL_law 1508 = .ok (.invokevirtual 159, 3) := by decide +kernel
theorem dL_law_1511 : decode cL_law 1511 = .ok (.aload_n 2, 1) := by decide +kernel
theorem dL_law_1512 : decode cL_law 1512 = .ok (.aload_n 0, 1) := by decide +kernel
theorem dL_law_1513 : decode cL_law 1513 = .ok (.iload_n 3, 1) := by decide +kernel
theorem dL_law_1514 : decode cL_law 1514 = .ok (.iconst 1, 1) := by decide +kernel
theorem dL_law_1515 : decode cL_law 1515 = .ok (.iadd, 1) := by decide +kernel
theorem dL_law_1516 : decode cL_law 1516 = .ok (.iaload, 1) := by decide +kernel
theorem dL_law_1517 : decode cL_law 1517 = .ok (.aload_n 0, 1) := by decide +kernel
theorem dL_law_1518 : decode cL_law 1518 = .ok (.iload_n 3, 1) := by decide +kernel
theorem dL_law_1519 : decode cL_law 1519 = .ok (.iconst 2, 1) := by decide +kernel
theorem dL_law_1520 : decode cL_law 1520 = .ok (.iadd, 1) := by decide +kernel
theorem dL_law_1521 : decode cL_law 1521 = .ok (.iaload, 1) := by decide +kernel
theorem dL_law_1522 : decode cL_law 1522 = .ok (.invokevirtual 162, 3) := by decide +kernel
theorem dL_law_1525 : decode cL_law 1525 = .ok (.if_icmp .eq 222, 3) := by decide +kernel
theorem dL_law_1530 : decode cL_law 1530 = .ok (.aload_n 1, 1) := by decide +kernel
theorem dL_law_1531 : decode cL_law 1531 = .ok (.aload_n 0, 1) := by decide +kernel
theorem dL_law_1532 : decode cL_law 1532 = .ok (.iload_n 3, 1) := by decide +kernel
theorem dL_law_1533 : decode cL_law 1533 = .ok (.iconst 1, 1) := by decide +kernel
theorem dL_law_1534 : decode cL_law 1534 = .ok (.iadd, 1) := by decide +kernel
theorem dL_law_1535 : decode cL_law 1535 = .ok (.iaload, 1) := by decide +kernel
theorem dL_law_1536 : decode cL_law 1536 = .ok (.aload_n 0, 1) := by decide +kernel
theorem dL_law_1537 : decode cL_law 1537 = .ok (.iload_n 3, 1) := by decide +kernel
theorem dL_law_1538 : decode cL_law 1538 = .ok (.iconst 2, 1) := by decide +kernel
theorem dL_law_1539 : decode cL_law 1539 = .ok (.iadd, 1) := by decide +kernel
theorem dL_law_1540 : decode cL_law 1540 = .ok (.iaload, 1) := by decide +kernel
theorem dL_law_1541 : decode cL_law 1541 = .ok (.aload_n 0, 1) := by decide +kernel
theorem dL_law_1542 : decode cL_law 1542 = .ok (.iload_n 3, 1) := by decide +kernel
theorem dL_law_1543 : decode cL_law 1543 = .ok (.iconst 3, 1) := by decide +kernel
theorem dL_law_1544 : decode cL_law 1544 = .ok (.iadd, 1) := by decide +kernel
theorem dL_law_1545 : decode cL_law 1545 = .ok (.iaload, 1) := by decide +kernel
theorem dL_law_1546 : decode cL_law 1546 = .ok (.invokevirtual 163, 3) := by decide +kernel
theorem dL_law_1549 : decode cL_law 1549 = .ok (.aload_n 2, 1) := by decide +kernel
theorem dL_law_1550 : decode cL_law 1550 = .ok (.aload_n 0, 1) := by decide +kernel
theorem dL_law_1551 : decode cL_law 1551 = .ok (.iload_n 3, 1) := by decide +kernel
theorem dL_law_1552 : decode cL_law 1552 = .ok (.iconst 1, 1) := by decide +kernel
theorem dL_law_1553 : decode cL_law 1553 = .ok (.iadd, 1) := by decide +kernel
theorem dL_law_1554 : decode cL_law 1554 = .ok (.iaload, 1) := by decide +kernel
theorem dL_law_1555 : decode cL_law 1555 = .ok (.aload_n 0, 1) := by decide +kernel
theorem dL_law_1556 : decode cL_law 1556 = .ok (.iload_n 3, 1) := by decide +kernel
theorem dL_law_1557 : decode cL_law 1557 = .ok (.iconst 2, 1) := by decide +kernel
theorem dL_law_1558 : decode cL_law 1558 = .ok (.iadd, 1) := by decide +kernel
theorem dL_law_1559 : decode cL_law 1559 = .ok (.iaload, 1) := by decide +kernel
theorem dL_law_1560 : decode cL_law 1560 = .ok (.aload_n 0, 1) := by decide +kernel
theorem dL_law_1561 : decode cL_law 1561 = .ok (.iload_n 3, 1) := by decide +kernel
theorem dL_law_1562 : decode cL_law 1562 = .ok (.iconst 3, 1) := by decide +kernel
theorem dL_law_1563 : decode cL_law 1563 = .ok (.iadd, 1) := by decide +kernel
theorem dL_law_1564 : decode cL_law 1564 = .ok (.iaload, 1) := by decide +kernel
theorem dL_law_1565 : decode cL_law 1565 = .ok (.invokevirtual 166, 3) := by decide +kernel
theorem dL_law_1568 : decode cL_law 1568 = .ok (.if_icmp .eq 179, 3) := by decide +kernel
theorem dL_law_1573 : decode cL_law 1573 = .ok (.aload_n 1, 1) := by decide +kernel
theorem dL_law_1574 : decode cL_law 1574 = .ok (.aload_n 0, 1) := by decide +kernel
theorem dL_law_1575 : decode cL_law 1575 = .ok (.iload_n 3, 1) := by decide +kernel
theorem dL_law_1576 : decode cL_law 1576 = .ok (.iconst 1, 1) := by decide +kernel
theorem dL_law_1577 : decode cL_law 1577 = .ok (.iadd, 1) := by decide +kernel
theorem dL_law_1578 : decode cL_law 1578 = .ok (.iaload, 1) := by decide +kernel
theorem dL_law_1579 : decode cL_law 1579 = .ok (.invokevirtual 167, 3) := by decide +kernel
theorem dL_law_1582 : decode cL_law 1582 = .ok (.aload_n 2, 1) := by decide +kernel
theorem dL_law_1583 : decode cL_law 1583 = .ok (.aload_n 0, 1) := by decide +kernel
theorem dL_law_1584 : decode cL_law 1584 = .ok (.iload_n 3, 1) := by decide +kernel
theorem dL_law_1585 : decode cL_law 1585 = .ok (.iconst 1, 1) := by decide +kernel
theorem dL_law_1586 : decode cL_law 1586 = .ok (.iadd, 1) := by decide +kernel
theorem dL_law_1587 : decode cL_law 1587 = .ok (.iaload, 1) := by decide +kernel
theorem dL_law_1588 : decode cL_law 1588 = .ok (.invokevirtual 170, 3) := by decide +kernel
theorem dL_law_1591 : decode cL_law 1591 = .ok (.if_icmp .eq 156, 3) := by decide +kernel
theorem dL_law_1596 : decode cL_law 1596 = .ok (.aload_n 1, 1) := by decide +kernel
theorem dL_law_1597 : decode cL_law 1597 = .ok (.invokevirtual 171, 3) := by decide +kernel
theorem dL_law_1600 : decode cL_law 1600 = .ok (.aload_n 2, 1) := by decide +kernel
theorem dL_law_1601 : decode cL_law 1601 = .ok (.invokevirtual 174, 3) := by decide +kernel
theorem dL_law_1604 : decode cL_law 1604 = .ok (.if_icmp .eq 143, 3) := by decide +kernel
theorem dL_law_1609 : decode cL_law 1609 = .ok (.aload_n 1, 1) := by decide +kernel
theorem dL_law_1610 : decode cL_law 1610 = .ok (.aload_n 0, 1) := by decide +kernel
theorem dL_law_1611 : decode cL_law 1611 = .ok (.iload_n 3, 1) := by decide +kernel
theorem dL_law_1612 : decode cL_law 1612 = .ok (.iconst 1, 1) := by decide +kernel
theorem dL_law_1613 : decode cL_law 1613 = .ok (.iadd, 1) := by decide +kernel
theorem dL_law_1614 : decode cL_law 1614 = .ok (.iaload, 1) := by decide +kernel
theorem dL_law_1615 : decode cL_law 1615 = .ok (.invokevirtual 175, 3) := by decide +kernel
theorem dL_law_1618 : decode cL_law 1618 = .ok (.aload_n 2, 1) := by decide +kernel
theorem dL_law_1619 : decode cL_law 1619 = .ok (.aload_n 0, 1) := by decide +kernel
theorem dL_law_1620 : decode cL_law 1620 = .ok (.iload_n 3, 1) := by decide +kernel
theorem dL_law_1621 : decode cL_law 1621 = .ok (.iconst 1, 1) := by decide +kernel
theorem dL_law_1622 : decode cL_law 1622 = .ok (.iadd, 1) := by decide +kernel
theorem dL_law_1623 : decode cL_law 1623 = .ok (.iaload, 1) := by decide +kernel
theorem dL_law_1624 : decode cL_law 1624 = .ok (.invokevirtual 178, 3) := by decide +kernel
theorem dL_law_1627 : decode cL_law 1627 = .ok (.if_icmp .eq 120, 3) := by decide +kernel
theorem dL_law_1632 : decode cL_law 1632 = .ok (.aload_n 1, 1) := by decide +kernel
theorem dL_law_1633 : decode cL_law 1633 = .ok (.aload_n 0, 1) := by decide +kernel
theorem dL_law_1634 : decode cL_law 1634 = .ok (.iload_n 3, 1) := by decide +kernel
theorem dL_law_1635 : decode cL_law 1635 = .ok (.iconst 1, 1) := by decide +kernel
theorem dL_law_1636 : decode cL_law 1636 = .ok (.iadd, 1) := by decide +kernel
theorem dL_law_1637 : decode cL_law 1637 = .ok (.iaload, 1) := by decide +kernel
theorem dL_law_1638 : decode cL_law 1638 = .ok (.aload_n 0, 1) := by decide +kernel
theorem dL_law_1639 : decode cL_law 1639 = .ok (.iload_n 3, 1) := by decide +kernel
theorem dL_law_1640 : decode cL_law 1640 = .ok (.iconst 2, 1) := by decide +kernel
theorem dL_law_1641 : decode cL_law 1641 = .ok (.iadd, 1) := by decide +kernel
theorem dL_law_1642 : decode cL_law 1642 = .ok (.iaload, 1) := by decide +kernel
theorem dL_law_1643 : decode cL_law 1643 = .ok (.aload_n 0, 1) := by decide +kernel
theorem dL_law_1644 : decode cL_law 1644 = .ok (.iload_n 3, 1) := by decide +kernel
theorem dL_law_1645 : decode cL_law 1645 = .ok (.iconst 3, 1) := by decide +kernel
theorem dL_law_1646 : decode cL_law 1646 = .ok (.iadd, 1) := by decide +kernel
theorem dL_law_1647 : decode cL_law 1647 = .ok (.iaload, 1) := by decide +kernel
theorem dL_law_1648 : decode cL_law 1648 = .ok (.invokevirtual 179, 3) := by decide +kernel
theorem dL_law_1651 : decode cL_law 1651 = .ok (.aload_n 2, 1) := by decide +kernel
theorem dL_law_1652 : decode cL_law 1652 = .ok (.aload_n 0, 1) := by decide +kernel
theorem dL_law_1653 : decode cL_law 1653 = .ok (.iload_n 3, 1) := by decide +kernel
theorem dL_law_1654 : decode cL_law 1654 = .ok (.iconst 1, 1) := by decide +kernel
theorem dL_law_1655 : decode cL_law 1655 = .ok (.iadd, 1) := by decide +kernel
theorem dL_law_1656 : decode cL_law 1656 = .ok (.iaload, 1) := by decide +kernel
theorem dL_law_1657 : decode cL_law 1657 = .ok (.aload_n 0, 1) := by decide +kernel
theorem dL_law_1658 : decode cL_law 1658 = .ok (.iload_n 3, 1) := by decide +kernel
theorem dL_law_1659 : decode cL_law 1659 = .ok (.iconst 2, 1) := by decide +kernel
theorem dL_law_1660 : decode cL_law 1660 = .ok (.iadd, 1) := by decide +kernel
theorem dL_law_1661 : decode cL_law 1661 = .ok (.iaload, 1) := by decide +kernel
theorem dL_law_1662 : decode cL_law 1662 = .ok (.aload_n 0, 1) := by decide +kernel
theorem dL_law_1663 : decode cL_law 1663 = .ok (.iload_n 3, 1) := by decide +kernel
theorem dL_law_1664 : decode cL_law 1664 = .ok (.iconst 3, 1) := by decide +kernel
theorem dL_law_1665 : decode cL_law 1665 = .ok (.iadd, 1) := by decide +kernel
theorem dL_law_1666 : decode cL_law 1666 = .ok (.iaload, 1) := by decide +kernel
theorem dL_law_1667 : decode cL_law 1667 = .ok (.invokevirtual 182, 3) := by decide +kernel
theorem dL_law_1670 : decode cL_law 1670 = .ok (.if_icmp .eq 77, 3) := by decide +kernel
theorem dL_law_1675 : decode cL_law 1675 = .ok (.aload_n 1, 1) := by decide +kernel
theorem dL_law_1676 : decode cL_law 1676 = .ok (.aload_n 0, 1) := by decide +kernel
theorem dL_law_1677 : decode cL_law 1677 = .ok (.iload_n 3, 1) := by decide +kernel
theorem dL_law_1678 : decode cL_law 1678 = .ok (.iconst 1, 1) := by decide +kernel
theorem dL_law_1679 : decode cL_law 1679 = .ok (.iadd, 1) := by decide +kernel
theorem dL_law_1680 : decode cL_law 1680 = .ok (.iaload, 1) := by decide +kernel
theorem dL_law_1681 : decode cL_law 1681 = .ok (.invokevirtual 183, 3) := by decide +kernel
theorem dL_law_1684 : decode cL_law 1684 = .ok (.aload_n 2, 1) := by decide +kernel
theorem dL_law_1685 : decode cL_law 1685 = .ok (.aload_n 0, 1) := by decide +kernel
theorem dL_law_1686 : decode cL_law 1686 = .ok (.iload_n 3, 1) := by decide +kernel
theorem dL_law_1687 : decode cL_law 1687 = .ok (.iconst 1, 1) := by decide +kernel
theorem dL_law_1688 : decode cL_law 1688 = .ok (.iadd, 1) := by decide +kernel
theorem dL_law_1689 : decode cL_law 1689 = .ok (.iaload, 1) := by decide +kernel
theorem dL_law_1690 : decode cL_law 1690 = .ok (.invokevirtual 186, 3) := by decide +kernel
theorem dL_law_1693 : decode cL_law 1693 = .ok (.if_icmp .eq 54, 3) := by decide +kernel
theorem dL_law_1698 : decode cL_law 1698 = .ok (.aload_n 1, 1) := by decide +kernel
theorem dL_law_1699 : decode cL_law 1699 = .ok (.invokevirtual 187, 3) := by decide +kernel
theorem dL_law_1702 : decode cL_law 1702 = .ok (.aload_n 2, 1) := by decide +kernel
theorem dL_law_1703 : decode cL_law 1703 = .ok (.invokevirtual 190, 3) := by decide +kernel
theorem dL_law_1706 : decode cL_law 1706 = .ok (.if_icmp .eq 41, 3) := by decide +kernel
theorem dL_law_1711 : decode cL_law 1711 = .ok (.aload_n 1, 1) := by decide +kernel
theorem dL_law_1712 : decode cL_law 1712 = .ok (.invokevirtual 191, 3) := by decide +kernel
theorem dL_law_1715 : decode cL_law 1715 = .ok (.aload_n 2, 1) := by decide +kernel
theorem dL_law_1716 : decode cL_law 1716 = .ok (.invokevirtual 194, 3) := by decide +kernel
theorem dL_law_1719 : decode cL_law 1719 = .ok (.if_icmp .eq 28, 3) := by decide +kernel
theorem dL_law_1724 : decode cL_law 1724 = .ok (.aload_n 1, 1) := by decide +kernel
theorem dL_law_1725 : decode cL_law 1725 = .ok (.aload_n 0, 1) := by decide +kernel
theorem dL_law_1726 : decode cL_law 1726 = .ok (.iload_n 3, 1) := by decide +kernel
theorem dL_law_1727 : decode cL_law 1727 = .ok (.iconst 1, 1) := by decide +kernel
theorem dL_law_1728 : decode cL_law 1728 = .ok (.iadd, 1) := by decide +kernel
theorem dL_law_1729 : decode cL_law 1729 = .ok (.iaload, 1) := by decide +kernel
theorem dL_law_1730 : decode cL_law 1730 = .ok (.invokevirtual 195, 3) := by decide +kernel
theorem dL_law_1733 : decode cL_law 1733 = .ok (.aload_n 2, 1) := by decide +kernel
theorem dL_law_1734 : decode cL_law 1734 = .ok (.aload_n 0, 1) := by decide +kernel
theorem dL_law_1735 : decode cL_law 1735 = .ok (.iload_n 3, 1) := by decide +kernel
theorem dL_law_1736 : decode cL_law 1736 = .ok (.iconst 1, 1) := by decide +kernel
theorem dL_law_1737 : decode cL_law 1737 = .ok (.iadd, 1) := by decide +kernel
theorem dL_law_1738 : decode cL_law 1738 = .ok (.iaload, 1) := by decide +kernel
theorem dL_law_1739 : decode cL_law 1739 = .ok (.invokevirtual 198, 3) := by decide +kernel
theorem dL_law_1742 : decode cL_law 1742 = .ok (.if_icmp .eq 5, 3) := by decide +kernel
section
variable {p : Program} {l : Launch} {e : Env} {s : State} {m : MethodId} {below : List Frame} {meth : Method} {c : Code} {b L i : Nat} {xs : Nat → Int32} {D : va_G} {g : aG} {H : Heap} {locs : List Loc} {Qf : State → Prop} {ls : Array Slot} {w : hW}
set_option maxRecDepth 100000 in
theorem lz_34 (C : lwC p s m c b L xs D g) (hL : L ≤ 3072) (hD : va_D (aA g) (aWd g w)) (hR : R w w) (hP : va_P D vwCl (aWd g w) H) (hS : va_S (fun q => s.heap.size ≤ q) s.heap H locs) (hl : lv_has ls 4 [(0, .ref b), (1, .ref (g.1 0)), (2, .ref (g.1 45)), (3, .int (nI i))]) (hi : i + 6 ≤ L) (kk : ∀ (w' : hW) (H' : Heap) (locs' : List Loc), R w' w' → va_P D vwCl (aWd g w') H' → va_S (fun q => s.heap.size ≤ q) s.heap H' locs' → W p l e room_1 s m #[Value.ref b] below meth c H' locs' 600000 7302250 Qf (F0 m 1747 ls [])) : W p l e room_1 s m #[Value.ref b] below meth c H locs 600000 7302250 Qf (F0 m 1497 ls []) := by
  obtain ⟨x, w1, w2, h1, h2, h3⟩ := bo_cast hR (m := xs (i + 1)) (t := xs (i + 2))
  obtain ⟨hx, hb, hml, hown, hts, -, -, -, -, -⟩ := id C
  refine lv_aload_n hx hb dL_law_1497 rfl (lv_at hl 1 rfl) ?_
  refine lw_ld (k := 1) (kI := 1) C hS hL hl (by omega) rfl dL_law_1498 dL_law_1499 dL_law_1500 dL_law_1501 dL_law_1502 ?_
  refine lw_ld (k := 2) (kI := 2) C hS hL hl (by omega) rfl dL_law_1503 dL_law_1504 dL_law_1505 dL_law_1506 dL_law_1507 ?_
  refine lw_cI (c' := 133) (i := 159) (na := 2) (pp := 970) (as := [.int (xs (i + 1)), .int (xs (i + 2))]) (q := 0) (rest := []) (x := x) (w' := w1) C (by decide +kernel) hD hP hS hl.1 (by decide +kernel) (Nat.le_of_ble_eq_true rfl) (Nat.le_of_ble_eq_true rfl) rfl h1 dL_law_1508 (fun H locs hP hS => ?_)
  refine lv_aload_n hx hb dL_law_1511 rfl (lv_at hl 2 rfl) ?_
  refine lw_ld (k := 1) (kI := 1) C hS hL hl (by omega) rfl dL_law_1512 dL_law_1513 dL_law_1514 dL_law_1515 dL_law_1516 ?_
  refine lw_ld (k := 2) (kI := 2) C hS hL hl (by omega) rfl dL_law_1517 dL_law_1518 dL_law_1519 dL_law_1520 dL_law_1521 ?_
  refine lw_cI (c' := 231) (i := 162) (na := 2) (pp := 1533) (as := [.int (xs (i + 1)), .int (xs (i + 2))]) (q := 45) (rest := [.int x]) (x := x) (w' := w2) C (by decide +kernel) (aWd_D w1 hD) hP hS hl.1 (by decide +kernel) (Nat.le_of_ble_eq_true rfl) (Nat.le_of_ble_eq_true rfl) rfl h2 dL_law_1522 (fun H locs hP hS => ?_)
  exact lv_icmp_eq (tgt := 1747) hx hb dL_law_1525 (by decide) (fun _ => kk w2 H locs h3 hP hS) (fun h => absurd rfl h)
set_option maxRecDepth 100000 in
theorem lz_35 (C : lwC p s m c b L xs D g) (hL : L ≤ 3072) (hD : va_D (aA g) (aWd g w)) (hR : R w w) (hP : va_P D vwCl (aWd g w) H) (hS : va_S (fun q => s.heap.size ≤ q) s.heap H locs) (hl : lv_has ls 4 [(0, .ref b), (1, .ref (g.1 0)), (2, .ref (g.1 45)), (3, .int (nI i))]) (hi : i + 6 ≤ L) (kk : ∀ (w' : hW) (H' : Heap) (locs' : List Loc), R w' w' → va_P D vwCl (aWd g w') H' → va_S (fun q => s.heap.size ≤ q) s.heap H' locs' → W p l e room_1 s m #[Value.ref b] below meth c H' locs' 600000 7302250 Qf (F0 m 1747 ls [])) : W p l e room_1 s m #[Value.ref b] below meth c H locs 600000 7302250 Qf (F0 m 1530 ls []) := by
  obtain ⟨x, w1, w2, h1, h2, h3⟩ := bo_toss hR (m := xs (i + 1)) (t := xs (i + 2)) (dd := xs (i + 3))
  obtain ⟨hx, hb, hml, hown, hts, -, -, -, -, -⟩ := id C
  refine lv_aload_n hx hb dL_law_1530 rfl (lv_at hl 1 rfl) ?_
  refine lw_ld (k := 1) (kI := 1) C hS hL hl (by omega) rfl dL_law_1531 dL_law_1532 dL_law_1533 dL_law_1534 dL_law_1535 ?_
  refine lw_ld (k := 2) (kI := 2) C hS hL hl (by omega) rfl dL_law_1536 dL_law_1537 dL_law_1538 dL_law_1539 dL_law_1540 ?_
  refine lw_ld (k := 3) (kI := 3) C hS hL hl (by omega) rfl dL_law_1541 dL_law_1542 dL_law_1543 dL_law_1544 dL_law_1545 ?_
  refine lw_cI (c' := 134) (i := 163) (na := 3) (pp := 974) (as := [.int (xs (i + 1)), .int (xs (i + 2)), .int (xs (i + 3))]) (q := 0) (rest := []) (x := x) (w' := w1) C (by decide +kernel) hD hP hS hl.1 (by decide +kernel) (Nat.le_of_ble_eq_true rfl) (Nat.le_of_ble_eq_true rfl) rfl h1 dL_law_1546 (fun H locs hP hS => ?_)
  refine lv_aload_n hx hb dL_law_1549 rfl (lv_at hl 2 rfl) ?_
  refine lw_ld (k := 1) (kI := 1) C hS hL hl (by omega) rfl dL_law_1550 dL_law_1551 dL_law_1552 dL_law_1553 dL_law_1554 ?_
  refine lw_ld (k := 2) (kI := 2) C hS hL hl (by omega) rfl dL_law_1555 dL_law_1556 dL_law_1557 dL_law_1558 dL_law_1559 ?_
  refine lw_ld (k := 3) (kI := 3) C hS hL hl (by omega) rfl dL_law_1560 dL_law_1561 dL_law_1562 dL_law_1563 dL_law_1564 ?_
  refine lw_cI (c' := 233) (i := 166) (na := 3) (pp := 1537) (as := [.int (xs (i + 1)), .int (xs (i + 2)), .int (xs (i + 3))]) (q := 45) (rest := [.int x]) (x := x) (w' := w2) C (by decide +kernel) (aWd_D w1 hD) hP hS hl.1 (by decide +kernel) (Nat.le_of_ble_eq_true rfl) (Nat.le_of_ble_eq_true rfl) rfl h2 dL_law_1565 (fun H locs hP hS => ?_)
  exact lv_icmp_eq (tgt := 1747) hx hb dL_law_1568 (by decide) (fun _ => kk w2 H locs h3 hP hS) (fun h => absurd rfl h)
set_option maxRecDepth 100000 in
theorem lz_36 (C : lwC p s m c b L xs D g) (hL : L ≤ 3072) (hD : va_D (aA g) (aWd g w)) (hR : R w w) (hP : va_P D vwCl (aWd g w) H) (hS : va_S (fun q => s.heap.size ≤ q) s.heap H locs) (hl : lv_has ls 4 [(0, .ref b), (1, .ref (g.1 0)), (2, .ref (g.1 45)), (3, .int (nI i))]) (hi : i + 6 ≤ L) (kk : ∀ (w' : hW) (H' : Heap) (locs' : List Loc), R w' w' → va_P D vwCl (aWd g w') H' → va_S (fun q => s.heap.size ≤ q) s.heap H' locs' → W p l e room_1 s m #[Value.ref b] below meth c H' locs' 600000 7302250 Qf (F0 m 1747 ls [])) : W p l e room_1 s m #[Value.ref b] below meth c H locs 600000 7302250 Qf (F0 m 1573 ls []) := by
  obtain ⟨x, w1, w2, h1, h2, h3⟩ := bo_part hR (t := xs (i + 1))
  obtain ⟨hx, hb, hml, hown, hts, -, -, -, -, -⟩ := id C
  refine lv_aload_n hx hb dL_law_1573 rfl (lv_at hl 1 rfl) ?_
  refine lw_ld (k := 1) (kI := 1) C hS hL hl (by omega) rfl dL_law_1574 dL_law_1575 dL_law_1576 dL_law_1577 dL_law_1578 ?_
  refine lw_cI (c' := 135) (i := 167) (na := 1) (pp := 988) (as := [.int (xs (i + 1))]) (q := 0) (rest := []) (x := x) (w' := w1) C (by decide +kernel) hD hP hS hl.1 (by decide +kernel) (Nat.le_of_ble_eq_true rfl) (Nat.le_of_ble_eq_true rfl) rfl h1 dL_law_1579 (fun H locs hP hS => ?_)
  refine lv_aload_n hx hb dL_law_1582 rfl (lv_at hl 2 rfl) ?_
  refine lw_ld (k := 1) (kI := 1) C hS hL hl (by omega) rfl dL_law_1583 dL_law_1584 dL_law_1585 dL_law_1586 dL_law_1587 ?_
  refine lw_cI (c' := 234) (i := 170) (na := 1) (pp := 1546) (as := [.int (xs (i + 1))]) (q := 45) (rest := [.int x]) (x := x) (w' := w2) C (by decide +kernel) (aWd_D w1 hD) hP hS hl.1 (by decide +kernel) (Nat.le_of_ble_eq_true rfl) (Nat.le_of_ble_eq_true rfl) rfl h2 dL_law_1588 (fun H locs hP hS => ?_)
  exact lv_icmp_eq (tgt := 1747) hx hb dL_law_1591 (by decide) (fun _ => kk w2 H locs h3 hP hS) (fun h => absurd rfl h)
set_option maxRecDepth 100000 in
theorem lz_37 (C : lwC p s m c b L xs D g) (hL : L ≤ 3072) (hD : va_D (aA g) (aWd g w)) (hR : R w w) (hP : va_P D vwCl (aWd g w) H) (hS : va_S (fun q => s.heap.size ≤ q) s.heap H locs) (hl : lv_has ls 4 [(0, .ref b), (1, .ref (g.1 0)), (2, .ref (g.1 45)), (3, .int (nI i))]) (hi : i + 6 ≤ L) (kk : ∀ (w' : hW) (H' : Heap) (locs' : List Loc), R w' w' → va_P D vwCl (aWd g w') H' → va_S (fun q => s.heap.size ≤ q) s.heap H' locs' → W p l e room_1 s m #[Value.ref b] below meth c H' locs' 600000 7302250 Qf (F0 m 1747 ls [])) : W p l e room_1 s m #[Value.ref b] below meth c H locs 600000 7302250 Qf (F0 m 1596 ls []) := by
  obtain ⟨x, w1, w2, h1, h2, h3⟩ := bo_night hR
  obtain ⟨hx, hb, hml, hown, hts, -, -, -, -, -⟩ := id C
  refine lv_aload_n hx hb dL_law_1596 rfl (lv_at hl 1 rfl) ?_
  refine lw_cI (c' := 136) (i := 171) (na := 0) (pp := 998) (as := []) (q := 0) (rest := []) (x := x) (w' := w1) C (by decide +kernel) hD hP hS hl.1 (by decide +kernel) (Nat.le_of_ble_eq_true rfl) (Nat.le_of_ble_eq_true rfl) rfl h1 dL_law_1597 (fun H locs hP hS => ?_)
  refine lv_aload_n hx hb dL_law_1600 rfl (lv_at hl 2 rfl) ?_
  refine lw_cI (c' := 235) (i := 174) (na := 0) (pp := 1550) (as := []) (q := 45) (rest := [.int x]) (x := x) (w' := w2) C (by decide +kernel) (aWd_D w1 hD) hP hS hl.1 (by decide +kernel) (Nat.le_of_ble_eq_true rfl) (Nat.le_of_ble_eq_true rfl) rfl h2 dL_law_1601 (fun H locs hP hS => ?_)
  exact lv_icmp_eq (tgt := 1747) hx hb dL_law_1604 (by decide) (fun _ => kk w2 H locs h3 hP hS) (fun h => absurd rfl h)
set_option maxRecDepth 100000 in
theorem lz_38 (C : lwC p s m c b L xs D g) (hL : L ≤ 3072) (hD : va_D (aA g) (aWd g w)) (hR : R w w) (hP : va_P D vwCl (aWd g w) H) (hS : va_S (fun q => s.heap.size ≤ q) s.heap H locs) (hl : lv_has ls 4 [(0, .ref b), (1, .ref (g.1 0)), (2, .ref (g.1 45)), (3, .int (nI i))]) (hi : i + 6 ≤ L) (kk : ∀ (w' : hW) (H' : Heap) (locs' : List Loc), R w' w' → va_P D vwCl (aWd g w') H' → va_S (fun q => s.heap.size ≤ q) s.heap H' locs' → W p l e room_1 s m #[Value.ref b] below meth c H' locs' 600000 7302250 Qf (F0 m 1747 ls [])) : W p l e room_1 s m #[Value.ref b] below meth c H locs 600000 7302250 Qf (F0 m 1609 ls []) := by
  obtain ⟨x, w1, w2, h1, h2, h3⟩ := bo_seed hR (v := xs (i + 1))
  obtain ⟨hx, hb, hml, hown, hts, -, -, -, -, -⟩ := id C
  refine lv_aload_n hx hb dL_law_1609 rfl (lv_at hl 1 rfl) ?_
  refine lw_ld (k := 1) (kI := 1) C hS hL hl (by omega) rfl dL_law_1610 dL_law_1611 dL_law_1612 dL_law_1613 dL_law_1614 ?_
  refine lw_cI (c' := 137) (i := 175) (na := 1) (pp := 1006) (as := [.int (xs (i + 1))]) (q := 0) (rest := []) (x := x) (w' := w1) C (by decide +kernel) hD hP hS hl.1 (by decide +kernel) (Nat.le_of_ble_eq_true rfl) (Nat.le_of_ble_eq_true rfl) rfl h1 dL_law_1615 (fun H locs hP hS => ?_)
  refine lv_aload_n hx hb dL_law_1618 rfl (lv_at hl 2 rfl) ?_
  refine lw_ld (k := 1) (kI := 1) C hS hL hl (by omega) rfl dL_law_1619 dL_law_1620 dL_law_1621 dL_law_1622 dL_law_1623 ?_
  refine lw_cI (c' := 236) (i := 178) (na := 1) (pp := 1554) (as := [.int (xs (i + 1))]) (q := 45) (rest := [.int x]) (x := x) (w' := w2) C (by decide +kernel) (aWd_D w1 hD) hP hS hl.1 (by decide +kernel) (Nat.le_of_ble_eq_true rfl) (Nat.le_of_ble_eq_true rfl) rfl h2 dL_law_1624 (fun H locs hP hS => ?_)
  exact lv_icmp_eq (tgt := 1747) hx hb dL_law_1627 (by decide) (fun _ => kk w2 H locs h3 hP hS) (fun h => absurd rfl h)
set_option maxRecDepth 100000 in
theorem lz_39 (C : lwC p s m c b L xs D g) (hL : L ≤ 3072) (hD : va_D (aA g) (aWd g w)) (hR : R w w) (hP : va_P D vwCl (aWd g w) H) (hS : va_S (fun q => s.heap.size ≤ q) s.heap H locs) (hl : lv_has ls 4 [(0, .ref b), (1, .ref (g.1 0)), (2, .ref (g.1 45)), (3, .int (nI i))]) (hi : i + 6 ≤ L) (kk : ∀ (w' : hW) (H' : Heap) (locs' : List Loc), R w' w' → va_P D vwCl (aWd g w') H' → va_S (fun q => s.heap.size ≤ q) s.heap H' locs' → W p l e room_1 s m #[Value.ref b] below meth c H' locs' 600000 7302250 Qf (F0 m 1747 ls [])) : W p l e room_1 s m #[Value.ref b] below meth c H locs 600000 7302250 Qf (F0 m 1632 ls []) := by
  obtain ⟨x, w1, w2, h1, h2, h3⟩ := bo_act hR (t := xs (i + 1)) (a := xs (i + 2)) (x := xs (i + 3))
  obtain ⟨hx, hb, hml, hown, hts, -, -, -, -, -⟩ := id C
  refine lv_aload_n hx hb dL_law_1632 rfl (lv_at hl 1 rfl) ?_
  refine lw_ld (k := 1) (kI := 1) C hS hL hl (by omega) rfl dL_law_1633 dL_law_1634 dL_law_1635 dL_law_1636 dL_law_1637 ?_
  refine lw_ld (k := 2) (kI := 2) C hS hL hl (by omega) rfl dL_law_1638 dL_law_1639 dL_law_1640 dL_law_1641 dL_law_1642 ?_
  refine lw_ld (k := 3) (kI := 3) C hS hL hl (by omega) rfl dL_law_1643 dL_law_1644 dL_law_1645 dL_law_1646 dL_law_1647 ?_
  refine lw_cI (c' := 138) (i := 179) (na := 3) (pp := 1010) (as := [.int (xs (i + 1)), .int (xs (i + 2)), .int (xs (i + 3))]) (q := 0) (rest := []) (x := x) (w' := w1) C (by decide +kernel) hD hP hS hl.1 (by decide +kernel) (Nat.le_of_ble_eq_true rfl) (Nat.le_of_ble_eq_true rfl) rfl h1 dL_law_1648 (fun H locs hP hS => ?_)
  refine lv_aload_n hx hb dL_law_1651 rfl (lv_at hl 2 rfl) ?_
  refine lw_ld (k := 1) (kI := 1) C hS hL hl (by omega) rfl dL_law_1652 dL_law_1653 dL_law_1654 dL_law_1655 dL_law_1656 ?_
  refine lw_ld (k := 2) (kI := 2) C hS hL hl (by omega) rfl dL_law_1657 dL_law_1658 dL_law_1659 dL_law_1660 dL_law_1661 ?_
  refine lw_ld (k := 3) (kI := 3) C hS hL hl (by omega) rfl dL_law_1662 dL_law_1663 dL_law_1664 dL_law_1665 dL_law_1666 ?_
  refine lw_cI (c' := 241) (i := 182) (na := 3) (pp := 1558) (as := [.int (xs (i + 1)), .int (xs (i + 2)), .int (xs (i + 3))]) (q := 45) (rest := [.int x]) (x := x) (w' := w2) C (by decide +kernel) (aWd_D w1 hD) hP hS hl.1 (by decide +kernel) (Nat.le_of_ble_eq_true rfl) (Nat.le_of_ble_eq_true rfl) rfl h2 dL_law_1667 (fun H locs hP hS => ?_)
  exact lv_icmp_eq (tgt := 1747) hx hb dL_law_1670 (by decide) (fun _ => kk w2 H locs h3 hP hS) (fun h => absurd rfl h)
set_option maxRecDepth 100000 in
theorem lz_40 (C : lwC p s m c b L xs D g) (hL : L ≤ 3072) (hD : va_D (aA g) (aWd g w)) (hR : R w w) (hP : va_P D vwCl (aWd g w) H) (hS : va_S (fun q => s.heap.size ≤ q) s.heap H locs) (hl : lv_has ls 4 [(0, .ref b), (1, .ref (g.1 0)), (2, .ref (g.1 45)), (3, .int (nI i))]) (hi : i + 6 ≤ L) (kk : ∀ (w' : hW) (H' : Heap) (locs' : List Loc), R w' w' → va_P D vwCl (aWd g w') H' → va_S (fun q => s.heap.size ≤ q) s.heap H' locs' → W p l e room_1 s m #[Value.ref b] below meth c H' locs' 600000 7302250 Qf (F0 m 1747 ls [])) : W p l e room_1 s m #[Value.ref b] below meth c H locs 600000 7302250 Qf (F0 m 1675 ls []) := by
  obtain ⟨x, w1, w2, h1, h2, h3⟩ := bo_trace hR (i := xs (i + 1))
  obtain ⟨hx, hb, hml, hown, hts, -, -, -, -, -⟩ := id C
  refine lv_aload_n hx hb dL_law_1675 rfl (lv_at hl 1 rfl) ?_
  refine lw_ld (k := 1) (kI := 1) C hS hL hl (by omega) rfl dL_law_1676 dL_law_1677 dL_law_1678 dL_law_1679 dL_law_1680 ?_
  refine lw_cI (c' := 139) (i := 183) (na := 1) (pp := 1040) (as := [.int (xs (i + 1))]) (q := 0) (rest := []) (x := x) (w' := w1) C (by decide +kernel) hD hP hS hl.1 (by decide +kernel) (Nat.le_of_ble_eq_true rfl) (Nat.le_of_ble_eq_true rfl) rfl h1 dL_law_1681 (fun H locs hP hS => ?_)
  refine lv_aload_n hx hb dL_law_1684 rfl (lv_at hl 2 rfl) ?_
  refine lw_ld (k := 1) (kI := 1) C hS hL hl (by omega) rfl dL_law_1685 dL_law_1686 dL_law_1687 dL_law_1688 dL_law_1689 ?_
  refine lw_cI (c' := 242) (i := 186) (na := 1) (pp := 1578) (as := [.int (xs (i + 1))]) (q := 45) (rest := [.int x]) (x := x) (w' := w2) C (by decide +kernel) (aWd_D w1 hD) hP hS hl.1 (by decide +kernel) (Nat.le_of_ble_eq_true rfl) (Nat.le_of_ble_eq_true rfl) rfl h2 dL_law_1690 (fun H locs hP hS => ?_)
  exact lv_icmp_eq (tgt := 1747) hx hb dL_law_1693 (by decide) (fun _ => kk w2 H locs h3 hP hS) (fun h => absurd rfl h)
set_option maxRecDepth 100000 in
theorem lz_41 (C : lwC p s m c b L xs D g) (hL : L ≤ 3072) (hD : va_D (aA g) (aWd g w)) (hR : R w w) (hP : va_P D vwCl (aWd g w) H) (hS : va_S (fun q => s.heap.size ≤ q) s.heap H locs) (hl : lv_has ls 4 [(0, .ref b), (1, .ref (g.1 0)), (2, .ref (g.1 45)), (3, .int (nI i))]) (hi : i + 6 ≤ L) (kk : ∀ (w' : hW) (H' : Heap) (locs' : List Loc), R w' w' → va_P D vwCl (aWd g w') H' → va_S (fun q => s.heap.size ≤ q) s.heap H' locs' → W p l e room_1 s m #[Value.ref b] below meth c H' locs' 600000 7302250 Qf (F0 m 1747 ls [])) : W p l e room_1 s m #[Value.ref b] below meth c H locs 600000 7302250 Qf (F0 m 1698 ls []) := by
  obtain ⟨x, w1, w2, h1, h2, h3⟩ := bo_image hR
  obtain ⟨hx, hb, hml, hown, hts, -, -, -, -, -⟩ := id C
  refine lv_aload_n hx hb dL_law_1698 rfl (lv_at hl 1 rfl) ?_
  refine lw_cI (c' := 140) (i := 187) (na := 0) (pp := 1048) (as := []) (q := 0) (rest := []) (x := x) (w' := w1) C (by decide +kernel) hD hP hS hl.1 (by decide +kernel) (Nat.le_of_ble_eq_true rfl) (Nat.le_of_ble_eq_true rfl) rfl h1 dL_law_1699 (fun H locs hP hS => ?_)
  refine lv_aload_n hx hb dL_law_1702 rfl (lv_at hl 2 rfl) ?_
  refine lw_cI (c' := 243) (i := 190) (na := 0) (pp := 1582) (as := []) (q := 45) (rest := [.int x]) (x := x) (w' := w2) C (by decide +kernel) (aWd_D w1 hD) hP hS hl.1 (by decide +kernel) (Nat.le_of_ble_eq_true rfl) (Nat.le_of_ble_eq_true rfl) rfl h2 dL_law_1703 (fun H locs hP hS => ?_)
  exact lv_icmp_eq (tgt := 1747) hx hb dL_law_1706 (by decide) (fun _ => kk w2 H locs h3 hP hS) (fun h => absurd rfl h)
set_option maxRecDepth 100000 in
theorem lz_42 (C : lwC p s m c b L xs D g) (hL : L ≤ 3072) (hD : va_D (aA g) (aWd g w)) (hR : R w w) (hP : va_P D vwCl (aWd g w) H) (hS : va_S (fun q => s.heap.size ≤ q) s.heap H locs) (hl : lv_has ls 4 [(0, .ref b), (1, .ref (g.1 0)), (2, .ref (g.1 45)), (3, .int (nI i))]) (hi : i + 6 ≤ L) (kk : ∀ (w' : hW) (H' : Heap) (locs' : List Loc), R w' w' → va_P D vwCl (aWd g w') H' → va_S (fun q => s.heap.size ≤ q) s.heap H' locs' → W p l e room_1 s m #[Value.ref b] below meth c H' locs' 600000 7302250 Qf (F0 m 1747 ls [])) : W p l e room_1 s m #[Value.ref b] below meth c H locs 600000 7302250 Qf (F0 m 1711 ls []) := by
  obtain ⟨x, w1, w2, h1, h2, h3⟩ := bo_restore hR
  obtain ⟨hx, hb, hml, hown, hts, -, -, -, -, -⟩ := id C
  refine lv_aload_n hx hb dL_law_1711 rfl (lv_at hl 1 rfl) ?_
  refine lw_cI (c' := 141) (i := 191) (na := 0) (pp := 1052) (as := []) (q := 0) (rest := []) (x := x) (w' := w1) C (by decide +kernel) hD hP hS hl.1 (by decide +kernel) (Nat.le_of_ble_eq_true rfl) (Nat.le_of_ble_eq_true rfl) rfl h1 dL_law_1712 (fun H locs hP hS => ?_)
  refine lv_aload_n hx hb dL_law_1715 rfl (lv_at hl 2 rfl) ?_
  refine lw_cI (c' := 244) (i := 194) (na := 0) (pp := 1586) (as := []) (q := 45) (rest := [.int x]) (x := x) (w' := w2) C (by decide +kernel) (aWd_D w1 hD) hP hS hl.1 (by decide +kernel) (Nat.le_of_ble_eq_true rfl) (Nat.le_of_ble_eq_true rfl) rfl h2 dL_law_1716 (fun H locs hP hS => ?_)
  exact lv_icmp_eq (tgt := 1747) hx hb dL_law_1719 (by decide) (fun _ => kk w2 H locs h3 hP hS) (fun h => absurd rfl h)
set_option maxRecDepth 100000 in
theorem lz_43 (C : lwC p s m c b L xs D g) (hL : L ≤ 3072) (hD : va_D (aA g) (aWd g w)) (hR : R w w) (hP : va_P D vwCl (aWd g w) H) (hS : va_S (fun q => s.heap.size ≤ q) s.heap H locs) (hl : lv_has ls 4 [(0, .ref b), (1, .ref (g.1 0)), (2, .ref (g.1 45)), (3, .int (nI i))]) (hi : i + 6 ≤ L) (kk : ∀ (w' : hW) (H' : Heap) (locs' : List Loc), R w' w' → va_P D vwCl (aWd g w') H' → va_S (fun q => s.heap.size ≤ q) s.heap H' locs' → W p l e room_1 s m #[Value.ref b] below meth c H' locs' 600000 7302250 Qf (F0 m 1747 ls [])) : W p l e room_1 s m #[Value.ref b] below meth c H locs 600000 7302250 Qf (F0 m 1724 ls []) := by
  obtain ⟨x, w1, w2, h1, h2, h3⟩ := bo_status hR (k := xs (i + 1))
  obtain ⟨hx, hb, hml, hown, hts, -, -, -, -, -⟩ := id C
  refine lv_aload_n hx hb dL_law_1724 rfl (lv_at hl 1 rfl) ?_
  refine lw_ld (k := 1) (kI := 1) C hS hL hl (by omega) rfl dL_law_1725 dL_law_1726 dL_law_1727 dL_law_1728 dL_law_1729 ?_
  refine lw_cI (c' := 142) (i := 195) (na := 1) (pp := 1060) (as := [.int (xs (i + 1))]) (q := 0) (rest := []) (x := x) (w' := w1) C (by decide +kernel) hD hP hS hl.1 (by decide +kernel) (Nat.le_of_ble_eq_true rfl) (Nat.le_of_ble_eq_true rfl) rfl h1 dL_law_1730 (fun H locs hP hS => ?_)
  refine lv_aload_n hx hb dL_law_1733 rfl (lv_at hl 2 rfl) ?_
  refine lw_ld (k := 1) (kI := 1) C hS hL hl (by omega) rfl dL_law_1734 dL_law_1735 dL_law_1736 dL_law_1737 dL_law_1738 ?_
  refine lw_cI (c' := 245) (i := 198) (na := 1) (pp := 1590) (as := [.int (xs (i + 1))]) (q := 45) (rest := [.int x]) (x := x) (w' := w2) C (by decide +kernel) (aWd_D w1 hD) hP hS hl.1 (by decide +kernel) (Nat.le_of_ble_eq_true rfl) (Nat.le_of_ble_eq_true rfl) rfl h2 dL_law_1739 (fun H locs hP hS => ?_)
  exact lv_icmp_eq (tgt := 1747) hx hb dL_law_1742 (by decide) (fun _ => kk w2 H locs h3 hP hS) (fun h => absurd rfl h)
end
