/-! the law's instructions: cases 22 to 28 -/
theorem w_739 : (.codeWith yL_ancestor cL_ancestor 5 (some .int) [(0, 10, 13, 13)] : Cond) ∈ TB := TB_mem (List.mem_of_getElem? (i := 739) (by decide +kernel)) rfl
theorem w_750 : (.codeWith yL_hindered cL_hindered 4 (some .int) [(0, 9, 12, 13)] : Cond) ∈ TB := TB_mem (List.mem_of_getElem? (i := 750) (by decide +kernel)) rfl
theorem w_757 : (.codeWith yL_vowOf cL_vowOf 5 (some .int) [(0, 10, 13, 13), (0, 10, 17, 15)] : Cond) ∈ TB := TB_mem (List.mem_of_getElem? (i := 757) (by decide +kernel)) rfl
theorem w_764 : (.codeWith yL_bound cL_bound 5 (some .int) [(0, 10, 13, 13), (0, 10, 17, 15)] : Cond) ∈ TB := TB_mem (List.mem_of_getElem? (i := 764) (by decide +kernel)) rfl
theorem w_775 : (.codeWith yL_hasCause cL_hasCause 5 (some .int) [(0, 17, 20, 13), (0, 17, 24, 15)] : Cond) ∈ TB := TB_mem (List.mem_of_getElem? (i := 775) (by decide +kernel)) rfl
theorem w_782 : (.codeWith yL_causeOf cL_causeOf 5 (some .int) [(0, 10, 13, 13), (0, 10, 17, 15)] : Cond) ∈ TB := TB_mem (List.mem_of_getElem? (i := 782) (by decide +kernel)) rfl
theorem w_789 : (.codeWith yL_state cL_state 6 (some .int) [(0, 12, 15, 13), (0, 12, 19, 15)] : Cond) ∈ TB := TB_mem (List.mem_of_getElem? (i := 789) (by decide +kernel)) rfl
theorem dL_law_1562 : decode cL_law 1562 = .ok (.aload_n 1, 1) := by decide +kernel
theorem dL_law_1563 : decode cL_law 1563 = .ok (.aload_n 0, 1) := by decide +kernel
theorem dL_law_1564 : decode cL_law 1564 = .ok (.iload 4, 2) := by decide +kernel
theorem dL_law_1566 : decode cL_law 1566 = .ok (.iconst 1, 1) := by decide +kernel
theorem dL_law_1567 : decode cL_law 1567 = .ok (.iadd, 1) := by decide +kernel
theorem dL_law_1568 : decode cL_law 1568 = .ok (.iaload, 1) := by decide +kernel
theorem dL_law_1569 : decode cL_law 1569 = .ok (.aload_n 0, 1) := by decide +kernel
theorem dL_law_1570 : decode cL_law 1570 = .ok (.iload 4, 2) := by decide +kernel
theorem dL_law_1572 : decode cL_law 1572 = .ok (.iconst 2, 1) := by decide +kernel
theorem dL_law_1573 : decode cL_law 1573 = .ok (.iadd, 1) := by decide +kernel
theorem dL_law_1574 : decode cL_law 1574 = .ok (.iaload, 1) := by decide +kernel
theorem dL_law_1575 : decode cL_law 1575 = .ok (.aload_n 3, 1) := by decide +kernel
theorem dL_law_1576 : decode cL_law 1576 = .ok (.invokestatic 195, 3) := by decide +kernel
theorem dL_law_1579 : decode cL_law 1579 = .ok (.istore 5, 2) := by decide +kernel
theorem dL_law_1581 : decode cL_law 1581 = .ok (.aload_n 2, 1) := by decide +kernel
theorem dL_law_1582 : decode cL_law 1582 = .ok (.aload_n 0, 1) := by decide +kernel
theorem dL_law_1583 : decode cL_law 1583 = .ok (.iload 4, 2) := by decide +kernel
theorem dL_law_1585 : decode cL_law 1585 = .ok (.iconst 1, 1) := by decide +kernel
theorem dL_law_1586 : decode cL_law 1586 = .ok (.iadd, 1) := by decide +kernel
theorem dL_law_1587 : decode cL_law 1587 = .ok (.iaload, 1) := by decide +kernel
theorem dL_law_1588 : decode cL_law 1588 = .ok (.aload_n 0, 1) := by decide +kernel
theorem dL_law_1589 : decode cL_law 1589 = .ok (.iload 4, 2) := by decide +kernel
theorem dL_law_1591 : decode cL_law 1591 = .ok (.iconst 2, 1) := by decide +kernel
theorem dL_law_1592 : decode cL_law 1592 = .ok (.iadd, 1) := by decide +kernel
theorem dL_law_1593 : decode cL_law 1593 = .ok (.iaload, 1) := by decide +kernel
theorem dL_law_1594 : decode cL_law 1594 = .ok (.invokevirtual 197, 3) := by decide +kernel
theorem dL_law_1597 : decode cL_law 1597 = .ok (.istore 6, 2) := by decide +kernel
theorem dL_law_1599 : decode cL_law 1599 = .ok (.aload_n 2, 1) := by decide +kernel
theorem dL_law_1600 : decode cL_law 1600 = .ok (.invokevirtual 122, 3) := by decide +kernel
theorem dL_law_1603 : decode cL_law 1603 = .ok (.iload 5, 2) := by decide +kernel
theorem dL_law_1605 : decode cL_law 1605 = .ok (.if_icmp .eq 5, 3) := by decide +kernel
theorem dL_law_1608 : decode cL_law 1608 = .ok (.iconst 0, 1) := by decide +kernel
theorem dL_law_1609 : decode cL_law 1609 = .ok (.ireturn, 1) := by decide +kernel
theorem dL_law_1610 : decode cL_law 1610 = .ok (.iload 5, 2) := by decide +kernel
theorem dL_law_1612 : decode cL_law 1612 = .ok (.ifCond .ne 15, 3) := by decide +kernel
theorem dL_law_1615 : decode cL_law 1615 = .ok (.aload_n 3, 1) := by decide +kernel
theorem dL_law_1616 : decode cL_law 1616 = .ok (.iconst 0, 1) := by decide +kernel
theorem dL_law_1617 : decode cL_law 1617 = .ok (.laload, 1) := by decide +kernel
theorem dL_law_1618 : decode cL_law 1618 = .ok (.iload 6, 2) := by decide +kernel
theorem dL_law_1620 : decode cL_law 1620 = .ok (.i2l, 1) := by decide +kernel
theorem dL_law_1621 : decode cL_law 1621 = .ok (.lcmp, 1) := by decide +kernel
theorem dL_law_1622 : decode cL_law 1622 = .ok (.ifCond .eq 5, 3) := by decide +kernel
theorem dL_law_1625 : decode cL_law 1625 = .ok (.iconst 0, 1) := by decide +kernel
theorem dL_law_1626 : decode cL_law 1626 = .ok (.ireturn, 1) := by decide +kernel
theorem dL_law_1627 : decode cL_law 1627 = .ok (.goto 418, 3) := by decide +kernel
def tab_lawC22 (L : Nat) (xs : Nat → Int32) : List (Nat × Sem) := [(1562, op_al 1 1563), (1563, op_al 0 1564), (1564, op_il 4 1566), (1566, op_ic 1 1567), (1567, op_bin (fun x y => x + y) 1568), (1568, op_sld L xs 1569), (1569, op_al 0 1570), (1570, op_il 4 1572), (1572, op_ic 2 1573), (1573, op_bin (fun x y => x + y) 1574), (1574, op_sld L xs 1575), (1575, op_al 3 1576), (1576, op_callL sp_L_ancestor 4 1 1579), (1579, op_is 5 1581), (1581, op_al 2 1582), (1582, op_al 0 1583), (1583, op_il 4 1585), (1585, op_ic 1 1586), (1586, op_bin (fun x y => x + y) 1587), (1587, op_sld L xs 1588), (1588, op_al 0 1589), (1589, op_il 4 1591), (1591, op_ic 2 1592), (1592, op_bin (fun x y => x + y) 1593), (1593, op_sld L xs 1594), (1594, op_callVN 7 sp_X5_ancestor 3 0 1597), (1597, op_is 6 1599), (1599, op_al 2 1600), (1600, op_callV 7 sp_X5_thrown 1 0 1603), (1603, op_il 5 1605), (1605, op_cmp (fun x y => x = y) 1610 1608), (1608, op_ic 0 1609), (1609, op_lret), (1610, op_il 5 1612), (1612, op_if (fun x => ¬ x = 0) 1627 1615), (1615, op_al 3 1616), (1616, op_ic 0 1617), (1617, op_lald 1618), (1618, op_il 6 1620), (1620, op_i2l 1621), (1621, op_lcmp 1622), (1622, op_if (fun x => x = 0) 1627 1625), (1625, op_ic 0 1626), (1626, op_lret), (1627, op_go 2045)]
set_option maxRecDepth 20000 in
theorem tok_lawC22 {L : Nat} {xs : Nat → Int32} : ∀ q ∈ tab_lawC22 L xs, LSnd L xs RL cL_law 7 15 150256 ret q.1 q.2 := by
  unfold tab_lawC22
  refine lcons (lsnd_g (snd_g (ok_aload_n dL_law_1562 rfl rfl))) ?_
  refine lcons (lsnd_g (snd_g (ok_aload_n dL_law_1563 rfl rfl))) ?_
  refine lcons (lsnd_g (snd_g (ok_iload dL_law_1564 rfl))) ?_
  refine lcons (lsnd_g (snd_g (ok_iconst dL_law_1566 rfl rfl))) ?_
  refine lcons (lsnd_g (snd_g (ok_iadd dL_law_1567 rfl))) ?_
  refine lcons (ok_sld dL_law_1568 rfl) ?_
  refine lcons (lsnd_g (snd_g (ok_aload_n dL_law_1569 rfl rfl))) ?_
  refine lcons (lsnd_g (snd_g (ok_iload dL_law_1570 rfl))) ?_
  refine lcons (lsnd_g (snd_g (ok_iconst dL_law_1572 rfl rfl))) ?_
  refine lcons (lsnd_g (snd_g (ok_iadd dL_law_1573 rfl))) ?_
  refine lcons (ok_sld dL_law_1574 rfl) ?_
  refine lcons (lsnd_g (snd_g (ok_aload_n dL_law_1575 rfl rfl))) ?_
  refine lcons (ok_callL M_L_ancestor w_737 w_738 w_42 w_739 ⟨by decide, by decide, by decide +kernel⟩ (by decide) (by decide) dL_law_1576 rfl) ?_
  refine lcons (lsnd_g (snd_g (ok_istore dL_law_1579 (by decide) rfl))) ?_
  refine lcons (lsnd_g (snd_g (ok_aload_n dL_law_1581 rfl rfl))) ?_
  refine lcons (lsnd_g (snd_g (ok_aload_n dL_law_1582 rfl rfl))) ?_
  refine lcons (lsnd_g (snd_g (ok_iload dL_law_1583 rfl))) ?_
  refine lcons (lsnd_g (snd_g (ok_iconst dL_law_1585 rfl rfl))) ?_
  refine lcons (lsnd_g (snd_g (ok_iadd dL_law_1586 rfl))) ?_
  refine lcons (ok_sld dL_law_1587 rfl) ?_
  refine lcons (lsnd_g (snd_g (ok_aload_n dL_law_1588 rfl rfl))) ?_
  refine lcons (lsnd_g (snd_g (ok_iload dL_law_1589 rfl))) ?_
  refine lcons (lsnd_g (snd_g (ok_iconst dL_law_1591 rfl rfl))) ?_
  refine lcons (lsnd_g (snd_g (ok_iadd dL_law_1592 rfl))) ?_
  refine lcons (ok_sld dL_law_1593 rfl) ?_
  refine lcons (lsnd_g (snd_g (ok_invokevirtualN M_X5_ancestor (C := RX5) (T := TX5) (nf := 33) rfl w_1289 w_1290 w_1291 w_49 w_1292 ⟨rfl, by decide, by decide, by decide +kernel⟩ (by decide) (by decide) dL_law_1594 rfl))) ?_
  refine lcons (lsnd_g (snd_g (ok_istore dL_law_1597 (by decide) rfl))) ?_
  refine lcons (lsnd_g (snd_g (ok_aload_n dL_law_1599 rfl rfl))) ?_
  refine lcons (lsnd_g (snd_g (ok_invokevirtual M_X5_thrown (C := RX5) (T := TX5) (nf := 33) rfl w_1093 w_1094 w_1095 w_49 w_1096 ⟨rfl, by decide, by decide, by decide +kernel⟩ (by decide) (by decide) dL_law_1600 rfl))) ?_
  refine lcons (lsnd_g (snd_g (ok_iload dL_law_1603 rfl))) ?_
  refine lcons (lsnd_g (snd_g (ok_icmp_eq dL_law_1605 rfl rfl))) ?_
  refine lcons (lsnd_g (snd_g (ok_iconst dL_law_1608 rfl rfl))) ?_
  refine lcons (ok_lret dL_law_1609) ?_
  refine lcons (lsnd_g (snd_g (ok_iload dL_law_1610 rfl))) ?_
  refine lcons (lsnd_g (snd_g (ok_if_ne dL_law_1612 rfl rfl))) ?_
  refine lcons (lsnd_g (snd_g (ok_aload_n dL_law_1615 rfl rfl))) ?_
  refine lcons (lsnd_g (snd_g (ok_iconst dL_law_1616 rfl rfl))) ?_
  refine lcons (lsnd_g (snd_g (ok_laload dL_law_1617 rfl))) ?_
  refine lcons (lsnd_g (snd_g (ok_iload dL_law_1618 rfl))) ?_
  refine lcons (lsnd_g (snd_g (ok_i2l dL_law_1620 rfl))) ?_
  refine lcons (lsnd_g (snd_g (ok_lcmp dL_law_1621 rfl))) ?_
  refine lcons (lsnd_g (snd_g (ok_if_eq dL_law_1622 rfl rfl))) ?_
  refine lcons (lsnd_g (snd_g (ok_iconst dL_law_1625 rfl rfl))) ?_
  refine lcons (ok_lret dL_law_1626) ?_
  refine lcons (lsnd_g (snd_g (ok_goto dL_law_1627 rfl))) ?_
  exact fun _ h => nomatch h
theorem dL_law_1630 : decode cL_law 1630 = .ok (.aload_n 1, 1) := by decide +kernel
theorem dL_law_1631 : decode cL_law 1631 = .ok (.aload_n 0, 1) := by decide +kernel
theorem dL_law_1632 : decode cL_law 1632 = .ok (.iload 4, 2) := by decide +kernel
theorem dL_law_1634 : decode cL_law 1634 = .ok (.iconst 1, 1) := by decide +kernel
theorem dL_law_1635 : decode cL_law 1635 = .ok (.iadd, 1) := by decide +kernel
theorem dL_law_1636 : decode cL_law 1636 = .ok (.iaload, 1) := by decide +kernel
theorem dL_law_1637 : decode cL_law 1637 = .ok (.aload_n 3, 1) := by decide +kernel
theorem dL_law_1638 : decode cL_law 1638 = .ok (.invokestatic 198, 3) := by decide +kernel
theorem dL_law_1641 : decode cL_law 1641 = .ok (.istore 5, 2) := by decide +kernel
theorem dL_law_1643 : decode cL_law 1643 = .ok (.aload_n 2, 1) := by decide +kernel
theorem dL_law_1644 : decode cL_law 1644 = .ok (.aload_n 0, 1) := by decide +kernel
theorem dL_law_1645 : decode cL_law 1645 = .ok (.iload 4, 2) := by decide +kernel
theorem dL_law_1647 : decode cL_law 1647 = .ok (.iconst 1, 1) := by decide +kernel
theorem dL_law_1648 : decode cL_law 1648 = .ok (.iadd, 1) := by decide +kernel
theorem dL_law_1649 : decode cL_law 1649 = .ok (.iaload, 1) := by decide +kernel
theorem dL_law_1650 : decode cL_law 1650 = .ok (.invokevirtual 200, 3) := by decide +kernel
theorem dL_law_1653 : decode cL_law 1653 = .ok (.istore 6, 2) := by decide +kernel
theorem dL_law_1655 : decode cL_law 1655 = .ok (.aload_n 2, 1) := by decide +kernel
theorem dL_law_1656 : decode cL_law 1656 = .ok (.invokevirtual 122, 3) := by decide +kernel
theorem dL_law_1659 : decode cL_law 1659 = .ok (.iload 5, 2) := by decide +kernel
theorem dL_law_1661 : decode cL_law 1661 = .ok (.if_icmp .eq 5, 3) := by decide +kernel
theorem dL_law_1664 : decode cL_law 1664 = .ok (.iconst 0, 1) := by decide +kernel
theorem dL_law_1665 : decode cL_law 1665 = .ok (.ireturn, 1) := by decide +kernel
theorem dL_law_1666 : decode cL_law 1666 = .ok (.iload 5, 2) := by decide +kernel
theorem dL_law_1668 : decode cL_law 1668 = .ok (.ifCond .ne 15, 3) := by decide +kernel
theorem dL_law_1671 : decode cL_law 1671 = .ok (.aload_n 3, 1) := by decide +kernel
theorem dL_law_1672 : decode cL_law 1672 = .ok (.iconst 0, 1) := by decide +kernel
theorem dL_law_1673 : decode cL_law 1673 = .ok (.laload, 1) := by decide +kernel
theorem dL_law_1674 : decode cL_law 1674 = .ok (.iload 6, 2) := by decide +kernel
theorem dL_law_1676 : decode cL_law 1676 = .ok (.i2l, 1) := by decide +kernel
theorem dL_law_1677 : decode cL_law 1677 = .ok (.lcmp, 1) := by decide +kernel
theorem dL_law_1678 : decode cL_law 1678 = .ok (.ifCond .eq 5, 3) := by decide +kernel
theorem dL_law_1681 : decode cL_law 1681 = .ok (.iconst 0, 1) := by decide +kernel
theorem dL_law_1682 : decode cL_law 1682 = .ok (.ireturn, 1) := by decide +kernel
theorem dL_law_1683 : decode cL_law 1683 = .ok (.goto 362, 3) := by decide +kernel
def tab_lawC23 (L : Nat) (xs : Nat → Int32) : List (Nat × Sem) := [(1630, op_al 1 1631), (1631, op_al 0 1632), (1632, op_il 4 1634), (1634, op_ic 1 1635), (1635, op_bin (fun x y => x + y) 1636), (1636, op_sld L xs 1637), (1637, op_al 3 1638), (1638, op_callL sp_L_hindered 3 1 1641), (1641, op_is 5 1643), (1643, op_al 2 1644), (1644, op_al 0 1645), (1645, op_il 4 1647), (1647, op_ic 1 1648), (1648, op_bin (fun x y => x + y) 1649), (1649, op_sld L xs 1650), (1650, op_callVN 7 sp_X5_hindered 2 0 1653), (1653, op_is 6 1655), (1655, op_al 2 1656), (1656, op_callV 7 sp_X5_thrown 1 0 1659), (1659, op_il 5 1661), (1661, op_cmp (fun x y => x = y) 1666 1664), (1664, op_ic 0 1665), (1665, op_lret), (1666, op_il 5 1668), (1668, op_if (fun x => ¬ x = 0) 1683 1671), (1671, op_al 3 1672), (1672, op_ic 0 1673), (1673, op_lald 1674), (1674, op_il 6 1676), (1676, op_i2l 1677), (1677, op_lcmp 1678), (1678, op_if (fun x => x = 0) 1683 1681), (1681, op_ic 0 1682), (1682, op_lret), (1683, op_go 2045)]
set_option maxRecDepth 20000 in
theorem tok_lawC23 {L : Nat} {xs : Nat → Int32} : ∀ q ∈ tab_lawC23 L xs, LSnd L xs RL cL_law 7 15 150256 ret q.1 q.2 := by
  unfold tab_lawC23
  refine lcons (lsnd_g (snd_g (ok_aload_n dL_law_1630 rfl rfl))) ?_
  refine lcons (lsnd_g (snd_g (ok_aload_n dL_law_1631 rfl rfl))) ?_
  refine lcons (lsnd_g (snd_g (ok_iload dL_law_1632 rfl))) ?_
  refine lcons (lsnd_g (snd_g (ok_iconst dL_law_1634 rfl rfl))) ?_
  refine lcons (lsnd_g (snd_g (ok_iadd dL_law_1635 rfl))) ?_
  refine lcons (ok_sld dL_law_1636 rfl) ?_
  refine lcons (lsnd_g (snd_g (ok_aload_n dL_law_1637 rfl rfl))) ?_
  refine lcons (ok_callL M_L_hindered w_748 w_749 w_42 w_750 ⟨by decide, by decide, by decide +kernel⟩ (by decide) (by decide) dL_law_1638 rfl) ?_
  refine lcons (lsnd_g (snd_g (ok_istore dL_law_1641 (by decide) rfl))) ?_
  refine lcons (lsnd_g (snd_g (ok_aload_n dL_law_1643 rfl rfl))) ?_
  refine lcons (lsnd_g (snd_g (ok_aload_n dL_law_1644 rfl rfl))) ?_
  refine lcons (lsnd_g (snd_g (ok_iload dL_law_1645 rfl))) ?_
  refine lcons (lsnd_g (snd_g (ok_iconst dL_law_1647 rfl rfl))) ?_
  refine lcons (lsnd_g (snd_g (ok_iadd dL_law_1648 rfl))) ?_
  refine lcons (ok_sld dL_law_1649 rfl) ?_
  refine lcons (lsnd_g (snd_g (ok_invokevirtualN M_X5_hindered (C := RX5) (T := TX5) (nf := 33) rfl w_1293 w_1294 w_1295 w_49 w_1296 ⟨rfl, by decide, by decide, by decide +kernel⟩ (by decide) (by decide) dL_law_1650 rfl))) ?_
  refine lcons (lsnd_g (snd_g (ok_istore dL_law_1653 (by decide) rfl))) ?_
  refine lcons (lsnd_g (snd_g (ok_aload_n dL_law_1655 rfl rfl))) ?_
  refine lcons (lsnd_g (snd_g (ok_invokevirtual M_X5_thrown (C := RX5) (T := TX5) (nf := 33) rfl w_1093 w_1094 w_1095 w_49 w_1096 ⟨rfl, by decide, by decide, by decide +kernel⟩ (by decide) (by decide) dL_law_1656 rfl))) ?_
  refine lcons (lsnd_g (snd_g (ok_iload dL_law_1659 rfl))) ?_
  refine lcons (lsnd_g (snd_g (ok_icmp_eq dL_law_1661 rfl rfl))) ?_
  refine lcons (lsnd_g (snd_g (ok_iconst dL_law_1664 rfl rfl))) ?_
  refine lcons (ok_lret dL_law_1665) ?_
  refine lcons (lsnd_g (snd_g (ok_iload dL_law_1666 rfl))) ?_
  refine lcons (lsnd_g (snd_g (ok_if_ne dL_law_1668 rfl rfl))) ?_
  refine lcons (lsnd_g (snd_g (ok_aload_n dL_law_1671 rfl rfl))) ?_
  refine lcons (lsnd_g (snd_g (ok_iconst dL_law_1672 rfl rfl))) ?_
  refine lcons (lsnd_g (snd_g (ok_laload dL_law_1673 rfl))) ?_
  refine lcons (lsnd_g (snd_g (ok_iload dL_law_1674 rfl))) ?_
  refine lcons (lsnd_g (snd_g (ok_i2l dL_law_1676 rfl))) ?_
  refine lcons (lsnd_g (snd_g (ok_lcmp dL_law_1677 rfl))) ?_
  refine lcons (lsnd_g (snd_g (ok_if_eq dL_law_1678 rfl rfl))) ?_
  refine lcons (lsnd_g (snd_g (ok_iconst dL_law_1681 rfl rfl))) ?_
  refine lcons (ok_lret dL_law_1682) ?_
  refine lcons (lsnd_g (snd_g (ok_goto dL_law_1683 rfl))) ?_
  exact fun _ h => nomatch h
theorem dL_law_1686 : decode cL_law 1686 = .ok (.aload_n 1, 1) := by decide +kernel
theorem dL_law_1687 : decode cL_law 1687 = .ok (.aload_n 0, 1) := by decide +kernel
theorem dL_law_1688 : decode cL_law 1688 = .ok (.iload 4, 2) := by decide +kernel
theorem dL_law_1690 : decode cL_law 1690 = .ok (.iconst 1, 1) := by decide +kernel
theorem dL_law_1691 : decode cL_law 1691 = .ok (.iadd, 1) := by decide +kernel
theorem dL_law_1692 : decode cL_law 1692 = .ok (.iaload, 1) := by decide +kernel
theorem dL_law_1693 : decode cL_law 1693 = .ok (.aload_n 0, 1) := by decide +kernel
theorem dL_law_1694 : decode cL_law 1694 = .ok (.iload 4, 2) := by decide +kernel
theorem dL_law_1696 : decode cL_law 1696 = .ok (.iconst 2, 1) := by decide +kernel
theorem dL_law_1697 : decode cL_law 1697 = .ok (.iadd, 1) := by decide +kernel
theorem dL_law_1698 : decode cL_law 1698 = .ok (.iaload, 1) := by decide +kernel
theorem dL_law_1699 : decode cL_law 1699 = .ok (.aload_n 3, 1) := by decide +kernel
theorem dL_law_1700 : decode cL_law 1700 = .ok (.invokestatic 201, 3) := by decide +kernel
theorem dL_law_1703 : decode cL_law 1703 = .ok (.istore 5, 2) := by decide +kernel
theorem dL_law_1705 : decode cL_law 1705 = .ok (.aload_n 2, 1) := by decide +kernel
theorem dL_law_1706 : decode cL_law 1706 = .ok (.aload_n 0, 1) := by decide +kernel
theorem dL_law_1707 : decode cL_law 1707 = .ok (.iload 4, 2) := by decide +kernel
theorem dL_law_1709 : decode cL_law 1709 = .ok (.iconst 1, 1) := by decide +kernel
theorem dL_law_1710 : decode cL_law 1710 = .ok (.iadd, 1) := by decide +kernel
theorem dL_law_1711 : decode cL_law 1711 = .ok (.iaload, 1) := by decide +kernel
theorem dL_law_1712 : decode cL_law 1712 = .ok (.aload_n 0, 1) := by decide +kernel
theorem dL_law_1713 : decode cL_law 1713 = .ok (.iload 4, 2) := by decide +kernel
theorem dL_law_1715 : decode cL_law 1715 = .ok (.iconst 2, 1) := by decide +kernel
theorem dL_law_1716 : decode cL_law 1716 = .ok (.iadd, 1) := by decide +kernel
theorem dL_law_1717 : decode cL_law 1717 = .ok (.iaload, 1) := by decide +kernel
theorem dL_law_1718 : decode cL_law 1718 = .ok (.invokevirtual 203, 3) := by decide +kernel
theorem dL_law_1721 : decode cL_law 1721 = .ok (.istore 6, 2) := by decide +kernel
theorem dL_law_1723 : decode cL_law 1723 = .ok (.aload_n 2, 1) := by decide +kernel
theorem dL_law_1724 : decode cL_law 1724 = .ok (.invokevirtual 122, 3) := by decide +kernel
theorem dL_law_1727 : decode cL_law 1727 = .ok (.iload 5, 2) := by decide +kernel
theorem dL_law_1729 : decode cL_law 1729 = .ok (.if_icmp .eq 5, 3) := by decide +kernel
theorem dL_law_1732 : decode cL_law 1732 = .ok (.iconst 0, 1) := by decide +kernel
theorem dL_law_1733 : decode cL_law 1733 = .ok (.ireturn, 1) := by decide +kernel
theorem dL_law_1734 : decode cL_law 1734 = .ok (.iload 5, 2) := by decide +kernel
theorem dL_law_1736 : decode cL_law 1736 = .ok (.ifCond .ne 15, 3) := by decide +kernel
theorem dL_law_1739 : decode cL_law 1739 = .ok (.aload_n 3, 1) := by decide +kernel
theorem dL_law_1740 : decode cL_law 1740 = .ok (.iconst 0, 1) := by decide +kernel
theorem dL_law_1741 : decode cL_law 1741 = .ok (.laload, 1) := by decide +kernel
theorem dL_law_1742 : decode cL_law 1742 = .ok (.iload 6, 2) := by decide +kernel
theorem dL_law_1744 : decode cL_law 1744 = .ok (.i2l, 1) := by decide +kernel
theorem dL_law_1745 : decode cL_law 1745 = .ok (.lcmp, 1) := by decide +kernel
theorem dL_law_1746 : decode cL_law 1746 = .ok (.ifCond .eq 5, 3) := by decide +kernel
theorem dL_law_1749 : decode cL_law 1749 = .ok (.iconst 0, 1) := by decide +kernel
theorem dL_law_1750 : decode cL_law 1750 = .ok (.ireturn, 1) := by decide +kernel
theorem dL_law_1751 : decode cL_law 1751 = .ok (.goto 294, 3) := by decide +kernel
def tab_lawC24 (L : Nat) (xs : Nat → Int32) : List (Nat × Sem) := [(1686, op_al 1 1687), (1687, op_al 0 1688), (1688, op_il 4 1690), (1690, op_ic 1 1691), (1691, op_bin (fun x y => x + y) 1692), (1692, op_sld L xs 1693), (1693, op_al 0 1694), (1694, op_il 4 1696), (1696, op_ic 2 1697), (1697, op_bin (fun x y => x + y) 1698), (1698, op_sld L xs 1699), (1699, op_al 3 1700), (1700, op_callL sp_L_vowOf 4 2 1703), (1703, op_is 5 1705), (1705, op_al 2 1706), (1706, op_al 0 1707), (1707, op_il 4 1709), (1709, op_ic 1 1710), (1710, op_bin (fun x y => x + y) 1711), (1711, op_sld L xs 1712), (1712, op_al 0 1713), (1713, op_il 4 1715), (1715, op_ic 2 1716), (1716, op_bin (fun x y => x + y) 1717), (1717, op_sld L xs 1718), (1718, op_callVN 7 sp_X5_vowOf 3 0 1721), (1721, op_is 6 1723), (1723, op_al 2 1724), (1724, op_callV 7 sp_X5_thrown 1 0 1727), (1727, op_il 5 1729), (1729, op_cmp (fun x y => x = y) 1734 1732), (1732, op_ic 0 1733), (1733, op_lret), (1734, op_il 5 1736), (1736, op_if (fun x => ¬ x = 0) 1751 1739), (1739, op_al 3 1740), (1740, op_ic 0 1741), (1741, op_lald 1742), (1742, op_il 6 1744), (1744, op_i2l 1745), (1745, op_lcmp 1746), (1746, op_if (fun x => x = 0) 1751 1749), (1749, op_ic 0 1750), (1750, op_lret), (1751, op_go 2045)]
set_option maxRecDepth 20000 in
theorem tok_lawC24 {L : Nat} {xs : Nat → Int32} : ∀ q ∈ tab_lawC24 L xs, LSnd L xs RL cL_law 7 15 150256 ret q.1 q.2 := by
  unfold tab_lawC24
  refine lcons (lsnd_g (snd_g (ok_aload_n dL_law_1686 rfl rfl))) ?_
  refine lcons (lsnd_g (snd_g (ok_aload_n dL_law_1687 rfl rfl))) ?_
  refine lcons (lsnd_g (snd_g (ok_iload dL_law_1688 rfl))) ?_
  refine lcons (lsnd_g (snd_g (ok_iconst dL_law_1690 rfl rfl))) ?_
  refine lcons (lsnd_g (snd_g (ok_iadd dL_law_1691 rfl))) ?_
  refine lcons (ok_sld dL_law_1692 rfl) ?_
  refine lcons (lsnd_g (snd_g (ok_aload_n dL_law_1693 rfl rfl))) ?_
  refine lcons (lsnd_g (snd_g (ok_iload dL_law_1694 rfl))) ?_
  refine lcons (lsnd_g (snd_g (ok_iconst dL_law_1696 rfl rfl))) ?_
  refine lcons (lsnd_g (snd_g (ok_iadd dL_law_1697 rfl))) ?_
  refine lcons (ok_sld dL_law_1698 rfl) ?_
  refine lcons (lsnd_g (snd_g (ok_aload_n dL_law_1699 rfl rfl))) ?_
  refine lcons (ok_callL M_L_vowOf w_755 w_756 w_42 w_757 ⟨by decide, by decide, by decide +kernel⟩ (by decide) (by decide) dL_law_1700 rfl) ?_
  refine lcons (lsnd_g (snd_g (ok_istore dL_law_1703 (by decide) rfl))) ?_
  refine lcons (lsnd_g (snd_g (ok_aload_n dL_law_1705 rfl rfl))) ?_
  refine lcons (lsnd_g (snd_g (ok_aload_n dL_law_1706 rfl rfl))) ?_
  refine lcons (lsnd_g (snd_g (ok_iload dL_law_1707 rfl))) ?_
  refine lcons (lsnd_g (snd_g (ok_iconst dL_law_1709 rfl rfl))) ?_
  refine lcons (lsnd_g (snd_g (ok_iadd dL_law_1710 rfl))) ?_
  refine lcons (ok_sld dL_law_1711 rfl) ?_
  refine lcons (lsnd_g (snd_g (ok_aload_n dL_law_1712 rfl rfl))) ?_
  refine lcons (lsnd_g (snd_g (ok_iload dL_law_1713 rfl))) ?_
  refine lcons (lsnd_g (snd_g (ok_iconst dL_law_1715 rfl rfl))) ?_
  refine lcons (lsnd_g (snd_g (ok_iadd dL_law_1716 rfl))) ?_
  refine lcons (ok_sld dL_law_1717 rfl) ?_
  refine lcons (lsnd_g (snd_g (ok_invokevirtualN M_X5_vowOf (C := RX5) (T := TX5) (nf := 33) rfl w_1297 w_1298 w_1299 w_49 w_1300 ⟨rfl, by decide, by decide, by decide +kernel⟩ (by decide) (by decide) dL_law_1718 rfl))) ?_
  refine lcons (lsnd_g (snd_g (ok_istore dL_law_1721 (by decide) rfl))) ?_
  refine lcons (lsnd_g (snd_g (ok_aload_n dL_law_1723 rfl rfl))) ?_
  refine lcons (lsnd_g (snd_g (ok_invokevirtual M_X5_thrown (C := RX5) (T := TX5) (nf := 33) rfl w_1093 w_1094 w_1095 w_49 w_1096 ⟨rfl, by decide, by decide, by decide +kernel⟩ (by decide) (by decide) dL_law_1724 rfl))) ?_
  refine lcons (lsnd_g (snd_g (ok_iload dL_law_1727 rfl))) ?_
  refine lcons (lsnd_g (snd_g (ok_icmp_eq dL_law_1729 rfl rfl))) ?_
  refine lcons (lsnd_g (snd_g (ok_iconst dL_law_1732 rfl rfl))) ?_
  refine lcons (ok_lret dL_law_1733) ?_
  refine lcons (lsnd_g (snd_g (ok_iload dL_law_1734 rfl))) ?_
  refine lcons (lsnd_g (snd_g (ok_if_ne dL_law_1736 rfl rfl))) ?_
  refine lcons (lsnd_g (snd_g (ok_aload_n dL_law_1739 rfl rfl))) ?_
  refine lcons (lsnd_g (snd_g (ok_iconst dL_law_1740 rfl rfl))) ?_
  refine lcons (lsnd_g (snd_g (ok_laload dL_law_1741 rfl))) ?_
  refine lcons (lsnd_g (snd_g (ok_iload dL_law_1742 rfl))) ?_
  refine lcons (lsnd_g (snd_g (ok_i2l dL_law_1744 rfl))) ?_
  refine lcons (lsnd_g (snd_g (ok_lcmp dL_law_1745 rfl))) ?_
  refine lcons (lsnd_g (snd_g (ok_if_eq dL_law_1746 rfl rfl))) ?_
  refine lcons (lsnd_g (snd_g (ok_iconst dL_law_1749 rfl rfl))) ?_
  refine lcons (ok_lret dL_law_1750) ?_
  refine lcons (lsnd_g (snd_g (ok_goto dL_law_1751 rfl))) ?_
  exact fun _ h => nomatch h
theorem dL_law_1754 : decode cL_law 1754 = .ok (.aload_n 1, 1) := by decide +kernel
theorem dL_law_1755 : decode cL_law 1755 = .ok (.aload_n 0, 1) := by decide +kernel
theorem dL_law_1756 : decode cL_law 1756 = .ok (.iload 4, 2) := by decide +kernel
theorem dL_law_1758 : decode cL_law 1758 = .ok (.iconst 1, 1) := by decide +kernel
theorem dL_law_1759 : decode cL_law 1759 = .ok (.iadd, 1) := by decide +kernel
theorem dL_law_1760 : decode cL_law 1760 = .ok (.iaload, 1) := by decide +kernel
theorem dL_law_1761 : decode cL_law 1761 = .ok (.aload_n 0, 1) := by decide +kernel
theorem dL_law_1762 : decode cL_law 1762 = .ok (.iload 4, 2) := by decide +kernel
theorem dL_law_1764 : decode cL_law 1764 = .ok (.iconst 2, 1) := by decide +kernel
theorem dL_law_1765 : decode cL_law 1765 = .ok (.iadd, 1) := by decide +kernel
theorem dL_law_1766 : decode cL_law 1766 = .ok (.iaload, 1) := by decide +kernel
theorem dL_law_1767 : decode cL_law 1767 = .ok (.aload_n 3, 1) := by decide +kernel
theorem dL_law_1768 : decode cL_law 1768 = .ok (.invokestatic 204, 3) := by decide +kernel
theorem dL_law_1771 : decode cL_law 1771 = .ok (.istore 5, 2) := by decide +kernel
theorem dL_law_1773 : decode cL_law 1773 = .ok (.aload_n 2, 1) := by decide +kernel
theorem dL_law_1774 : decode cL_law 1774 = .ok (.aload_n 0, 1) := by decide +kernel
theorem dL_law_1775 : decode cL_law 1775 = .ok (.iload 4, 2) := by decide +kernel
theorem dL_law_1777 : decode cL_law 1777 = .ok (.iconst 1, 1) := by decide +kernel
theorem dL_law_1778 : decode cL_law 1778 = .ok (.iadd, 1) := by decide +kernel
theorem dL_law_1779 : decode cL_law 1779 = .ok (.iaload, 1) := by decide +kernel
theorem dL_law_1780 : decode cL_law 1780 = .ok (.aload_n 0, 1) := by decide +kernel
theorem dL_law_1781 : decode cL_law 1781 = .ok (.iload 4, 2) := by decide +kernel
theorem dL_law_1783 : decode cL_law 1783 = .ok (.iconst 2, 1) := by decide +kernel
theorem dL_law_1784 : decode cL_law 1784 = .ok (.iadd, 1) := by decide +kernel
theorem dL_law_1785 : decode cL_law 1785 = .ok (.iaload, 1) := by decide +kernel
theorem dL_law_1786 : decode cL_law 1786 = .ok (.invokevirtual 206, 3) := by decide +kernel
theorem dL_law_1789 : decode cL_law 1789 = .ok (.istore 6, 2) := by decide +kernel
theorem dL_law_1791 : decode cL_law 1791 = .ok (.aload_n 2, 1) := by decide +kernel
theorem dL_law_1792 : decode cL_law 1792 = .ok (.invokevirtual 122, 3) := by decide +kernel
theorem dL_law_1795 : decode cL_law 1795 = .ok (.iload 5, 2) := by decide +kernel
theorem dL_law_1797 : decode cL_law 1797 = .ok (.if_icmp .eq 5, 3) := by decide +kernel
theorem dL_law_1800 : decode cL_law 1800 = .ok (.iconst 0, 1) := by decide +kernel
theorem dL_law_1801 : decode cL_law 1801 = .ok (.ireturn, 1) := by decide +kernel
theorem dL_law_1802 : decode cL_law 1802 = .ok (.iload 5, 2) := by decide +kernel
theorem dL_law_1804 : decode cL_law 1804 = .ok (.ifCond .ne 15, 3) := by decide +kernel
theorem dL_law_1807 : decode cL_law 1807 = .ok (.aload_n 3, 1) := by decide +kernel
theorem dL_law_1808 : decode cL_law 1808 = .ok (.iconst 0, 1) := by decide +kernel
theorem dL_law_1809 : decode cL_law 1809 = .ok (.laload, 1) := by decide +kernel
theorem dL_law_1810 : decode cL_law 1810 = .ok (.iload 6, 2) := by decide +kernel
theorem dL_law_1812 : decode cL_law 1812 = .ok (.i2l, 1) := by decide +kernel
theorem dL_law_1813 : decode cL_law 1813 = .ok (.lcmp, 1) := by decide +kernel
theorem dL_law_1814 : decode cL_law 1814 = .ok (.ifCond .eq 5, 3) := by decide +kernel
theorem dL_law_1817 : decode cL_law 1817 = .ok (.iconst 0, 1) := by decide +kernel
theorem dL_law_1818 : decode cL_law 1818 = .ok (.ireturn, 1) := by decide +kernel
theorem dL_law_1819 : decode cL_law 1819 = .ok (.goto 226, 3) := by decide +kernel
def tab_lawC25 (L : Nat) (xs : Nat → Int32) : List (Nat × Sem) := [(1754, op_al 1 1755), (1755, op_al 0 1756), (1756, op_il 4 1758), (1758, op_ic 1 1759), (1759, op_bin (fun x y => x + y) 1760), (1760, op_sld L xs 1761), (1761, op_al 0 1762), (1762, op_il 4 1764), (1764, op_ic 2 1765), (1765, op_bin (fun x y => x + y) 1766), (1766, op_sld L xs 1767), (1767, op_al 3 1768), (1768, op_callL sp_L_bound 4 2 1771), (1771, op_is 5 1773), (1773, op_al 2 1774), (1774, op_al 0 1775), (1775, op_il 4 1777), (1777, op_ic 1 1778), (1778, op_bin (fun x y => x + y) 1779), (1779, op_sld L xs 1780), (1780, op_al 0 1781), (1781, op_il 4 1783), (1783, op_ic 2 1784), (1784, op_bin (fun x y => x + y) 1785), (1785, op_sld L xs 1786), (1786, op_callVN 7 sp_X5_bound 3 0 1789), (1789, op_is 6 1791), (1791, op_al 2 1792), (1792, op_callV 7 sp_X5_thrown 1 0 1795), (1795, op_il 5 1797), (1797, op_cmp (fun x y => x = y) 1802 1800), (1800, op_ic 0 1801), (1801, op_lret), (1802, op_il 5 1804), (1804, op_if (fun x => ¬ x = 0) 1819 1807), (1807, op_al 3 1808), (1808, op_ic 0 1809), (1809, op_lald 1810), (1810, op_il 6 1812), (1812, op_i2l 1813), (1813, op_lcmp 1814), (1814, op_if (fun x => x = 0) 1819 1817), (1817, op_ic 0 1818), (1818, op_lret), (1819, op_go 2045)]
set_option maxRecDepth 20000 in
theorem tok_lawC25 {L : Nat} {xs : Nat → Int32} : ∀ q ∈ tab_lawC25 L xs, LSnd L xs RL cL_law 7 15 150256 ret q.1 q.2 := by
  unfold tab_lawC25
  refine lcons (lsnd_g (snd_g (ok_aload_n dL_law_1754 rfl rfl))) ?_
  refine lcons (lsnd_g (snd_g (ok_aload_n dL_law_1755 rfl rfl))) ?_
  refine lcons (lsnd_g (snd_g (ok_iload dL_law_1756 rfl))) ?_
  refine lcons (lsnd_g (snd_g (ok_iconst dL_law_1758 rfl rfl))) ?_
  refine lcons (lsnd_g (snd_g (ok_iadd dL_law_1759 rfl))) ?_
  refine lcons (ok_sld dL_law_1760 rfl) ?_
  refine lcons (lsnd_g (snd_g (ok_aload_n dL_law_1761 rfl rfl))) ?_
  refine lcons (lsnd_g (snd_g (ok_iload dL_law_1762 rfl))) ?_
  refine lcons (lsnd_g (snd_g (ok_iconst dL_law_1764 rfl rfl))) ?_
  refine lcons (lsnd_g (snd_g (ok_iadd dL_law_1765 rfl))) ?_
  refine lcons (ok_sld dL_law_1766 rfl) ?_
  refine lcons (lsnd_g (snd_g (ok_aload_n dL_law_1767 rfl rfl))) ?_
  refine lcons (ok_callL M_L_bound w_762 w_763 w_42 w_764 ⟨by decide, by decide, by decide +kernel⟩ (by decide) (by decide) dL_law_1768 rfl) ?_
  refine lcons (lsnd_g (snd_g (ok_istore dL_law_1771 (by decide) rfl))) ?_
  refine lcons (lsnd_g (snd_g (ok_aload_n dL_law_1773 rfl rfl))) ?_
  refine lcons (lsnd_g (snd_g (ok_aload_n dL_law_1774 rfl rfl))) ?_
  refine lcons (lsnd_g (snd_g (ok_iload dL_law_1775 rfl))) ?_
  refine lcons (lsnd_g (snd_g (ok_iconst dL_law_1777 rfl rfl))) ?_
  refine lcons (lsnd_g (snd_g (ok_iadd dL_law_1778 rfl))) ?_
  refine lcons (ok_sld dL_law_1779 rfl) ?_
  refine lcons (lsnd_g (snd_g (ok_aload_n dL_law_1780 rfl rfl))) ?_
  refine lcons (lsnd_g (snd_g (ok_iload dL_law_1781 rfl))) ?_
  refine lcons (lsnd_g (snd_g (ok_iconst dL_law_1783 rfl rfl))) ?_
  refine lcons (lsnd_g (snd_g (ok_iadd dL_law_1784 rfl))) ?_
  refine lcons (ok_sld dL_law_1785 rfl) ?_
  refine lcons (lsnd_g (snd_g (ok_invokevirtualN M_X5_bound (C := RX5) (T := TX5) (nf := 33) rfl w_1301 w_1302 w_1303 w_49 w_1304 ⟨rfl, by decide, by decide, by decide +kernel⟩ (by decide) (by decide) dL_law_1786 rfl))) ?_
  refine lcons (lsnd_g (snd_g (ok_istore dL_law_1789 (by decide) rfl))) ?_
  refine lcons (lsnd_g (snd_g (ok_aload_n dL_law_1791 rfl rfl))) ?_
  refine lcons (lsnd_g (snd_g (ok_invokevirtual M_X5_thrown (C := RX5) (T := TX5) (nf := 33) rfl w_1093 w_1094 w_1095 w_49 w_1096 ⟨rfl, by decide, by decide, by decide +kernel⟩ (by decide) (by decide) dL_law_1792 rfl))) ?_
  refine lcons (lsnd_g (snd_g (ok_iload dL_law_1795 rfl))) ?_
  refine lcons (lsnd_g (snd_g (ok_icmp_eq dL_law_1797 rfl rfl))) ?_
  refine lcons (lsnd_g (snd_g (ok_iconst dL_law_1800 rfl rfl))) ?_
  refine lcons (ok_lret dL_law_1801) ?_
  refine lcons (lsnd_g (snd_g (ok_iload dL_law_1802 rfl))) ?_
  refine lcons (lsnd_g (snd_g (ok_if_ne dL_law_1804 rfl rfl))) ?_
  refine lcons (lsnd_g (snd_g (ok_aload_n dL_law_1807 rfl rfl))) ?_
  refine lcons (lsnd_g (snd_g (ok_iconst dL_law_1808 rfl rfl))) ?_
  refine lcons (lsnd_g (snd_g (ok_laload dL_law_1809 rfl))) ?_
  refine lcons (lsnd_g (snd_g (ok_iload dL_law_1810 rfl))) ?_
  refine lcons (lsnd_g (snd_g (ok_i2l dL_law_1812 rfl))) ?_
  refine lcons (lsnd_g (snd_g (ok_lcmp dL_law_1813 rfl))) ?_
  refine lcons (lsnd_g (snd_g (ok_if_eq dL_law_1814 rfl rfl))) ?_
  refine lcons (lsnd_g (snd_g (ok_iconst dL_law_1817 rfl rfl))) ?_
  refine lcons (ok_lret dL_law_1818) ?_
  refine lcons (lsnd_g (snd_g (ok_goto dL_law_1819 rfl))) ?_
  exact fun _ h => nomatch h
theorem dL_law_1822 : decode cL_law 1822 = .ok (.aload_n 1, 1) := by decide +kernel
theorem dL_law_1823 : decode cL_law 1823 = .ok (.aload_n 0, 1) := by decide +kernel
theorem dL_law_1824 : decode cL_law 1824 = .ok (.iload 4, 2) := by decide +kernel
theorem dL_law_1826 : decode cL_law 1826 = .ok (.iconst 1, 1) := by decide +kernel
theorem dL_law_1827 : decode cL_law 1827 = .ok (.iadd, 1) := by decide +kernel
theorem dL_law_1828 : decode cL_law 1828 = .ok (.iaload, 1) := by decide +kernel
theorem dL_law_1829 : decode cL_law 1829 = .ok (.aload_n 0, 1) := by decide +kernel
theorem dL_law_1830 : decode cL_law 1830 = .ok (.iload 4, 2) := by decide +kernel
theorem dL_law_1832 : decode cL_law 1832 = .ok (.iconst 2, 1) := by decide +kernel
theorem dL_law_1833 : decode cL_law 1833 = .ok (.iadd, 1) := by decide +kernel
theorem dL_law_1834 : decode cL_law 1834 = .ok (.iaload, 1) := by decide +kernel
theorem dL_law_1835 : decode cL_law 1835 = .ok (.aload_n 3, 1) := by decide +kernel
theorem dL_law_1836 : decode cL_law 1836 = .ok (.invokestatic 207, 3) := by decide +kernel
theorem dL_law_1839 : decode cL_law 1839 = .ok (.istore 5, 2) := by decide +kernel
theorem dL_law_1841 : decode cL_law 1841 = .ok (.aload_n 2, 1) := by decide +kernel
theorem dL_law_1842 : decode cL_law 1842 = .ok (.aload_n 0, 1) := by decide +kernel
theorem dL_law_1843 : decode cL_law 1843 = .ok (.iload 4, 2) := by decide +kernel
theorem dL_law_1845 : decode cL_law 1845 = .ok (.iconst 1, 1) := by decide +kernel
theorem dL_law_1846 : decode cL_law 1846 = .ok (.iadd, 1) := by decide +kernel
theorem dL_law_1847 : decode cL_law 1847 = .ok (.iaload, 1) := by decide +kernel
theorem dL_law_1848 : decode cL_law 1848 = .ok (.aload_n 0, 1) := by decide +kernel
theorem dL_law_1849 : decode cL_law 1849 = .ok (.iload 4, 2) := by decide +kernel
theorem dL_law_1851 : decode cL_law 1851 = .ok (.iconst 2, 1) := by decide +kernel
theorem dL_law_1852 : decode cL_law 1852 = .ok (.iadd, 1) := by decide +kernel
theorem dL_law_1853 : decode cL_law 1853 = .ok (.iaload, 1) := by decide +kernel
theorem dL_law_1854 : decode cL_law 1854 = .ok (.invokevirtual 209, 3) := by decide +kernel
theorem dL_law_1857 : decode cL_law 1857 = .ok (.istore 6, 2) := by decide +kernel
theorem dL_law_1859 : decode cL_law 1859 = .ok (.aload_n 2, 1) := by decide +kernel
theorem dL_law_1860 : decode cL_law 1860 = .ok (.invokevirtual 122, 3) := by decide +kernel
theorem dL_law_1863 : decode cL_law 1863 = .ok (.iload 5, 2) := by decide +kernel
theorem dL_law_1865 : decode cL_law 1865 = .ok (.if_icmp .eq 5, 3) := by decide +kernel
theorem dL_law_1868 : decode cL_law 1868 = .ok (.iconst 0, 1) := by decide +kernel
theorem dL_law_1869 : decode cL_law 1869 = .ok (.ireturn, 1) := by decide +kernel
theorem dL_law_1870 : decode cL_law 1870 = .ok (.iload 5, 2) := by decide +kernel
theorem dL_law_1872 : decode cL_law 1872 = .ok (.ifCond .ne 22, 3) := by decide +kernel
theorem dL_law_1875 : decode cL_law 1875 = .ok (.aload_n 3, 1) := by decide +kernel
theorem dL_law_1876 : decode cL_law 1876 = .ok (.iconst 0, 1) := by decide +kernel
theorem dL_law_1877 : decode cL_law 1877 = .ok (.laload, 1) := by decide +kernel
theorem dL_law_1878 : decode cL_law 1878 = .ok (.iload 6, 2) := by decide +kernel
theorem dL_law_1880 : decode cL_law 1880 = .ok (.ifCond .eq 7, 3) := by decide +kernel
theorem dL_law_1883 : decode cL_law 1883 = .ok (.lconst 1, 1) := by decide +kernel
theorem dL_law_1884 : decode cL_law 1884 = .ok (.goto 4, 3) := by decide +kernel
theorem dL_law_1887 : decode cL_law 1887 = .ok (.lconst 0, 1) := by decide +kernel
theorem dL_law_1888 : decode cL_law 1888 = .ok (.lcmp, 1) := by decide +kernel
theorem dL_law_1889 : decode cL_law 1889 = .ok (.ifCond .eq 5, 3) := by decide +kernel
theorem dL_law_1892 : decode cL_law 1892 = .ok (.iconst 0, 1) := by decide +kernel
theorem dL_law_1893 : decode cL_law 1893 = .ok (.ireturn, 1) := by decide +kernel
theorem dL_law_1894 : decode cL_law 1894 = .ok (.goto 151, 3) := by decide +kernel
def tab_lawC26 (L : Nat) (xs : Nat → Int32) : List (Nat × Sem) := [(1822, op_al 1 1823), (1823, op_al 0 1824), (1824, op_il 4 1826), (1826, op_ic 1 1827), (1827, op_bin (fun x y => x + y) 1828), (1828, op_sld L xs 1829), (1829, op_al 0 1830), (1830, op_il 4 1832), (1832, op_ic 2 1833), (1833, op_bin (fun x y => x + y) 1834), (1834, op_sld L xs 1835), (1835, op_al 3 1836), (1836, op_callL sp_L_hasCause 4 4 1839), (1839, op_is 5 1841), (1841, op_al 2 1842), (1842, op_al 0 1843), (1843, op_il 4 1845), (1845, op_ic 1 1846), (1846, op_bin (fun x y => x + y) 1847), (1847, op_sld L xs 1848), (1848, op_al 0 1849), (1849, op_il 4 1851), (1851, op_ic 2 1852), (1852, op_bin (fun x y => x + y) 1853), (1853, op_sld L xs 1854), (1854, op_callVN 7 sp_X5_hasCause 3 0 1857), (1857, op_is 6 1859), (1859, op_al 2 1860), (1860, op_callV 7 sp_X5_thrown 1 0 1863), (1863, op_il 5 1865), (1865, op_cmp (fun x y => x = y) 1870 1868), (1868, op_ic 0 1869), (1869, op_lret), (1870, op_il 5 1872), (1872, op_if (fun x => ¬ x = 0) 1894 1875), (1875, op_al 3 1876), (1876, op_ic 0 1877), (1877, op_lald 1878), (1878, op_il 6 1880), (1880, op_if (fun x => x = 0) 1887 1883), (1883, op_lc 1 1884), (1884, op_go 1888), (1887, op_lc 0 1888), (1888, op_lcmp 1889), (1889, op_if (fun x => x = 0) 1894 1892), (1892, op_ic 0 1893), (1893, op_lret), (1894, op_go 2045)]
set_option maxRecDepth 20000 in
theorem tok_lawC26 {L : Nat} {xs : Nat → Int32} : ∀ q ∈ tab_lawC26 L xs, LSnd L xs RL cL_law 7 15 150256 ret q.1 q.2 := by
  unfold tab_lawC26
  refine lcons (lsnd_g (snd_g (ok_aload_n dL_law_1822 rfl rfl))) ?_
  refine lcons (lsnd_g (snd_g (ok_aload_n dL_law_1823 rfl rfl))) ?_
  refine lcons (lsnd_g (snd_g (ok_iload dL_law_1824 rfl))) ?_
  refine lcons (lsnd_g (snd_g (ok_iconst dL_law_1826 rfl rfl))) ?_
  refine lcons (lsnd_g (snd_g (ok_iadd dL_law_1827 rfl))) ?_
  refine lcons (ok_sld dL_law_1828 rfl) ?_
  refine lcons (lsnd_g (snd_g (ok_aload_n dL_law_1829 rfl rfl))) ?_
  refine lcons (lsnd_g (snd_g (ok_iload dL_law_1830 rfl))) ?_
  refine lcons (lsnd_g (snd_g (ok_iconst dL_law_1832 rfl rfl))) ?_
  refine lcons (lsnd_g (snd_g (ok_iadd dL_law_1833 rfl))) ?_
  refine lcons (ok_sld dL_law_1834 rfl) ?_
  refine lcons (lsnd_g (snd_g (ok_aload_n dL_law_1835 rfl rfl))) ?_
  refine lcons (ok_callL M_L_hasCause w_773 w_774 w_42 w_775 ⟨by decide, by decide, by decide +kernel⟩ (by decide) (by decide) dL_law_1836 rfl) ?_
  refine lcons (lsnd_g (snd_g (ok_istore dL_law_1839 (by decide) rfl))) ?_
  refine lcons (lsnd_g (snd_g (ok_aload_n dL_law_1841 rfl rfl))) ?_
  refine lcons (lsnd_g (snd_g (ok_aload_n dL_law_1842 rfl rfl))) ?_
  refine lcons (lsnd_g (snd_g (ok_iload dL_law_1843 rfl))) ?_
  refine lcons (lsnd_g (snd_g (ok_iconst dL_law_1845 rfl rfl))) ?_
  refine lcons (lsnd_g (snd_g (ok_iadd dL_law_1846 rfl))) ?_
  refine lcons (ok_sld dL_law_1847 rfl) ?_
  refine lcons (lsnd_g (snd_g (ok_aload_n dL_law_1848 rfl rfl))) ?_
  refine lcons (lsnd_g (snd_g (ok_iload dL_law_1849 rfl))) ?_
  refine lcons (lsnd_g (snd_g (ok_iconst dL_law_1851 rfl rfl))) ?_
  refine lcons (lsnd_g (snd_g (ok_iadd dL_law_1852 rfl))) ?_
  refine lcons (ok_sld dL_law_1853 rfl) ?_
  refine lcons (lsnd_g (snd_g (ok_invokevirtualN M_X5_hasCause (C := RX5) (T := TX5) (nf := 33) rfl w_1310 w_1311 w_1312 w_49 w_1313 ⟨rfl, by decide, by decide, by decide +kernel⟩ (by decide) (by decide) dL_law_1854 rfl))) ?_
  refine lcons (lsnd_g (snd_g (ok_istore dL_law_1857 (by decide) rfl))) ?_
  refine lcons (lsnd_g (snd_g (ok_aload_n dL_law_1859 rfl rfl))) ?_
  refine lcons (lsnd_g (snd_g (ok_invokevirtual M_X5_thrown (C := RX5) (T := TX5) (nf := 33) rfl w_1093 w_1094 w_1095 w_49 w_1096 ⟨rfl, by decide, by decide, by decide +kernel⟩ (by decide) (by decide) dL_law_1860 rfl))) ?_
  refine lcons (lsnd_g (snd_g (ok_iload dL_law_1863 rfl))) ?_
  refine lcons (lsnd_g (snd_g (ok_icmp_eq dL_law_1865 rfl rfl))) ?_
  refine lcons (lsnd_g (snd_g (ok_iconst dL_law_1868 rfl rfl))) ?_
  refine lcons (ok_lret dL_law_1869) ?_
  refine lcons (lsnd_g (snd_g (ok_iload dL_law_1870 rfl))) ?_
  refine lcons (lsnd_g (snd_g (ok_if_ne dL_law_1872 rfl rfl))) ?_
  refine lcons (lsnd_g (snd_g (ok_aload_n dL_law_1875 rfl rfl))) ?_
  refine lcons (lsnd_g (snd_g (ok_iconst dL_law_1876 rfl rfl))) ?_
  refine lcons (lsnd_g (snd_g (ok_laload dL_law_1877 rfl))) ?_
  refine lcons (lsnd_g (snd_g (ok_iload dL_law_1878 rfl))) ?_
  refine lcons (lsnd_g (snd_g (ok_if_eq dL_law_1880 rfl rfl))) ?_
  refine lcons (lsnd_g (snd_g (ok_lconst dL_law_1883 rfl rfl))) ?_
  refine lcons (lsnd_g (snd_g (ok_goto dL_law_1884 rfl))) ?_
  refine lcons (lsnd_g (snd_g (ok_lconst dL_law_1887 rfl rfl))) ?_
  refine lcons (lsnd_g (snd_g (ok_lcmp dL_law_1888 rfl))) ?_
  refine lcons (lsnd_g (snd_g (ok_if_eq dL_law_1889 rfl rfl))) ?_
  refine lcons (lsnd_g (snd_g (ok_iconst dL_law_1892 rfl rfl))) ?_
  refine lcons (ok_lret dL_law_1893) ?_
  refine lcons (lsnd_g (snd_g (ok_goto dL_law_1894 rfl))) ?_
  exact fun _ h => nomatch h
theorem dL_law_1897 : decode cL_law 1897 = .ok (.aload_n 1, 1) := by decide +kernel
theorem dL_law_1898 : decode cL_law 1898 = .ok (.aload_n 0, 1) := by decide +kernel
theorem dL_law_1899 : decode cL_law 1899 = .ok (.iload 4, 2) := by decide +kernel
theorem dL_law_1901 : decode cL_law 1901 = .ok (.iconst 1, 1) := by decide +kernel
theorem dL_law_1902 : decode cL_law 1902 = .ok (.iadd, 1) := by decide +kernel
theorem dL_law_1903 : decode cL_law 1903 = .ok (.iaload, 1) := by decide +kernel
theorem dL_law_1904 : decode cL_law 1904 = .ok (.aload_n 0, 1) := by decide +kernel
theorem dL_law_1905 : decode cL_law 1905 = .ok (.iload 4, 2) := by decide +kernel
theorem dL_law_1907 : decode cL_law 1907 = .ok (.iconst 2, 1) := by decide +kernel
theorem dL_law_1908 : decode cL_law 1908 = .ok (.iadd, 1) := by decide +kernel
theorem dL_law_1909 : decode cL_law 1909 = .ok (.iaload, 1) := by decide +kernel
theorem dL_law_1910 : decode cL_law 1910 = .ok (.aload_n 3, 1) := by decide +kernel
theorem dL_law_1911 : decode cL_law 1911 = .ok (.invokestatic 210, 3) := by decide +kernel
theorem dL_law_1914 : decode cL_law 1914 = .ok (.istore 5, 2) := by decide +kernel
theorem dL_law_1916 : decode cL_law 1916 = .ok (.aload_n 2, 1) := by decide +kernel
theorem dL_law_1917 : decode cL_law 1917 = .ok (.aload_n 0, 1) := by decide +kernel
theorem dL_law_1918 : decode cL_law 1918 = .ok (.iload 4, 2) := by decide +kernel
theorem dL_law_1920 : decode cL_law 1920 = .ok (.iconst 1, 1) := by decide +kernel
theorem dL_law_1921 : decode cL_law 1921 = .ok (.iadd, 1) := by decide +kernel
theorem dL_law_1922 : decode cL_law 1922 = .ok (.iaload, 1) := by decide +kernel
theorem dL_law_1923 : decode cL_law 1923 = .ok (.aload_n 0, 1) := by decide +kernel
theorem dL_law_1924 : decode cL_law 1924 = .ok (.iload 4, 2) := by decide +kernel
theorem dL_law_1926 : decode cL_law 1926 = .ok (.iconst 2, 1) := by decide +kernel
theorem dL_law_1927 : decode cL_law 1927 = .ok (.iadd, 1) := by decide +kernel
theorem dL_law_1928 : decode cL_law 1928 = .ok (.iaload, 1) := by decide +kernel
theorem dL_law_1929 : decode cL_law 1929 = .ok (.invokevirtual 212, 3) := by decide +kernel
theorem dL_law_1932 : decode cL_law 1932 = .ok (.istore 6, 2) := by decide +kernel
theorem dL_law_1934 : decode cL_law 1934 = .ok (.aload_n 2, 1) := by decide +kernel
theorem dL_law_1935 : decode cL_law 1935 = .ok (.invokevirtual 122, 3) := by decide +kernel
theorem dL_law_1938 : decode cL_law 1938 = .ok (.iload 5, 2) := by decide +kernel
theorem dL_law_1940 : decode cL_law 1940 = .ok (.if_icmp .eq 5, 3) := by decide +kernel
theorem dL_law_1943 : decode cL_law 1943 = .ok (.iconst 0, 1) := by decide +kernel
theorem dL_law_1944 : decode cL_law 1944 = .ok (.ireturn, 1) := by decide +kernel
theorem dL_law_1945 : decode cL_law 1945 = .ok (.iload 5, 2) := by decide +kernel
theorem dL_law_1947 : decode cL_law 1947 = .ok (.ifCond .ne 15, 3) := by decide +kernel
theorem dL_law_1950 : decode cL_law 1950 = .ok (.aload_n 3, 1) := by decide +kernel
theorem dL_law_1951 : decode cL_law 1951 = .ok (.iconst 0, 1) := by decide +kernel
theorem dL_law_1952 : decode cL_law 1952 = .ok (.laload, 1) := by decide +kernel
theorem dL_law_1953 : decode cL_law 1953 = .ok (.iload 6, 2) := by decide +kernel
theorem dL_law_1955 : decode cL_law 1955 = .ok (.i2l, 1) := by decide +kernel
theorem dL_law_1956 : decode cL_law 1956 = .ok (.lcmp, 1) := by decide +kernel
theorem dL_law_1957 : decode cL_law 1957 = .ok (.ifCond .eq 5, 3) := by decide +kernel
theorem dL_law_1960 : decode cL_law 1960 = .ok (.iconst 0, 1) := by decide +kernel
theorem dL_law_1961 : decode cL_law 1961 = .ok (.ireturn, 1) := by decide +kernel
theorem dL_law_1962 : decode cL_law 1962 = .ok (.goto 83, 3) := by decide +kernel
def tab_lawC27 (L : Nat) (xs : Nat → Int32) : List (Nat × Sem) := [(1897, op_al 1 1898), (1898, op_al 0 1899), (1899, op_il 4 1901), (1901, op_ic 1 1902), (1902, op_bin (fun x y => x + y) 1903), (1903, op_sld L xs 1904), (1904, op_al 0 1905), (1905, op_il 4 1907), (1907, op_ic 2 1908), (1908, op_bin (fun x y => x + y) 1909), (1909, op_sld L xs 1910), (1910, op_al 3 1911), (1911, op_callL sp_L_causeOf 4 2 1914), (1914, op_is 5 1916), (1916, op_al 2 1917), (1917, op_al 0 1918), (1918, op_il 4 1920), (1920, op_ic 1 1921), (1921, op_bin (fun x y => x + y) 1922), (1922, op_sld L xs 1923), (1923, op_al 0 1924), (1924, op_il 4 1926), (1926, op_ic 2 1927), (1927, op_bin (fun x y => x + y) 1928), (1928, op_sld L xs 1929), (1929, op_callVN 7 sp_X5_causeOf 3 0 1932), (1932, op_is 6 1934), (1934, op_al 2 1935), (1935, op_callV 7 sp_X5_thrown 1 0 1938), (1938, op_il 5 1940), (1940, op_cmp (fun x y => x = y) 1945 1943), (1943, op_ic 0 1944), (1944, op_lret), (1945, op_il 5 1947), (1947, op_if (fun x => ¬ x = 0) 1962 1950), (1950, op_al 3 1951), (1951, op_ic 0 1952), (1952, op_lald 1953), (1953, op_il 6 1955), (1955, op_i2l 1956), (1956, op_lcmp 1957), (1957, op_if (fun x => x = 0) 1962 1960), (1960, op_ic 0 1961), (1961, op_lret), (1962, op_go 2045)]
set_option maxRecDepth 20000 in
theorem tok_lawC27 {L : Nat} {xs : Nat → Int32} : ∀ q ∈ tab_lawC27 L xs, LSnd L xs RL cL_law 7 15 150256 ret q.1 q.2 := by
  unfold tab_lawC27
  refine lcons (lsnd_g (snd_g (ok_aload_n dL_law_1897 rfl rfl))) ?_
  refine lcons (lsnd_g (snd_g (ok_aload_n dL_law_1898 rfl rfl))) ?_
  refine lcons (lsnd_g (snd_g (ok_iload dL_law_1899 rfl))) ?_
  refine lcons (lsnd_g (snd_g (ok_iconst dL_law_1901 rfl rfl))) ?_
  refine lcons (lsnd_g (snd_g (ok_iadd dL_law_1902 rfl))) ?_
  refine lcons (ok_sld dL_law_1903 rfl) ?_
  refine lcons (lsnd_g (snd_g (ok_aload_n dL_law_1904 rfl rfl))) ?_
  refine lcons (lsnd_g (snd_g (ok_iload dL_law_1905 rfl))) ?_
  refine lcons (lsnd_g (snd_g (ok_iconst dL_law_1907 rfl rfl))) ?_
  refine lcons (lsnd_g (snd_g (ok_iadd dL_law_1908 rfl))) ?_
  refine lcons (ok_sld dL_law_1909 rfl) ?_
  refine lcons (lsnd_g (snd_g (ok_aload_n dL_law_1910 rfl rfl))) ?_
  refine lcons (ok_callL M_L_causeOf w_780 w_781 w_42 w_782 ⟨by decide, by decide, by decide +kernel⟩ (by decide) (by decide) dL_law_1911 rfl) ?_
  refine lcons (lsnd_g (snd_g (ok_istore dL_law_1914 (by decide) rfl))) ?_
  refine lcons (lsnd_g (snd_g (ok_aload_n dL_law_1916 rfl rfl))) ?_
  refine lcons (lsnd_g (snd_g (ok_aload_n dL_law_1917 rfl rfl))) ?_
  refine lcons (lsnd_g (snd_g (ok_iload dL_law_1918 rfl))) ?_
  refine lcons (lsnd_g (snd_g (ok_iconst dL_law_1920 rfl rfl))) ?_
  refine lcons (lsnd_g (snd_g (ok_iadd dL_law_1921 rfl))) ?_
  refine lcons (ok_sld dL_law_1922 rfl) ?_
  refine lcons (lsnd_g (snd_g (ok_aload_n dL_law_1923 rfl rfl))) ?_
  refine lcons (lsnd_g (snd_g (ok_iload dL_law_1924 rfl))) ?_
  refine lcons (lsnd_g (snd_g (ok_iconst dL_law_1926 rfl rfl))) ?_
  refine lcons (lsnd_g (snd_g (ok_iadd dL_law_1927 rfl))) ?_
  refine lcons (ok_sld dL_law_1928 rfl) ?_
  refine lcons (lsnd_g (snd_g (ok_invokevirtualN M_X5_causeOf (C := RX5) (T := TX5) (nf := 33) rfl w_1314 w_1315 w_1316 w_49 w_1317 ⟨rfl, by decide, by decide, by decide +kernel⟩ (by decide) (by decide) dL_law_1929 rfl))) ?_
  refine lcons (lsnd_g (snd_g (ok_istore dL_law_1932 (by decide) rfl))) ?_
  refine lcons (lsnd_g (snd_g (ok_aload_n dL_law_1934 rfl rfl))) ?_
  refine lcons (lsnd_g (snd_g (ok_invokevirtual M_X5_thrown (C := RX5) (T := TX5) (nf := 33) rfl w_1093 w_1094 w_1095 w_49 w_1096 ⟨rfl, by decide, by decide, by decide +kernel⟩ (by decide) (by decide) dL_law_1935 rfl))) ?_
  refine lcons (lsnd_g (snd_g (ok_iload dL_law_1938 rfl))) ?_
  refine lcons (lsnd_g (snd_g (ok_icmp_eq dL_law_1940 rfl rfl))) ?_
  refine lcons (lsnd_g (snd_g (ok_iconst dL_law_1943 rfl rfl))) ?_
  refine lcons (ok_lret dL_law_1944) ?_
  refine lcons (lsnd_g (snd_g (ok_iload dL_law_1945 rfl))) ?_
  refine lcons (lsnd_g (snd_g (ok_if_ne dL_law_1947 rfl rfl))) ?_
  refine lcons (lsnd_g (snd_g (ok_aload_n dL_law_1950 rfl rfl))) ?_
  refine lcons (lsnd_g (snd_g (ok_iconst dL_law_1951 rfl rfl))) ?_
  refine lcons (lsnd_g (snd_g (ok_laload dL_law_1952 rfl))) ?_
  refine lcons (lsnd_g (snd_g (ok_iload dL_law_1953 rfl))) ?_
  refine lcons (lsnd_g (snd_g (ok_i2l dL_law_1955 rfl))) ?_
  refine lcons (lsnd_g (snd_g (ok_lcmp dL_law_1956 rfl))) ?_
  refine lcons (lsnd_g (snd_g (ok_if_eq dL_law_1957 rfl rfl))) ?_
  refine lcons (lsnd_g (snd_g (ok_iconst dL_law_1960 rfl rfl))) ?_
  refine lcons (ok_lret dL_law_1961) ?_
  refine lcons (lsnd_g (snd_g (ok_goto dL_law_1962 rfl))) ?_
  exact fun _ h => nomatch h
theorem dL_law_1965 : decode cL_law 1965 = .ok (.aload_n 1, 1) := by decide +kernel
theorem dL_law_1966 : decode cL_law 1966 = .ok (.aload_n 0, 1) := by decide +kernel
theorem dL_law_1967 : decode cL_law 1967 = .ok (.iload 4, 2) := by decide +kernel
theorem dL_law_1969 : decode cL_law 1969 = .ok (.iconst 1, 1) := by decide +kernel
theorem dL_law_1970 : decode cL_law 1970 = .ok (.iadd, 1) := by decide +kernel
theorem dL_law_1971 : decode cL_law 1971 = .ok (.iaload, 1) := by decide +kernel
theorem dL_law_1972 : decode cL_law 1972 = .ok (.aload_n 0, 1) := by decide +kernel
theorem dL_law_1973 : decode cL_law 1973 = .ok (.iload 4, 2) := by decide +kernel
theorem dL_law_1975 : decode cL_law 1975 = .ok (.iconst 2, 1) := by decide +kernel
theorem dL_law_1976 : decode cL_law 1976 = .ok (.iadd, 1) := by decide +kernel
theorem dL_law_1977 : decode cL_law 1977 = .ok (.iaload, 1) := by decide +kernel
theorem dL_law_1978 : decode cL_law 1978 = .ok (.aload_n 0, 1) := by decide +kernel
theorem dL_law_1979 : decode cL_law 1979 = .ok (.iload 4, 2) := by decide +kernel
theorem dL_law_1981 : decode cL_law 1981 = .ok (.iconst 3, 1) := by decide +kernel
theorem dL_law_1982 : decode cL_law 1982 = .ok (.iadd, 1) := by decide +kernel
theorem dL_law_1983 : decode cL_law 1983 = .ok (.iaload, 1) := by decide +kernel
theorem dL_law_1984 : decode cL_law 1984 = .ok (.aload_n 3, 1) := by decide +kernel
theorem dL_law_1985 : decode cL_law 1985 = .ok (.invokestatic 213, 3) := by decide +kernel
theorem dL_law_1988 : decode cL_law 1988 = .ok (.istore 5, 2) := by decide +kernel
theorem dL_law_1990 : decode cL_law 1990 = .ok (.aload_n 2, 1) := by decide +kernel
theorem dL_law_1991 : decode cL_law 1991 = .ok (.aload_n 0, 1) := by decide +kernel
theorem dL_law_1992 : decode cL_law 1992 = .ok (.iload 4, 2) := by decide +kernel
theorem dL_law_1994 : decode cL_law 1994 = .ok (.iconst 1, 1) := by decide +kernel
theorem dL_law_1995 : decode cL_law 1995 = .ok (.iadd, 1) := by decide +kernel
theorem dL_law_1996 : decode cL_law 1996 = .ok (.iaload, 1) := by decide +kernel
theorem dL_law_1997 : decode cL_law 1997 = .ok (.aload_n 0, 1) := by decide +kernel
theorem dL_law_1998 : decode cL_law 1998 = .ok (.iload 4, 2) := by decide +kernel
theorem dL_law_2000 : decode cL_law 2000 = .ok (.iconst 2, 1) := by decide +kernel
theorem dL_law_2001 : decode cL_law 2001 = .ok (.iadd, 1) := by decide +kernel
theorem dL_law_2002 : decode cL_law 2002 = .ok (.iaload, 1) := by decide +kernel
theorem dL_law_2003 : decode cL_law 2003 = .ok (.aload_n 0, 1) := by decide +kernel
theorem dL_law_2004 : decode cL_law 2004 = .ok (.iload 4, 2) := by decide +kernel
theorem dL_law_2006 : decode cL_law 2006 = .ok (.iconst 3, 1) := by decide +kernel
theorem dL_law_2007 : decode cL_law 2007 = .ok (.iadd, 1) := by decide +kernel
theorem dL_law_2008 : decode cL_law 2008 = .ok (.iaload, 1) := by decide +kernel
theorem dL_law_2009 : decode cL_law 2009 = .ok (.invokevirtual 215, 3) := by decide +kernel
theorem dL_law_2012 : decode cL_law 2012 = .ok (.istore 6, 2) := by decide +kernel
theorem dL_law_2014 : decode cL_law 2014 = .ok (.aload_n 2, 1) := by decide +kernel
theorem dL_law_2015 : decode cL_law 2015 = .ok (.invokevirtual 122, 3) := by decide +kernel
theorem dL_law_2018 : decode cL_law 2018 = .ok (.iload 5, 2) := by decide +kernel
theorem dL_law_2020 : decode cL_law 2020 = .ok (.if_icmp .eq 5, 3) := by decide +kernel
theorem dL_law_2023 : decode cL_law 2023 = .ok (.iconst 0, 1) := by decide +kernel
theorem dL_law_2024 : decode cL_law 2024 = .ok (.ireturn, 1) := by decide +kernel
theorem dL_law_2025 : decode cL_law 2025 = .ok (.iload 5, 2) := by decide +kernel
theorem dL_law_2027 : decode cL_law 2027 = .ok (.ifCond .ne 15, 3) := by decide +kernel
theorem dL_law_2030 : decode cL_law 2030 = .ok (.aload_n 3, 1) := by decide +kernel
theorem dL_law_2031 : decode cL_law 2031 = .ok (.iconst 0, 1) := by decide +kernel
theorem dL_law_2032 : decode cL_law 2032 = .ok (.laload, 1) := by decide +kernel
theorem dL_law_2033 : decode cL_law 2033 = .ok (.iload 6, 2) := by decide +kernel
theorem dL_law_2035 : decode cL_law 2035 = .ok (.i2l, 1) := by decide +kernel
theorem dL_law_2036 : decode cL_law 2036 = .ok (.lcmp, 1) := by decide +kernel
theorem dL_law_2037 : decode cL_law 2037 = .ok (.ifCond .eq 5, 3) := by decide +kernel
theorem dL_law_2040 : decode cL_law 2040 = .ok (.iconst 0, 1) := by decide +kernel
theorem dL_law_2041 : decode cL_law 2041 = .ok (.ireturn, 1) := by decide +kernel
theorem dL_law_2042 : decode cL_law 2042 = .ok (.goto 3, 3) := by decide +kernel
def tab_lawC28 (L : Nat) (xs : Nat → Int32) : List (Nat × Sem) := [(1965, op_al 1 1966), (1966, op_al 0 1967), (1967, op_il 4 1969), (1969, op_ic 1 1970), (1970, op_bin (fun x y => x + y) 1971), (1971, op_sld L xs 1972), (1972, op_al 0 1973), (1973, op_il 4 1975), (1975, op_ic 2 1976), (1976, op_bin (fun x y => x + y) 1977), (1977, op_sld L xs 1978), (1978, op_al 0 1979), (1979, op_il 4 1981), (1981, op_ic 3 1982), (1982, op_bin (fun x y => x + y) 1983), (1983, op_sld L xs 1984), (1984, op_al 3 1985), (1985, op_callL sp_L_state 5 18 1988), (1988, op_is 5 1990), (1990, op_al 2 1991), (1991, op_al 0 1992), (1992, op_il 4 1994), (1994, op_ic 1 1995), (1995, op_bin (fun x y => x + y) 1996), (1996, op_sld L xs 1997), (1997, op_al 0 1998), (1998, op_il 4 2000), (2000, op_ic 2 2001), (2001, op_bin (fun x y => x + y) 2002), (2002, op_sld L xs 2003), (2003, op_al 0 2004), (2004, op_il 4 2006), (2006, op_ic 3 2007), (2007, op_bin (fun x y => x + y) 2008), (2008, op_sld L xs 2009), (2009, op_callVN 7 sp_X5_state 4 0 2012), (2012, op_is 6 2014), (2014, op_al 2 2015), (2015, op_callV 7 sp_X5_thrown 1 0 2018), (2018, op_il 5 2020), (2020, op_cmp (fun x y => x = y) 2025 2023), (2023, op_ic 0 2024), (2024, op_lret), (2025, op_il 5 2027), (2027, op_if (fun x => ¬ x = 0) 2042 2030), (2030, op_al 3 2031), (2031, op_ic 0 2032), (2032, op_lald 2033), (2033, op_il 6 2035), (2035, op_i2l 2036), (2036, op_lcmp 2037), (2037, op_if (fun x => x = 0) 2042 2040), (2040, op_ic 0 2041), (2041, op_lret), (2042, op_go 2045)]
set_option maxRecDepth 20000 in
theorem tok_lawC28 {L : Nat} {xs : Nat → Int32} : ∀ q ∈ tab_lawC28 L xs, LSnd L xs RL cL_law 7 15 150256 ret q.1 q.2 := by
  unfold tab_lawC28
  refine lcons (lsnd_g (snd_g (ok_aload_n dL_law_1965 rfl rfl))) ?_
  refine lcons (lsnd_g (snd_g (ok_aload_n dL_law_1966 rfl rfl))) ?_
  refine lcons (lsnd_g (snd_g (ok_iload dL_law_1967 rfl))) ?_
  refine lcons (lsnd_g (snd_g (ok_iconst dL_law_1969 rfl rfl))) ?_
  refine lcons (lsnd_g (snd_g (ok_iadd dL_law_1970 rfl))) ?_
  refine lcons (ok_sld dL_law_1971 rfl) ?_
  refine lcons (lsnd_g (snd_g (ok_aload_n dL_law_1972 rfl rfl))) ?_
  refine lcons (lsnd_g (snd_g (ok_iload dL_law_1973 rfl))) ?_
  refine lcons (lsnd_g (snd_g (ok_iconst dL_law_1975 rfl rfl))) ?_
  refine lcons (lsnd_g (snd_g (ok_iadd dL_law_1976 rfl))) ?_
  refine lcons (ok_sld dL_law_1977 rfl) ?_
  refine lcons (lsnd_g (snd_g (ok_aload_n dL_law_1978 rfl rfl))) ?_
  refine lcons (lsnd_g (snd_g (ok_iload dL_law_1979 rfl))) ?_
  refine lcons (lsnd_g (snd_g (ok_iconst dL_law_1981 rfl rfl))) ?_
  refine lcons (lsnd_g (snd_g (ok_iadd dL_law_1982 rfl))) ?_
  refine lcons (ok_sld dL_law_1983 rfl) ?_
  refine lcons (lsnd_g (snd_g (ok_aload_n dL_law_1984 rfl rfl))) ?_
  refine lcons (ok_callL M_L_state w_787 w_788 w_42 w_789 ⟨by decide, by decide, by decide +kernel⟩ (by decide) (by decide) dL_law_1985 rfl) ?_
  refine lcons (lsnd_g (snd_g (ok_istore dL_law_1988 (by decide) rfl))) ?_
  refine lcons (lsnd_g (snd_g (ok_aload_n dL_law_1990 rfl rfl))) ?_
  refine lcons (lsnd_g (snd_g (ok_aload_n dL_law_1991 rfl rfl))) ?_
  refine lcons (lsnd_g (snd_g (ok_iload dL_law_1992 rfl))) ?_
  refine lcons (lsnd_g (snd_g (ok_iconst dL_law_1994 rfl rfl))) ?_
  refine lcons (lsnd_g (snd_g (ok_iadd dL_law_1995 rfl))) ?_
  refine lcons (ok_sld dL_law_1996 rfl) ?_
  refine lcons (lsnd_g (snd_g (ok_aload_n dL_law_1997 rfl rfl))) ?_
  refine lcons (lsnd_g (snd_g (ok_iload dL_law_1998 rfl))) ?_
  refine lcons (lsnd_g (snd_g (ok_iconst dL_law_2000 rfl rfl))) ?_
  refine lcons (lsnd_g (snd_g (ok_iadd dL_law_2001 rfl))) ?_
  refine lcons (ok_sld dL_law_2002 rfl) ?_
  refine lcons (lsnd_g (snd_g (ok_aload_n dL_law_2003 rfl rfl))) ?_
  refine lcons (lsnd_g (snd_g (ok_iload dL_law_2004 rfl))) ?_
  refine lcons (lsnd_g (snd_g (ok_iconst dL_law_2006 rfl rfl))) ?_
  refine lcons (lsnd_g (snd_g (ok_iadd dL_law_2007 rfl))) ?_
  refine lcons (ok_sld dL_law_2008 rfl) ?_
  refine lcons (lsnd_g (snd_g (ok_invokevirtualN M_X5_state (C := RX5) (T := TX5) (nf := 33) rfl w_1318 w_1319 w_1320 w_49 w_1321 ⟨rfl, by decide, by decide, by decide +kernel⟩ (by decide) (by decide) dL_law_2009 rfl))) ?_
  refine lcons (lsnd_g (snd_g (ok_istore dL_law_2012 (by decide) rfl))) ?_
  refine lcons (lsnd_g (snd_g (ok_aload_n dL_law_2014 rfl rfl))) ?_
  refine lcons (lsnd_g (snd_g (ok_invokevirtual M_X5_thrown (C := RX5) (T := TX5) (nf := 33) rfl w_1093 w_1094 w_1095 w_49 w_1096 ⟨rfl, by decide, by decide, by decide +kernel⟩ (by decide) (by decide) dL_law_2015 rfl))) ?_
  refine lcons (lsnd_g (snd_g (ok_iload dL_law_2018 rfl))) ?_
  refine lcons (lsnd_g (snd_g (ok_icmp_eq dL_law_2020 rfl rfl))) ?_
  refine lcons (lsnd_g (snd_g (ok_iconst dL_law_2023 rfl rfl))) ?_
  refine lcons (ok_lret dL_law_2024) ?_
  refine lcons (lsnd_g (snd_g (ok_iload dL_law_2025 rfl))) ?_
  refine lcons (lsnd_g (snd_g (ok_if_ne dL_law_2027 rfl rfl))) ?_
  refine lcons (lsnd_g (snd_g (ok_aload_n dL_law_2030 rfl rfl))) ?_
  refine lcons (lsnd_g (snd_g (ok_iconst dL_law_2031 rfl rfl))) ?_
  refine lcons (lsnd_g (snd_g (ok_laload dL_law_2032 rfl))) ?_
  refine lcons (lsnd_g (snd_g (ok_iload dL_law_2033 rfl))) ?_
  refine lcons (lsnd_g (snd_g (ok_i2l dL_law_2035 rfl))) ?_
  refine lcons (lsnd_g (snd_g (ok_lcmp dL_law_2036 rfl))) ?_
  refine lcons (lsnd_g (snd_g (ok_if_eq dL_law_2037 rfl rfl))) ?_
  refine lcons (lsnd_g (snd_g (ok_iconst dL_law_2040 rfl rfl))) ?_
  refine lcons (ok_lret dL_law_2041) ?_
  refine lcons (lsnd_g (snd_g (ok_goto dL_law_2042 rfl))) ?_
  exact fun _ h => nomatch h

