/-! more cases -/
theorem d_W_1666 : decode code 1666 = .ok (.aload_n 1, 1) := by decide +kernel
theorem d_W_1667 : decode code 1667 = .ok (.aload_n 0, 1) := by decide +kernel
theorem d_W_1668 : decode code 1668 = .ok (.iload 5, 2) := by decide +kernel
theorem d_W_1670 : decode code 1670 = .ok (.iconst 1, 1) := by decide +kernel
theorem d_W_1671 : decode code 1671 = .ok (.iadd, 1) := by decide +kernel
theorem d_W_1672 : decode code 1672 = .ok (.iaload, 1) := by decide +kernel
theorem d_W_1673 : decode code 1673 = .ok (.aload_n 3, 1) := by decide +kernel
theorem d_W_1674 : decode code 1674 = .ok (.invokestatic 286, 3) := by decide +kernel
theorem d_W_1677 : decode code 1677 = .ok (.istore 6, 2) := by decide +kernel
theorem d_W_1679 : decode code 1679 = .ok (.aload_n 2, 1) := by decide +kernel
theorem d_W_1680 : decode code 1680 = .ok (.aload_n 0, 1) := by decide +kernel
theorem d_W_1681 : decode code 1681 = .ok (.iload 5, 2) := by decide +kernel
theorem d_W_1683 : decode code 1683 = .ok (.iconst 1, 1) := by decide +kernel
theorem d_W_1684 : decode code 1684 = .ok (.iadd, 1) := by decide +kernel
theorem d_W_1685 : decode code 1685 = .ok (.iaload, 1) := by decide +kernel
theorem d_W_1686 : decode code 1686 = .ok (.invokevirtual 288, 3) := by decide +kernel
theorem d_W_1689 : decode code 1689 = .ok (.istore 7, 2) := by decide +kernel
theorem d_W_1691 : decode code 1691 = .ok (.aload_n 2, 1) := by decide +kernel
theorem d_W_1692 : decode code 1692 = .ok (.invokevirtual 106, 3) := by decide +kernel
theorem d_W_1695 : decode code 1695 = .ok (.iload 6, 2) := by decide +kernel
theorem d_W_1697 : decode code 1697 = .ok (.if_icmp .eq 5, 3) := by decide +kernel
theorem d_W_1702 : decode code 1702 = .ok (.iload 6, 2) := by decide +kernel
theorem d_W_1704 : decode code 1704 = .ok (.ifCond .ne 15, 3) := by decide +kernel
theorem d_W_1707 : decode code 1707 = .ok (.aload_n 3, 1) := by decide +kernel
theorem d_W_1708 : decode code 1708 = .ok (.iconst 0, 1) := by decide +kernel
theorem d_W_1709 : decode code 1709 = .ok (.laload, 1) := by decide +kernel
theorem d_W_1710 : decode code 1710 = .ok (.iload 7, 2) := by decide +kernel
theorem d_W_1712 : decode code 1712 = .ok (.i2l, 1) := by decide +kernel
theorem d_W_1713 : decode code 1713 = .ok (.lcmp, 1) := by decide +kernel
theorem d_W_1714 : decode code 1714 = .ok (.ifCond .eq 5, 3) := by decide +kernel
theorem d_W_1719 : decode code 1719 = .ok (.goto 576, 3) := by decide +kernel
theorem cs_L_286 : CSH "KiteLoggerLaw" 286 y_L_payOut b_L_payOut 4 [(0, 9, 12, 13), (0, 9, 15, 55)] 3 := ⟨TT_in (i := 1198) (by decide +kernel) (by decide +kernel), TT_in (i := 1199) (by decide +kernel) (by decide +kernel), TT_in (i := 87) (by decide +kernel) (by decide +kernel), TT_in (i := 1200) (by decide +kernel) (by decide +kernel), ⟨by decide +kernel, by decide +kernel, by decide +kernel⟩⟩
theorem cc_L_288 : CV "KiteLoggerLaw" 288 y_M_payOut b_M_payOut 2 (some .int) 1 := ⟨TT_in (i := 1758) (by decide +kernel) (by decide +kernel), TT_in (i := 1759) (by decide +kernel) (by decide +kernel), TT_in (i := 1760) (by decide +kernel) (by decide +kernel), TT_in (i := 100) (by decide +kernel) (by decide +kernel), TT_in (i := 1761) (by decide +kernel) (by decide +kernel), ⟨by decide +kernel, by decide +kernel, by decide +kernel⟩⟩
set_option maxHeartbeats 4000000 in
set_option maxRecDepth 100000 in
theorem k_48 (l : Launch) (hst : l.stackTraces = false) (N : Nat) {p : Program} {e : Env} {s : State} {m : MethodId} {args : Array Value} {below : List Frame} {meth : Method} {c : Code} {w : Wc} {k n b Lx ii : Nat} {xs : Nat → Int32} {Qf : Unit → State → Prop} {K : Mem → Option Unit} (g : Gd p s m args meth c w 10 code "KiteLoggerLaw") (hnc : va_Nc exS exI s) (hw : WL w) (hX : LX s w b Lx xs) (hii : ii + 6 ≤ Lx) (hC0 : k ≤ room_1.cells ∧ n ≤ room_1.slots) (hC1 : k + 1 ≤ room_1.cells ∧ n + 6 ≤ room_1.slots) (hK : ∀ M, Go p l e room_1 s m args below meth c w 10 (k + 1) (n + 6) Qf (K M) 2295 (LL w b ii) [] M) (M : Mem) : Go p l e room_1 s m args below meth c w 10 k n Qf  (bnd (lwW [(0, 1), (1, 2)] (f_G_payOut N 146 (xs (ii + 1)) M)) fun x1 M1 => bnd (f_M_payOut N 146 (xs (ii + 1)) M1) fun x2 M2 => bnd (f_M_thrown M2) fun x3 M3 => if x3 = x1 ∧ (x1 = 0 → M3 156 0 = x2) then K M3 else none) 1666 (LL w b ii) [] M := by
  refine G_aload_n g (pc := 1666) 1 d_W_1666 rfl rfl ?_
  refine G_arg g (pc := 1667) hX (j := 1) (j0 := 0) (j5 := 5) hii (by decide) rfl rfl d_W_1667 d_W_1668 d_W_1670 rfl d_W_1671 d_W_1672 ?_
  refine G_aload_n g (pc := 1673) 3 d_W_1673 rfl rfl ?_
  refine G_cSH g hnc (pc := 1674) (As := [.ref (wad w 0), .int (xs (ii + 1)), .ref (wad w 156)]) (st := []) cs_L_286 (c_L_payOut l hst N hw (xs (ii + 1)) M) rfl ⟨(Nat.le_of_ble_eq_true rfl), (Nat.le_of_ble_eq_true rfl)⟩ hC1 (Nat.le_of_ble_eq_true rfl) d_W_1674 (fun x1 M1 => ?_)
  refine G_istore g (pc := 1677) _ d_W_1677 (Nat.le_of_ble_eq_true rfl) rfl ?_
  refine G_aload_n g (pc := 1679) 3 d_W_1679 rfl rfl ?_
  refine G_arg g (pc := 1680) hX (j := 1) (j0 := 1) (j5 := 6) hii (by decide) rfl rfl d_W_1680 d_W_1681 d_W_1683 rfl d_W_1684 d_W_1685 ?_
  refine G_cVI g (pc := 1686) (As := [.int (xs (ii + 1))]) (st := []) cc_L_288 (c_M_payOut l N hw.2.1 (xs (ii + 1)) M1) (hw.2.1.mm 145 (Nat.le_of_ble_eq_true rfl) (Nat.le_of_ble_eq_true rfl)) (hw.1.k rfl) rfl (by decide) rfl ⟨(Nat.le_of_ble_eq_true rfl), (Nat.le_of_ble_eq_true rfl)⟩ hC1 (Nat.le_of_ble_eq_true rfl) d_W_1686 (fun x2 M2 => ?_)
  refine G_istore g (pc := 1689) _ d_W_1689 (Nat.le_of_ble_eq_true rfl) rfl ?_
  refine G_aload_n g (pc := 1691) 4 d_W_1691 rfl rfl ?_
  refine G_cVI g (pc := 1692) (As := []) (st := []) cc_L_106 (c_M_thrown l hw.2.1 M2) (hw.2.1.mm 145 (Nat.le_of_ble_eq_true rfl) (Nat.le_of_ble_eq_true rfl)) (hw.1.k rfl) rfl (by decide) rfl ⟨(Nat.le_of_ble_eq_true rfl), (Nat.le_of_ble_eq_true rfl)⟩ hC1 (Nat.le_of_ble_eq_true rfl) d_W_1692 (fun x3 M3 => ?_)
  refine Go.ite (fun h12 => ?_)
  refine G_iload g (pc := 1695) 1 d_W_1695 rfl ?_
  refine H_cmpeq g (pc := 1697) 1702 d_W_1697 (by decide) h12.1 ?_
  refine G_iload g (pc := 1702) 1 d_W_1702 rfl ?_
  refine H_ifne g (pc := 1704) 1719 d_W_1704 (by decide) (fun h0 => ?_) (fun h0 => ?_)
  · refine G_goto g (pc := 1719) 2295 d_W_1719 (by decide) ?_
    refine G_sub [2, 3, 4, 5, 6, 7] _ rfl ?_
    exact hK _
  · refine G_aload_n g (pc := 1707) 5 d_W_1707 rfl rfl ?_
    refine G_iconst g (pc := 1708) (0 : Int32) d_W_1708 rfl ?_
    refine G_lald0 g (pc := 1709) hw.2.2.1 (hw.1.k rfl) d_W_1709 ?_
    refine G_iload g (pc := 1710) 0 d_W_1710 rfl ?_
    refine G_i2l g (pc := 1712) d_W_1712 ?_
    refine G_lcmp g (pc := 1713) (congrArg Int32.toInt64 (h12.2 h0)) d_W_1713 ?_
    refine H_ifeq g (pc := 1714) 1719 d_W_1714 (by decide) (fun _ => ?_) (fun h9 => Go.no (h9 rfl))
    refine G_goto g (pc := 1719) 2295 d_W_1719 (by decide) ?_
    refine G_sub [2, 3, 4, 5, 6, 7] _ rfl ?_
    exact hK _
theorem d_W_1722 : decode code 1722 = .ok (.aload_n 1, 1) := by decide +kernel
theorem d_W_1723 : decode code 1723 = .ok (.aload_n 0, 1) := by decide +kernel
theorem d_W_1724 : decode code 1724 = .ok (.iload 5, 2) := by decide +kernel
theorem d_W_1726 : decode code 1726 = .ok (.iconst 1, 1) := by decide +kernel
theorem d_W_1727 : decode code 1727 = .ok (.iadd, 1) := by decide +kernel
theorem d_W_1728 : decode code 1728 = .ok (.iaload, 1) := by decide +kernel
theorem d_W_1729 : decode code 1729 = .ok (.aload_n 3, 1) := by decide +kernel
theorem d_W_1730 : decode code 1730 = .ok (.invokestatic 289, 3) := by decide +kernel
theorem d_W_1733 : decode code 1733 = .ok (.istore 6, 2) := by decide +kernel
theorem d_W_1735 : decode code 1735 = .ok (.aload_n 2, 1) := by decide +kernel
theorem d_W_1736 : decode code 1736 = .ok (.aload_n 0, 1) := by decide +kernel
theorem d_W_1737 : decode code 1737 = .ok (.iload 5, 2) := by decide +kernel
theorem d_W_1739 : decode code 1739 = .ok (.iconst 1, 1) := by decide +kernel
theorem d_W_1740 : decode code 1740 = .ok (.iadd, 1) := by decide +kernel
theorem d_W_1741 : decode code 1741 = .ok (.iaload, 1) := by decide +kernel
theorem d_W_1742 : decode code 1742 = .ok (.invokevirtual 291, 3) := by decide +kernel
theorem d_W_1745 : decode code 1745 = .ok (.istore 7, 2) := by decide +kernel
theorem d_W_1747 : decode code 1747 = .ok (.aload_n 2, 1) := by decide +kernel
theorem d_W_1748 : decode code 1748 = .ok (.invokevirtual 106, 3) := by decide +kernel
theorem d_W_1751 : decode code 1751 = .ok (.iload 6, 2) := by decide +kernel
theorem d_W_1753 : decode code 1753 = .ok (.if_icmp .eq 5, 3) := by decide +kernel
theorem d_W_1758 : decode code 1758 = .ok (.iload 6, 2) := by decide +kernel
theorem d_W_1760 : decode code 1760 = .ok (.ifCond .ne 15, 3) := by decide +kernel
theorem d_W_1763 : decode code 1763 = .ok (.aload_n 3, 1) := by decide +kernel
theorem d_W_1764 : decode code 1764 = .ok (.iconst 0, 1) := by decide +kernel
theorem d_W_1765 : decode code 1765 = .ok (.laload, 1) := by decide +kernel
theorem d_W_1766 : decode code 1766 = .ok (.iload 7, 2) := by decide +kernel
theorem d_W_1768 : decode code 1768 = .ok (.i2l, 1) := by decide +kernel
theorem d_W_1769 : decode code 1769 = .ok (.lcmp, 1) := by decide +kernel
theorem d_W_1770 : decode code 1770 = .ok (.ifCond .eq 5, 3) := by decide +kernel
theorem d_W_1775 : decode code 1775 = .ok (.goto 520, 3) := by decide +kernel
theorem cs_L_289 : CSH "KiteLoggerLaw" 289 y_L_reelIn b_L_reelIn 4 [(0, 9, 12, 13), (0, 9, 15, 55)] 3 := ⟨TT_in (i := 1205) (by decide +kernel) (by decide +kernel), TT_in (i := 1206) (by decide +kernel) (by decide +kernel), TT_in (i := 87) (by decide +kernel) (by decide +kernel), TT_in (i := 1207) (by decide +kernel) (by decide +kernel), ⟨by decide +kernel, by decide +kernel, by decide +kernel⟩⟩
theorem cc_L_291 : CV "KiteLoggerLaw" 291 y_M_reelIn b_M_reelIn 2 (some .int) 1 := ⟨TT_in (i := 1766) (by decide +kernel) (by decide +kernel), TT_in (i := 1767) (by decide +kernel) (by decide +kernel), TT_in (i := 1768) (by decide +kernel) (by decide +kernel), TT_in (i := 100) (by decide +kernel) (by decide +kernel), TT_in (i := 1769) (by decide +kernel) (by decide +kernel), ⟨by decide +kernel, by decide +kernel, by decide +kernel⟩⟩
set_option maxHeartbeats 4000000 in
set_option maxRecDepth 100000 in
theorem k_49 (l : Launch) (hst : l.stackTraces = false) (N : Nat) {p : Program} {e : Env} {s : State} {m : MethodId} {args : Array Value} {below : List Frame} {meth : Method} {c : Code} {w : Wc} {k n b Lx ii : Nat} {xs : Nat → Int32} {Qf : Unit → State → Prop} {K : Mem → Option Unit} (g : Gd p s m args meth c w 10 code "KiteLoggerLaw") (hnc : va_Nc exS exI s) (hw : WL w) (hX : LX s w b Lx xs) (hii : ii + 6 ≤ Lx) (hC0 : k ≤ room_1.cells ∧ n ≤ room_1.slots) (hC1 : k + 1 ≤ room_1.cells ∧ n + 6 ≤ room_1.slots) (hK : ∀ M, Go p l e room_1 s m args below meth c w 10 (k + 1) (n + 6) Qf (K M) 2295 (LL w b ii) [] M) (M : Mem) : Go p l e room_1 s m args below meth c w 10 k n Qf  (bnd (lwW [(0, 1), (1, 2)] (f_G_reelIn N 146 (xs (ii + 1)) M)) fun x1 M1 => bnd (f_M_reelIn N 146 (xs (ii + 1)) M1) fun x2 M2 => bnd (f_M_thrown M2) fun x3 M3 => if x3 = x1 ∧ (x1 = 0 → M3 156 0 = x2) then K M3 else none) 1722 (LL w b ii) [] M := by
  refine G_aload_n g (pc := 1722) 1 d_W_1722 rfl rfl ?_
  refine G_arg g (pc := 1723) hX (j := 1) (j0 := 0) (j5 := 5) hii (by decide) rfl rfl d_W_1723 d_W_1724 d_W_1726 rfl d_W_1727 d_W_1728 ?_
  refine G_aload_n g (pc := 1729) 3 d_W_1729 rfl rfl ?_
  refine G_cSH g hnc (pc := 1730) (As := [.ref (wad w 0), .int (xs (ii + 1)), .ref (wad w 156)]) (st := []) cs_L_289 (c_L_reelIn l hst N hw (xs (ii + 1)) M) rfl ⟨(Nat.le_of_ble_eq_true rfl), (Nat.le_of_ble_eq_true rfl)⟩ hC1 (Nat.le_of_ble_eq_true rfl) d_W_1730 (fun x1 M1 => ?_)
  refine G_istore g (pc := 1733) _ d_W_1733 (Nat.le_of_ble_eq_true rfl) rfl ?_
  refine G_aload_n g (pc := 1735) 3 d_W_1735 rfl rfl ?_
  refine G_arg g (pc := 1736) hX (j := 1) (j0 := 1) (j5 := 6) hii (by decide) rfl rfl d_W_1736 d_W_1737 d_W_1739 rfl d_W_1740 d_W_1741 ?_
  refine G_cVI g (pc := 1742) (As := [.int (xs (ii + 1))]) (st := []) cc_L_291 (c_M_reelIn l N hw.2.1 (xs (ii + 1)) M1) (hw.2.1.mm 145 (Nat.le_of_ble_eq_true rfl) (Nat.le_of_ble_eq_true rfl)) (hw.1.k rfl) rfl (by decide) rfl ⟨(Nat.le_of_ble_eq_true rfl), (Nat.le_of_ble_eq_true rfl)⟩ hC1 (Nat.le_of_ble_eq_true rfl) d_W_1742 (fun x2 M2 => ?_)
  refine G_istore g (pc := 1745) _ d_W_1745 (Nat.le_of_ble_eq_true rfl) rfl ?_
  refine G_aload_n g (pc := 1747) 4 d_W_1747 rfl rfl ?_
  refine G_cVI g (pc := 1748) (As := []) (st := []) cc_L_106 (c_M_thrown l hw.2.1 M2) (hw.2.1.mm 145 (Nat.le_of_ble_eq_true rfl) (Nat.le_of_ble_eq_true rfl)) (hw.1.k rfl) rfl (by decide) rfl ⟨(Nat.le_of_ble_eq_true rfl), (Nat.le_of_ble_eq_true rfl)⟩ hC1 (Nat.le_of_ble_eq_true rfl) d_W_1748 (fun x3 M3 => ?_)
  refine Go.ite (fun h12 => ?_)
  refine G_iload g (pc := 1751) 1 d_W_1751 rfl ?_
  refine H_cmpeq g (pc := 1753) 1758 d_W_1753 (by decide) h12.1 ?_
  refine G_iload g (pc := 1758) 1 d_W_1758 rfl ?_
  refine H_ifne g (pc := 1760) 1775 d_W_1760 (by decide) (fun h0 => ?_) (fun h0 => ?_)
  · refine G_goto g (pc := 1775) 2295 d_W_1775 (by decide) ?_
    refine G_sub [2, 3, 4, 5, 6, 7] _ rfl ?_
    exact hK _
  · refine G_aload_n g (pc := 1763) 5 d_W_1763 rfl rfl ?_
    refine G_iconst g (pc := 1764) (0 : Int32) d_W_1764 rfl ?_
    refine G_lald0 g (pc := 1765) hw.2.2.1 (hw.1.k rfl) d_W_1765 ?_
    refine G_iload g (pc := 1766) 0 d_W_1766 rfl ?_
    refine G_i2l g (pc := 1768) d_W_1768 ?_
    refine G_lcmp g (pc := 1769) (congrArg Int32.toInt64 (h12.2 h0)) d_W_1769 ?_
    refine H_ifeq g (pc := 1770) 1775 d_W_1770 (by decide) (fun _ => ?_) (fun h9 => Go.no (h9 rfl))
    refine G_goto g (pc := 1775) 2295 d_W_1775 (by decide) ?_
    refine G_sub [2, 3, 4, 5, 6, 7] _ rfl ?_
    exact hK _
theorem d_W_1778 : decode code 1778 = .ok (.aload_n 1, 1) := by decide +kernel
theorem d_W_1779 : decode code 1779 = .ok (.aload_n 0, 1) := by decide +kernel
theorem d_W_1780 : decode code 1780 = .ok (.iload 5, 2) := by decide +kernel
theorem d_W_1782 : decode code 1782 = .ok (.iconst 1, 1) := by decide +kernel
theorem d_W_1783 : decode code 1783 = .ok (.iadd, 1) := by decide +kernel
theorem d_W_1784 : decode code 1784 = .ok (.iaload, 1) := by decide +kernel
theorem d_W_1785 : decode code 1785 = .ok (.aload_n 0, 1) := by decide +kernel
theorem d_W_1786 : decode code 1786 = .ok (.iload 5, 2) := by decide +kernel
theorem d_W_1788 : decode code 1788 = .ok (.iconst 2, 1) := by decide +kernel
theorem d_W_1789 : decode code 1789 = .ok (.iadd, 1) := by decide +kernel
theorem d_W_1790 : decode code 1790 = .ok (.iaload, 1) := by decide +kernel
theorem d_W_1791 : decode code 1791 = .ok (.aload_n 3, 1) := by decide +kernel
theorem d_W_1792 : decode code 1792 = .ok (.invokestatic 292, 3) := by decide +kernel
theorem d_W_1795 : decode code 1795 = .ok (.istore 6, 2) := by decide +kernel
theorem d_W_1797 : decode code 1797 = .ok (.aload_n 2, 1) := by decide +kernel
theorem d_W_1798 : decode code 1798 = .ok (.aload_n 0, 1) := by decide +kernel
theorem d_W_1799 : decode code 1799 = .ok (.iload 5, 2) := by decide +kernel
theorem d_W_1801 : decode code 1801 = .ok (.iconst 1, 1) := by decide +kernel
theorem d_W_1802 : decode code 1802 = .ok (.iadd, 1) := by decide +kernel
theorem d_W_1803 : decode code 1803 = .ok (.iaload, 1) := by decide +kernel
theorem d_W_1804 : decode code 1804 = .ok (.aload_n 0, 1) := by decide +kernel
theorem d_W_1805 : decode code 1805 = .ok (.iload 5, 2) := by decide +kernel
theorem d_W_1807 : decode code 1807 = .ok (.iconst 2, 1) := by decide +kernel
theorem d_W_1808 : decode code 1808 = .ok (.iadd, 1) := by decide +kernel
theorem d_W_1809 : decode code 1809 = .ok (.iaload, 1) := by decide +kernel
theorem d_W_1810 : decode code 1810 = .ok (.invokevirtual 295, 3) := by decide +kernel
theorem d_W_1813 : decode code 1813 = .ok (.istore 7, 2) := by decide +kernel
theorem d_W_1815 : decode code 1815 = .ok (.aload_n 2, 1) := by decide +kernel
theorem d_W_1816 : decode code 1816 = .ok (.invokevirtual 106, 3) := by decide +kernel
theorem d_W_1819 : decode code 1819 = .ok (.iload 6, 2) := by decide +kernel
theorem d_W_1821 : decode code 1821 = .ok (.if_icmp .eq 5, 3) := by decide +kernel
theorem d_W_1826 : decode code 1826 = .ok (.iload 6, 2) := by decide +kernel
theorem d_W_1828 : decode code 1828 = .ok (.ifCond .ne 15, 3) := by decide +kernel
theorem d_W_1831 : decode code 1831 = .ok (.aload_n 3, 1) := by decide +kernel
theorem d_W_1832 : decode code 1832 = .ok (.iconst 0, 1) := by decide +kernel
theorem d_W_1833 : decode code 1833 = .ok (.laload, 1) := by decide +kernel
theorem d_W_1834 : decode code 1834 = .ok (.iload 7, 2) := by decide +kernel
theorem d_W_1836 : decode code 1836 = .ok (.i2l, 1) := by decide +kernel
theorem d_W_1837 : decode code 1837 = .ok (.lcmp, 1) := by decide +kernel
theorem d_W_1838 : decode code 1838 = .ok (.ifCond .eq 5, 3) := by decide +kernel
theorem d_W_1843 : decode code 1843 = .ok (.goto 452, 3) := by decide +kernel
theorem cs_L_292 : CSH "KiteLoggerLaw" 292 y_L_replaceBridle b_L_replaceBridle 5 [(0, 10, 13, 13), (0, 10, 17, 55)] 4 := ⟨TT_in (i := 1212) (by decide +kernel) (by decide +kernel), TT_in (i := 1213) (by decide +kernel) (by decide +kernel), TT_in (i := 87) (by decide +kernel) (by decide +kernel), TT_in (i := 1214) (by decide +kernel) (by decide +kernel), ⟨by decide +kernel, by decide +kernel, by decide +kernel⟩⟩
theorem cc_L_295 : CV "KiteLoggerLaw" 295 y_M_replaceBridle b_M_replaceBridle 3 (some .int) 2 := ⟨TT_in (i := 1774) (by decide +kernel) (by decide +kernel), TT_in (i := 1775) (by decide +kernel) (by decide +kernel), TT_in (i := 1776) (by decide +kernel) (by decide +kernel), TT_in (i := 100) (by decide +kernel) (by decide +kernel), TT_in (i := 1777) (by decide +kernel) (by decide +kernel), ⟨by decide +kernel, by decide +kernel, by decide +kernel⟩⟩
set_option maxHeartbeats 4000000 in
set_option maxRecDepth 100000 in
theorem k_50 (l : Launch) (hst : l.stackTraces = false) (N : Nat) {p : Program} {e : Env} {s : State} {m : MethodId} {args : Array Value} {below : List Frame} {meth : Method} {c : Code} {w : Wc} {k n b Lx ii : Nat} {xs : Nat → Int32} {Qf : Unit → State → Prop} {K : Mem → Option Unit} (g : Gd p s m args meth c w 10 code "KiteLoggerLaw") (hnc : va_Nc exS exI s) (hw : WL w) (hX : LX s w b Lx xs) (hii : ii + 6 ≤ Lx) (hC0 : k ≤ room_1.cells ∧ n ≤ room_1.slots) (hC1 : k + 1 ≤ room_1.cells ∧ n + 6 ≤ room_1.slots) (hK : ∀ M, Go p l e room_1 s m args below meth c w 10 (k + 1) (n + 6) Qf (K M) 2295 (LL w b ii) [] M) (M : Mem) : Go p l e room_1 s m args below meth c w 10 k n Qf  (bnd (lwW [(0, 1), (1, 2)] (f_G_replaceBridle N 146 (xs (ii + 1)) (xs (ii + 2)) M)) fun x1 M1 => bnd (f_M_replaceBridle N 146 (xs (ii + 1)) (xs (ii + 2)) M1) fun x2 M2 => bnd (f_M_thrown M2) fun x3 M3 => if x3 = x1 ∧ (x1 = 0 → M3 156 0 = x2) then K M3 else none) 1778 (LL w b ii) [] M := by
  refine G_aload_n g (pc := 1778) 1 d_W_1778 rfl rfl ?_
  refine G_arg g (pc := 1779) hX (j := 1) (j0 := 0) (j5 := 5) hii (by decide) rfl rfl d_W_1779 d_W_1780 d_W_1782 rfl d_W_1783 d_W_1784 ?_
  refine G_arg g (pc := 1785) hX (j := 2) (j0 := 0) (j5 := 5) hii (by decide) rfl rfl d_W_1785 d_W_1786 d_W_1788 rfl d_W_1789 d_W_1790 ?_
  refine G_aload_n g (pc := 1791) 3 d_W_1791 rfl rfl ?_
  refine G_cSH g hnc (pc := 1792) (As := [.ref (wad w 0), .int (xs (ii + 1)), .int (xs (ii + 2)), .ref (wad w 156)]) (st := []) cs_L_292 (c_L_replaceBridle l hst N hw (xs (ii + 1)) (xs (ii + 2)) M) rfl ⟨(Nat.le_of_ble_eq_true rfl), (Nat.le_of_ble_eq_true rfl)⟩ hC1 (Nat.le_of_ble_eq_true rfl) d_W_1792 (fun x1 M1 => ?_)
  refine G_istore g (pc := 1795) _ d_W_1795 (Nat.le_of_ble_eq_true rfl) rfl ?_
  refine G_aload_n g (pc := 1797) 3 d_W_1797 rfl rfl ?_
  refine G_arg g (pc := 1798) hX (j := 1) (j0 := 1) (j5 := 6) hii (by decide) rfl rfl d_W_1798 d_W_1799 d_W_1801 rfl d_W_1802 d_W_1803 ?_
  refine G_arg g (pc := 1804) hX (j := 2) (j0 := 1) (j5 := 6) hii (by decide) rfl rfl d_W_1804 d_W_1805 d_W_1807 rfl d_W_1808 d_W_1809 ?_
  refine G_cVI g (pc := 1810) (As := [.int (xs (ii + 1)), .int (xs (ii + 2))]) (st := []) cc_L_295 (c_M_replaceBridle l N hw.2.1 (xs (ii + 1)) (xs (ii + 2)) M1) (hw.2.1.mm 145 (Nat.le_of_ble_eq_true rfl) (Nat.le_of_ble_eq_true rfl)) (hw.1.k rfl) rfl (by decide) rfl ⟨(Nat.le_of_ble_eq_true rfl), (Nat.le_of_ble_eq_true rfl)⟩ hC1 (Nat.le_of_ble_eq_true rfl) d_W_1810 (fun x2 M2 => ?_)
  refine G_istore g (pc := 1813) _ d_W_1813 (Nat.le_of_ble_eq_true rfl) rfl ?_
  refine G_aload_n g (pc := 1815) 4 d_W_1815 rfl rfl ?_
  refine G_cVI g (pc := 1816) (As := []) (st := []) cc_L_106 (c_M_thrown l hw.2.1 M2) (hw.2.1.mm 145 (Nat.le_of_ble_eq_true rfl) (Nat.le_of_ble_eq_true rfl)) (hw.1.k rfl) rfl (by decide) rfl ⟨(Nat.le_of_ble_eq_true rfl), (Nat.le_of_ble_eq_true rfl)⟩ hC1 (Nat.le_of_ble_eq_true rfl) d_W_1816 (fun x3 M3 => ?_)
  refine Go.ite (fun h12 => ?_)
  refine G_iload g (pc := 1819) 1 d_W_1819 rfl ?_
  refine H_cmpeq g (pc := 1821) 1826 d_W_1821 (by decide) h12.1 ?_
  refine G_iload g (pc := 1826) 1 d_W_1826 rfl ?_
  refine H_ifne g (pc := 1828) 1843 d_W_1828 (by decide) (fun h0 => ?_) (fun h0 => ?_)
  · refine G_goto g (pc := 1843) 2295 d_W_1843 (by decide) ?_
    refine G_sub [2, 3, 4, 5, 6, 7] _ rfl ?_
    exact hK _
  · refine G_aload_n g (pc := 1831) 5 d_W_1831 rfl rfl ?_
    refine G_iconst g (pc := 1832) (0 : Int32) d_W_1832 rfl ?_
    refine G_lald0 g (pc := 1833) hw.2.2.1 (hw.1.k rfl) d_W_1833 ?_
    refine G_iload g (pc := 1834) 0 d_W_1834 rfl ?_
    refine G_i2l g (pc := 1836) d_W_1836 ?_
    refine G_lcmp g (pc := 1837) (congrArg Int32.toInt64 (h12.2 h0)) d_W_1837 ?_
    refine H_ifeq g (pc := 1838) 1843 d_W_1838 (by decide) (fun _ => ?_) (fun h9 => Go.no (h9 rfl))
    refine G_goto g (pc := 1843) 2295 d_W_1843 (by decide) ?_
    refine G_sub [2, 3, 4, 5, 6, 7] _ rfl ?_
    exact hK _
theorem d_W_1846 : decode code 1846 = .ok (.aload_n 1, 1) := by decide +kernel
theorem d_W_1847 : decode code 1847 = .ok (.aload_n 0, 1) := by decide +kernel
theorem d_W_1848 : decode code 1848 = .ok (.iload 5, 2) := by decide +kernel
theorem d_W_1850 : decode code 1850 = .ok (.iconst 1, 1) := by decide +kernel
theorem d_W_1851 : decode code 1851 = .ok (.iadd, 1) := by decide +kernel
theorem d_W_1852 : decode code 1852 = .ok (.iaload, 1) := by decide +kernel
theorem d_W_1853 : decode code 1853 = .ok (.aload_n 3, 1) := by decide +kernel
theorem d_W_1854 : decode code 1854 = .ok (.invokestatic 296, 3) := by decide +kernel
theorem d_W_1857 : decode code 1857 = .ok (.istore 6, 2) := by decide +kernel
theorem d_W_1859 : decode code 1859 = .ok (.aload_n 2, 1) := by decide +kernel
theorem d_W_1860 : decode code 1860 = .ok (.aload_n 0, 1) := by decide +kernel
theorem d_W_1861 : decode code 1861 = .ok (.iload 5, 2) := by decide +kernel
theorem d_W_1863 : decode code 1863 = .ok (.iconst 1, 1) := by decide +kernel
theorem d_W_1864 : decode code 1864 = .ok (.iadd, 1) := by decide +kernel
theorem d_W_1865 : decode code 1865 = .ok (.iaload, 1) := by decide +kernel
theorem d_W_1866 : decode code 1866 = .ok (.invokevirtual 298, 3) := by decide +kernel
theorem d_W_1869 : decode code 1869 = .ok (.istore 7, 2) := by decide +kernel
theorem d_W_1871 : decode code 1871 = .ok (.aload_n 2, 1) := by decide +kernel
theorem d_W_1872 : decode code 1872 = .ok (.invokevirtual 106, 3) := by decide +kernel
theorem d_W_1875 : decode code 1875 = .ok (.iload 6, 2) := by decide +kernel
theorem d_W_1877 : decode code 1877 = .ok (.if_icmp .eq 5, 3) := by decide +kernel
theorem d_W_1882 : decode code 1882 = .ok (.iload 6, 2) := by decide +kernel
theorem d_W_1884 : decode code 1884 = .ok (.ifCond .ne 15, 3) := by decide +kernel
theorem d_W_1887 : decode code 1887 = .ok (.aload_n 3, 1) := by decide +kernel
theorem d_W_1888 : decode code 1888 = .ok (.iconst 0, 1) := by decide +kernel
theorem d_W_1889 : decode code 1889 = .ok (.laload, 1) := by decide +kernel
theorem d_W_1890 : decode code 1890 = .ok (.iload 7, 2) := by decide +kernel
theorem d_W_1892 : decode code 1892 = .ok (.i2l, 1) := by decide +kernel
theorem d_W_1893 : decode code 1893 = .ok (.lcmp, 1) := by decide +kernel
theorem d_W_1894 : decode code 1894 = .ok (.ifCond .eq 5, 3) := by decide +kernel
theorem d_W_1899 : decode code 1899 = .ok (.goto 396, 3) := by decide +kernel
theorem cs_L_296 : CSH "KiteLoggerLaw" 296 y_L_setInterval b_L_setInterval 4 [(0, 9, 12, 13)] 3 := ⟨TT_in (i := 1219) (by decide +kernel) (by decide +kernel), TT_in (i := 1220) (by decide +kernel) (by decide +kernel), TT_in (i := 87) (by decide +kernel) (by decide +kernel), TT_in (i := 1221) (by decide +kernel) (by decide +kernel), ⟨by decide +kernel, by decide +kernel, by decide +kernel⟩⟩
theorem cc_L_298 : CV "KiteLoggerLaw" 298 y_M_setInterval b_M_setInterval 2 (some .int) 1 := ⟨TT_in (i := 1782) (by decide +kernel) (by decide +kernel), TT_in (i := 1783) (by decide +kernel) (by decide +kernel), TT_in (i := 1784) (by decide +kernel) (by decide +kernel), TT_in (i := 100) (by decide +kernel) (by decide +kernel), TT_in (i := 1785) (by decide +kernel) (by decide +kernel), ⟨by decide +kernel, by decide +kernel, by decide +kernel⟩⟩
set_option maxHeartbeats 4000000 in
set_option maxRecDepth 100000 in
theorem k_51 (l : Launch) (hst : l.stackTraces = false) (N : Nat) {p : Program} {e : Env} {s : State} {m : MethodId} {args : Array Value} {below : List Frame} {meth : Method} {c : Code} {w : Wc} {k n b Lx ii : Nat} {xs : Nat → Int32} {Qf : Unit → State → Prop} {K : Mem → Option Unit} (g : Gd p s m args meth c w 10 code "KiteLoggerLaw") (hnc : va_Nc exS exI s) (hw : WL w) (hX : LX s w b Lx xs) (hii : ii + 6 ≤ Lx) (hC0 : k ≤ room_1.cells ∧ n ≤ room_1.slots) (hC1 : k + 1 ≤ room_1.cells ∧ n + 6 ≤ room_1.slots) (hK : ∀ M, Go p l e room_1 s m args below meth c w 10 (k + 1) (n + 6) Qf (K M) 2295 (LL w b ii) [] M) (M : Mem) : Go p l e room_1 s m args below meth c w 10 k n Qf  (bnd (lwW [(0, 1)] (f_G_setInterval N 146 (xs (ii + 1)) M)) fun x1 M1 => bnd (f_M_setInterval N 146 (xs (ii + 1)) M1) fun x2 M2 => bnd (f_M_thrown M2) fun x3 M3 => if x3 = x1 ∧ (x1 = 0 → M3 156 0 = x2) then K M3 else none) 1846 (LL w b ii) [] M := by
  refine G_aload_n g (pc := 1846) 1 d_W_1846 rfl rfl ?_
  refine G_arg g (pc := 1847) hX (j := 1) (j0 := 0) (j5 := 5) hii (by decide) rfl rfl d_W_1847 d_W_1848 d_W_1850 rfl d_W_1851 d_W_1852 ?_
  refine G_aload_n g (pc := 1853) 3 d_W_1853 rfl rfl ?_
  refine G_cSH g hnc (pc := 1854) (As := [.ref (wad w 0), .int (xs (ii + 1)), .ref (wad w 156)]) (st := []) cs_L_296 (c_L_setInterval l hst N hw (xs (ii + 1)) M) rfl ⟨(Nat.le_of_ble_eq_true rfl), (Nat.le_of_ble_eq_true rfl)⟩ hC1 (Nat.le_of_ble_eq_true rfl) d_W_1854 (fun x1 M1 => ?_)
  refine G_istore g (pc := 1857) _ d_W_1857 (Nat.le_of_ble_eq_true rfl) rfl ?_
  refine G_aload_n g (pc := 1859) 3 d_W_1859 rfl rfl ?_
  refine G_arg g (pc := 1860) hX (j := 1) (j0 := 1) (j5 := 6) hii (by decide) rfl rfl d_W_1860 d_W_1861 d_W_1863 rfl d_W_1864 d_W_1865 ?_
  refine G_cVI g (pc := 1866) (As := [.int (xs (ii + 1))]) (st := []) cc_L_298 (c_M_setInterval l N hw.2.1 (xs (ii + 1)) M1) (hw.2.1.mm 145 (Nat.le_of_ble_eq_true rfl) (Nat.le_of_ble_eq_true rfl)) (hw.1.k rfl) rfl (by decide) rfl ⟨(Nat.le_of_ble_eq_true rfl), (Nat.le_of_ble_eq_true rfl)⟩ hC1 (Nat.le_of_ble_eq_true rfl) d_W_1866 (fun x2 M2 => ?_)
  refine G_istore g (pc := 1869) _ d_W_1869 (Nat.le_of_ble_eq_true rfl) rfl ?_
  refine G_aload_n g (pc := 1871) 4 d_W_1871 rfl rfl ?_
  refine G_cVI g (pc := 1872) (As := []) (st := []) cc_L_106 (c_M_thrown l hw.2.1 M2) (hw.2.1.mm 145 (Nat.le_of_ble_eq_true rfl) (Nat.le_of_ble_eq_true rfl)) (hw.1.k rfl) rfl (by decide) rfl ⟨(Nat.le_of_ble_eq_true rfl), (Nat.le_of_ble_eq_true rfl)⟩ hC1 (Nat.le_of_ble_eq_true rfl) d_W_1872 (fun x3 M3 => ?_)
  refine Go.ite (fun h12 => ?_)
  refine G_iload g (pc := 1875) 1 d_W_1875 rfl ?_
  refine H_cmpeq g (pc := 1877) 1882 d_W_1877 (by decide) h12.1 ?_
  refine G_iload g (pc := 1882) 1 d_W_1882 rfl ?_
  refine H_ifne g (pc := 1884) 1899 d_W_1884 (by decide) (fun h0 => ?_) (fun h0 => ?_)
  · refine G_goto g (pc := 1899) 2295 d_W_1899 (by decide) ?_
    refine G_sub [2, 3, 4, 5, 6, 7] _ rfl ?_
    exact hK _
  · refine G_aload_n g (pc := 1887) 5 d_W_1887 rfl rfl ?_
    refine G_iconst g (pc := 1888) (0 : Int32) d_W_1888 rfl ?_
    refine G_lald0 g (pc := 1889) hw.2.2.1 (hw.1.k rfl) d_W_1889 ?_
    refine G_iload g (pc := 1890) 0 d_W_1890 rfl ?_
    refine G_i2l g (pc := 1892) d_W_1892 ?_
    refine G_lcmp g (pc := 1893) (congrArg Int32.toInt64 (h12.2 h0)) d_W_1893 ?_
    refine H_ifeq g (pc := 1894) 1899 d_W_1894 (by decide) (fun _ => ?_) (fun h9 => Go.no (h9 rfl))
    refine G_goto g (pc := 1899) 2295 d_W_1899 (by decide) ?_
    refine G_sub [2, 3, 4, 5, 6, 7] _ rfl ?_
    exact hK _
theorem d_W_1902 : decode code 1902 = .ok (.aload_n 1, 1) := by decide +kernel
theorem d_W_1903 : decode code 1903 = .ok (.aload_n 0, 1) := by decide +kernel
theorem d_W_1904 : decode code 1904 = .ok (.iload 5, 2) := by decide +kernel
theorem d_W_1906 : decode code 1906 = .ok (.iconst 1, 1) := by decide +kernel
theorem d_W_1907 : decode code 1907 = .ok (.iadd, 1) := by decide +kernel
theorem d_W_1908 : decode code 1908 = .ok (.iaload, 1) := by decide +kernel
theorem d_W_1909 : decode code 1909 = .ok (.aload_n 3, 1) := by decide +kernel
theorem d_W_1910 : decode code 1910 = .ok (.invokestatic 299, 3) := by decide +kernel
theorem d_W_1913 : decode code 1913 = .ok (.istore 6, 2) := by decide +kernel
theorem d_W_1915 : decode code 1915 = .ok (.aload_n 2, 1) := by decide +kernel
theorem d_W_1916 : decode code 1916 = .ok (.aload_n 0, 1) := by decide +kernel
theorem d_W_1917 : decode code 1917 = .ok (.iload 5, 2) := by decide +kernel
theorem d_W_1919 : decode code 1919 = .ok (.iconst 1, 1) := by decide +kernel
theorem d_W_1920 : decode code 1920 = .ok (.iadd, 1) := by decide +kernel
theorem d_W_1921 : decode code 1921 = .ok (.iaload, 1) := by decide +kernel
theorem d_W_1922 : decode code 1922 = .ok (.invokevirtual 301, 3) := by decide +kernel
theorem d_W_1925 : decode code 1925 = .ok (.istore 7, 2) := by decide +kernel
theorem d_W_1927 : decode code 1927 = .ok (.aload_n 2, 1) := by decide +kernel
theorem d_W_1928 : decode code 1928 = .ok (.invokevirtual 106, 3) := by decide +kernel
theorem d_W_1931 : decode code 1931 = .ok (.iload 6, 2) := by decide +kernel
theorem d_W_1933 : decode code 1933 = .ok (.if_icmp .eq 5, 3) := by decide +kernel
theorem d_W_1938 : decode code 1938 = .ok (.iload 6, 2) := by decide +kernel
theorem d_W_1940 : decode code 1940 = .ok (.ifCond .ne 15, 3) := by decide +kernel
theorem d_W_1943 : decode code 1943 = .ok (.aload_n 3, 1) := by decide +kernel
theorem d_W_1944 : decode code 1944 = .ok (.iconst 0, 1) := by decide +kernel
theorem d_W_1945 : decode code 1945 = .ok (.laload, 1) := by decide +kernel
theorem d_W_1946 : decode code 1946 = .ok (.iload 7, 2) := by decide +kernel
theorem d_W_1948 : decode code 1948 = .ok (.i2l, 1) := by decide +kernel
theorem d_W_1949 : decode code 1949 = .ok (.lcmp, 1) := by decide +kernel
theorem d_W_1950 : decode code 1950 = .ok (.ifCond .eq 5, 3) := by decide +kernel
theorem d_W_1955 : decode code 1955 = .ok (.goto 340, 3) := by decide +kernel
theorem cs_L_299 : CSH "KiteLoggerLaw" 299 y_L_search b_L_search 4 [(0, 9, 12, 13), (0, 9, 15, 55)] 3 := ⟨TT_in (i := 1226) (by decide +kernel) (by decide +kernel), TT_in (i := 1227) (by decide +kernel) (by decide +kernel), TT_in (i := 87) (by decide +kernel) (by decide +kernel), TT_in (i := 1228) (by decide +kernel) (by decide +kernel), ⟨by decide +kernel, by decide +kernel, by decide +kernel⟩⟩
theorem cc_L_301 : CV "KiteLoggerLaw" 301 y_M_search b_M_search 2 (some .int) 1 := ⟨TT_in (i := 1790) (by decide +kernel) (by decide +kernel), TT_in (i := 1791) (by decide +kernel) (by decide +kernel), TT_in (i := 1792) (by decide +kernel) (by decide +kernel), TT_in (i := 100) (by decide +kernel) (by decide +kernel), TT_in (i := 1793) (by decide +kernel) (by decide +kernel), ⟨by decide +kernel, by decide +kernel, by decide +kernel⟩⟩
set_option maxHeartbeats 4000000 in
set_option maxRecDepth 100000 in
theorem k_52 (l : Launch) (hst : l.stackTraces = false) (N : Nat) {p : Program} {e : Env} {s : State} {m : MethodId} {args : Array Value} {below : List Frame} {meth : Method} {c : Code} {w : Wc} {k n b Lx ii : Nat} {xs : Nat → Int32} {Qf : Unit → State → Prop} {K : Mem → Option Unit} (g : Gd p s m args meth c w 10 code "KiteLoggerLaw") (hnc : va_Nc exS exI s) (hw : WL w) (hX : LX s w b Lx xs) (hii : ii + 6 ≤ Lx) (hC0 : k ≤ room_1.cells ∧ n ≤ room_1.slots) (hC1 : k + 1 ≤ room_1.cells ∧ n + 6 ≤ room_1.slots) (hK : ∀ M, Go p l e room_1 s m args below meth c w 10 (k + 1) (n + 6) Qf (K M) 2295 (LL w b ii) [] M) (M : Mem) : Go p l e room_1 s m args below meth c w 10 k n Qf  (bnd (lwW [(0, 1), (1, 2)] (f_G_search N 146 (xs (ii + 1)) M)) fun x1 M1 => bnd (f_M_search N 146 (xs (ii + 1)) M1) fun x2 M2 => bnd (f_M_thrown M2) fun x3 M3 => if x3 = x1 ∧ (x1 = 0 → M3 156 0 = x2) then K M3 else none) 1902 (LL w b ii) [] M := by
  refine G_aload_n g (pc := 1902) 1 d_W_1902 rfl rfl ?_
  refine G_arg g (pc := 1903) hX (j := 1) (j0 := 0) (j5 := 5) hii (by decide) rfl rfl d_W_1903 d_W_1904 d_W_1906 rfl d_W_1907 d_W_1908 ?_
  refine G_aload_n g (pc := 1909) 3 d_W_1909 rfl rfl ?_
  refine G_cSH g hnc (pc := 1910) (As := [.ref (wad w 0), .int (xs (ii + 1)), .ref (wad w 156)]) (st := []) cs_L_299 (c_L_search l hst N hw (xs (ii + 1)) M) rfl ⟨(Nat.le_of_ble_eq_true rfl), (Nat.le_of_ble_eq_true rfl)⟩ hC1 (Nat.le_of_ble_eq_true rfl) d_W_1910 (fun x1 M1 => ?_)
  refine G_istore g (pc := 1913) _ d_W_1913 (Nat.le_of_ble_eq_true rfl) rfl ?_
  refine G_aload_n g (pc := 1915) 3 d_W_1915 rfl rfl ?_
  refine G_arg g (pc := 1916) hX (j := 1) (j0 := 1) (j5 := 6) hii (by decide) rfl rfl d_W_1916 d_W_1917 d_W_1919 rfl d_W_1920 d_W_1921 ?_
  refine G_cVI g (pc := 1922) (As := [.int (xs (ii + 1))]) (st := []) cc_L_301 (c_M_search l N hw.2.1 (xs (ii + 1)) M1) (hw.2.1.mm 145 (Nat.le_of_ble_eq_true rfl) (Nat.le_of_ble_eq_true rfl)) (hw.1.k rfl) rfl (by decide) rfl ⟨(Nat.le_of_ble_eq_true rfl), (Nat.le_of_ble_eq_true rfl)⟩ hC1 (Nat.le_of_ble_eq_true rfl) d_W_1922 (fun x2 M2 => ?_)
  refine G_istore g (pc := 1925) _ d_W_1925 (Nat.le_of_ble_eq_true rfl) rfl ?_
  refine G_aload_n g (pc := 1927) 4 d_W_1927 rfl rfl ?_
  refine G_cVI g (pc := 1928) (As := []) (st := []) cc_L_106 (c_M_thrown l hw.2.1 M2) (hw.2.1.mm 145 (Nat.le_of_ble_eq_true rfl) (Nat.le_of_ble_eq_true rfl)) (hw.1.k rfl) rfl (by decide) rfl ⟨(Nat.le_of_ble_eq_true rfl), (Nat.le_of_ble_eq_true rfl)⟩ hC1 (Nat.le_of_ble_eq_true rfl) d_W_1928 (fun x3 M3 => ?_)
  refine Go.ite (fun h12 => ?_)
  refine G_iload g (pc := 1931) 1 d_W_1931 rfl ?_
  refine H_cmpeq g (pc := 1933) 1938 d_W_1933 (by decide) h12.1 ?_
  refine G_iload g (pc := 1938) 1 d_W_1938 rfl ?_
  refine H_ifne g (pc := 1940) 1955 d_W_1940 (by decide) (fun h0 => ?_) (fun h0 => ?_)
  · refine G_goto g (pc := 1955) 2295 d_W_1955 (by decide) ?_
    refine G_sub [2, 3, 4, 5, 6, 7] _ rfl ?_
    exact hK _
  · refine G_aload_n g (pc := 1943) 5 d_W_1943 rfl rfl ?_
    refine G_iconst g (pc := 1944) (0 : Int32) d_W_1944 rfl ?_
    refine G_lald0 g (pc := 1945) hw.2.2.1 (hw.1.k rfl) d_W_1945 ?_
    refine G_iload g (pc := 1946) 0 d_W_1946 rfl ?_
    refine G_i2l g (pc := 1948) d_W_1948 ?_
    refine G_lcmp g (pc := 1949) (congrArg Int32.toInt64 (h12.2 h0)) d_W_1949 ?_
    refine H_ifeq g (pc := 1950) 1955 d_W_1950 (by decide) (fun _ => ?_) (fun h9 => Go.no (h9 rfl))
    refine G_goto g (pc := 1955) 2295 d_W_1955 (by decide) ?_
    refine G_sub [2, 3, 4, 5, 6, 7] _ rfl ?_
    exact hK _
theorem d_W_1958 : decode code 1958 = .ok (.aload_n 1, 1) := by decide +kernel
theorem d_W_1959 : decode code 1959 = .ok (.aload_n 3, 1) := by decide +kernel
theorem d_W_1960 : decode code 1960 = .ok (.invokestatic 302, 3) := by decide +kernel
theorem d_W_1963 : decode code 1963 = .ok (.istore 6, 2) := by decide +kernel
theorem d_W_1965 : decode code 1965 = .ok (.aload_n 2, 1) := by decide +kernel
theorem d_W_1966 : decode code 1966 = .ok (.invokevirtual 304, 3) := by decide +kernel
theorem d_W_1969 : decode code 1969 = .ok (.istore 7, 2) := by decide +kernel
theorem d_W_1971 : decode code 1971 = .ok (.aload_n 2, 1) := by decide +kernel
theorem d_W_1972 : decode code 1972 = .ok (.invokevirtual 106, 3) := by decide +kernel
theorem d_W_1975 : decode code 1975 = .ok (.iload 6, 2) := by decide +kernel
theorem d_W_1977 : decode code 1977 = .ok (.if_icmp .eq 5, 3) := by decide +kernel
theorem d_W_1982 : decode code 1982 = .ok (.iload 6, 2) := by decide +kernel
theorem d_W_1984 : decode code 1984 = .ok (.ifCond .ne 15, 3) := by decide +kernel
theorem d_W_1987 : decode code 1987 = .ok (.aload_n 3, 1) := by decide +kernel
theorem d_W_1988 : decode code 1988 = .ok (.iconst 0, 1) := by decide +kernel
theorem d_W_1989 : decode code 1989 = .ok (.laload, 1) := by decide +kernel
theorem d_W_1990 : decode code 1990 = .ok (.iload 7, 2) := by decide +kernel
theorem d_W_1992 : decode code 1992 = .ok (.i2l, 1) := by decide +kernel
theorem d_W_1993 : decode code 1993 = .ok (.lcmp, 1) := by decide +kernel
theorem d_W_1994 : decode code 1994 = .ok (.ifCond .eq 5, 3) := by decide +kernel
theorem d_W_1999 : decode code 1999 = .ok (.goto 296, 3) := by decide +kernel
theorem cs_L_302 : CSH "KiteLoggerLaw" 302 y_L_archive b_L_archive 3 [(0, 8, 11, 55)] 2 := ⟨TT_in (i := 1233) (by decide +kernel) (by decide +kernel), TT_in (i := 1234) (by decide +kernel) (by decide +kernel), TT_in (i := 87) (by decide +kernel) (by decide +kernel), TT_in (i := 1235) (by decide +kernel) (by decide +kernel), ⟨by decide +kernel, by decide +kernel, by decide +kernel⟩⟩
theorem cc_L_304 : CV "KiteLoggerLaw" 304 y_M_archive b_M_archive 1 (some .int) 0 := ⟨TT_in (i := 1798) (by decide +kernel) (by decide +kernel), TT_in (i := 1799) (by decide +kernel) (by decide +kernel), TT_in (i := 1800) (by decide +kernel) (by decide +kernel), TT_in (i := 100) (by decide +kernel) (by decide +kernel), TT_in (i := 1801) (by decide +kernel) (by decide +kernel), ⟨by decide +kernel, by decide +kernel, by decide +kernel⟩⟩
set_option maxHeartbeats 4000000 in
set_option maxRecDepth 100000 in
theorem k_53 (l : Launch) (hst : l.stackTraces = false) (N : Nat) {p : Program} {e : Env} {s : State} {m : MethodId} {args : Array Value} {below : List Frame} {meth : Method} {c : Code} {w : Wc} {k n b Lx ii : Nat} {xs : Nat → Int32} {Qf : Unit → State → Prop} {K : Mem → Option Unit} (g : Gd p s m args meth c w 10 code "KiteLoggerLaw") (hnc : va_Nc exS exI s) (hw : WL w) (hX : LX s w b Lx xs) (hii : ii + 6 ≤ Lx) (hC0 : k ≤ room_1.cells ∧ n ≤ room_1.slots) (hC1 : k + 1 ≤ room_1.cells ∧ n + 6 ≤ room_1.slots) (hK : ∀ M, Go p l e room_1 s m args below meth c w 10 (k + 1) (n + 6) Qf (K M) 2295 (LL w b ii) [] M) (M : Mem) : Go p l e room_1 s m args below meth c w 10 k n Qf  (bnd (lwW [(1, 1)] (f_G_archive N 146 M)) fun x1 M1 => bnd (f_M_archive N 146 M1) fun x2 M2 => bnd (f_M_thrown M2) fun x3 M3 => if x3 = x1 ∧ (x1 = 0 → M3 156 0 = x2) then K M3 else none) 1958 (LL w b ii) [] M := by
  refine G_aload_n g (pc := 1958) 1 d_W_1958 rfl rfl ?_
  refine G_aload_n g (pc := 1959) 3 d_W_1959 rfl rfl ?_
  refine G_cSH g hnc (pc := 1960) (As := [.ref (wad w 0), .ref (wad w 156)]) (st := []) cs_L_302 (c_L_archive l hst N hw M) rfl ⟨(Nat.le_of_ble_eq_true rfl), (Nat.le_of_ble_eq_true rfl)⟩ hC1 (Nat.le_of_ble_eq_true rfl) d_W_1960 (fun x1 M1 => ?_)
  refine G_istore g (pc := 1963) _ d_W_1963 (Nat.le_of_ble_eq_true rfl) rfl ?_
  refine G_aload_n g (pc := 1965) 3 d_W_1965 rfl rfl ?_
  refine G_cVI g (pc := 1966) (As := []) (st := []) cc_L_304 (c_M_archive l N hw.2.1 M1) (hw.2.1.mm 145 (Nat.le_of_ble_eq_true rfl) (Nat.le_of_ble_eq_true rfl)) (hw.1.k rfl) rfl (by decide) rfl ⟨(Nat.le_of_ble_eq_true rfl), (Nat.le_of_ble_eq_true rfl)⟩ hC1 (Nat.le_of_ble_eq_true rfl) d_W_1966 (fun x2 M2 => ?_)
  refine G_istore g (pc := 1969) _ d_W_1969 (Nat.le_of_ble_eq_true rfl) rfl ?_
  refine G_aload_n g (pc := 1971) 4 d_W_1971 rfl rfl ?_
  refine G_cVI g (pc := 1972) (As := []) (st := []) cc_L_106 (c_M_thrown l hw.2.1 M2) (hw.2.1.mm 145 (Nat.le_of_ble_eq_true rfl) (Nat.le_of_ble_eq_true rfl)) (hw.1.k rfl) rfl (by decide) rfl ⟨(Nat.le_of_ble_eq_true rfl), (Nat.le_of_ble_eq_true rfl)⟩ hC1 (Nat.le_of_ble_eq_true rfl) d_W_1972 (fun x3 M3 => ?_)
  refine Go.ite (fun h12 => ?_)
  refine G_iload g (pc := 1975) 1 d_W_1975 rfl ?_
  refine H_cmpeq g (pc := 1977) 1982 d_W_1977 (by decide) h12.1 ?_
  refine G_iload g (pc := 1982) 1 d_W_1982 rfl ?_
  refine H_ifne g (pc := 1984) 1999 d_W_1984 (by decide) (fun h0 => ?_) (fun h0 => ?_)
  · refine G_goto g (pc := 1999) 2295 d_W_1999 (by decide) ?_
    refine G_sub [2, 3, 4, 5, 6, 7] _ rfl ?_
    exact hK _
  · refine G_aload_n g (pc := 1987) 5 d_W_1987 rfl rfl ?_
    refine G_iconst g (pc := 1988) (0 : Int32) d_W_1988 rfl ?_
    refine G_lald0 g (pc := 1989) hw.2.2.1 (hw.1.k rfl) d_W_1989 ?_
    refine G_iload g (pc := 1990) 0 d_W_1990 rfl ?_
    refine G_i2l g (pc := 1992) d_W_1992 ?_
    refine G_lcmp g (pc := 1993) (congrArg Int32.toInt64 (h12.2 h0)) d_W_1993 ?_
    refine H_ifeq g (pc := 1994) 1999 d_W_1994 (by decide) (fun _ => ?_) (fun h9 => Go.no (h9 rfl))
    refine G_goto g (pc := 1999) 2295 d_W_1999 (by decide) ?_
    refine G_sub [2, 3, 4, 5, 6, 7] _ rfl ?_
    exact hK _
theorem d_W_2002 : decode code 2002 = .ok (.aload_n 1, 1) := by decide +kernel
theorem d_W_2003 : decode code 2003 = .ok (.aload_n 0, 1) := by decide +kernel
theorem d_W_2004 : decode code 2004 = .ok (.iload 5, 2) := by decide +kernel
theorem d_W_2006 : decode code 2006 = .ok (.iconst 1, 1) := by decide +kernel
theorem d_W_2007 : decode code 2007 = .ok (.iadd, 1) := by decide +kernel
theorem d_W_2008 : decode code 2008 = .ok (.iaload, 1) := by decide +kernel
theorem d_W_2009 : decode code 2009 = .ok (.aload_n 3, 1) := by decide +kernel
theorem d_W_2010 : decode code 2010 = .ok (.invokestatic 305, 3) := by decide +kernel
theorem d_W_2013 : decode code 2013 = .ok (.istore 6, 2) := by decide +kernel
theorem d_W_2015 : decode code 2015 = .ok (.aload_n 2, 1) := by decide +kernel
theorem d_W_2016 : decode code 2016 = .ok (.aload_n 0, 1) := by decide +kernel
theorem d_W_2017 : decode code 2017 = .ok (.iload 5, 2) := by decide +kernel
theorem d_W_2019 : decode code 2019 = .ok (.iconst 1, 1) := by decide +kernel
theorem d_W_2020 : decode code 2020 = .ok (.iadd, 1) := by decide +kernel
theorem d_W_2021 : decode code 2021 = .ok (.iaload, 1) := by decide +kernel
theorem d_W_2022 : decode code 2022 = .ok (.invokevirtual 307, 3) := by decide +kernel
theorem d_W_2025 : decode code 2025 = .ok (.istore 7, 2) := by decide +kernel
theorem d_W_2027 : decode code 2027 = .ok (.aload_n 2, 1) := by decide +kernel
theorem d_W_2028 : decode code 2028 = .ok (.invokevirtual 106, 3) := by decide +kernel
theorem d_W_2031 : decode code 2031 = .ok (.iload 6, 2) := by decide +kernel
theorem d_W_2033 : decode code 2033 = .ok (.if_icmp .eq 5, 3) := by decide +kernel
theorem d_W_2038 : decode code 2038 = .ok (.iload 6, 2) := by decide +kernel
theorem d_W_2040 : decode code 2040 = .ok (.ifCond .ne 15, 3) := by decide +kernel
theorem d_W_2043 : decode code 2043 = .ok (.aload_n 3, 1) := by decide +kernel
theorem d_W_2044 : decode code 2044 = .ok (.iconst 0, 1) := by decide +kernel
theorem d_W_2045 : decode code 2045 = .ok (.laload, 1) := by decide +kernel
theorem d_W_2046 : decode code 2046 = .ok (.iload 7, 2) := by decide +kernel
theorem d_W_2048 : decode code 2048 = .ok (.i2l, 1) := by decide +kernel
theorem d_W_2049 : decode code 2049 = .ok (.lcmp, 1) := by decide +kernel
theorem d_W_2050 : decode code 2050 = .ok (.ifCond .eq 5, 3) := by decide +kernel
theorem d_W_2055 : decode code 2055 = .ok (.goto 240, 3) := by decide +kernel
theorem cs_L_305 : CSH "KiteLoggerLaw" 305 y_L_passTicks b_L_passTicks 4 [(0, 9, 12, 13), (0, 9, 15, 55)] 3 := ⟨TT_in (i := 1240) (by decide +kernel) (by decide +kernel), TT_in (i := 1241) (by decide +kernel) (by decide +kernel), TT_in (i := 87) (by decide +kernel) (by decide +kernel), TT_in (i := 1242) (by decide +kernel) (by decide +kernel), ⟨by decide +kernel, by decide +kernel, by decide +kernel⟩⟩
theorem cc_L_307 : CV "KiteLoggerLaw" 307 y_M_passTicks b_M_passTicks 2 (some .int) 1 := ⟨TT_in (i := 1806) (by decide +kernel) (by decide +kernel), TT_in (i := 1807) (by decide +kernel) (by decide +kernel), TT_in (i := 1808) (by decide +kernel) (by decide +kernel), TT_in (i := 100) (by decide +kernel) (by decide +kernel), TT_in (i := 1809) (by decide +kernel) (by decide +kernel), ⟨by decide +kernel, by decide +kernel, by decide +kernel⟩⟩
set_option maxHeartbeats 4000000 in
set_option maxRecDepth 100000 in
theorem k_54 (l : Launch) (hst : l.stackTraces = false) (N : Nat) {p : Program} {e : Env} {s : State} {m : MethodId} {args : Array Value} {below : List Frame} {meth : Method} {c : Code} {w : Wc} {k n b Lx ii : Nat} {xs : Nat → Int32} {Qf : Unit → State → Prop} {K : Mem → Option Unit} (g : Gd p s m args meth c w 10 code "KiteLoggerLaw") (hnc : va_Nc exS exI s) (hw : WL w) (hX : LX s w b Lx xs) (hii : ii + 6 ≤ Lx) (hC0 : k ≤ room_1.cells ∧ n ≤ room_1.slots) (hC1 : k + 1 ≤ room_1.cells ∧ n + 6 ≤ room_1.slots) (hK : ∀ M, Go p l e room_1 s m args below meth c w 10 (k + 1) (n + 6) Qf (K M) 2295 (LL w b ii) [] M) (M : Mem) : Go p l e room_1 s m args below meth c w 10 k n Qf  (bnd (lwW [(0, 1), (1, 2)] (f_G_passTicks N 146 (xs (ii + 1)) M)) fun x1 M1 => bnd (f_M_passTicks N 146 (xs (ii + 1)) M1) fun x2 M2 => bnd (f_M_thrown M2) fun x3 M3 => if x3 = x1 ∧ (x1 = 0 → M3 156 0 = x2) then K M3 else none) 2002 (LL w b ii) [] M := by
  refine G_aload_n g (pc := 2002) 1 d_W_2002 rfl rfl ?_
  refine G_arg g (pc := 2003) hX (j := 1) (j0 := 0) (j5 := 5) hii (by decide) rfl rfl d_W_2003 d_W_2004 d_W_2006 rfl d_W_2007 d_W_2008 ?_
  refine G_aload_n g (pc := 2009) 3 d_W_2009 rfl rfl ?_
  refine G_cSH g hnc (pc := 2010) (As := [.ref (wad w 0), .int (xs (ii + 1)), .ref (wad w 156)]) (st := []) cs_L_305 (c_L_passTicks l hst N hw (xs (ii + 1)) M) rfl ⟨(Nat.le_of_ble_eq_true rfl), (Nat.le_of_ble_eq_true rfl)⟩ hC1 (Nat.le_of_ble_eq_true rfl) d_W_2010 (fun x1 M1 => ?_)
  refine G_istore g (pc := 2013) _ d_W_2013 (Nat.le_of_ble_eq_true rfl) rfl ?_
  refine G_aload_n g (pc := 2015) 3 d_W_2015 rfl rfl ?_
  refine G_arg g (pc := 2016) hX (j := 1) (j0 := 1) (j5 := 6) hii (by decide) rfl rfl d_W_2016 d_W_2017 d_W_2019 rfl d_W_2020 d_W_2021 ?_
  refine G_cVI g (pc := 2022) (As := [.int (xs (ii + 1))]) (st := []) cc_L_307 (c_M_passTicks l N hw.2.1 (xs (ii + 1)) M1) (hw.2.1.mm 145 (Nat.le_of_ble_eq_true rfl) (Nat.le_of_ble_eq_true rfl)) (hw.1.k rfl) rfl (by decide) rfl ⟨(Nat.le_of_ble_eq_true rfl), (Nat.le_of_ble_eq_true rfl)⟩ hC1 (Nat.le_of_ble_eq_true rfl) d_W_2022 (fun x2 M2 => ?_)
  refine G_istore g (pc := 2025) _ d_W_2025 (Nat.le_of_ble_eq_true rfl) rfl ?_
  refine G_aload_n g (pc := 2027) 4 d_W_2027 rfl rfl ?_
  refine G_cVI g (pc := 2028) (As := []) (st := []) cc_L_106 (c_M_thrown l hw.2.1 M2) (hw.2.1.mm 145 (Nat.le_of_ble_eq_true rfl) (Nat.le_of_ble_eq_true rfl)) (hw.1.k rfl) rfl (by decide) rfl ⟨(Nat.le_of_ble_eq_true rfl), (Nat.le_of_ble_eq_true rfl)⟩ hC1 (Nat.le_of_ble_eq_true rfl) d_W_2028 (fun x3 M3 => ?_)
  refine Go.ite (fun h12 => ?_)
  refine G_iload g (pc := 2031) 1 d_W_2031 rfl ?_
  refine H_cmpeq g (pc := 2033) 2038 d_W_2033 (by decide) h12.1 ?_
  refine G_iload g (pc := 2038) 1 d_W_2038 rfl ?_
  refine H_ifne g (pc := 2040) 2055 d_W_2040 (by decide) (fun h0 => ?_) (fun h0 => ?_)
  · refine G_goto g (pc := 2055) 2295 d_W_2055 (by decide) ?_
    refine G_sub [2, 3, 4, 5, 6, 7] _ rfl ?_
    exact hK _
  · refine G_aload_n g (pc := 2043) 5 d_W_2043 rfl rfl ?_
    refine G_iconst g (pc := 2044) (0 : Int32) d_W_2044 rfl ?_
    refine G_lald0 g (pc := 2045) hw.2.2.1 (hw.1.k rfl) d_W_2045 ?_
    refine G_iload g (pc := 2046) 0 d_W_2046 rfl ?_
    refine G_i2l g (pc := 2048) d_W_2048 ?_
    refine G_lcmp g (pc := 2049) (congrArg Int32.toInt64 (h12.2 h0)) d_W_2049 ?_
    refine H_ifeq g (pc := 2050) 2055 d_W_2050 (by decide) (fun _ => ?_) (fun h9 => Go.no (h9 rfl))
    refine G_goto g (pc := 2055) 2295 d_W_2055 (by decide) ?_
    refine G_sub [2, 3, 4, 5, 6, 7] _ rfl ?_
    exact hK _
theorem d_W_2058 : decode code 2058 = .ok (.aload_n 1, 1) := by decide +kernel
theorem d_W_2059 : decode code 2059 = .ok (.aload_n 0, 1) := by decide +kernel
theorem d_W_2060 : decode code 2060 = .ok (.iload 5, 2) := by decide +kernel
theorem d_W_2062 : decode code 2062 = .ok (.iconst 1, 1) := by decide +kernel
theorem d_W_2063 : decode code 2063 = .ok (.iadd, 1) := by decide +kernel
theorem d_W_2064 : decode code 2064 = .ok (.iaload, 1) := by decide +kernel
theorem d_W_2065 : decode code 2065 = .ok (.aload_n 3, 1) := by decide +kernel
theorem d_W_2066 : decode code 2066 = .ok (.invokestatic 308, 3) := by decide +kernel
theorem d_W_2069 : decode code 2069 = .ok (.istore 6, 2) := by decide +kernel
theorem d_W_2071 : decode code 2071 = .ok (.aload_n 2, 1) := by decide +kernel
theorem d_W_2072 : decode code 2072 = .ok (.aload_n 0, 1) := by decide +kernel
theorem d_W_2073 : decode code 2073 = .ok (.iload 5, 2) := by decide +kernel
theorem d_W_2075 : decode code 2075 = .ok (.iconst 1, 1) := by decide +kernel
theorem d_W_2076 : decode code 2076 = .ok (.iadd, 1) := by decide +kernel
theorem d_W_2077 : decode code 2077 = .ok (.iaload, 1) := by decide +kernel
theorem d_W_2078 : decode code 2078 = .ok (.invokevirtual 310, 3) := by decide +kernel
theorem d_W_2081 : decode code 2081 = .ok (.istore 7, 2) := by decide +kernel
theorem d_W_2083 : decode code 2083 = .ok (.aload_n 2, 1) := by decide +kernel
theorem d_W_2084 : decode code 2084 = .ok (.invokevirtual 106, 3) := by decide +kernel
theorem d_W_2087 : decode code 2087 = .ok (.iload 6, 2) := by decide +kernel
theorem d_W_2089 : decode code 2089 = .ok (.if_icmp .eq 5, 3) := by decide +kernel
theorem d_W_2094 : decode code 2094 = .ok (.iload 6, 2) := by decide +kernel
theorem d_W_2096 : decode code 2096 = .ok (.ifCond .ne 15, 3) := by decide +kernel
theorem d_W_2099 : decode code 2099 = .ok (.aload_n 3, 1) := by decide +kernel
theorem d_W_2100 : decode code 2100 = .ok (.iconst 0, 1) := by decide +kernel
theorem d_W_2101 : decode code 2101 = .ok (.laload, 1) := by decide +kernel
theorem d_W_2102 : decode code 2102 = .ok (.iload 7, 2) := by decide +kernel
theorem d_W_2104 : decode code 2104 = .ok (.i2l, 1) := by decide +kernel
theorem d_W_2105 : decode code 2105 = .ok (.lcmp, 1) := by decide +kernel
theorem d_W_2106 : decode code 2106 = .ok (.ifCond .eq 5, 3) := by decide +kernel
theorem d_W_2111 : decode code 2111 = .ok (.goto 184, 3) := by decide +kernel
theorem cs_L_308 : CSH "KiteLoggerLaw" 308 y_L_runScript b_L_runScript 4 [(0, 9, 12, 13)] 3 := ⟨TT_in (i := 1247) (by decide +kernel) (by decide +kernel), TT_in (i := 1248) (by decide +kernel) (by decide +kernel), TT_in (i := 87) (by decide +kernel) (by decide +kernel), TT_in (i := 1249) (by decide +kernel) (by decide +kernel), ⟨by decide +kernel, by decide +kernel, by decide +kernel⟩⟩
theorem cc_L_310 : CV "KiteLoggerLaw" 310 y_M_runScript b_M_runScript 3 (some .int) 1 := ⟨TT_in (i := 1940) (by decide +kernel) (by decide +kernel), TT_in (i := 1941) (by decide +kernel) (by decide +kernel), TT_in (i := 1942) (by decide +kernel) (by decide +kernel), TT_in (i := 100) (by decide +kernel) (by decide +kernel), TT_in (i := 1943) (by decide +kernel) (by decide +kernel), ⟨by decide +kernel, by decide +kernel, by decide +kernel⟩⟩
set_option maxHeartbeats 4000000 in
set_option maxRecDepth 100000 in
theorem k_55 (l : Launch) (hst : l.stackTraces = false) (N : Nat) {p : Program} {e : Env} {s : State} {m : MethodId} {args : Array Value} {below : List Frame} {meth : Method} {c : Code} {w : Wc} {k n b Lx ii : Nat} {xs : Nat → Int32} {Qf : Unit → State → Prop} {K : Mem → Option Unit} (g : Gd p s m args meth c w 10 code "KiteLoggerLaw") (hnc : va_Nc exS exI s) (hw : WL w) (hX : LX s w b Lx xs) (hii : ii + 6 ≤ Lx) (hC0 : k ≤ room_1.cells ∧ n ≤ room_1.slots) (hC1 : k + 1 ≤ room_1.cells ∧ n + 6 ≤ room_1.slots) (hK : ∀ M, Go p l e room_1 s m args below meth c w 10 (k + 1) (n + 6) Qf (K M) 2295 (LL w b ii) [] M) (M : Mem) : Go p l e room_1 s m args below meth c w 10 k n Qf  (bnd (lwW [(0, 1)] (f_G_runScript N 146 (xs (ii + 1)) M)) fun x1 M1 => bnd (f_M_runScript N 146 (xs (ii + 1)) M1) fun x2 M2 => bnd (f_M_thrown M2) fun x3 M3 => if x3 = x1 ∧ (x1 = 0 → M3 156 0 = x2) then K M3 else none) 2058 (LL w b ii) [] M := by
  refine G_aload_n g (pc := 2058) 1 d_W_2058 rfl rfl ?_
  refine G_arg g (pc := 2059) hX (j := 1) (j0 := 0) (j5 := 5) hii (by decide) rfl rfl d_W_2059 d_W_2060 d_W_2062 rfl d_W_2063 d_W_2064 ?_
  refine G_aload_n g (pc := 2065) 3 d_W_2065 rfl rfl ?_
  refine G_cSH g hnc (pc := 2066) (As := [.ref (wad w 0), .int (xs (ii + 1)), .ref (wad w 156)]) (st := []) cs_L_308 (c_L_runScript l hst N hw (xs (ii + 1)) M) rfl ⟨(Nat.le_of_ble_eq_true rfl), (Nat.le_of_ble_eq_true rfl)⟩ hC1 (Nat.le_of_ble_eq_true rfl) d_W_2066 (fun x1 M1 => ?_)
  refine G_istore g (pc := 2069) _ d_W_2069 (Nat.le_of_ble_eq_true rfl) rfl ?_
  refine G_aload_n g (pc := 2071) 3 d_W_2071 rfl rfl ?_
  refine G_arg g (pc := 2072) hX (j := 1) (j0 := 1) (j5 := 6) hii (by decide) rfl rfl d_W_2072 d_W_2073 d_W_2075 rfl d_W_2076 d_W_2077 ?_
  refine G_cVI g (pc := 2078) (As := [.int (xs (ii + 1))]) (st := []) cc_L_310 (c_M_runScript l N hw.2.1 (xs (ii + 1)) M1) (hw.2.1.mm 145 (Nat.le_of_ble_eq_true rfl) (Nat.le_of_ble_eq_true rfl)) (hw.1.k rfl) rfl (by decide) rfl ⟨(Nat.le_of_ble_eq_true rfl), (Nat.le_of_ble_eq_true rfl)⟩ hC1 (Nat.le_of_ble_eq_true rfl) d_W_2078 (fun x2 M2 => ?_)
  refine G_istore g (pc := 2081) _ d_W_2081 (Nat.le_of_ble_eq_true rfl) rfl ?_
  refine G_aload_n g (pc := 2083) 4 d_W_2083 rfl rfl ?_
  refine G_cVI g (pc := 2084) (As := []) (st := []) cc_L_106 (c_M_thrown l hw.2.1 M2) (hw.2.1.mm 145 (Nat.le_of_ble_eq_true rfl) (Nat.le_of_ble_eq_true rfl)) (hw.1.k rfl) rfl (by decide) rfl ⟨(Nat.le_of_ble_eq_true rfl), (Nat.le_of_ble_eq_true rfl)⟩ hC1 (Nat.le_of_ble_eq_true rfl) d_W_2084 (fun x3 M3 => ?_)
  refine Go.ite (fun h12 => ?_)
  refine G_iload g (pc := 2087) 1 d_W_2087 rfl ?_
  refine H_cmpeq g (pc := 2089) 2094 d_W_2089 (by decide) h12.1 ?_
  refine G_iload g (pc := 2094) 1 d_W_2094 rfl ?_
  refine H_ifne g (pc := 2096) 2111 d_W_2096 (by decide) (fun h0 => ?_) (fun h0 => ?_)
  · refine G_goto g (pc := 2111) 2295 d_W_2111 (by decide) ?_
    refine G_sub [2, 3, 4, 5, 6, 7] _ rfl ?_
    exact hK _
  · refine G_aload_n g (pc := 2099) 5 d_W_2099 rfl rfl ?_
    refine G_iconst g (pc := 2100) (0 : Int32) d_W_2100 rfl ?_
    refine G_lald0 g (pc := 2101) hw.2.2.1 (hw.1.k rfl) d_W_2101 ?_
    refine G_iload g (pc := 2102) 0 d_W_2102 rfl ?_
    refine G_i2l g (pc := 2104) d_W_2104 ?_
    refine G_lcmp g (pc := 2105) (congrArg Int32.toInt64 (h12.2 h0)) d_W_2105 ?_
    refine H_ifeq g (pc := 2106) 2111 d_W_2106 (by decide) (fun _ => ?_) (fun h9 => Go.no (h9 rfl))
    refine G_goto g (pc := 2111) 2295 d_W_2111 (by decide) ?_
    refine G_sub [2, 3, 4, 5, 6, 7] _ rfl ?_
    exact hK _
