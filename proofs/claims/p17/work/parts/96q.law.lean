theorem dL_law_1584 : decode cL_law 1584 = .ok (.aload_n 1, 1) := by decide +kernel
theorem dL_law_1585 : decode cL_law 1585 = .ok (.aload_n 0, 1) := by decide +kernel
theorem dL_law_1586 : decode cL_law 1586 = .ok (.iload_n 3, 1) := by decide +kernel
theorem dL_law_1587 : decode cL_law 1587 = .ok (.iconst 1, 1) := by decide +kernel
theorem dL_law_1588 : decode cL_law 1588 = .ok (.iadd, 1) := by decide +kernel
theorem dL_law_1589 : decode cL_law 1589 = .ok (.iaload, 1) := by decide +kernel
theorem dL_law_1590 : decode cL_law 1590 = .ok (.aload_n 0, 1) := by decide +kernel
theorem dL_law_1591 : decode cL_law 1591 = .ok (.iload_n 3, 1) := by decide +kernel
theorem dL_law_1592 : decode cL_law 1592 = .ok (.iconst 2, 1) := by decide +kernel
theorem dL_law_1593 : decode cL_law 1593 = .ok (.iadd, 1) := by decide +kernel
theorem dL_law_1594 : decode cL_law 1594 = .ok (.iaload, 1) := by decide +kernel
theorem dL_law_1595 : decode cL_law 1595 = .ok (.aload_n 0, 1) := by decide +kernel
theorem dL_law_1596 : decode cL_law 1596 = .ok (.iload_n 3, 1) := by decide +kernel
theorem dL_law_1597 : decode cL_law 1597 = .ok (.iconst 3, 1) := by decide +kernel
theorem dL_law_1598 : decode cL_law 1598 = .ok (.iadd, 1) := by decide +kernel
theorem dL_law_1599 : decode cL_law 1599 = .ok (.iaload, 1) := by decide +kernel
theorem dL_law_1600 : decode cL_law 1600 = .ok (.i2l, 1) := by decide +kernel
theorem dL_law_1601 : decode cL_law 1601 = .ok (.bipush 32, 2) := by decide +kernel
theorem dL_law_1603 : decode cL_law 1603 = .ok (.lshl, 1) := by decide +kernel
theorem dL_law_1604 : decode cL_law 1604 = .ok (.aload_n 0, 1) := by decide +kernel
theorem dL_law_1605 : decode cL_law 1605 = .ok (.iload_n 3, 1) := by decide +kernel
theorem dL_law_1606 : decode cL_law 1606 = .ok (.iconst 4, 1) := by decide +kernel
theorem dL_law_1607 : decode cL_law 1607 = .ok (.iadd, 1) := by decide +kernel
theorem dL_law_1608 : decode cL_law 1608 = .ok (.iaload, 1) := by decide +kernel
theorem dL_law_1609 : decode cL_law 1609 = .ok (.i2l, 1) := by decide +kernel
theorem dL_law_1610 : decode cL_law 1610 = .ok (.ldc2_w 140, 3) := by decide +kernel
theorem dL_law_1613 : decode cL_law 1613 = .ok (.land, 1) := by decide +kernel
theorem dL_law_1614 : decode cL_law 1614 = .ok (.lor, 1) := by decide +kernel
theorem dL_law_1615 : decode cL_law 1615 = .ok (.aload_n 0, 1) := by decide +kernel
theorem dL_law_1616 : decode cL_law 1616 = .ok (.iload_n 3, 1) := by decide +kernel
theorem dL_law_1617 : decode cL_law 1617 = .ok (.iconst 5, 1) := by decide +kernel
theorem dL_law_1618 : decode cL_law 1618 = .ok (.iadd, 1) := by decide +kernel
theorem dL_law_1619 : decode cL_law 1619 = .ok (.iaload, 1) := by decide +kernel
theorem dL_law_1620 : decode cL_law 1620 = .ok (.i2l, 1) := by decide +kernel
theorem dL_law_1621 : decode cL_law 1621 = .ok (.bipush 32, 2) := by decide +kernel
theorem dL_law_1623 : decode cL_law 1623 = .ok (.lshl, 1) := by decide +kernel
theorem dL_law_1624 : decode cL_law 1624 = .ok (.aload_n 0, 1) := by decide +kernel
theorem dL_law_1625 : decode cL_law 1625 = .ok (.iload_n 3, 1) := by decide +kernel
theorem dL_law_1626 : decode cL_law 1626 = .ok (.bipush 6, 2) := by decide +kernel
theorem dL_law_1628 : decode cL_law 1628 = .ok (.iadd, 1) := by decide +kernel
theorem dL_law_1629 : decode cL_law 1629 = .ok (.iaload, 1) := by decide +kernel
theorem dL_law_1630 : decode cL_law 1630 = .ok (.i2l, 1) := by decide +kernel
theorem dL_law_1631 : decode cL_law 1631 = .ok (.ldc2_w 140, 3) := by decide +kernel
theorem dL_law_1634 : decode cL_law 1634 = .ok (.land, 1) := by decide +kernel
theorem dL_law_1635 : decode cL_law 1635 = .ok (.lor, 1) := by decide +kernel
theorem dL_law_1636 : decode cL_law 1636 = .ok (.invokevirtual 161, 3) := by decide +kernel
theorem dL_law_1639 : decode cL_law 1639 = .ok (.pop, 1) := by decide +kernel
theorem dL_law_1640 : decode cL_law 1640 = .ok (.aload_n 2, 1) := by decide +kernel
theorem dL_law_1641 : decode cL_law 1641 = .ok (.aload_n 0, 1) := by decide +kernel
theorem dL_law_1642 : decode cL_law 1642 = .ok (.iload_n 3, 1) := by decide +kernel
theorem dL_law_1643 : decode cL_law 1643 = .ok (.iconst 1, 1) := by decide +kernel
theorem dL_law_1644 : decode cL_law 1644 = .ok (.iadd, 1) := by decide +kernel
theorem dL_law_1645 : decode cL_law 1645 = .ok (.iaload, 1) := by decide +kernel
theorem dL_law_1646 : decode cL_law 1646 = .ok (.aload_n 0, 1) := by decide +kernel
theorem dL_law_1647 : decode cL_law 1647 = .ok (.iload_n 3, 1) := by decide +kernel
theorem dL_law_1648 : decode cL_law 1648 = .ok (.iconst 2, 1) := by decide +kernel
theorem dL_law_1649 : decode cL_law 1649 = .ok (.iadd, 1) := by decide +kernel
theorem dL_law_1650 : decode cL_law 1650 = .ok (.iaload, 1) := by decide +kernel
theorem dL_law_1651 : decode cL_law 1651 = .ok (.aload_n 0, 1) := by decide +kernel
theorem dL_law_1652 : decode cL_law 1652 = .ok (.iload_n 3, 1) := by decide +kernel
theorem dL_law_1653 : decode cL_law 1653 = .ok (.iconst 3, 1) := by decide +kernel
theorem dL_law_1654 : decode cL_law 1654 = .ok (.iadd, 1) := by decide +kernel
theorem dL_law_1655 : decode cL_law 1655 = .ok (.iaload, 1) := by decide +kernel
theorem dL_law_1656 : decode cL_law 1656 = .ok (.i2l, 1) := by decide +kernel
theorem dL_law_1657 : decode cL_law 1657 = .ok (.bipush 32, 2) := by decide +kernel
theorem dL_law_1659 : decode cL_law 1659 = .ok (.lshl, 1) := by decide +kernel
theorem dL_law_1660 : decode cL_law 1660 = .ok (.aload_n 0, 1) := by decide +kernel
theorem dL_law_1661 : decode cL_law 1661 = .ok (.iload_n 3, 1) := by decide +kernel
theorem dL_law_1662 : decode cL_law 1662 = .ok (.iconst 4, 1) := by decide +kernel
theorem dL_law_1663 : decode cL_law 1663 = .ok (.iadd, 1) := by decide +kernel
theorem dL_law_1664 : decode cL_law 1664 = .ok (.iaload, 1) := by decide +kernel
theorem dL_law_1665 : decode cL_law 1665 = .ok (.i2l, 1) := by decide +kernel
theorem dL_law_1666 : decode cL_law 1666 = .ok (.ldc2_w 140, 3) := by decide +kernel
theorem dL_law_1669 : decode cL_law 1669 = .ok (.land, 1) := by decide +kernel
theorem dL_law_1670 : decode cL_law 1670 = .ok (.lor, 1) := by decide +kernel
theorem dL_law_1671 : decode cL_law 1671 = .ok (.aload_n 0, 1) := by decide +kernel
theorem dL_law_1672 : decode cL_law 1672 = .ok (.iload_n 3, 1) := by decide +kernel
theorem dL_law_1673 : decode cL_law 1673 = .ok (.iconst 5, 1) := by decide +kernel
theorem dL_law_1674 : decode cL_law 1674 = .ok (.iadd, 1) := by decide +kernel
theorem dL_law_1675 : decode cL_law 1675 = .ok (.iaload, 1) := by decide +kernel
theorem dL_law_1676 : decode cL_law 1676 = .ok (.i2l, 1) := by decide +kernel
theorem dL_law_1677 : decode cL_law 1677 = .ok (.bipush 32, 2) := by decide +kernel
theorem dL_law_1679 : decode cL_law 1679 = .ok (.lshl, 1) := by decide +kernel
theorem dL_law_1680 : decode cL_law 1680 = .ok (.aload_n 0, 1) := by decide +kernel
theorem dL_law_1681 : decode cL_law 1681 = .ok (.iload_n 3, 1) := by decide +kernel
theorem dL_law_1682 : decode cL_law 1682 = .ok (.bipush 6, 2) := by decide +kernel
theorem dL_law_1684 : decode cL_law 1684 = .ok (.iadd, 1) := by decide +kernel
theorem dL_law_1685 : decode cL_law 1685 = .ok (.iaload, 1) := by decide +kernel
theorem dL_law_1686 : decode cL_law 1686 = .ok (.i2l, 1) := by decide +kernel
theorem dL_law_1687 : decode cL_law 1687 = .ok (.ldc2_w 140, 3) := by decide +kernel
theorem dL_law_1690 : decode cL_law 1690 = .ok (.land, 1) := by decide +kernel
theorem dL_law_1691 : decode cL_law 1691 = .ok (.lor, 1) := by decide +kernel
theorem dL_law_1692 : decode cL_law 1692 = .ok (.invokevirtual 165, 3) := by decide +kernel
theorem dL_law_1695 : decode cL_law 1695 = .ok (.pop, 1) := by decide +kernel
theorem dL_law_1696 : decode cL_law 1696 = .ok (.goto 171, 3) := by decide +kernel
theorem hv_X12_hold : yX12_hold.cls = RX12 ∧ yX12_hold.cls ≠ "java/lang/invoke/MethodHandle" ∧ yX12_hold.cls ≠ "java/lang/invoke/VarHandle" ∧ (parseMethodDescriptor yX12_hold.desc).map (fun d => d.parameters.length) = some 4 := by decide +kernel
theorem hv_X13_hold : yX13_hold.cls = RX13 ∧ yX13_hold.cls ≠ "java/lang/invoke/MethodHandle" ∧ yX13_hold.cls ≠ "java/lang/invoke/VarHandle" ∧ (parseMethodDescriptor yX13_hold.desc).map (fun d => d.parameters.length) = some 4 := by decide +kernel
set_option maxRecDepth 40000 in
theorem lg_X12_hold : GoodIn lw_tbl (wsV RL 161 RX12 yX12_hold wsX12_hold) := goodIn_app (gl_cons ⟨lwt_3 _ (List.mem_of_getElem? (i := 123) rfl), by decide +kernel⟩ (gl_cons ⟨lwt_3 _ (List.mem_of_getElem? (i := 124) rfl), by decide +kernel⟩ (gl_cons ⟨lwt_3 _ (List.mem_of_getElem? (i := 125) rfl), by decide +kernel⟩ (gl_cons ⟨lwt_0 _ (List.mem_of_getElem? (i := 1) rfl), by decide +kernel⟩ gl_nil)))) lgg_X12_hold
set_option maxRecDepth 40000 in
theorem lg_X13_hold : GoodIn lw_tbl (wsV RL 165 RX13 yX13_hold wsX13_hold) := goodIn_app (gl_cons ⟨lwt_5 _ (List.mem_of_getElem? (i := 227) rfl), by decide +kernel⟩ (gl_cons ⟨lwt_5 _ (List.mem_of_getElem? (i := 228) rfl), by decide +kernel⟩ (gl_cons ⟨lwt_5 _ (List.mem_of_getElem? (i := 229) rfl), by decide +kernel⟩ (gl_cons ⟨lwt_0 _ (List.mem_of_getElem? (i := 11) rfl), by decide +kernel⟩ gl_nil)))) lgg_X13_hold
set_option maxHeartbeats 8000000 in
set_option maxRecDepth 100000 in
theorem law_c34 {p : Program} {e : Env} {s : State} {m : MethodId} {below : List Frame} {meth : Method} {c : Code} {l : Launch} {b L : Nat} {xs : Nat → Int32} (hL : L ≤ 3584) (C0 : lw_At p s m meth c b L xs) {D : va_G} {T : Nat → ClassId} {ad sa av : Nat → Nat} {ta : Nat} {A : Nat → Prop} (hA : ∀ q : Nat, s.heap.size ≤ q → A q) (hAf : ∀ q : Nat, A q → s.heap.size ≤ q) (hbA : ¬ A b) (hE0 : ekK D T s) (hV0 : evK ad sa av ta A s s.heap) {q1 q2 : Nat} {u v : Nat → Nat} {ii : Int32} (hii : 0 ≤ ii.toInt ∧ ii.toInt + 7 ≤ L) (K : lwK p l e s m below meth c b D T sa A q1 q2 u v ii) (c1 : Nat → Int32) (c2 : Nat → Nat → Int32) (c3 : Nat → Nat → Int64) (c4 : Nat → Nat → UInt32) (c5 : Nat → Nat → UInt64) (q : Nat → Int32) (vl wl : Int64) (rf : Nat → Nat → Int32) (rl : Nat → Nat → Int64) (rd : Nat → UInt64) {ls : Array Slot} {H : Heap} {locs : List Loc} {d0 : Drawn} (hd0 : s.drawn.sameBut d0 lw_cs) (hI : lwI c1 c2 c3 q rf rl) (hAg : (c1 3).toInt ≤ ii.toInt + 1) (hP : va_P D vwCl (lwW T sa q1 q2 u v c1 c2 c3 c4 c5 q vl wl rf rl rd) H) (hD : va_D A (lwW T sa q1 q2 u v c1 c2 c3 c4 c5 q vl wl rf rl rd)) (hS : va_S A s.heap H locs) (hl : lv_has ls 4 [(3, .int ii), (2, .ref q2), (1, .ref q1), (0, .ref b)]) : W p l e room_1 (s.setDrawn d0) m #[Value.ref b] below meth c H locs 95 6031 (lw_Z below #[Value.ref b] s) (F0 m 1584 ls []) := by
  obtain ⟨hx, hb, hr, hml, hown0, hts0, hX0, hbl, hlocks, hgv⟩ := id C0
  have hX : va_X b L xs (s.setDrawn d0) s.heap := hX0
  have hown0 : s.vm.findClass RL = some m.cls := hown0
  have hts := dr_words hts0 d0
  have hE : ekK D T (s.setDrawn d0) := ekK.same (u := s) rfl hE0
  have hown : (s.setDrawn d0).vm.findClass RL = some m.cls := hown0
  have hV : evK ad sa av ta A (s.setDrawn d0) (s.setDrawn d0).heap := evK.same (u := s) rfl hV0
  obtain ⟨hA1, hok, hokk, hA2, hokR, hB, hZ, hbg, hsz, hhd, hKb, hLa, hIm, hKl, hTa, hSh, hRF, hRC, hRB, hRH, hTf, hRK, hme, hmm, hgB, hHl⟩ := hI
  have hA1 : (0 ≤ (((c1 1) : Int32)).toInt ∧ (((c1 1) : Int32)).toInt ≤ 24) ∧ (0 ≤ (((c1 2) : Int32)).toInt ∧ (((c1 2) : Int32)).toInt ≤ 24) ∧ (0 ≤ (((c2 16 0) : Int32)).toInt ∧ (((c2 16 0) : Int32)).toInt ≤ 12) ∧ (0 ≤ (((c2 16 1) : Int32)).toInt ∧ (((c2 16 1) : Int32)).toInt ≤ 12) ∧ (0 ≤ (((c2 16 2) : Int32)).toInt ∧ (((c2 16 2) : Int32)).toInt ≤ 12) ∧ (0 ≤ (((c2 17 0) : Int32)).toInt ∧ (((c2 17 0) : Int32)).toInt ≤ 12) ∧ (0 ≤ (((c2 17 1) : Int32)).toInt ∧ (((c2 17 1) : Int32)).toInt ≤ 12) ∧ (0 ≤ (((c2 17 2) : Int32)).toInt ∧ (((c2 17 2) : Int32)).toInt ≤ 12) ∧ (0 ≤ (((c1 7) : Int32)).toInt ∧ (((c1 7) : Int32)).toInt ≤ 120) ∧ ((-1 ≤ (((c2 28 0) : Int32)).toInt ∧ (((c2 28 0) : Int32)).toInt ≤ 3) ∧ (0 ≤ (((c2 29 0) : Int32)).toInt ∧ (((c2 29 0) : Int32)).toInt ≤ 30)) ∧ ((-1 ≤ (((c2 28 1) : Int32)).toInt ∧ (((c2 28 1) : Int32)).toInt ≤ 3) ∧ (0 ≤ (((c2 29 1) : Int32)).toInt ∧ (((c2 29 1) : Int32)).toInt ≤ 30)) ∧ ((-1 ≤ (((c2 28 2) : Int32)).toInt ∧ (((c2 28 2) : Int32)).toInt ≤ 3) ∧ (0 ≤ (((c2 29 2) : Int32)).toInt ∧ (((c2 29 2) : Int32)).toInt ≤ 30)) ∧ ((-1 ≤ (((c2 28 3) : Int32)).toInt ∧ (((c2 28 3) : Int32)).toInt ≤ 3) ∧ (0 ≤ (((c2 29 3) : Int32)).toInt ∧ (((c2 29 3) : Int32)).toInt ≤ 30)) := hA1
  have hok : okC (c2 2) (c2 4) (c2 5) (c2 6) := hok
  have hokk : okC (c2 9) (c2 11) (c2 12) (c2 13) := hokk
  have hA2 : (0 ≤ (((q 7) : Int32)).toInt ∧ (((q 7) : Int32)).toInt ≤ 24) ∧ ((1 ≤ (((q 4) : Int32)).toInt ∧ (((q 4) : Int32)).toInt ≤ 9) ∧ (1 ≤ (((q 6) : Int32)).toInt ∧ (((q 6) : Int32)).toInt ≤ 9)) ∧ (0 ≤ (((q 26) : Int32)).toInt ∧ (((q 26) : Int32)).toInt ≤ 120) := hA2
  have hokR : okR (rf 8) (rf 10) (rf 11) := hokR
  have hB : isB (q 14) := hB
  have hZ : ∀ j : Nat, isB ((rf 22) j) := hZ
  have hbg : ∀ k : Nat, k < 3 → 0 ≤ ((rf 13) k).toInt ∧ ((rf 13) k).toInt ≤ 12 := hbg
  have hsz : ∀ k : Nat, k < 4 → 0 ≤ ((rf 35) k).toInt ∧ ((rf 35) k).toInt ≤ 30 := hsz
  have hhd : ∀ k : Nat, k < 4 → ((rf 38) k).toInt = 2 → 1 ≤ ((rl 40) k).toInt := hhd
  have hKb : ¬ ((q 41) : Int32).toInt = 0 → okK (rf 42) := hKb
  have hLa : ((c2 0 0) : Int32) = (q 0) ∧ ((c2 0 1) : Int32) = (q 1) ∧ ((c2 0 2) : Int32) = (q 2) ∧ ((c2 0 3) : Int32) = (q 3) ∧ ((c2 0 4) : Int32) = (q 4) ∧ ((c2 0 5) : Int32) = (q 5) ∧ ((c2 0 6) : Int32) = (q 6) := hLa
  have hIm : ((c1 0) : Int32) = (q 41) := hIm
  have hKl : ¬ ((q 41) : Int32).toInt = 0 → ((c2 1 0) : Int32) = (rf 42) 0 ∧ ((c2 1 1) : Int32) = (rf 42) 1 ∧ ((c2 1 2) : Int32) = (rf 42) 2 ∧ ((c2 1 3) : Int32) = (rf 42) 3 ∧ ((c2 1 4) : Int32) = (rf 42) 4 ∧ ((c2 1 5) : Int32) = (rf 42) 5 ∧ ((c2 1 6) : Int32) = (rf 42) 6 := hKl
  have hTa : ((c1 7) : Int32) = (q 26) := hTa
  have hSh : ∀ k : Nat, k < 4 → ((c2 28) k).toInt = ((rf 34) k).toInt ∧ (0 ≤ ((c2 28) k).toInt → ((c2 29) k).toInt = ((rf 35) k).toInt) := hSh
  have hRF : rlF (c2 34) (c3 7) (c3 8) (rl 39) (rl 40) := hRF
  have hRC : rlC (c1 1) (c2 2) (c2 3) (c2 4) (c2 5) (rfA (q 7) (rf 8) (rf 9) (rf 10) (rf 11)) := hRC
  have hRB : rlB (c2 16) (fun k => [(c2 18), (c2 19), (c2 20)].getD k (c2 18)) (rf 13) (rf 12) := hRB
  have hRH : rlH (c2 34) (c2 35) (rf 38) (rl 39) := hRH
  have hTf : (c2 25) = (rf 25) := hTf
  have hRK : ¬ ((q 41) : Int32).toInt = 0 → rlK (c1 2) (c2 9) (c2 10) (c2 11) (c2 12) (c2 17) (fun k => [(c2 21), (c2 22), (c2 23)].getD k (c2 21)) (rf 42) := hRK
  have hme : ∀ j : Nat, (j : Int) < ((c1 1) : Int32).toInt → mesP (c2 2) (c2 3) (c2 4) (c2 5) (c2 6) (c2 7) (c2 8) j := hme
  have hmm : memW (VALW (fun k => [(c2 0 0), (c2 0 1), (c2 0 2), (c2 0 3), (c2 0 4), (c2 0 5), (c2 0 6)].getD k 0) (c2 2) (c2 3) (c2 4) (c2 5) (c2 6)) ((c1 1) : Int32) ((c1 3) : Int32) (c3 0) (c3 1) (c2 24) := hmm
  have hgB : ∀ j : Nat, j < 672 → ((c2 24) j).toInt ≤ ((c1 3) : Int32).toInt := hgB
  have hHl : ∀ k : Nat, k < 4 → ((rf 38) k).toInt = 2 → lowW ((rl 39) k, (rl 40) k) := hHl
  have hok0 := hok
  have hme0 := hme
  have hlq : (1 ≤ ((c2 0 4) : Int32).toInt ∧ ((c2 0 4) : Int32).toInt ≤ 9) ∧ 1 ≤ ((c2 0 6) : Int32).toInt ∧ ((c2 0 6) : Int32).toInt ≤ 9 := by rw [hLa.2.2.2.2.1, hLa.2.2.2.2.2.2]; exact hA2.2.1
  have hag5 : (c1 3).toInt ≤ 5000 := by omega
  have hi_1 : (ii + 1).toInt = ii.toInt + 1 := hin_1 hL hii
  have hi_2 : (ii + 2).toInt = ii.toInt + 2 := hin_2 hL hii
  have hi_3 : (ii + 3).toInt = ii.toInt + 3 := hin_3 hL hii
  have hi_4 : (ii + 4).toInt = ii.toInt + 4 := hin_4 hL hii
  have hi_5 : (ii + 5).toInt = ii.toInt + 5 := hin_5 hL hii
  have hi_6 : (ii + 6).toInt = ii.toInt + 6 := hin_6 hL hii
  refine lv_aload_n hx hb dL_law_1584 rfl (lv_at hl 2 rfl) ?_
  refine lv_aload_n hx hb dL_law_1585 rfl (lv_at hl 3 rfl) ?_
  refine lv_iload_n hx hb dL_law_1586 rfl (lv_at hl 0 rfl) ?_
  refine lv_iconst (v := 1) hx hb dL_law_1587 (by decide +kernel) ?_
  refine lv_iadd hx hb dL_law_1588 ?_
  refine va_sld hx hb hX hbl hbA hS (vin_1 hL hii) dL_law_1589 ?_
  refine lv_topi (fun z_1 ez_1 => ?_)
  refine lv_aload_n hx hb dL_law_1590 rfl (lv_at hl 3 rfl) ?_
  refine lv_iload_n hx hb dL_law_1591 rfl (lv_at hl 0 rfl) ?_
  refine lv_iconst (v := 2) hx hb dL_law_1592 (by decide +kernel) ?_
  refine lv_iadd hx hb dL_law_1593 ?_
  refine va_sld hx hb hX hbl hbA hS (vin_2 hL hii) dL_law_1594 ?_
  refine lv_topi (fun z_2 ez_2 => ?_)
  refine lv_aload_n hx hb dL_law_1595 rfl (lv_at hl 3 rfl) ?_
  refine lv_iload_n hx hb dL_law_1596 rfl (lv_at hl 0 rfl) ?_
  refine lv_iconst (v := 3) hx hb dL_law_1597 (by decide +kernel) ?_
  refine lv_iadd hx hb dL_law_1598 ?_
  refine va_sld hx hb hX hbl hbA hS (vin_3 hL hii) dL_law_1599 ?_
  refine lv_topi (fun z_3 ez_3 => ?_)
  refine lv_i2l hx hb dL_law_1600 rfl ?_
  refine lv_bipush (v := 32) hx hb dL_law_1601 (by decide +kernel) ?_
  refine lv_lshl (v := ((z_3.toInt64) <<< ((32 : Int32).toInt64 &&& 63))) hx hb dL_law_1603 rfl ?_
  refine lv_aload_n hx hb dL_law_1604 rfl (lv_at hl 3 rfl) ?_
  refine lv_iload_n hx hb dL_law_1605 rfl (lv_at hl 0 rfl) ?_
  refine lv_iconst (v := 4) hx hb dL_law_1606 (by decide +kernel) ?_
  refine lv_iadd hx hb dL_law_1607 ?_
  refine va_sld hx hb hX hbl hbA hS (vin_4 hL hii) dL_law_1608 ?_
  refine lv_topi (fun z_4 ez_4 => ?_)
  refine lv_i2l hx hb dL_law_1609 rfl ?_
  refine lv_ldc2 (v := 4294967295) hx hb hown (hts (.constantLong RL 140 (4294967295)) (lwt_6 _ (List.mem_of_getElem? (i := 38) rfl))) dL_law_1610 ?_
  refine lv_land hx hb dL_law_1613 ?_
  refine lv_lor hx hb dL_law_1614 ?_
  refine lv_aload_n hx hb dL_law_1615 rfl (lv_at hl 3 rfl) ?_
  refine lv_iload_n hx hb dL_law_1616 rfl (lv_at hl 0 rfl) ?_
  refine lv_iconst (v := 5) hx hb dL_law_1617 (by decide +kernel) ?_
  refine lv_iadd hx hb dL_law_1618 ?_
  refine va_sld hx hb hX hbl hbA hS (vin_5 hL hii) dL_law_1619 ?_
  refine lv_topi (fun z_5 ez_5 => ?_)
  refine lv_i2l hx hb dL_law_1620 rfl ?_
  refine lv_bipush (v := 32) hx hb dL_law_1621 (by decide +kernel) ?_
  refine lv_lshl (v := ((z_5.toInt64) <<< ((32 : Int32).toInt64 &&& 63))) hx hb dL_law_1623 rfl ?_
  refine lv_aload_n hx hb dL_law_1624 rfl (lv_at hl 3 rfl) ?_
  refine lv_iload_n hx hb dL_law_1625 rfl (lv_at hl 0 rfl) ?_
  refine lv_bipush (v := 6) hx hb dL_law_1626 (by decide +kernel) ?_
  refine lv_iadd hx hb dL_law_1628 ?_
  refine va_sld hx hb hX hbl hbA hS (vin_6 hL hii) dL_law_1629 ?_
  refine lv_topi (fun z_6 ez_6 => ?_)
  refine lv_i2l hx hb dL_law_1630 rfl ?_
  refine lv_ldc2 (v := 4294967295) hx hb hown (hts (.constantLong RL 140 (4294967295)) (lwt_6 _ (List.mem_of_getElem? (i := 38) rfl))) dL_law_1631 ?_
  refine lv_land hx hb dL_law_1634 ?_
  refine lv_lor hx hb dL_law_1635 ?_
  have hFc := va_free (wc := [(q1, .inr (9, [.ref (u 0), .ref (u 1), .int (c1 0), .ref (u 2), .ref (u 3), .ref (u 11), .ref (u 34), .ref (u 38), .ref (u 40), .ref (u 44), .ref (u 65)])), ((u 3), .inr (1, [.int (c1 1), .ref (u 4), .ref (u 5), .ref (u 6), .ref (u 7), .ref (u 8), .ref (u 9), .ref (u 10)])), ((u 34), .inr (8, [.ref (u 2), .ref (u 3), .ref (u 35), .ref (u 36), .ref (u 37), .int (c1 3)])), ((u 35), .inl (T 1, 676, .inr (.inl (c3 0)))), ((u 36), .inl (T 1, 676, .inr (.inl (c3 1)))), ((u 65), .inl (T 7, 4, .inr (.inr (.inr (.inr (va_up (va_up (va_up (va_up (fun _ => none) 0 (some (u 66))) 1 (some (u 67))) 2 (some (u 68))) 3 (some (u 69)))))))), ((u 66), .inr (3, [.int (c2 34 0), .int (c2 35 0), .long (c3 7 0), .long (c3 8 0)])), ((u 67), .inr (3, [.int (c2 34 1), .int (c2 35 1), .long (c3 7 1), .long (c3 8 1)])), ((u 68), .inr (3, [.int (c2 34 2), .int (c2 35 2), .long (c3 7 2), .long (c3 8 2)])), ((u 69), .inr (3, [.int (c2 34 3), .int (c2 35 3), .long (c3 7 3), .long (c3 8 3)]))]) hD hS hA [0, 3, 35, 36, 37, 66, 67, 68, 69, 70] rfl
  refine va_calli (va_runV (As := [.int z_1, .int z_2, .long (((z_3.toInt64) <<< ((32 : Int32).toInt64 &&& 63)) ||| ((z_4.toInt64) &&& 4294967295)), .long (((z_5.toInt64) <<< ((32 : Int32).toInt64 &&& 63)) ||| ((z_6.toInt64) &&& 4294967295))]) (rest := []) ⟨hx, hb, hml, hown, hts⟩ (c_X12_hold l D T _ q1 (u 3) (u 34) (u 65) (u 35) (u 36) [.ref (u 0), .ref (u 1), .int (c1 0), .ref (u 2), .ref (u 3), .ref (u 11), .ref (u 34), .ref (u 38), .ref (u 40), .ref (u 44), .ref (u 65)] [.int (c1 1), .ref (u 4), .ref (u 5), .ref (u 6), .ref (u 7), .ref (u 8), .ref (u 9), .ref (u 10)] (c1 1) (.ref (u 2)) (.ref (u 3)) (.ref (u 37)) (c1 3) (c3 0) (c3 1) (u 66) (u 67) (u 68) (u 69) (c2 34) (c2 35) (c3 7) (c3 8) z_1 z_2 (((z_3.toInt64) <<< ((32 : Int32).toInt64 &&& 63)) ||| ((z_4.toInt64) &&& 4294967295)) (((z_5.toInt64) <<< ((32 : Int32).toInt64 &&& 63)) ||| ((z_6.toInt64) &&& 4294967295)) rfl rfl rfl rfl) (cwV 4 hts lg_X12_hold rfl rfl rfl hv_X12_hold ⟨Nat.le_of_ble_eq_true rfl, Nat.le_of_ble_eq_true rfl⟩) (pW_V (q := (RX12, TX12, 11)) (ci := 9) (q0 := 0) hP hE hD rfl rfl [0, 3, 35, 36, 37, 66, 67, 68, 69, 70] (by decide +kernel) rfl rfl) rfl rfl hl.1 rfl (lv_room (Nat.le_of_ble_eq_true rfl)) dL_law_1636 ⟨Nat.le_of_ble_eq_true rfl, Nat.le_of_ble_eq_true rfl⟩) hS (fun q _ h => hFc q h) hFc (fun r_7 u_8 t H1 locs ht hvm hr_7 hB hz1 hk1 hS => ?_)
  obtain ⟨f_9, f_10, jz_11, jn_12, ja_13, jb_14⟩ := u_8
  have hPc : holdC (c1 1) z_1 z_2 r_7 (((z_3.toInt64) <<< ((32 : Int32).toInt64 &&& 63)) ||| ((z_4.toInt64) &&& 4294967295)) (((z_5.toInt64) <<< ((32 : Int32).toInt64 &&& 63)) ||| ((z_6.toInt64) &&& 4294967295)) (c2 34) (c2 35) jz_11 jn_12 := hr_7.1
  have hPf : holdF (c1 1) z_1 z_2 (((z_3.toInt64) <<< ((32 : Int32).toInt64 &&& 63)) ||| ((z_4.toInt64) &&& 4294967295)) (((z_5.toInt64) <<< ((32 : Int32).toInt64 &&& 63)) ||| ((z_6.toInt64) &&& 4294967295)) (c3 7) (c3 8) ja_13 jb_14 := hr_7.2.1
  have hSP : ∀ j : Nat, j < 672 → f_9 j = (c3 0) j ∧ f_10 j = (c3 1) j := hr_7.2.2
  obtain ⟨hP1, hD1⟩ := hB
  rw [ht] at hP1
  obtain ⟨hP, hD⟩ := va_repl [(q1, .inr (9, [.ref (u 0), .ref (u 1), .int (c1 0), .ref (u 2), .ref (u 3), .ref (u 11), .ref (u 34), .ref (u 38), .ref (u 40), .ref (u 44), .ref (u 65)])), ((u 0), .inr (4, [.ref (u 2), .ref (u 3), .ref (u 11)])), ((u 2), .inr (5, [.int (c2 0 0), .int (c2 0 1), .int (c2 0 2), .int (c2 0 3), .int (c2 0 4), .int (c2 0 5), .int (c2 0 6)])), ((u 3), .inr (1, [.int (c1 1), .ref (u 4), .ref (u 5), .ref (u 6), .ref (u 7), .ref (u 8), .ref (u 9), .ref (u 10)])), ((u 4), .inl (T 0, 24, .inl (c2 2))), ((u 5), .inl (T 0, 24, .inl (c2 3))), ((u 6), .inl (T 0, 24, .inl (c2 4))), ((u 7), .inl (T 0, 24, .inl (c2 5))), ((u 8), .inl (T 0, 24, .inl (c2 6))), ((u 9), .inl (T 0, 24, .inl (c2 7))), ((u 10), .inl (T 0, 24, .inl (c2 8))), ((u 11), .inl (T 5, 3, .inr (.inr (.inr (.inr (va_up (va_up (va_up (fun _ => none) 0 (some (u 12))) 1 (some (u 13))) 2 (some (u 14)))))))), ((u 12), .inr (0, [.int (c2 16 0), .ref (u 15)])), ((u 13), .inr (0, [.int (c2 16 1), .ref (u 16)])), ((u 14), .inr (0, [.int (c2 16 2), .ref (u 17)])), ((u 15), .inl (T 0, 12, .inl (c2 18))), ((u 16), .inl (T 0, 12, .inl (c2 19))), ((u 17), .inl (T 0, 12, .inl (c2 20))), ((u 1), .inr (4, [.ref (u 18), .ref (u 19), .ref (u 27)])), ((u 18), .inr (5, [.int (c2 1 0), .int (c2 1 1), .int (c2 1 2), .int (c2 1 3), .int (c2 1 4), .int (c2 1 5), .int (c2 1 6)])), ((u 19), .inr (1, [.int (c1 2), .ref (u 20), .ref (u 21), .ref (u 22), .ref (u 23), .ref (u 24), .ref (u 25), .ref (u 26)])), ((u 20), .inl (T 0, 24, .inl (c2 9))), ((u 21), .inl (T 0, 24, .inl (c2 10))), ((u 22), .inl (T 0, 24, .inl (c2 11))), ((u 23), .inl (T 0, 24, .inl (c2 12))), ((u 24), .inl (T 0, 24, .inl (c2 13))), ((u 25), .inl (T 0, 24, .inl (c2 14))), ((u 26), .inl (T 0, 24, .inl (c2 15))), ((u 27), .inl (T 5, 3, .inr (.inr (.inr (.inr (va_up (va_up (va_up (fun _ => none) 0 (some (u 28))) 1 (some (u 29))) 2 (some (u 30)))))))), ((u 28), .inr (0, [.int (c2 17 0), .ref (u 31)])), ((u 29), .inr (0, [.int (c2 17 1), .ref (u 32)])), ((u 30), .inr (0, [.int (c2 17 2), .ref (u 33)])), ((u 31), .inl (T 0, 12, .inl (c2 21))), ((u 32), .inl (T 0, 12, .inl (c2 22))), ((u 33), .inl (T 0, 12, .inl (c2 23))), ((u 34), .inr (8, [.ref (u 2), .ref (u 3), .ref (u 35), .ref (u 36), .ref (u 37), .int (c1 3)])), ((u 35), .inl (T 1, 676, .inr (.inl f_9))), ((u 36), .inl (T 1, 676, .inr (.inl f_10))), ((u 37), .inl (T 0, 672, .inl (c2 24))), ((u 38), .inr (2, [.ref (u 2), .ref (u 3), .ref (u 34), .ref (u 39), .int (c1 4), .int (c1 5), .int (c1 6)])), ((u 39), .inl (T 1, 7, .inr (.inl (c3 2)))), ((u 40), .inr (7, [.int (c1 7), .ref (u 41), .ref (u 42), .ref (u 43), .int (c1 8), .int (c1 9), .int (c1 10)])), ((u 41), .inl (T 0, 120, .inl (c2 25))), ((u 42), .inl (T 0, 24, .inl (c2 26))), ((u 43), .inl (T 0, 24, .inl (c2 27))), ((u 44), .inl (T 6, 4, .inr (.inr (.inr (.inr (va_up (va_up (va_up (va_up (fun _ => none) 0 (some (u 45))) 1 (some (u 46))) 2 (some (u 47))) 3 (some (u 48)))))))), ((u 45), .inr (6, [.int (c2 28 0), .int (c2 29 0), .ref (u 49), .ref (u 50), .ref (u 51), .ref (u 52)])), ((u 46), .inr (6, [.int (c2 28 1), .int (c2 29 1), .ref (u 53), .ref (u 54), .ref (u 55), .ref (u 56)])), ((u 47), .inr (6, [.int (c2 28 2), .int (c2 29 2), .ref (u 57), .ref (u 58), .ref (u 59), .ref (u 60)])), ((u 48), .inr (6, [.int (c2 28 3), .int (c2 29 3), .ref (u 61), .ref (u 62), .ref (u 63), .ref (u 64)])), ((u 49), .inl (T 0, 30, .inl (c2 30))), ((u 50), .inl (T 1, 30, .inr (.inl (c3 3)))), ((u 51), .inl (T 2, 30, .inr (.inr (.inl (c4 0))))), ((u 52), .inl (T 3, 30, .inr (.inr (.inr (.inl (c5 0)))))), ((u 53), .inl (T 0, 30, .inl (c2 31))), ((u 54), .inl (T 1, 30, .inr (.inl (c3 4)))), ((u 55), .inl (T 2, 30, .inr (.inr (.inl (c4 1))))), ((u 56), .inl (T 3, 30, .inr (.inr (.inr (.inl (c5 1)))))), ((u 57), .inl (T 0, 30, .inl (c2 32))), ((u 58), .inl (T 1, 30, .inr (.inl (c3 5)))), ((u 59), .inl (T 2, 30, .inr (.inr (.inl (c4 2))))), ((u 60), .inl (T 3, 30, .inr (.inr (.inr (.inl (c5 2)))))), ((u 61), .inl (T 0, 30, .inl (c2 33))), ((u 62), .inl (T 1, 30, .inr (.inl (c3 6)))), ((u 63), .inl (T 2, 30, .inr (.inr (.inl (c4 3))))), ((u 64), .inl (T 3, 30, .inr (.inr (.inr (.inl (c5 3)))))), ((u 65), .inl (T 7, 4, .inr (.inr (.inr (.inr (va_up (va_up (va_up (va_up (fun _ => none) 0 (some (u 66))) 1 (some (u 67))) 2 (some (u 68))) 3 (some (u 69)))))))), ((u 66), .inr (3, [.int (jz_11 0), .int (jn_12 0), .long (ja_13 0), .long (jb_14 0)])), ((u 67), .inr (3, [.int (jz_11 1), .int (jn_12 1), .long (ja_13 1), .long (jb_14 1)])), ((u 68), .inr (3, [.int (jz_11 2), .int (jn_12 2), .long (ja_13 2), .long (jb_14 2)])), ((u 69), .inr (3, [.int (jz_11 3), .int (jn_12 3), .long (ja_13 3), .long (jb_14 3)])), (q2, .inr (10, (Value.int (q 0) :: Value.int (q 1) :: Value.int (q 2) :: Value.int (q 3) :: Value.int (q 4) :: Value.int (q 5) :: Value.int (q 6) :: Value.int (q 7) :: Value.ref (v 8) :: Value.ref (v 9) :: Value.ref (v 10) :: Value.ref (v 11) :: Value.ref (v 12) :: Value.ref (v 13) :: Value.int (q 14) :: Value.long vl :: Value.long wl :: Value.ref (v 17) :: Value.ref (v 18) :: Value.ref (v 19) :: Value.ref (v 20) :: Value.ref (v 21) :: Value.ref (v 22) :: Value.ref (v 23) :: Value.int (q 24) :: Value.ref (v 25) :: Value.int (q 26) :: Value.ref (v 27) :: Value.int (q 28) :: Value.int (q 29) :: Value.int (q 30) :: Value.int (q 31) :: Value.int (q 32) :: Value.int (q 33) :: Value.ref (v 34) :: Value.ref (v 35) :: Value.ref (v 36) :: Value.ref (v 37) :: Value.ref (v 38) :: Value.ref (v 39) :: Value.ref (v 40) :: Value.int (q 41) :: Value.ref (v 42) :: Value.int (q 43) :: Value.int (q 44) :: []))), ((v 8), .inl (T 0, 24, .inl (rf 8))), ((v 9), .inl (T 0, 24, .inl (rf 9))), ((v 10), .inl (T 0, 24, .inl (rf 10))), ((v 11), .inl (T 0, 24, .inl (rf 11))), ((v 12), .inl (T 0, 36, .inl (rf 12))), ((v 13), .inl (T 0, 3, .inl (rf 13))), ((v 17), .inl (T 0, 24, .inl (rf 17))), ((v 18), .inl (T 0, 24, .inl (rf 18))), ((v 19), .inl (T 0, 24, .inl (rf 19))), ((v 20), .inl (T 1, 672, .inr (.inl (rl 20)))), ((v 21), .inl (T 1, 672, .inr (.inl (rl 21)))), ((v 22), .inl (T 4, 672, .inl (rf 22))), ((v 23), .inl (T 1, 7, .inr (.inl (rl 23)))), ((v 25), .inl (T 0, 120, .inl (rf 25))), ((v 27), .inl (T 8, 13, .inr (.inr (.inr (.inr (va_up (va_up (va_up (va_up (va_up (va_up (va_up (va_up (va_up (va_up (va_up (va_up (va_up (fun _ => none) 0 (some (sa 0))) 1 (some (sa 1))) 2 (some (sa 2))) 3 (some (sa 3))) 4 (some (sa 4))) 5 (some (sa 5))) 6 (some (sa 6))) 7 (some (sa 7))) 8 (some (sa 8))) 9 (some (sa 9))) 10 (some (sa 10))) 11 (some (sa 11))) 12 (some (sa 12)))))))), ((v 34), .inl (T 0, 4, .inl (rf 34))), ((v 35), .inl (T 0, 4, .inl (rf 35))), ((v 36), .inl (T 1, 120, .inr (.inl (rl 36)))), ((v 37), .inl (T 3, 120, .inr (.inr (.inr (.inl rd))))), ((v 38), .inl (T 0, 4, .inl (rf 38))), ((v 39), .inl (T 1, 4, .inr (.inl (rl 39)))), ((v 40), .inl (T 1, 4, .inr (.inl (rl 40)))), ((v 42), .inl (T 0, 143, .inl (rf 42)))] hP hD [0, 3, 35, 36, 37, 66, 67, 68, 69, 70] [0, 3, 35, 36, 37, 66, 67, 68, 69, 70] rfl (by decide +kernel) rfl rfl rfl hk1 hP1
  clear hP1 hD1 hFc
  generalize H1 = H at hP hS ⊢
  have hmm : memW (VALW (fun k => [(c2 0 0), (c2 0 1), (c2 0 2), (c2 0 3), (c2 0 4), (c2 0 5), (c2 0 6)].getD k 0) (c2 2) (c2 3) (c2 4) (c2 5) (c2 6)) ((c1 1) : Int32) ((c1 3) : Int32) f_9 f_10 (c2 24) := memW_lo hmm hSP
  refine lv_pop hx hb dL_law_1639 rfl ?_
  refine lv_aload_n hx hb dL_law_1640 rfl (lv_at hl 1 rfl) ?_
  refine lv_aload_n hx hb dL_law_1641 rfl (lv_at hl 3 rfl) ?_
  refine lv_iload_n hx hb dL_law_1642 rfl (lv_at hl 0 rfl) ?_
  refine lv_iconst (v := 1) hx hb dL_law_1643 (by decide +kernel) ?_
  refine lv_iadd hx hb dL_law_1644 ?_
  refine va_sld hx hb hX hbl hbA hS (vin_1 hL hii) dL_law_1645 ?_
  refine lv_topi (fun z_15 ez_15 => ?_)
  have hsz_15 : z_1 = z_15 := ez_1.trans ez_15.symm
  subst hsz_15
  refine lv_aload_n hx hb dL_law_1646 rfl (lv_at hl 3 rfl) ?_
  refine lv_iload_n hx hb dL_law_1647 rfl (lv_at hl 0 rfl) ?_
  refine lv_iconst (v := 2) hx hb dL_law_1648 (by decide +kernel) ?_
  refine lv_iadd hx hb dL_law_1649 ?_
  refine va_sld hx hb hX hbl hbA hS (vin_2 hL hii) dL_law_1650 ?_
  refine lv_topi (fun z_16 ez_16 => ?_)
  have hsz_16 : z_2 = z_16 := ez_2.trans ez_16.symm
  subst hsz_16
  refine lv_aload_n hx hb dL_law_1651 rfl (lv_at hl 3 rfl) ?_
  refine lv_iload_n hx hb dL_law_1652 rfl (lv_at hl 0 rfl) ?_
  refine lv_iconst (v := 3) hx hb dL_law_1653 (by decide +kernel) ?_
  refine lv_iadd hx hb dL_law_1654 ?_
  refine va_sld hx hb hX hbl hbA hS (vin_3 hL hii) dL_law_1655 ?_
  refine lv_topi (fun z_17 ez_17 => ?_)
  have hsz_17 : z_3 = z_17 := ez_3.trans ez_17.symm
  subst hsz_17
  refine lv_i2l hx hb dL_law_1656 rfl ?_
  refine lv_bipush (v := 32) hx hb dL_law_1657 (by decide +kernel) ?_
  refine lv_lshl (v := ((z_3.toInt64) <<< ((32 : Int32).toInt64 &&& 63))) hx hb dL_law_1659 rfl ?_
  refine lv_aload_n hx hb dL_law_1660 rfl (lv_at hl 3 rfl) ?_
  refine lv_iload_n hx hb dL_law_1661 rfl (lv_at hl 0 rfl) ?_
  refine lv_iconst (v := 4) hx hb dL_law_1662 (by decide +kernel) ?_
  refine lv_iadd hx hb dL_law_1663 ?_
  refine va_sld hx hb hX hbl hbA hS (vin_4 hL hii) dL_law_1664 ?_
  refine lv_topi (fun z_18 ez_18 => ?_)
  have hsz_18 : z_4 = z_18 := ez_4.trans ez_18.symm
  subst hsz_18
  refine lv_i2l hx hb dL_law_1665 rfl ?_
  refine lv_ldc2 (v := 4294967295) hx hb hown (hts (.constantLong RL 140 (4294967295)) (lwt_6 _ (List.mem_of_getElem? (i := 38) rfl))) dL_law_1666 ?_
  refine lv_land hx hb dL_law_1669 ?_
  refine lv_lor hx hb dL_law_1670 ?_
  refine lv_aload_n hx hb dL_law_1671 rfl (lv_at hl 3 rfl) ?_
  refine lv_iload_n hx hb dL_law_1672 rfl (lv_at hl 0 rfl) ?_
  refine lv_iconst (v := 5) hx hb dL_law_1673 (by decide +kernel) ?_
  refine lv_iadd hx hb dL_law_1674 ?_
  refine va_sld hx hb hX hbl hbA hS (vin_5 hL hii) dL_law_1675 ?_
  refine lv_topi (fun z_19 ez_19 => ?_)
  have hsz_19 : z_5 = z_19 := ez_5.trans ez_19.symm
  subst hsz_19
  refine lv_i2l hx hb dL_law_1676 rfl ?_
  refine lv_bipush (v := 32) hx hb dL_law_1677 (by decide +kernel) ?_
  refine lv_lshl (v := ((z_5.toInt64) <<< ((32 : Int32).toInt64 &&& 63))) hx hb dL_law_1679 rfl ?_
  refine lv_aload_n hx hb dL_law_1680 rfl (lv_at hl 3 rfl) ?_
  refine lv_iload_n hx hb dL_law_1681 rfl (lv_at hl 0 rfl) ?_
  refine lv_bipush (v := 6) hx hb dL_law_1682 (by decide +kernel) ?_
  refine lv_iadd hx hb dL_law_1684 ?_
  refine va_sld hx hb hX hbl hbA hS (vin_6 hL hii) dL_law_1685 ?_
  refine lv_topi (fun z_20 ez_20 => ?_)
  have hsz_20 : z_6 = z_20 := ez_6.trans ez_20.symm
  subst hsz_20
  refine lv_i2l hx hb dL_law_1686 rfl ?_
  refine lv_ldc2 (v := 4294967295) hx hb hown (hts (.constantLong RL 140 (4294967295)) (lwt_6 _ (List.mem_of_getElem? (i := 38) rfl))) dL_law_1687 ?_
  refine lv_land hx hb dL_law_1690 ?_
  refine lv_lor hx hb dL_law_1691 ?_
  have hFc := va_free (wc := [(q2, .inr (10, (Value.int (q 0) :: Value.int (q 1) :: Value.int (q 2) :: Value.int (q 3) :: Value.int (q 4) :: Value.int (q 5) :: Value.int (q 6) :: Value.int (q 7) :: Value.ref (v 8) :: Value.ref (v 9) :: Value.ref (v 10) :: Value.ref (v 11) :: Value.ref (v 12) :: Value.ref (v 13) :: Value.int (q 14) :: Value.long vl :: Value.long wl :: Value.ref (v 17) :: Value.ref (v 18) :: Value.ref (v 19) :: Value.ref (v 20) :: Value.ref (v 21) :: Value.ref (v 22) :: Value.ref (v 23) :: Value.int (q 24) :: Value.ref (v 25) :: Value.int (q 26) :: Value.ref (v 27) :: Value.int (q 28) :: Value.int (q 29) :: Value.int (q 30) :: Value.int (q 31) :: Value.int (q 32) :: Value.int (q 33) :: Value.ref (v 34) :: Value.ref (v 35) :: Value.ref (v 36) :: Value.ref (v 37) :: Value.ref (v 38) :: Value.ref (v 39) :: Value.ref (v 40) :: Value.int (q 41) :: Value.ref (v 42) :: Value.int (q 43) :: Value.int (q 44) :: []))), ((v 38), .inl (T 0, 4, .inl (rf 38))), ((v 39), .inl (T 1, 4, .inr (.inl (rl 39)))), ((v 40), .inl (T 1, 4, .inr (.inl (rl 40))))]) hD hS hA [71, 91, 92, 93] rfl
  refine va_calli (va_runV (As := [.int z_1, .int z_2, .long (((z_3.toInt64) <<< ((32 : Int32).toInt64 &&& 63)) ||| ((z_4.toInt64) &&& 4294967295)), .long (((z_5.toInt64) <<< ((32 : Int32).toInt64 &&& 63)) ||| ((z_6.toInt64) &&& 4294967295))]) (rest := []) ⟨hx, hb, hml, hown, hts⟩ (c_X13_hold l D T _ q2 q vl wl v (rf 38) (rl 39) (rl 40) z_1 z_2 (((z_3.toInt64) <<< ((32 : Int32).toInt64 &&& 63)) ||| ((z_4.toInt64) &&& 4294967295)) (((z_5.toInt64) <<< ((32 : Int32).toInt64 &&& 63)) ||| ((z_6.toInt64) &&& 4294967295)) (show 0 ≤ (q 7).toInt ∧ (q 7).toInt ≤ 24 from (by omega)) (show ∀ k : Nat, k < 4 → ((rf 38) k).toInt = 2 → 1 ≤ ((rl 40) k).toInt from hhd)) (cwV 4 hts lg_X13_hold rfl rfl rfl hv_X13_hold ⟨Nat.le_of_ble_eq_true rfl, Nat.le_of_ble_eq_true rfl⟩) (pW_V (q := (RX13, TX13, 45)) (ci := 10) (q0 := 71) hP hE hD rfl rfl [71, 91, 92, 93] (by decide +kernel) rfl rfl) rfl rfl hl.1 rfl (lv_room (Nat.le_of_ble_eq_true rfl)) dL_law_1692 ⟨Nat.le_of_ble_eq_true rfl, Nat.le_of_ble_eq_true rfl⟩) hS (fun q _ h => hFc q h) hFc (fun r_21 u_22 t H1 locs ht hvm hr_21 hB hz1 hk1 hS => ?_)
  obtain ⟨f_23, f_24, f_25⟩ := u_22
  obtain ⟨hi0_r_21, hi1_r_21, hi2_r_21⟩ := hr_21
  have hhd : ∀ k : Nat, k < 4 → (f_23 k).toInt = 2 → 1 ≤ (f_25 k).toInt := hi0_r_21
  have hPm : holdR (q 7) z_1 z_2 r_21 (((z_3.toInt64) <<< ((32 : Int32).toInt64 &&& 63)) ||| ((z_4.toInt64) &&& 4294967295)) (((z_5.toInt64) <<< ((32 : Int32).toInt64 &&& 63)) ||| ((z_6.toInt64) &&& 4294967295)) (rf 38) f_23 (rl 39) f_24 := hi1_r_21
  have hPg : holdG (q 7) z_1 z_2 (((z_3.toInt64) <<< ((32 : Int32).toInt64 &&& 63)) ||| ((z_4.toInt64) &&& 4294967295)) (((z_5.toInt64) <<< ((32 : Int32).toInt64 &&& 63)) ||| ((z_6.toInt64) &&& 4294967295)) (rl 39) (rl 40) f_24 f_25 := hi2_r_21
  obtain ⟨hP1, hD1⟩ := hB
  rw [ht] at hP1
  obtain ⟨hP, hD⟩ := va_repl [(q1, .inr (9, [.ref (u 0), .ref (u 1), .int (c1 0), .ref (u 2), .ref (u 3), .ref (u 11), .ref (u 34), .ref (u 38), .ref (u 40), .ref (u 44), .ref (u 65)])), ((u 0), .inr (4, [.ref (u 2), .ref (u 3), .ref (u 11)])), ((u 2), .inr (5, [.int (c2 0 0), .int (c2 0 1), .int (c2 0 2), .int (c2 0 3), .int (c2 0 4), .int (c2 0 5), .int (c2 0 6)])), ((u 3), .inr (1, [.int (c1 1), .ref (u 4), .ref (u 5), .ref (u 6), .ref (u 7), .ref (u 8), .ref (u 9), .ref (u 10)])), ((u 4), .inl (T 0, 24, .inl (c2 2))), ((u 5), .inl (T 0, 24, .inl (c2 3))), ((u 6), .inl (T 0, 24, .inl (c2 4))), ((u 7), .inl (T 0, 24, .inl (c2 5))), ((u 8), .inl (T 0, 24, .inl (c2 6))), ((u 9), .inl (T 0, 24, .inl (c2 7))), ((u 10), .inl (T 0, 24, .inl (c2 8))), ((u 11), .inl (T 5, 3, .inr (.inr (.inr (.inr (va_up (va_up (va_up (fun _ => none) 0 (some (u 12))) 1 (some (u 13))) 2 (some (u 14)))))))), ((u 12), .inr (0, [.int (c2 16 0), .ref (u 15)])), ((u 13), .inr (0, [.int (c2 16 1), .ref (u 16)])), ((u 14), .inr (0, [.int (c2 16 2), .ref (u 17)])), ((u 15), .inl (T 0, 12, .inl (c2 18))), ((u 16), .inl (T 0, 12, .inl (c2 19))), ((u 17), .inl (T 0, 12, .inl (c2 20))), ((u 1), .inr (4, [.ref (u 18), .ref (u 19), .ref (u 27)])), ((u 18), .inr (5, [.int (c2 1 0), .int (c2 1 1), .int (c2 1 2), .int (c2 1 3), .int (c2 1 4), .int (c2 1 5), .int (c2 1 6)])), ((u 19), .inr (1, [.int (c1 2), .ref (u 20), .ref (u 21), .ref (u 22), .ref (u 23), .ref (u 24), .ref (u 25), .ref (u 26)])), ((u 20), .inl (T 0, 24, .inl (c2 9))), ((u 21), .inl (T 0, 24, .inl (c2 10))), ((u 22), .inl (T 0, 24, .inl (c2 11))), ((u 23), .inl (T 0, 24, .inl (c2 12))), ((u 24), .inl (T 0, 24, .inl (c2 13))), ((u 25), .inl (T 0, 24, .inl (c2 14))), ((u 26), .inl (T 0, 24, .inl (c2 15))), ((u 27), .inl (T 5, 3, .inr (.inr (.inr (.inr (va_up (va_up (va_up (fun _ => none) 0 (some (u 28))) 1 (some (u 29))) 2 (some (u 30)))))))), ((u 28), .inr (0, [.int (c2 17 0), .ref (u 31)])), ((u 29), .inr (0, [.int (c2 17 1), .ref (u 32)])), ((u 30), .inr (0, [.int (c2 17 2), .ref (u 33)])), ((u 31), .inl (T 0, 12, .inl (c2 21))), ((u 32), .inl (T 0, 12, .inl (c2 22))), ((u 33), .inl (T 0, 12, .inl (c2 23))), ((u 34), .inr (8, [.ref (u 2), .ref (u 3), .ref (u 35), .ref (u 36), .ref (u 37), .int (c1 3)])), ((u 35), .inl (T 1, 676, .inr (.inl f_9))), ((u 36), .inl (T 1, 676, .inr (.inl f_10))), ((u 37), .inl (T 0, 672, .inl (c2 24))), ((u 38), .inr (2, [.ref (u 2), .ref (u 3), .ref (u 34), .ref (u 39), .int (c1 4), .int (c1 5), .int (c1 6)])), ((u 39), .inl (T 1, 7, .inr (.inl (c3 2)))), ((u 40), .inr (7, [.int (c1 7), .ref (u 41), .ref (u 42), .ref (u 43), .int (c1 8), .int (c1 9), .int (c1 10)])), ((u 41), .inl (T 0, 120, .inl (c2 25))), ((u 42), .inl (T 0, 24, .inl (c2 26))), ((u 43), .inl (T 0, 24, .inl (c2 27))), ((u 44), .inl (T 6, 4, .inr (.inr (.inr (.inr (va_up (va_up (va_up (va_up (fun _ => none) 0 (some (u 45))) 1 (some (u 46))) 2 (some (u 47))) 3 (some (u 48)))))))), ((u 45), .inr (6, [.int (c2 28 0), .int (c2 29 0), .ref (u 49), .ref (u 50), .ref (u 51), .ref (u 52)])), ((u 46), .inr (6, [.int (c2 28 1), .int (c2 29 1), .ref (u 53), .ref (u 54), .ref (u 55), .ref (u 56)])), ((u 47), .inr (6, [.int (c2 28 2), .int (c2 29 2), .ref (u 57), .ref (u 58), .ref (u 59), .ref (u 60)])), ((u 48), .inr (6, [.int (c2 28 3), .int (c2 29 3), .ref (u 61), .ref (u 62), .ref (u 63), .ref (u 64)])), ((u 49), .inl (T 0, 30, .inl (c2 30))), ((u 50), .inl (T 1, 30, .inr (.inl (c3 3)))), ((u 51), .inl (T 2, 30, .inr (.inr (.inl (c4 0))))), ((u 52), .inl (T 3, 30, .inr (.inr (.inr (.inl (c5 0)))))), ((u 53), .inl (T 0, 30, .inl (c2 31))), ((u 54), .inl (T 1, 30, .inr (.inl (c3 4)))), ((u 55), .inl (T 2, 30, .inr (.inr (.inl (c4 1))))), ((u 56), .inl (T 3, 30, .inr (.inr (.inr (.inl (c5 1)))))), ((u 57), .inl (T 0, 30, .inl (c2 32))), ((u 58), .inl (T 1, 30, .inr (.inl (c3 5)))), ((u 59), .inl (T 2, 30, .inr (.inr (.inl (c4 2))))), ((u 60), .inl (T 3, 30, .inr (.inr (.inr (.inl (c5 2)))))), ((u 61), .inl (T 0, 30, .inl (c2 33))), ((u 62), .inl (T 1, 30, .inr (.inl (c3 6)))), ((u 63), .inl (T 2, 30, .inr (.inr (.inl (c4 3))))), ((u 64), .inl (T 3, 30, .inr (.inr (.inr (.inl (c5 3)))))), ((u 65), .inl (T 7, 4, .inr (.inr (.inr (.inr (va_up (va_up (va_up (va_up (fun _ => none) 0 (some (u 66))) 1 (some (u 67))) 2 (some (u 68))) 3 (some (u 69)))))))), ((u 66), .inr (3, [.int (jz_11 0), .int (jn_12 0), .long (ja_13 0), .long (jb_14 0)])), ((u 67), .inr (3, [.int (jz_11 1), .int (jn_12 1), .long (ja_13 1), .long (jb_14 1)])), ((u 68), .inr (3, [.int (jz_11 2), .int (jn_12 2), .long (ja_13 2), .long (jb_14 2)])), ((u 69), .inr (3, [.int (jz_11 3), .int (jn_12 3), .long (ja_13 3), .long (jb_14 3)])), (q2, .inr (10, (Value.int (q 0) :: Value.int (q 1) :: Value.int (q 2) :: Value.int (q 3) :: Value.int (q 4) :: Value.int (q 5) :: Value.int (q 6) :: Value.int (q 7) :: Value.ref (v 8) :: Value.ref (v 9) :: Value.ref (v 10) :: Value.ref (v 11) :: Value.ref (v 12) :: Value.ref (v 13) :: Value.int (q 14) :: Value.long vl :: Value.long wl :: Value.ref (v 17) :: Value.ref (v 18) :: Value.ref (v 19) :: Value.ref (v 20) :: Value.ref (v 21) :: Value.ref (v 22) :: Value.ref (v 23) :: Value.int (q 24) :: Value.ref (v 25) :: Value.int (q 26) :: Value.ref (v 27) :: Value.int (q 28) :: Value.int (q 29) :: Value.int (q 30) :: Value.int (q 31) :: Value.int (q 32) :: Value.int (q 33) :: Value.ref (v 34) :: Value.ref (v 35) :: Value.ref (v 36) :: Value.ref (v 37) :: Value.ref (v 38) :: Value.ref (v 39) :: Value.ref (v 40) :: Value.int (q 41) :: Value.ref (v 42) :: Value.int (q 43) :: Value.int (q 44) :: []))), ((v 8), .inl (T 0, 24, .inl (rf 8))), ((v 9), .inl (T 0, 24, .inl (rf 9))), ((v 10), .inl (T 0, 24, .inl (rf 10))), ((v 11), .inl (T 0, 24, .inl (rf 11))), ((v 12), .inl (T 0, 36, .inl (rf 12))), ((v 13), .inl (T 0, 3, .inl (rf 13))), ((v 17), .inl (T 0, 24, .inl (rf 17))), ((v 18), .inl (T 0, 24, .inl (rf 18))), ((v 19), .inl (T 0, 24, .inl (rf 19))), ((v 20), .inl (T 1, 672, .inr (.inl (rl 20)))), ((v 21), .inl (T 1, 672, .inr (.inl (rl 21)))), ((v 22), .inl (T 4, 672, .inl (rf 22))), ((v 23), .inl (T 1, 7, .inr (.inl (rl 23)))), ((v 25), .inl (T 0, 120, .inl (rf 25))), ((v 27), .inl (T 8, 13, .inr (.inr (.inr (.inr (va_up (va_up (va_up (va_up (va_up (va_up (va_up (va_up (va_up (va_up (va_up (va_up (va_up (fun _ => none) 0 (some (sa 0))) 1 (some (sa 1))) 2 (some (sa 2))) 3 (some (sa 3))) 4 (some (sa 4))) 5 (some (sa 5))) 6 (some (sa 6))) 7 (some (sa 7))) 8 (some (sa 8))) 9 (some (sa 9))) 10 (some (sa 10))) 11 (some (sa 11))) 12 (some (sa 12)))))))), ((v 34), .inl (T 0, 4, .inl (rf 34))), ((v 35), .inl (T 0, 4, .inl (rf 35))), ((v 36), .inl (T 1, 120, .inr (.inl (rl 36)))), ((v 37), .inl (T 3, 120, .inr (.inr (.inr (.inl rd))))), ((v 38), .inl (T 0, 4, .inl f_23)), ((v 39), .inl (T 1, 4, .inr (.inl f_24))), ((v 40), .inl (T 1, 4, .inr (.inl f_25))), ((v 42), .inl (T 0, 143, .inl (rf 42)))] hP hD [71, 91, 92, 93] [71, 91, 92, 93] rfl (by decide +kernel) rfl rfl rfl hk1 hP1
  clear hP1 hD1 hFc
  generalize H1 = H at hP hS ⊢
  have hm9 : 0 ≤ (q 7).toInt := by omega
  have hs9 := rlC_size hRC hm9
  rw [← hs9] at hPm
  obtain ⟨he8, hRH9⟩ := hold_rel hRH hPc hPm
  have hRH : rlH jz_11 jn_12 f_23 f_24 := hRH9
  rw [← hs9] at hPg
  have hRF : rlF jz_11 ja_13 jb_14 f_24 f_25 := holdF_rel hRF hPc hPf hPg
  have hHl : ∀ k : Nat, k < 4 → (f_23 k).toInt = 2 → lowW (f_24 k, f_25 k) := hl_hold hHl hPm hPg
  refine lv_pop hx hb dL_law_1695 rfl ?_
  refine lv_goto (tgt := 1867) hx hb dL_law_1696 (by decide +kernel) ?_
  exact K c1 (fun k => List.getD (α := Nat → Int32) ((c2 0) :: (c2 1) :: (c2 2) :: (c2 3) :: (c2 4) :: (c2 5) :: (c2 6) :: (c2 7) :: (c2 8) :: (c2 9) :: (c2 10) :: (c2 11) :: (c2 12) :: (c2 13) :: (c2 14) :: (c2 15) :: (c2 16) :: (c2 17) :: (c2 18) :: (c2 19) :: (c2 20) :: (c2 21) :: (c2 22) :: (c2 23) :: (c2 24) :: (c2 25) :: (c2 26) :: (c2 27) :: (c2 28) :: (c2 29) :: (c2 30) :: (c2 31) :: (c2 32) :: (c2 33) :: jz_11 :: jn_12 :: []) k (fun _ => 0)) (fun k => [f_9, f_10, (c3 2), (c3 3), (c3 4), (c3 5), (c3 6), ja_13, jb_14].getD k (fun _ => 0)) c4 c5 q vl wl (fun k => List.getD (α := Nat → Int32) ((fun _ => 0) :: (fun _ => 0) :: (fun _ => 0) :: (fun _ => 0) :: (fun _ => 0) :: (fun _ => 0) :: (fun _ => 0) :: (fun _ => 0) :: (rf 8) :: (rf 9) :: (rf 10) :: (rf 11) :: (rf 12) :: (rf 13) :: (fun _ => 0) :: (fun _ => 0) :: (fun _ => 0) :: (rf 17) :: (rf 18) :: (rf 19) :: (fun _ => 0) :: (fun _ => 0) :: (rf 22) :: (fun _ => 0) :: (fun _ => 0) :: (rf 25) :: (fun _ => 0) :: (fun _ => 0) :: (fun _ => 0) :: (fun _ => 0) :: (fun _ => 0) :: (fun _ => 0) :: (fun _ => 0) :: (fun _ => 0) :: (rf 34) :: (rf 35) :: (fun _ => 0) :: (fun _ => 0) :: f_23 :: (fun _ => 0) :: (fun _ => 0) :: (fun _ => 0) :: (rf 42) :: []) k (fun _ => 0)) (fun k => List.getD (α := Nat → Int64) ((fun _ => 0) :: (fun _ => 0) :: (fun _ => 0) :: (fun _ => 0) :: (fun _ => 0) :: (fun _ => 0) :: (fun _ => 0) :: (fun _ => 0) :: (fun _ => 0) :: (fun _ => 0) :: (fun _ => 0) :: (fun _ => 0) :: (fun _ => 0) :: (fun _ => 0) :: (fun _ => 0) :: (fun _ => 0) :: (fun _ => 0) :: (fun _ => 0) :: (fun _ => 0) :: (fun _ => 0) :: (rl 20) :: (rl 21) :: (fun _ => 0) :: (rl 23) :: (fun _ => 0) :: (fun _ => 0) :: (fun _ => 0) :: (fun _ => 0) :: (fun _ => 0) :: (fun _ => 0) :: (fun _ => 0) :: (fun _ => 0) :: (fun _ => 0) :: (fun _ => 0) :: (fun _ => 0) :: (fun _ => 0) :: (rl 36) :: (fun _ => 0) :: (fun _ => 0) :: f_24 :: f_25 :: []) k (fun _ => 0)) rd ls H locs _ hd0 ⟨(show (0 ≤ (((c1 1) : Int32)).toInt ∧ (((c1 1) : Int32)).toInt ≤ 24) ∧ (0 ≤ (((c1 2) : Int32)).toInt ∧ (((c1 2) : Int32)).toInt ≤ 24) ∧ (0 ≤ (((c2 16 0) : Int32)).toInt ∧ (((c2 16 0) : Int32)).toInt ≤ 12) ∧ (0 ≤ (((c2 16 1) : Int32)).toInt ∧ (((c2 16 1) : Int32)).toInt ≤ 12) ∧ (0 ≤ (((c2 16 2) : Int32)).toInt ∧ (((c2 16 2) : Int32)).toInt ≤ 12) ∧ (0 ≤ (((c2 17 0) : Int32)).toInt ∧ (((c2 17 0) : Int32)).toInt ≤ 12) ∧ (0 ≤ (((c2 17 1) : Int32)).toInt ∧ (((c2 17 1) : Int32)).toInt ≤ 12) ∧ (0 ≤ (((c2 17 2) : Int32)).toInt ∧ (((c2 17 2) : Int32)).toInt ≤ 12) ∧ (0 ≤ (((c1 7) : Int32)).toInt ∧ (((c1 7) : Int32)).toInt ≤ 120) ∧ ((-1 ≤ (((c2 28 0) : Int32)).toInt ∧ (((c2 28 0) : Int32)).toInt ≤ 3) ∧ (0 ≤ (((c2 29 0) : Int32)).toInt ∧ (((c2 29 0) : Int32)).toInt ≤ 30)) ∧ ((-1 ≤ (((c2 28 1) : Int32)).toInt ∧ (((c2 28 1) : Int32)).toInt ≤ 3) ∧ (0 ≤ (((c2 29 1) : Int32)).toInt ∧ (((c2 29 1) : Int32)).toInt ≤ 30)) ∧ ((-1 ≤ (((c2 28 2) : Int32)).toInt ∧ (((c2 28 2) : Int32)).toInt ≤ 3) ∧ (0 ≤ (((c2 29 2) : Int32)).toInt ∧ (((c2 29 2) : Int32)).toInt ≤ 30)) ∧ ((-1 ≤ (((c2 28 3) : Int32)).toInt ∧ (((c2 28 3) : Int32)).toInt ≤ 3) ∧ (0 ≤ (((c2 29 3) : Int32)).toInt ∧ (((c2 29 3) : Int32)).toInt ≤ 30)) from ⟨hA1.1, hA1.2.1, hA1.2.2.1, hA1.2.2.2.1, hA1.2.2.2.2.1, hA1.2.2.2.2.2.1, hA1.2.2.2.2.2.2.1, hA1.2.2.2.2.2.2.2.1, hA1.2.2.2.2.2.2.2.2.1, hA1.2.2.2.2.2.2.2.2.2.1, hA1.2.2.2.2.2.2.2.2.2.2.1, hA1.2.2.2.2.2.2.2.2.2.2.2.1, hA1.2.2.2.2.2.2.2.2.2.2.2.2⟩), (show okC (c2 2) (c2 4) (c2 5) (c2 6) from (by first | exact hok | assumption)), (show okC (c2 9) (c2 11) (c2 12) (c2 13) from (by first | exact hokk | assumption)), (show (0 ≤ (((q 7) : Int32)).toInt ∧ (((q 7) : Int32)).toInt ≤ 24) ∧ ((1 ≤ (((q 4) : Int32)).toInt ∧ (((q 4) : Int32)).toInt ≤ 9) ∧ (1 ≤ (((q 6) : Int32)).toInt ∧ (((q 6) : Int32)).toInt ≤ 9)) ∧ (0 ≤ (((q 26) : Int32)).toInt ∧ (((q 26) : Int32)).toInt ≤ 120) from ⟨hA2.1, hA2.2.1, hA2.2.2⟩), (show okR (rf 8) (rf 10) (rf 11) from (by first | exact hokR | assumption)), (show isB (q 14) from (by first | exact hB | assumption | exact isB0 | exact isB1)), (show ∀ j : Nat, isB ((rf 22) j) from (by first | exact hZ | assumption)), (show ∀ k : Nat, k < 3 → 0 ≤ ((rf 13) k).toInt ∧ ((rf 13) k).toInt ≤ 12 from (by first | exact hbg | assumption)), (show ∀ k : Nat, k < 4 → 0 ≤ ((rf 35) k).toInt ∧ ((rf 35) k).toInt ≤ 30 from (by first | exact hsz | assumption)), (show ∀ k : Nat, k < 4 → (f_23 k).toInt = 2 → 1 ≤ (f_25 k).toInt from (by assumption)), (show ¬ ((q 41) : Int32).toInt = 0 → okK (rf 42) from (by first | exact hKb | assumption | exact (fun _ => by assumption))), (show ((c2 0 0) : Int32) = (q 0) ∧ ((c2 0 1) : Int32) = (q 1) ∧ ((c2 0 2) : Int32) = (q 2) ∧ ((c2 0 3) : Int32) = (q 3) ∧ ((c2 0 4) : Int32) = (q 4) ∧ ((c2 0 5) : Int32) = (q 5) ∧ ((c2 0 6) : Int32) = (q 6) from (by first | exact hLa | assumption)), (show ((c1 0) : Int32) = (q 41) from (by first | exact hIm | assumption | rfl)), (show ¬ ((q 41) : Int32).toInt = 0 → ((c2 1 0) : Int32) = (rf 42) 0 ∧ ((c2 1 1) : Int32) = (rf 42) 1 ∧ ((c2 1 2) : Int32) = (rf 42) 2 ∧ ((c2 1 3) : Int32) = (rf 42) 3 ∧ ((c2 1 4) : Int32) = (rf 42) 4 ∧ ((c2 1 5) : Int32) = (rf 42) 5 ∧ ((c2 1 6) : Int32) = (rf 42) 6 from (by first | exact hKl | assumption)), (show ((c1 7) : Int32) = (q 26) from (by first | exact hTa | assumption | rfl)), (show ∀ k : Nat, k < 4 → ((c2 28) k).toInt = ((rf 34) k).toInt ∧ (0 ≤ ((c2 28) k).toInt → ((c2 29) k).toInt = ((rf 35) k).toInt) from (by first | exact hSh | assumption)), (show rlF jz_11 ja_13 jb_14 f_24 f_25 from (by assumption)), (show rlC (c1 1) (c2 2) (c2 3) (c2 4) (c2 5) (rfA (q 7) (rf 8) (rf 9) (rf 10) (rf 11)) from (by first | exact hRC | assumption)), (show rlB (c2 16) (fun k => [(c2 18), (c2 19), (c2 20)].getD k (c2 18)) (rf 13) (rf 12) from (by first | exact hRB | assumption)), (show rlH jz_11 jn_12 f_23 f_24 from (by assumption)), (show (c2 25) = (rf 25) from (by first | exact hTf | assumption | rfl)), (show ¬ ((q 41) : Int32).toInt = 0 → rlK (c1 2) (c2 9) (c2 10) (c2 11) (c2 12) (c2 17) (fun k => [(c2 21), (c2 22), (c2 23)].getD k (c2 21)) (rf 42) from (by first | exact hRK | assumption)), (show ∀ j : Nat, (j : Int) < ((c1 1) : Int32).toInt → mesP (c2 2) (c2 3) (c2 4) (c2 5) (c2 6) (c2 7) (c2 8) j from (by first | exact hme | assumption)), (show memW (VALW (fun k => [(c2 0 0), (c2 0 1), (c2 0 2), (c2 0 3), (c2 0 4), (c2 0 5), (c2 0 6)].getD k 0) (c2 2) (c2 3) (c2 4) (c2 5) (c2 6)) ((c1 1) : Int32) ((c1 3) : Int32) f_9 f_10 (c2 24) from (by assumption)), (show ∀ j : Nat, j < 672 → ((c2 24) j).toInt ≤ ((c1 3) : Int32).toInt from (by first | exact hgB | assumption)), (show ∀ k : Nat, k < 4 → (f_23 k).toInt = 2 → lowW (f_24 k, f_25 k) from (by assumption))⟩ (show ((c1 3) : Int32).toInt ≤ ii.toInt + 2 from by omega) (show va_P D vwCl (lwW T sa q1 q2 u v c1 (fun k => List.getD (α := Nat → Int32) ((c2 0) :: (c2 1) :: (c2 2) :: (c2 3) :: (c2 4) :: (c2 5) :: (c2 6) :: (c2 7) :: (c2 8) :: (c2 9) :: (c2 10) :: (c2 11) :: (c2 12) :: (c2 13) :: (c2 14) :: (c2 15) :: (c2 16) :: (c2 17) :: (c2 18) :: (c2 19) :: (c2 20) :: (c2 21) :: (c2 22) :: (c2 23) :: (c2 24) :: (c2 25) :: (c2 26) :: (c2 27) :: (c2 28) :: (c2 29) :: (c2 30) :: (c2 31) :: (c2 32) :: (c2 33) :: jz_11 :: jn_12 :: []) k (fun _ => 0)) (fun k => [f_9, f_10, (c3 2), (c3 3), (c3 4), (c3 5), (c3 6), ja_13, jb_14].getD k (fun _ => 0)) c4 c5 q vl wl (fun k => List.getD (α := Nat → Int32) ((fun _ => 0) :: (fun _ => 0) :: (fun _ => 0) :: (fun _ => 0) :: (fun _ => 0) :: (fun _ => 0) :: (fun _ => 0) :: (fun _ => 0) :: (rf 8) :: (rf 9) :: (rf 10) :: (rf 11) :: (rf 12) :: (rf 13) :: (fun _ => 0) :: (fun _ => 0) :: (fun _ => 0) :: (rf 17) :: (rf 18) :: (rf 19) :: (fun _ => 0) :: (fun _ => 0) :: (rf 22) :: (fun _ => 0) :: (fun _ => 0) :: (rf 25) :: (fun _ => 0) :: (fun _ => 0) :: (fun _ => 0) :: (fun _ => 0) :: (fun _ => 0) :: (fun _ => 0) :: (fun _ => 0) :: (fun _ => 0) :: (rf 34) :: (rf 35) :: (fun _ => 0) :: (fun _ => 0) :: f_23 :: (fun _ => 0) :: (fun _ => 0) :: (fun _ => 0) :: (rf 42) :: []) k (fun _ => 0)) (fun k => List.getD (α := Nat → Int64) ((fun _ => 0) :: (fun _ => 0) :: (fun _ => 0) :: (fun _ => 0) :: (fun _ => 0) :: (fun _ => 0) :: (fun _ => 0) :: (fun _ => 0) :: (fun _ => 0) :: (fun _ => 0) :: (fun _ => 0) :: (fun _ => 0) :: (fun _ => 0) :: (fun _ => 0) :: (fun _ => 0) :: (fun _ => 0) :: (fun _ => 0) :: (fun _ => 0) :: (fun _ => 0) :: (fun _ => 0) :: (rl 20) :: (rl 21) :: (fun _ => 0) :: (rl 23) :: (fun _ => 0) :: (fun _ => 0) :: (fun _ => 0) :: (fun _ => 0) :: (fun _ => 0) :: (fun _ => 0) :: (fun _ => 0) :: (fun _ => 0) :: (fun _ => 0) :: (fun _ => 0) :: (fun _ => 0) :: (fun _ => 0) :: (rl 36) :: (fun _ => 0) :: (fun _ => 0) :: f_24 :: f_25 :: []) k (fun _ => 0)) rd) H from hP) (show va_D A (lwW T sa q1 q2 u v c1 (fun k => List.getD (α := Nat → Int32) ((c2 0) :: (c2 1) :: (c2 2) :: (c2 3) :: (c2 4) :: (c2 5) :: (c2 6) :: (c2 7) :: (c2 8) :: (c2 9) :: (c2 10) :: (c2 11) :: (c2 12) :: (c2 13) :: (c2 14) :: (c2 15) :: (c2 16) :: (c2 17) :: (c2 18) :: (c2 19) :: (c2 20) :: (c2 21) :: (c2 22) :: (c2 23) :: (c2 24) :: (c2 25) :: (c2 26) :: (c2 27) :: (c2 28) :: (c2 29) :: (c2 30) :: (c2 31) :: (c2 32) :: (c2 33) :: jz_11 :: jn_12 :: []) k (fun _ => 0)) (fun k => [f_9, f_10, (c3 2), (c3 3), (c3 4), (c3 5), (c3 6), ja_13, jb_14].getD k (fun _ => 0)) c4 c5 q vl wl (fun k => List.getD (α := Nat → Int32) ((fun _ => 0) :: (fun _ => 0) :: (fun _ => 0) :: (fun _ => 0) :: (fun _ => 0) :: (fun _ => 0) :: (fun _ => 0) :: (fun _ => 0) :: (rf 8) :: (rf 9) :: (rf 10) :: (rf 11) :: (rf 12) :: (rf 13) :: (fun _ => 0) :: (fun _ => 0) :: (fun _ => 0) :: (rf 17) :: (rf 18) :: (rf 19) :: (fun _ => 0) :: (fun _ => 0) :: (rf 22) :: (fun _ => 0) :: (fun _ => 0) :: (rf 25) :: (fun _ => 0) :: (fun _ => 0) :: (fun _ => 0) :: (fun _ => 0) :: (fun _ => 0) :: (fun _ => 0) :: (fun _ => 0) :: (fun _ => 0) :: (rf 34) :: (rf 35) :: (fun _ => 0) :: (fun _ => 0) :: f_23 :: (fun _ => 0) :: (fun _ => 0) :: (fun _ => 0) :: (rf 42) :: []) k (fun _ => 0)) (fun k => List.getD (α := Nat → Int64) ((fun _ => 0) :: (fun _ => 0) :: (fun _ => 0) :: (fun _ => 0) :: (fun _ => 0) :: (fun _ => 0) :: (fun _ => 0) :: (fun _ => 0) :: (fun _ => 0) :: (fun _ => 0) :: (fun _ => 0) :: (fun _ => 0) :: (fun _ => 0) :: (fun _ => 0) :: (fun _ => 0) :: (fun _ => 0) :: (fun _ => 0) :: (fun _ => 0) :: (fun _ => 0) :: (fun _ => 0) :: (rl 20) :: (rl 21) :: (fun _ => 0) :: (rl 23) :: (fun _ => 0) :: (fun _ => 0) :: (fun _ => 0) :: (fun _ => 0) :: (fun _ => 0) :: (fun _ => 0) :: (fun _ => 0) :: (fun _ => 0) :: (fun _ => 0) :: (fun _ => 0) :: (fun _ => 0) :: (fun _ => 0) :: (rl 36) :: (fun _ => 0) :: (fun _ => 0) :: f_24 :: f_25 :: []) k (fun _ => 0)) rd) from hD) hS hl
