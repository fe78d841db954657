theorem dL_law_1738 : decode cL_law 1738 = .ok (.aload_n 1, 1) := by decide +kernel
theorem dL_law_1739 : decode cL_law 1739 = .ok (.aload_n 0, 1) := by decide +kernel
theorem dL_law_1740 : decode cL_law 1740 = .ok (.iload_n 3, 1) := by decide +kernel
theorem dL_law_1741 : decode cL_law 1741 = .ok (.iconst 1, 1) := by decide +kernel
theorem dL_law_1742 : decode cL_law 1742 = .ok (.iadd, 1) := by decide +kernel
theorem dL_law_1743 : decode cL_law 1743 = .ok (.iaload, 1) := by decide +kernel
theorem dL_law_1744 : decode cL_law 1744 = .ok (.aload_n 0, 1) := by decide +kernel
theorem dL_law_1745 : decode cL_law 1745 = .ok (.iload_n 3, 1) := by decide +kernel
theorem dL_law_1746 : decode cL_law 1746 = .ok (.iconst 2, 1) := by decide +kernel
theorem dL_law_1747 : decode cL_law 1747 = .ok (.iadd, 1) := by decide +kernel
theorem dL_law_1748 : decode cL_law 1748 = .ok (.iaload, 1) := by decide +kernel
theorem dL_law_1749 : decode cL_law 1749 = .ok (.invokevirtual 170, 3) := by decide +kernel
theorem dL_law_1752 : decode cL_law 1752 = .ok (.aload_n 2, 1) := by decide +kernel
theorem dL_law_1753 : decode cL_law 1753 = .ok (.aload_n 0, 1) := by decide +kernel
theorem dL_law_1754 : decode cL_law 1754 = .ok (.iload_n 3, 1) := by decide +kernel
theorem dL_law_1755 : decode cL_law 1755 = .ok (.iconst 1, 1) := by decide +kernel
theorem dL_law_1756 : decode cL_law 1756 = .ok (.iadd, 1) := by decide +kernel
theorem dL_law_1757 : decode cL_law 1757 = .ok (.iaload, 1) := by decide +kernel
theorem dL_law_1758 : decode cL_law 1758 = .ok (.aload_n 0, 1) := by decide +kernel
theorem dL_law_1759 : decode cL_law 1759 = .ok (.iload_n 3, 1) := by decide +kernel
theorem dL_law_1760 : decode cL_law 1760 = .ok (.iconst 2, 1) := by decide +kernel
theorem dL_law_1761 : decode cL_law 1761 = .ok (.iadd, 1) := by decide +kernel
theorem dL_law_1762 : decode cL_law 1762 = .ok (.iaload, 1) := by decide +kernel
theorem dL_law_1763 : decode cL_law 1763 = .ok (.invokevirtual 174, 3) := by decide +kernel
theorem dL_law_1766 : decode cL_law 1766 = .ok (.lcmp, 1) := by decide +kernel
theorem dL_law_1767 : decode cL_law 1767 = .ok (.ifCond .eq 107, 3) := by decide +kernel
set_option maxRecDepth 40000 in
theorem lg_X12_asFraction : GoodIn lw_tbl (wsV RL 170 RX12 yX12_asFraction wsX12_asFraction) := goodIn_app (gl_cons ⟨lwt_3 _ (List.mem_of_getElem? (i := 136) (by decide +kernel)), by decide +kernel⟩ (gl_cons ⟨lwt_3 _ (List.mem_of_getElem? (i := 137) (by decide +kernel)), by decide +kernel⟩ (gl_cons ⟨lwt_3 _ (List.mem_of_getElem? (i := 138) (by decide +kernel)), by decide +kernel⟩ (gl_cons ⟨lwt_0 _ (List.mem_of_getElem? (i := 1) (by decide +kernel)), by decide +kernel⟩ gl_nil)))) lgg_X12_asFraction
set_option maxRecDepth 40000 in
theorem lg_X13_asFraction : GoodIn lw_tbl (wsV RL 174 RX13 yX13_asFraction wsX13_asFraction) := goodIn_app (gl_cons ⟨lwt_6 _ (List.mem_of_getElem? (i := 2) (by decide +kernel)), by decide +kernel⟩ (gl_cons ⟨lwt_6 _ (List.mem_of_getElem? (i := 3) (by decide +kernel)), by decide +kernel⟩ (gl_cons ⟨lwt_6 _ (List.mem_of_getElem? (i := 4) (by decide +kernel)), by decide +kernel⟩ (gl_cons ⟨lwt_0 _ (List.mem_of_getElem? (i := 11) (by decide +kernel)), by decide +kernel⟩ gl_nil)))) lgg_X13_asFraction
set_option maxHeartbeats 4000000 in
set_option maxRecDepth 100000 in
theorem law_c36 {p : Program} {e : Env} {s : State} {m : MethodId} {below : List Frame} {meth : Method} {c : Code} {l : Launch} {b : Nat} {xs : Nat → Int32} (C0 : lw_At p s m meth c b 7 xs) {D : va_G} {T : Nat → ClassId} {ad sa av : Nat → Nat} {ta : Nat} {A : Nat → Prop} (hA : ∀ q : Nat, s.heap.size ≤ q → A q) (hAf : ∀ q : Nat, A q → s.heap.size ≤ q) (hbA : ¬ A b) (hE : ekK D T s) (hV : evK ad sa av ta A s s.heap) {q1 q2 : Nat} {u v : Nat → Nat} {H : Heap} {locs : List Loc} (hP : va_P D vwCl (lwW T sa q1 q2 u v) H) (hD : va_D A (lwW T sa q1 q2 u v)) (hS : va_S A s.heap H locs) {ls : Array Slot} (hl : lv_has ls 4 [(3, .int 0), (2, .ref q2), (1, .ref q1), (0, .ref b)]) : W p l e room_1 s m #[Value.ref b] below meth c H locs 95 6031 (lw_Z below #[Value.ref b] s) (F0 m 1738 ls []) := by
  obtain ⟨hx, hb, hr, hml, hown, hts, hX, hbl, hlocks, hgv⟩ := id C0
  have hown : s.vm.findClass RL = some m.cls := hown
  have hP : va_P D vwCl [(q1, .inr (9, [.ref (u 0), .ref (u 1), .int 0, .ref (u 2), .ref (u 3), .ref (u 11), .ref (u 34), .ref (u 38), .ref (u 39), .ref (u 43), .ref (u 64)])), ((u 64), .inl (T 7, 4, .inr (.inr (.inr (.inr (va_up (va_up (va_up (va_up (fun _ => none) 0 (some (u 65))) 1 (some (u 66))) 2 (some (u 67))) 3 (some (u 68)))))))), ((u 65), .inr (3, [.int 0, .int 0, .long 0, .long 1])), ((u 66), .inr (3, [.int 0, .int 0, .long 0, .long 1])), ((u 67), .inr (3, [.int 0, .int 0, .long 0, .long 1])), ((u 68), .inr (3, [.int 0, .int 0, .long 0, .long 1])), (q2, .inr (10, [.int 0, .int 1, .int 1, .int 1, .int 2, .int 1, .int 1, .int 0, .ref (v 8), .ref (v 9), .ref (v 10), .ref (v 11), .ref (v 12), .ref (v 13), .int 0, .long 0, .long 0, .ref (v 17), .ref (v 18), .ref (v 19), .ref (v 20), .ref (v 21), .ref (v 22), .ref (v 23), .int 0, .ref (v 25), .int 0, .ref (v 27), .int 0, .int 0, .int 0, .int 0, .int 0, .int 0, .ref (v 34), .ref (v 35), .ref (v 36), .ref (v 37), .ref (v 38), .ref (v 39), .ref (v 40), .int 0, .ref (v 42), .int 0, .int 0])), ((v 38), .inl (T 0, 4, .inl (fun _ => 0)))] H := hP.sub [0, 61, 62, 63, 64, 65, 66, 79] rfl
  have hD : va_D A [(q1, .inr (9, [.ref (u 0), .ref (u 1), .int 0, .ref (u 2), .ref (u 3), .ref (u 11), .ref (u 34), .ref (u 38), .ref (u 39), .ref (u 43), .ref (u 64)])), ((u 64), .inl (T 7, 4, .inr (.inr (.inr (.inr (va_up (va_up (va_up (va_up (fun _ => none) 0 (some (u 65))) 1 (some (u 66))) 2 (some (u 67))) 3 (some (u 68)))))))), ((u 65), .inr (3, [.int 0, .int 0, .long 0, .long 1])), ((u 66), .inr (3, [.int 0, .int 0, .long 0, .long 1])), ((u 67), .inr (3, [.int 0, .int 0, .long 0, .long 1])), ((u 68), .inr (3, [.int 0, .int 0, .long 0, .long 1])), (q2, .inr (10, [.int 0, .int 1, .int 1, .int 1, .int 2, .int 1, .int 1, .int 0, .ref (v 8), .ref (v 9), .ref (v 10), .ref (v 11), .ref (v 12), .ref (v 13), .int 0, .long 0, .long 0, .ref (v 17), .ref (v 18), .ref (v 19), .ref (v 20), .ref (v 21), .ref (v 22), .ref (v 23), .int 0, .ref (v 25), .int 0, .ref (v 27), .int 0, .int 0, .int 0, .int 0, .int 0, .int 0, .ref (v 34), .ref (v 35), .ref (v 36), .ref (v 37), .ref (v 38), .ref (v 39), .ref (v 40), .int 0, .ref (v 42), .int 0, .int 0])), ((v 38), .inl (T 0, 4, .inl (fun _ => 0)))] := hD.sub [0, 61, 62, 63, 64, 65, 66, 79] (by decide) rfl
  refine lv_aload_n hx hb dL_law_1738 rfl (lv_at hl 2 rfl) ?_
  refine lv_aload_n hx hb dL_law_1739 rfl (lv_at hl 3 rfl) ?_
  refine lv_iload_n hx hb dL_law_1740 rfl (lv_at hl 0 rfl) ?_
  refine lv_iconst (v := 1) hx hb dL_law_1741 (by decide) ?_
  refine lv_iadd hx hb dL_law_1742 ?_
  refine lv_topi (fun z_1 ez_1 => ?_)
  obtain rfl : z_1 = 1 := ez_1.trans (by decide)
  refine va_sld hx hb hX hbl hbA hS (by unfold vp_in; decide) dL_law_1743 ?_
  refine W.eq (g2 := F0 m 1744 ls [.int (xs 1), .ref q1]) rfl ?_
  refine lv_aload_n hx hb dL_law_1744 rfl (lv_at hl 3 rfl) ?_
  refine lv_iload_n hx hb dL_law_1745 rfl (lv_at hl 0 rfl) ?_
  refine lv_iconst (v := 2) hx hb dL_law_1746 (by decide) ?_
  refine lv_iadd hx hb dL_law_1747 ?_
  refine lv_topi (fun z_2 ez_2 => ?_)
  obtain rfl : z_2 = 2 := ez_2.trans (by decide)
  refine va_sld hx hb hX hbl hbA hS (by unfold vp_in; decide) dL_law_1748 ?_
  refine W.eq (g2 := F0 m 1749 ls [.int (xs 2), .int (xs 1), .ref q1]) rfl ?_
  refine vp_callSl (W.runV (As := [.int (xs 1), .int (xs 2)]) (rest := []) ⟨hx, hb, hml, hown, hts⟩ (f_X12_asFraction l D T q1 [.ref (u 0), .ref (u 1), .int 0, .ref (u 2), .ref (u 3), .ref (u 11), .ref (u 34), .ref (u 38), .ref (u 39), .ref (u 43), .ref (u 64)] (u 64) (va_up (va_up (va_up (va_up (fun _ => none) 0 (some (u 65))) 1 (some (u 66))) 2 (some (u 67))) 3 (some (u 68))) (u 65) [.int 0, .int 0, .long 0, .long 1] (u 66) [.int 0, .int 0, .long 0, .long 1] (u 67) [.int 0, .int 0, .long 0, .long 1] (u 68) [.int 0, .int 0, .long 0, .long 1] (xs 1) (xs 2) rfl rfl rfl rfl rfl rfl rfl rfl rfl) (cwV 2 hts lg_X12_asFraction rfl rfl rfl (by decide +kernel) ⟨Nat.le_of_ble_eq_true rfl, Nat.le_of_ble_eq_true rfl⟩) (pR_V (ci := 9) (q0 := 0) hP hE rfl rfl [0, 1, 2, 3, 4, 5] rfl) rfl rfl hl.1 rfl (lv_room (Nat.le_of_ble_eq_true rfl)) dL_law_1749 ⟨Nat.le_of_ble_eq_true rfl, Nat.le_of_ble_eq_true rfl⟩) (fun r_3 hr_3 => ?_)
  obtain rfl : (sp_asFraction (xs 1) (xs 2)) = r_3 := (hr_3).symm
  refine lv_aload_n hx hb dL_law_1752 rfl (lv_at hl 1 rfl) ?_
  refine lv_aload_n hx hb dL_law_1753 rfl (lv_at hl 3 rfl) ?_
  refine lv_iload_n hx hb dL_law_1754 rfl (lv_at hl 0 rfl) ?_
  refine lv_iconst (v := 1) hx hb dL_law_1755 (by decide) ?_
  refine lv_iadd hx hb dL_law_1756 ?_
  refine lv_topi (fun z_4 ez_4 => ?_)
  obtain rfl : z_4 = 1 := ez_4.trans (by decide)
  refine va_sld hx hb hX hbl hbA hS (by unfold vp_in; decide) dL_law_1757 ?_
  refine W.eq (g2 := F0 m 1758 ls [.int (xs 1), .ref q2, .long (sp_asFraction (xs 1) (xs 2))]) rfl ?_
  refine lv_aload_n hx hb dL_law_1758 rfl (lv_at hl 3 rfl) ?_
  refine lv_iload_n hx hb dL_law_1759 rfl (lv_at hl 0 rfl) ?_
  refine lv_iconst (v := 2) hx hb dL_law_1760 (by decide) ?_
  refine lv_iadd hx hb dL_law_1761 ?_
  refine lv_topi (fun z_5 ez_5 => ?_)
  obtain rfl : z_5 = 2 := ez_5.trans (by decide)
  refine va_sld hx hb hX hbl hbA hS (by unfold vp_in; decide) dL_law_1762 ?_
  refine W.eq (g2 := F0 m 1763 ls [.int (xs 2), .int (xs 1), .ref q2, .long (sp_asFraction (xs 1) (xs 2))]) rfl ?_
  refine vp_callSl (W.runV (As := [.int (xs 1), .int (xs 2)]) (rest := [.long (sp_asFraction (xs 1) (xs 2))]) ⟨hx, hb, hml, hown, hts⟩ (f_X13_asFraction l D T q2 [.int 0, .int 1, .int 1, .int 1, .int 2, .int 1, .int 1, .int 0, .ref (v 8), .ref (v 9), .ref (v 10), .ref (v 11), .ref (v 12), .ref (v 13), .int 0, .long 0, .long 0, .ref (v 17), .ref (v 18), .ref (v 19), .ref (v 20), .ref (v 21), .ref (v 22), .ref (v 23), .int 0, .ref (v 25), .int 0, .ref (v 27), .int 0, .int 0, .int 0, .int 0, .int 0, .int 0, .ref (v 34), .ref (v 35), .ref (v 36), .ref (v 37), .ref (v 38), .ref (v 39), .ref (v 40), .int 0, .ref (v 42), .int 0, .int 0] (v 38) (fun _ => 0) (xs 1) (xs 2) rfl rfl rfl rfl rfl) (cwV 2 hts lg_X13_asFraction rfl rfl rfl (by decide +kernel) ⟨Nat.le_of_ble_eq_true rfl, Nat.le_of_ble_eq_true rfl⟩) (pR_V (ci := 10) (q0 := 6) hP hE rfl rfl [6, 7] rfl) rfl rfl hl.1 rfl (lv_room (Nat.le_of_ble_eq_true rfl)) dL_law_1763 ⟨Nat.le_of_ble_eq_true rfl, Nat.le_of_ble_eq_true rfl⟩) (fun r_6 hr_6 => ?_)
  obtain rfl : (sp_asFraction (xs 1) (xs 2)) = r_6 := (hr_6).symm
  refine W.lcmp hx hb dL_law_1766 ?_
  refine lv_if_eq (tgt := 1874) hx hb dL_law_1767 (by decide) (fun _ => ?_) (fun c9 => absurd ((lcmp_eq _ _).2 rfl) c9)
  exact law_tail C0 hAf hbA hS hl
theorem dL_law_1772 : decode cL_law 1772 = .ok (.aload_n 1, 1) := by decide +kernel
theorem dL_law_1773 : decode cL_law 1773 = .ok (.aload_n 0, 1) := by decide +kernel
theorem dL_law_1774 : decode cL_law 1774 = .ok (.iload_n 3, 1) := by decide +kernel
theorem dL_law_1775 : decode cL_law 1775 = .ok (.iconst 1, 1) := by decide +kernel
theorem dL_law_1776 : decode cL_law 1776 = .ok (.iadd, 1) := by decide +kernel
theorem dL_law_1777 : decode cL_law 1777 = .ok (.iaload, 1) := by decide +kernel
theorem dL_law_1778 : decode cL_law 1778 = .ok (.aload_n 0, 1) := by decide +kernel
theorem dL_law_1779 : decode cL_law 1779 = .ok (.iload_n 3, 1) := by decide +kernel
theorem dL_law_1780 : decode cL_law 1780 = .ok (.iconst 2, 1) := by decide +kernel
theorem dL_law_1781 : decode cL_law 1781 = .ok (.iadd, 1) := by decide +kernel
theorem dL_law_1782 : decode cL_law 1782 = .ok (.iaload, 1) := by decide +kernel
theorem dL_law_1783 : decode cL_law 1783 = .ok (.aload_n 0, 1) := by decide +kernel
theorem dL_law_1784 : decode cL_law 1784 = .ok (.iload_n 3, 1) := by decide +kernel
theorem dL_law_1785 : decode cL_law 1785 = .ok (.iconst 3, 1) := by decide +kernel
theorem dL_law_1786 : decode cL_law 1786 = .ok (.iadd, 1) := by decide +kernel
theorem dL_law_1787 : decode cL_law 1787 = .ok (.iaload, 1) := by decide +kernel
theorem dL_law_1788 : decode cL_law 1788 = .ok (.aload_n 0, 1) := by decide +kernel
theorem dL_law_1789 : decode cL_law 1789 = .ok (.iload_n 3, 1) := by decide +kernel
theorem dL_law_1790 : decode cL_law 1790 = .ok (.iconst 4, 1) := by decide +kernel
theorem dL_law_1791 : decode cL_law 1791 = .ok (.iadd, 1) := by decide +kernel
theorem dL_law_1792 : decode cL_law 1792 = .ok (.iaload, 1) := by decide +kernel
theorem dL_law_1793 : decode cL_law 1793 = .ok (.invokevirtual 175, 3) := by decide +kernel
theorem dL_law_1796 : decode cL_law 1796 = .ok (.aload_n 2, 1) := by decide +kernel
theorem dL_law_1797 : decode cL_law 1797 = .ok (.aload_n 0, 1) := by decide +kernel
theorem dL_law_1798 : decode cL_law 1798 = .ok (.iload_n 3, 1) := by decide +kernel
theorem dL_law_1799 : decode cL_law 1799 = .ok (.iconst 1, 1) := by decide +kernel
theorem dL_law_1800 : decode cL_law 1800 = .ok (.iadd, 1) := by decide +kernel
theorem dL_law_1801 : decode cL_law 1801 = .ok (.iaload, 1) := by decide +kernel
theorem dL_law_1802 : decode cL_law 1802 = .ok (.aload_n 0, 1) := by decide +kernel
theorem dL_law_1803 : decode cL_law 1803 = .ok (.iload_n 3, 1) := by decide +kernel
theorem dL_law_1804 : decode cL_law 1804 = .ok (.iconst 2, 1) := by decide +kernel
theorem dL_law_1805 : decode cL_law 1805 = .ok (.iadd, 1) := by decide +kernel
theorem dL_law_1806 : decode cL_law 1806 = .ok (.iaload, 1) := by decide +kernel
theorem dL_law_1807 : decode cL_law 1807 = .ok (.aload_n 0, 1) := by decide +kernel
theorem dL_law_1808 : decode cL_law 1808 = .ok (.iload_n 3, 1) := by decide +kernel
theorem dL_law_1809 : decode cL_law 1809 = .ok (.iconst 3, 1) := by decide +kernel
theorem dL_law_1810 : decode cL_law 1810 = .ok (.iadd, 1) := by decide +kernel
theorem dL_law_1811 : decode cL_law 1811 = .ok (.iaload, 1) := by decide +kernel
theorem dL_law_1812 : decode cL_law 1812 = .ok (.aload_n 0, 1) := by decide +kernel
theorem dL_law_1813 : decode cL_law 1813 = .ok (.iload_n 3, 1) := by decide +kernel
theorem dL_law_1814 : decode cL_law 1814 = .ok (.iconst 4, 1) := by decide +kernel
theorem dL_law_1815 : decode cL_law 1815 = .ok (.iadd, 1) := by decide +kernel
theorem dL_law_1816 : decode cL_law 1816 = .ok (.iaload, 1) := by decide +kernel
theorem dL_law_1817 : decode cL_law 1817 = .ok (.invokevirtual 178, 3) := by decide +kernel
theorem dL_law_1820 : decode cL_law 1820 = .ok (.if_icmp .eq 54, 3) := by decide +kernel
set_option maxRecDepth 40000 in
theorem lg_X12_compare : GoodIn lw_tbl (wsV RL 175 RX12 yX12_compare wsX12_compare) := goodIn_app (gl_cons ⟨lwt_3 _ (List.mem_of_getElem? (i := 144) (by decide +kernel)), by decide +kernel⟩ (gl_cons ⟨lwt_3 _ (List.mem_of_getElem? (i := 145) (by decide +kernel)), by decide +kernel⟩ (gl_cons ⟨lwt_3 _ (List.mem_of_getElem? (i := 146) (by decide +kernel)), by decide +kernel⟩ (gl_cons ⟨lwt_0 _ (List.mem_of_getElem? (i := 1) (by decide +kernel)), by decide +kernel⟩ gl_nil)))) lgg_X12_compare
set_option maxRecDepth 40000 in
theorem lg_X13_compare : GoodIn lw_tbl (wsV RL 178 RX13 yX13_compare wsX13_compare) := goodIn_app (gl_cons ⟨lwt_6 _ (List.mem_of_getElem? (i := 6) (by decide +kernel)), by decide +kernel⟩ (gl_cons ⟨lwt_6 _ (List.mem_of_getElem? (i := 7) (by decide +kernel)), by decide +kernel⟩ (gl_cons ⟨lwt_6 _ (List.mem_of_getElem? (i := 8) (by decide +kernel)), by decide +kernel⟩ (gl_cons ⟨lwt_0 _ (List.mem_of_getElem? (i := 11) (by decide +kernel)), by decide +kernel⟩ gl_nil)))) lgg_X13_compare
set_option maxHeartbeats 4000000 in
set_option maxRecDepth 100000 in
theorem law_c37 {p : Program} {e : Env} {s : State} {m : MethodId} {below : List Frame} {meth : Method} {c : Code} {l : Launch} {b : Nat} {xs : Nat → Int32} (C0 : lw_At p s m meth c b 7 xs) {D : va_G} {T : Nat → ClassId} {ad sa av : Nat → Nat} {ta : Nat} {A : Nat → Prop} (hA : ∀ q : Nat, s.heap.size ≤ q → A q) (hAf : ∀ q : Nat, A q → s.heap.size ≤ q) (hbA : ¬ A b) (hE : ekK D T s) (hV : evK ad sa av ta A s s.heap) {q1 q2 : Nat} {u v : Nat → Nat} {H : Heap} {locs : List Loc} (hP : va_P D vwCl (lwW T sa q1 q2 u v) H) (hD : va_D A (lwW T sa q1 q2 u v)) (hS : va_S A s.heap H locs) {ls : Array Slot} (hl : lv_has ls 4 [(3, .int 0), (2, .ref q2), (1, .ref q1), (0, .ref b)]) : W p l e room_1 s m #[Value.ref b] below meth c H locs 95 6031 (lw_Z below #[Value.ref b] s) (F0 m 1772 ls []) := by
  obtain ⟨hx, hb, hr, hml, hown, hts, hX, hbl, hlocks, hgv⟩ := id C0
  have hown : s.vm.findClass RL = some m.cls := hown
  have hP : va_P D vwCl [(q1, .inr (9, [.ref (u 0), .ref (u 1), .int 0, .ref (u 2), .ref (u 3), .ref (u 11), .ref (u 34), .ref (u 38), .ref (u 39), .ref (u 43), .ref (u 64)])), ((u 3), .inr (1, [.int 0, .ref (u 4), .ref (u 5), .ref (u 6), .ref (u 7), .ref (u 8), .ref (u 9), .ref (u 10)])), (q2, .inr (10, [.int 0, .int 1, .int 1, .int 1, .int 2, .int 1, .int 1, .int 0, .ref (v 8), .ref (v 9), .ref (v 10), .ref (v 11), .ref (v 12), .ref (v 13), .int 0, .long 0, .long 0, .ref (v 17), .ref (v 18), .ref (v 19), .ref (v 20), .ref (v 21), .ref (v 22), .ref (v 23), .int 0, .ref (v 25), .int 0, .ref (v 27), .int 0, .int 0, .int 0, .int 0, .int 0, .int 0, .ref (v 34), .ref (v 35), .ref (v 36), .ref (v 37), .ref (v 38), .ref (v 39), .ref (v 40), .int 0, .ref (v 42), .int 0, .int 0]))] H := hP.sub [0, 3, 66] rfl
  have hD : va_D A [(q1, .inr (9, [.ref (u 0), .ref (u 1), .int 0, .ref (u 2), .ref (u 3), .ref (u 11), .ref (u 34), .ref (u 38), .ref (u 39), .ref (u 43), .ref (u 64)])), ((u 3), .inr (1, [.int 0, .ref (u 4), .ref (u 5), .ref (u 6), .ref (u 7), .ref (u 8), .ref (u 9), .ref (u 10)])), (q2, .inr (10, [.int 0, .int 1, .int 1, .int 1, .int 2, .int 1, .int 1, .int 0, .ref (v 8), .ref (v 9), .ref (v 10), .ref (v 11), .ref (v 12), .ref (v 13), .int 0, .long 0, .long 0, .ref (v 17), .ref (v 18), .ref (v 19), .ref (v 20), .ref (v 21), .ref (v 22), .ref (v 23), .int 0, .ref (v 25), .int 0, .ref (v 27), .int 0, .int 0, .int 0, .int 0, .int 0, .int 0, .ref (v 34), .ref (v 35), .ref (v 36), .ref (v 37), .ref (v 38), .ref (v 39), .ref (v 40), .int 0, .ref (v 42), .int 0, .int 0]))] := hD.sub [0, 3, 66] (by decide) rfl
  refine lv_aload_n hx hb dL_law_1772 rfl (lv_at hl 2 rfl) ?_
  refine lv_aload_n hx hb dL_law_1773 rfl (lv_at hl 3 rfl) ?_
  refine lv_iload_n hx hb dL_law_1774 rfl (lv_at hl 0 rfl) ?_
  refine lv_iconst (v := 1) hx hb dL_law_1775 (by decide) ?_
  refine lv_iadd hx hb dL_law_1776 ?_
  refine lv_topi (fun z_1 ez_1 => ?_)
  obtain rfl : z_1 = 1 := ez_1.trans (by decide)
  refine va_sld hx hb hX hbl hbA hS (by unfold vp_in; decide) dL_law_1777 ?_
  refine W.eq (g2 := F0 m 1778 ls [.int (xs 1), .ref q1]) rfl ?_
  refine lv_aload_n hx hb dL_law_1778 rfl (lv_at hl 3 rfl) ?_
  refine lv_iload_n hx hb dL_law_1779 rfl (lv_at hl 0 rfl) ?_
  refine lv_iconst (v := 2) hx hb dL_law_1780 (by decide) ?_
  refine lv_iadd hx hb dL_law_1781 ?_
  refine lv_topi (fun z_2 ez_2 => ?_)
  obtain rfl : z_2 = 2 := ez_2.trans (by decide)
  refine va_sld hx hb hX hbl hbA hS (by unfold vp_in; decide) dL_law_1782 ?_
  refine W.eq (g2 := F0 m 1783 ls [.int (xs 2), .int (xs 1), .ref q1]) rfl ?_
  refine lv_aload_n hx hb dL_law_1783 rfl (lv_at hl 3 rfl) ?_
  refine lv_iload_n hx hb dL_law_1784 rfl (lv_at hl 0 rfl) ?_
  refine lv_iconst (v := 3) hx hb dL_law_1785 (by decide) ?_
  refine lv_iadd hx hb dL_law_1786 ?_
  refine lv_topi (fun z_3 ez_3 => ?_)
  obtain rfl : z_3 = 3 := ez_3.trans (by decide)
  refine va_sld hx hb hX hbl hbA hS (by unfold vp_in; decide) dL_law_1787 ?_
  refine W.eq (g2 := F0 m 1788 ls [.int (xs 3), .int (xs 2), .int (xs 1), .ref q1]) rfl ?_
  refine lv_aload_n hx hb dL_law_1788 rfl (lv_at hl 3 rfl) ?_
  refine lv_iload_n hx hb dL_law_1789 rfl (lv_at hl 0 rfl) ?_
  refine lv_iconst (v := 4) hx hb dL_law_1790 (by decide) ?_
  refine lv_iadd hx hb dL_law_1791 ?_
  refine lv_topi (fun z_4 ez_4 => ?_)
  obtain rfl : z_4 = 4 := ez_4.trans (by decide)
  refine va_sld hx hb hX hbl hbA hS (by unfold vp_in; decide) dL_law_1792 ?_
  refine W.eq (g2 := F0 m 1793 ls [.int (xs 4), .int (xs 3), .int (xs 2), .int (xs 1), .ref q1]) rfl ?_
  refine vp_callSi (W.runV (As := [.int (xs 1), .int (xs 2), .int (xs 3), .int (xs 4)]) (rest := []) ⟨hx, hb, hml, hown, hts⟩ (f_X12_compare l D T q1 [.ref (u 0), .ref (u 1), .int 0, .ref (u 2), .ref (u 3), .ref (u 11), .ref (u 34), .ref (u 38), .ref (u 39), .ref (u 43), .ref (u 64)] (u 3) [.int 0, .ref (u 4), .ref (u 5), .ref (u 6), .ref (u 7), .ref (u 8), .ref (u 9), .ref (u 10)] (xs 1) (xs 2) (xs 3) (xs 4) rfl rfl) (cwV 4 hts lg_X12_compare rfl rfl rfl (by decide +kernel) ⟨Nat.le_of_ble_eq_true rfl, Nat.le_of_ble_eq_true rfl⟩) (pR_V (ci := 9) (q0 := 0) hP hE rfl rfl [0, 1] rfl) rfl rfl hl.1 rfl (lv_room (Nat.le_of_ble_eq_true rfl)) dL_law_1793 ⟨Nat.le_of_ble_eq_true rfl, Nat.le_of_ble_eq_true rfl⟩) (fun r_5 hr_5 => ?_)
  obtain rfl : r_5 = (-2) := hr_5
  refine lv_aload_n hx hb dL_law_1796 rfl (lv_at hl 1 rfl) ?_
  refine lv_aload_n hx hb dL_law_1797 rfl (lv_at hl 3 rfl) ?_
  refine lv_iload_n hx hb dL_law_1798 rfl (lv_at hl 0 rfl) ?_
  refine lv_iconst (v := 1) hx hb dL_law_1799 (by decide) ?_
  refine lv_iadd hx hb dL_law_1800 ?_
  refine lv_topi (fun z_6 ez_6 => ?_)
  obtain rfl : z_6 = 1 := ez_6.trans (by decide)
  refine va_sld hx hb hX hbl hbA hS (by unfold vp_in; decide) dL_law_1801 ?_
  refine W.eq (g2 := F0 m 1802 ls [.int (xs 1), .ref q2, .int (-2)]) rfl ?_
  refine lv_aload_n hx hb dL_law_1802 rfl (lv_at hl 3 rfl) ?_
  refine lv_iload_n hx hb dL_law_1803 rfl (lv_at hl 0 rfl) ?_
  refine lv_iconst (v := 2) hx hb dL_law_1804 (by decide) ?_
  refine lv_iadd hx hb dL_law_1805 ?_
  refine lv_topi (fun z_7 ez_7 => ?_)
  obtain rfl : z_7 = 2 := ez_7.trans (by decide)
  refine va_sld hx hb hX hbl hbA hS (by unfold vp_in; decide) dL_law_1806 ?_
  refine W.eq (g2 := F0 m 1807 ls [.int (xs 2), .int (xs 1), .ref q2, .int (-2)]) rfl ?_
  refine lv_aload_n hx hb dL_law_1807 rfl (lv_at hl 3 rfl) ?_
  refine lv_iload_n hx hb dL_law_1808 rfl (lv_at hl 0 rfl) ?_
  refine lv_iconst (v := 3) hx hb dL_law_1809 (by decide) ?_
  refine lv_iadd hx hb dL_law_1810 ?_
  refine lv_topi (fun z_8 ez_8 => ?_)
  obtain rfl : z_8 = 3 := ez_8.trans (by decide)
  refine va_sld hx hb hX hbl hbA hS (by unfold vp_in; decide) dL_law_1811 ?_
  refine W.eq (g2 := F0 m 1812 ls [.int (xs 3), .int (xs 2), .int (xs 1), .ref q2, .int (-2)]) rfl ?_
  refine lv_aload_n hx hb dL_law_1812 rfl (lv_at hl 3 rfl) ?_
  refine lv_iload_n hx hb dL_law_1813 rfl (lv_at hl 0 rfl) ?_
  refine lv_iconst (v := 4) hx hb dL_law_1814 (by decide) ?_
  refine lv_iadd hx hb dL_law_1815 ?_
  refine lv_topi (fun z_9 ez_9 => ?_)
  obtain rfl : z_9 = 4 := ez_9.trans (by decide)
  refine va_sld hx hb hX hbl hbA hS (by unfold vp_in; decide) dL_law_1816 ?_
  refine W.eq (g2 := F0 m 1817 ls [.int (xs 4), .int (xs 3), .int (xs 2), .int (xs 1), .ref q2, .int (-2)]) rfl ?_
  refine vp_callSi (W.runV (As := [.int (xs 1), .int (xs 2), .int (xs 3), .int (xs 4)]) (rest := [.int (-2)]) ⟨hx, hb, hml, hown, hts⟩ (f_X13_compare l D T q2 [.int 0, .int 1, .int 1, .int 1, .int 2, .int 1, .int 1, .int 0, .ref (v 8), .ref (v 9), .ref (v 10), .ref (v 11), .ref (v 12), .ref (v 13), .int 0, .long 0, .long 0, .ref (v 17), .ref (v 18), .ref (v 19), .ref (v 20), .ref (v 21), .ref (v 22), .ref (v 23), .int 0, .ref (v 25), .int 0, .ref (v 27), .int 0, .int 0, .int 0, .int 0, .int 0, .int 0, .ref (v 34), .ref (v 35), .ref (v 36), .ref (v 37), .ref (v 38), .ref (v 39), .ref (v 40), .int 0, .ref (v 42), .int 0, .int 0] (xs 1) (xs 2) (xs 3) (xs 4) rfl) (cwV 4 hts lg_X13_compare rfl rfl rfl (by decide +kernel) ⟨Nat.le_of_ble_eq_true rfl, Nat.le_of_ble_eq_true rfl⟩) (pR_V (ci := 10) (q0 := 2) hP hE rfl rfl [2] rfl) rfl rfl hl.1 rfl (lv_room (Nat.le_of_ble_eq_true rfl)) dL_law_1817 ⟨Nat.le_of_ble_eq_true rfl, Nat.le_of_ble_eq_true rfl⟩) (fun r_10 hr_10 => ?_)
  obtain rfl : r_10 = (-2) := hr_10
  refine lv_icmp_eq (tgt := 1874) hx hb dL_law_1820 (by decide) (fun _ => ?_) (fun c9 => absurd c9 (by decide))
  exact law_tail C0 hAf hbA hS hl
theorem dL_law_1825 : decode cL_law 1825 = .ok (.aload_n 1, 1) := by decide +kernel
theorem dL_law_1826 : decode cL_law 1826 = .ok (.invokevirtual 179, 3) := by decide +kernel
theorem dL_law_1829 : decode cL_law 1829 = .ok (.aload_n 2, 1) := by decide +kernel
theorem dL_law_1830 : decode cL_law 1830 = .ok (.invokevirtual 182, 3) := by decide +kernel
theorem dL_law_1833 : decode cL_law 1833 = .ok (.if_icmp .eq 41, 3) := by decide +kernel
set_option maxRecDepth 40000 in
theorem lg_X12_image : GoodIn lw_tbl (wsV RL 179 RX12 yX12_image wsX12_image) := goodIn_app (gl_cons ⟨lwt_3 _ (List.mem_of_getElem? (i := 148) (by decide +kernel)), by decide +kernel⟩ (gl_cons ⟨lwt_3 _ (List.mem_of_getElem? (i := 149) (by decide +kernel)), by decide +kernel⟩ (gl_cons ⟨lwt_3 _ (List.mem_of_getElem? (i := 150) (by decide +kernel)), by decide +kernel⟩ (gl_cons ⟨lwt_0 _ (List.mem_of_getElem? (i := 1) (by decide +kernel)), by decide +kernel⟩ gl_nil)))) lgg_X12_image
set_option maxRecDepth 40000 in
theorem lg_X13_image : GoodIn lw_tbl (wsV RL 182 RX13 yX13_image wsX13_image) := goodIn_app (gl_cons ⟨lwt_6 _ (List.mem_of_getElem? (i := 10) (by decide +kernel)), by decide +kernel⟩ (gl_cons ⟨lwt_6 _ (List.mem_of_getElem? (i := 11) (by decide +kernel)), by decide +kernel⟩ (gl_cons ⟨lwt_6 _ (List.mem_of_getElem? (i := 12) (by decide +kernel)), by decide +kernel⟩ (gl_cons ⟨lwt_0 _ (List.mem_of_getElem? (i := 11) (by decide +kernel)), by decide +kernel⟩ gl_nil)))) lgg_X13_image
set_option maxHeartbeats 4000000 in
set_option maxRecDepth 100000 in
theorem law_c38 {p : Program} {e : Env} {s : State} {m : MethodId} {below : List Frame} {meth : Method} {c : Code} {l : Launch} {b : Nat} {xs : Nat → Int32} (C0 : lw_At p s m meth c b 7 xs) {D : va_G} {T : Nat → ClassId} {ad sa av : Nat → Nat} {ta : Nat} {A : Nat → Prop} (hA : ∀ q : Nat, s.heap.size ≤ q → A q) (hAf : ∀ q : Nat, A q → s.heap.size ≤ q) (hbA : ¬ A b) (hE : ekK D T s) (hV : evK ad sa av ta A s s.heap) {q1 q2 : Nat} {u v : Nat → Nat} {H : Heap} {locs : List Loc} (hP : va_P D vwCl (lwW T sa q1 q2 u v) H) (hD : va_D A (lwW T sa q1 q2 u v)) (hS : va_S A s.heap H locs) {ls : Array Slot} (hl : lv_has ls 4 [(3, .int 0), (2, .ref q2), (1, .ref q1), (0, .ref b)]) : W p l e room_1 s m #[Value.ref b] below meth c H locs 95 6031 (lw_Z below #[Value.ref b] s) (F0 m 1825 ls []) := by
  obtain ⟨hx, hb, hr, hml, hown, hts, hX, hbl, hlocks, hgv⟩ := id C0
  have hown : s.vm.findClass RL = some m.cls := hown
  have hP : va_P D vwCl [(q1, .inr (9, [.ref (u 0), .ref (u 1), .int 0, .ref (u 2), .ref (u 3), .ref (u 11), .ref (u 34), .ref (u 38), .ref (u 39), .ref (u 43), .ref (u 64)])), ((u 0), .inr (4, [.ref (u 2), .ref (u 3), .ref (u 11)])), ((u 2), .inr (5, [.int 0, .int 1, .int 1, .int 1, .int 2, .int 1, .int 1])), ((u 3), .inr (1, [.int 0, .ref (u 4), .ref (u 5), .ref (u 6), .ref (u 7), .ref (u 8), .ref (u 9), .ref (u 10)])), ((u 4), .inl (T 0, 24, .inl (fun _ => 0))), ((u 5), .inl (T 0, 24, .inl (fun _ => 0))), ((u 6), .inl (T 0, 24, .inl (fun _ => 0))), ((u 7), .inl (T 0, 24, .inl (fun _ => 0))), ((u 11), .inl (T 5, 3, .inr (.inr (.inr (.inr (va_up (va_up (va_up (fun _ => none) 0 (some (u 12))) 1 (some (u 13))) 2 (some (u 14)))))))), ((u 12), .inr (0, [.int 0, .ref (u 15)])), ((u 13), .inr (0, [.int 0, .ref (u 16)])), ((u 14), .inr (0, [.int 0, .ref (u 17)])), ((u 15), .inl (T 0, 12, .inl (fun _ => 0))), ((u 16), .inl (T 0, 12, .inl (fun _ => 0))), ((u 17), .inl (T 0, 12, .inl (fun _ => 0))), ((u 1), .inr (4, [.ref (u 18), .ref (u 19), .ref (u 27)])), ((u 18), .inr (5, [.int 0, .int 1, .int 1, .int 1, .int 2, .int 1, .int 1])), ((u 19), .inr (1, [.int 0, .ref (u 20), .ref (u 21), .ref (u 22), .ref (u 23), .ref (u 24), .ref (u 25), .ref (u 26)])), ((u 20), .inl (T 0, 24, .inl (fun _ => 0))), ((u 21), .inl (T 0, 24, .inl (fun _ => 0))), ((u 22), .inl (T 0, 24, .inl (fun _ => 0))), ((u 23), .inl (T 0, 24, .inl (fun _ => 0))), ((u 27), .inl (T 5, 3, .inr (.inr (.inr (.inr (va_up (va_up (va_up (fun _ => none) 0 (some (u 28))) 1 (some (u 29))) 2 (some (u 30)))))))), ((u 28), .inr (0, [.int 0, .ref (u 31)])), ((u 29), .inr (0, [.int 0, .ref (u 32)])), ((u 30), .inr (0, [.int 0, .ref (u 33)])), ((u 31), .inl (T 0, 12, .inl (fun _ => 0))), ((u 32), .inl (T 0, 12, .inl (fun _ => 0))), ((u 33), .inl (T 0, 12, .inl (fun _ => 0))), (q2, .inr (10, [.int 0, .int 1, .int 1, .int 1, .int 2, .int 1, .int 1, .int 0, .ref (v 8), .ref (v 9), .ref (v 10), .ref (v 11), .ref (v 12), .ref (v 13), .int 0, .long 0, .long 0, .ref (v 17), .ref (v 18), .ref (v 19), .ref (v 20), .ref (v 21), .ref (v 22), .ref (v 23), .int 0, .ref (v 25), .int 0, .ref (v 27), .int 0, .int 0, .int 0, .int 0, .int 0, .int 0, .ref (v 34), .ref (v 35), .ref (v 36), .ref (v 37), .ref (v 38), .ref (v 39), .ref (v 40), .int 0, .ref (v 42), .int 0, .int 0])), ((v 8), .inl (T 0, 24, .inl (fun _ => 0))), ((v 9), .inl (T 0, 24, .inl (fun _ => 0))), ((v 10), .inl (T 0, 24, .inl (fun _ => 0))), ((v 11), .inl (T 0, 24, .inl (fun _ => 0))), ((v 12), .inl (T 0, 36, .inl (fun _ => 0))), ((v 13), .inl (T 0, 3, .inl (fun _ => 0))), ((v 42), .inl (T 0, 143, .inl (fun _ => 0)))] H := hP.sub [0, 1, 2, 3, 4, 5, 6, 7, 11, 12, 13, 14, 15, 16, 17, 18, 19, 20, 21, 22, 23, 24, 28, 29, 30, 31, 32, 33, 34, 66, 67, 68, 69, 70, 71, 72, 82] rfl
  have hD : va_D A [(q1, .inr (9, [.ref (u 0), .ref (u 1), .int 0, .ref (u 2), .ref (u 3), .ref (u 11), .ref (u 34), .ref (u 38), .ref (u 39), .ref (u 43), .ref (u 64)])), ((u 0), .inr (4, [.ref (u 2), .ref (u 3), .ref (u 11)])), ((u 2), .inr (5, [.int 0, .int 1, .int 1, .int 1, .int 2, .int 1, .int 1])), ((u 3), .inr (1, [.int 0, .ref (u 4), .ref (u 5), .ref (u 6), .ref (u 7), .ref (u 8), .ref (u 9), .ref (u 10)])), ((u 4), .inl (T 0, 24, .inl (fun _ => 0))), ((u 5), .inl (T 0, 24, .inl (fun _ => 0))), ((u 6), .inl (T 0, 24, .inl (fun _ => 0))), ((u 7), .inl (T 0, 24, .inl (fun _ => 0))), ((u 11), .inl (T 5, 3, .inr (.inr (.inr (.inr (va_up (va_up (va_up (fun _ => none) 0 (some (u 12))) 1 (some (u 13))) 2 (some (u 14)))))))), ((u 12), .inr (0, [.int 0, .ref (u 15)])), ((u 13), .inr (0, [.int 0, .ref (u 16)])), ((u 14), .inr (0, [.int 0, .ref (u 17)])), ((u 15), .inl (T 0, 12, .inl (fun _ => 0))), ((u 16), .inl (T 0, 12, .inl (fun _ => 0))), ((u 17), .inl (T 0, 12, .inl (fun _ => 0))), ((u 1), .inr (4, [.ref (u 18), .ref (u 19), .ref (u 27)])), ((u 18), .inr (5, [.int 0, .int 1, .int 1, .int 1, .int 2, .int 1, .int 1])), ((u 19), .inr (1, [.int 0, .ref (u 20), .ref (u 21), .ref (u 22), .ref (u 23), .ref (u 24), .ref (u 25), .ref (u 26)])), ((u 20), .inl (T 0, 24, .inl (fun _ => 0))), ((u 21), .inl (T 0, 24, .inl (fun _ => 0))), ((u 22), .inl (T 0, 24, .inl (fun _ => 0))), ((u 23), .inl (T 0, 24, .inl (fun _ => 0))), ((u 27), .inl (T 5, 3, .inr (.inr (.inr (.inr (va_up (va_up (va_up (fun _ => none) 0 (some (u 28))) 1 (some (u 29))) 2 (some (u 30)))))))), ((u 28), .inr (0, [.int 0, .ref (u 31)])), ((u 29), .inr (0, [.int 0, .ref (u 32)])), ((u 30), .inr (0, [.int 0, .ref (u 33)])), ((u 31), .inl (T 0, 12, .inl (fun _ => 0))), ((u 32), .inl (T 0, 12, .inl (fun _ => 0))), ((u 33), .inl (T 0, 12, .inl (fun _ => 0))), (q2, .inr (10, [.int 0, .int 1, .int 1, .int 1, .int 2, .int 1, .int 1, .int 0, .ref (v 8), .ref (v 9), .ref (v 10), .ref (v 11), .ref (v 12), .ref (v 13), .int 0, .long 0, .long 0, .ref (v 17), .ref (v 18), .ref (v 19), .ref (v 20), .ref (v 21), .ref (v 22), .ref (v 23), .int 0, .ref (v 25), .int 0, .ref (v 27), .int 0, .int 0, .int 0, .int 0, .int 0, .int 0, .ref (v 34), .ref (v 35), .ref (v 36), .ref (v 37), .ref (v 38), .ref (v 39), .ref (v 40), .int 0, .ref (v 42), .int 0, .int 0])), ((v 8), .inl (T 0, 24, .inl (fun _ => 0))), ((v 9), .inl (T 0, 24, .inl (fun _ => 0))), ((v 10), .inl (T 0, 24, .inl (fun _ => 0))), ((v 11), .inl (T 0, 24, .inl (fun _ => 0))), ((v 12), .inl (T 0, 36, .inl (fun _ => 0))), ((v 13), .inl (T 0, 3, .inl (fun _ => 0))), ((v 42), .inl (T 0, 143, .inl (fun _ => 0)))] := hD.sub [0, 1, 2, 3, 4, 5, 6, 7, 11, 12, 13, 14, 15, 16, 17, 18, 19, 20, 21, 22, 23, 24, 28, 29, 30, 31, 32, 33, 34, 66, 67, 68, 69, 70, 71, 72, 82] (by decide) rfl
  refine lv_aload_n hx hb dL_law_1825 rfl (lv_at hl 2 rfl) ?_
  have hFc := va_free (wc := [(q1, .inr (9, [.ref (u 0), .ref (u 1), .int 0, .ref (u 2), .ref (u 3), .ref (u 11), .ref (u 34), .ref (u 38), .ref (u 39), .ref (u 43), .ref (u 64)])), ((u 1), .inr (4, [.ref (u 18), .ref (u 19), .ref (u 27)])), ((u 0), .inr (4, [.ref (u 2), .ref (u 3), .ref (u 11)])), ((u 18), .inr (5, [.int 0, .int 1, .int 1, .int 1, .int 2, .int 1, .int 1])), ((u 2), .inr (5, [.int 0, .int 1, .int 1, .int 1, .int 2, .int 1, .int 1])), ((u 19), .inr (1, [.int 0, .ref (u 20), .ref (u 21), .ref (u 22), .ref (u 23), .ref (u 24), .ref (u 25), .ref (u 26)])), ((u 3), .inr (1, [.int 0, .ref (u 4), .ref (u 5), .ref (u 6), .ref (u 7), .ref (u 8), .ref (u 9), .ref (u 10)])), ((u 20), .inl (T 0, 24, .inl (fun _ => 0))), ((u 21), .inl (T 0, 24, .inl (fun _ => 0))), ((u 22), .inl (T 0, 24, .inl (fun _ => 0))), ((u 23), .inl (T 0, 24, .inl (fun _ => 0))), ((u 4), .inl (T 0, 24, .inl (fun _ => 0))), ((u 5), .inl (T 0, 24, .inl (fun _ => 0))), ((u 6), .inl (T 0, 24, .inl (fun _ => 0))), ((u 7), .inl (T 0, 24, .inl (fun _ => 0))), ((u 27), .inl (T 5, 3, .inr (.inr (.inr (.inr (va_up (va_up (va_up (fun _ => none) 0 (some (u 28))) 1 (some (u 29))) 2 (some (u 30)))))))), ((u 11), .inl (T 5, 3, .inr (.inr (.inr (.inr (va_up (va_up (va_up (fun _ => none) 0 (some (u 12))) 1 (some (u 13))) 2 (some (u 14)))))))), ((u 28), .inr (0, [.int 0, .ref (u 31)])), ((u 29), .inr (0, [.int 0, .ref (u 32)])), ((u 30), .inr (0, [.int 0, .ref (u 33)])), ((u 12), .inr (0, [.int 0, .ref (u 15)])), ((u 13), .inr (0, [.int 0, .ref (u 16)])), ((u 14), .inr (0, [.int 0, .ref (u 17)])), ((u 31), .inl (T 0, 12, .inl (fun _ => 0))), ((u 32), .inl (T 0, 12, .inl (fun _ => 0))), ((u 33), .inl (T 0, 12, .inl (fun _ => 0))), ((u 15), .inl (T 0, 12, .inl (fun _ => 0))), ((u 16), .inl (T 0, 12, .inl (fun _ => 0))), ((u 17), .inl (T 0, 12, .inl (fun _ => 0)))]) hD hS hA [0, 15, 1, 16, 2, 17, 3, 18, 19, 20, 21, 4, 5, 6, 7, 22, 8, 23, 24, 25, 9, 10, 11, 26, 27, 28, 12, 13, 14] rfl
  refine va_calli (va_runV (As := []) (rest := []) ⟨hx, hb, hml, hown, hts⟩ (f_X12_image l D T _ q1 (u 1) (u 0) (u 18) (u 19) (u 27) (u 2) (u 3) (u 11) (u 28) (u 29) (u 30) (u 12) (u 13) (u 14) (u 31) (u 32) (u 33) (u 15) (u 16) (u 17) 0 (.ref (u 2)) (.ref (u 11)) (.ref (u 34)) (.ref (u 38)) (.ref (u 39)) (.ref (u 43)) (.ref (u 64)) 0 1 1 1 2 1 1 0 1 1 1 2 1 1 0 0 0 0 0 0 0 (u 20) (u 21) (u 22) (u 23) (.ref (u 24)) (.ref (u 25)) (.ref (u 26)) (u 4) (u 5) (u 6) (u 7) (.ref (u 8)) (.ref (u 9)) (.ref (u 10)) (fun _ => 0) (fun _ => 0) (fun _ => 0) (fun _ => 0) (fun _ => 0) (fun _ => 0) (fun _ => 0) (fun _ => 0) (fun _ => 0) (fun _ => 0) (fun _ => 0) (fun _ => 0) (fun _ => 0) (fun _ => 0)) (cwV 0 hts lg_X12_image rfl rfl rfl (by decide +kernel) ⟨Nat.le_of_ble_eq_true rfl, Nat.le_of_ble_eq_true rfl⟩) (pW_V (ci := 9) (q0 := 0) hP hE hD rfl rfl [0, 15, 1, 16, 2, 17, 3, 18, 19, 20, 21, 4, 5, 6, 7, 22, 8, 23, 24, 25, 9, 10, 11, 26, 27, 28, 12, 13, 14] (by decide) rfl rfl) rfl rfl hl.1 rfl (lv_room (Nat.le_of_ble_eq_true rfl)) dL_law_1826 ⟨Nat.le_of_ble_eq_true rfl, Nat.le_of_ble_eq_true rfl⟩) hS (fun q _ h => hFc q h) hFc (fun r_1 u_2 t H1 locs ht hvm hr_1 hB hz1 hk1 hS => ?_)
  obtain ⟨hP1, hD1⟩ := hB
  rw [ht] at hP1
  obtain ⟨hP, hD⟩ := va_join (wr := [(q2, .inr (10, [.int 0, .int 1, .int 1, .int 1, .int 2, .int 1, .int 1, .int 0, .ref (v 8), .ref (v 9), .ref (v 10), .ref (v 11), .ref (v 12), .ref (v 13), .int 0, .long 0, .long 0, .ref (v 17), .ref (v 18), .ref (v 19), .ref (v 20), .ref (v 21), .ref (v 22), .ref (v 23), .int 0, .ref (v 25), .int 0, .ref (v 27), .int 0, .int 0, .int 0, .int 0, .int 0, .int 0, .ref (v 34), .ref (v 35), .ref (v 36), .ref (v 37), .ref (v 38), .ref (v 39), .ref (v 40), .int 0, .ref (v 42), .int 0, .int 0])), ((v 8), .inl (T 0, 24, .inl (fun _ => 0))), ((v 9), .inl (T 0, 24, .inl (fun _ => 0))), ((v 10), .inl (T 0, 24, .inl (fun _ => 0))), ((v 11), .inl (T 0, 24, .inl (fun _ => 0))), ((v 12), .inl (T 0, 36, .inl (fun _ => 0))), ((v 13), .inl (T 0, 3, .inl (fun _ => 0))), ((v 42), .inl (T 0, 143, .inl (fun _ => 0)))]) (w1 := []) hP hD [0, 15, 1, 16, 2, 17, 3, 18, 19, 20, 21, 4, 5, 6, 7, 22, 8, 23, 24, 25, 9, 10, 11, 26, 27, 28, 12, 13, 14] [29, 30, 31, 32, 33, 34, 35, 36] rfl rfl (by decide) (by decide) hk1 hFc hP1 hD1
  clear hP1 hD1 hFc
  generalize H1 = H at hP hS ⊢
  have hP : va_P D vwCl [(q2, .inr (10, [.int 0, .int 1, .int 1, .int 1, .int 2, .int 1, .int 1, .int 0, .ref (v 8), .ref (v 9), .ref (v 10), .ref (v 11), .ref (v 12), .ref (v 13), .int 0, .long 0, .long 0, .ref (v 17), .ref (v 18), .ref (v 19), .ref (v 20), .ref (v 21), .ref (v 22), .ref (v 23), .int 0, .ref (v 25), .int 0, .ref (v 27), .int 0, .int 0, .int 0, .int 0, .int 0, .int 0, .ref (v 34), .ref (v 35), .ref (v 36), .ref (v 37), .ref (v 38), .ref (v 39), .ref (v 40), .int 0, .ref (v 42), .int 0, .int 0])), ((v 8), .inl (T 0, 24, .inl (fun _ => 0))), ((v 9), .inl (T 0, 24, .inl (fun _ => 0))), ((v 10), .inl (T 0, 24, .inl (fun _ => 0))), ((v 11), .inl (T 0, 24, .inl (fun _ => 0))), ((v 12), .inl (T 0, 36, .inl (fun _ => 0))), ((v 13), .inl (T 0, 3, .inl (fun _ => 0))), ((v 42), .inl (T 0, 143, .inl (fun _ => 0)))] H := hP
  have hD : va_D A [(q2, .inr (10, [.int 0, .int 1, .int 1, .int 1, .int 2, .int 1, .int 1, .int 0, .ref (v 8), .ref (v 9), .ref (v 10), .ref (v 11), .ref (v 12), .ref (v 13), .int 0, .long 0, .long 0, .ref (v 17), .ref (v 18), .ref (v 19), .ref (v 20), .ref (v 21), .ref (v 22), .ref (v 23), .int 0, .ref (v 25), .int 0, .ref (v 27), .int 0, .int 0, .int 0, .int 0, .int 0, .int 0, .ref (v 34), .ref (v 35), .ref (v 36), .ref (v 37), .ref (v 38), .ref (v 39), .ref (v 40), .int 0, .ref (v 42), .int 0, .int 0])), ((v 8), .inl (T 0, 24, .inl (fun _ => 0))), ((v 9), .inl (T 0, 24, .inl (fun _ => 0))), ((v 10), .inl (T 0, 24, .inl (fun _ => 0))), ((v 11), .inl (T 0, 24, .inl (fun _ => 0))), ((v 12), .inl (T 0, 36, .inl (fun _ => 0))), ((v 13), .inl (T 0, 3, .inl (fun _ => 0))), ((v 42), .inl (T 0, 143, .inl (fun _ => 0)))] := hD
  obtain rfl : r_1 = 0 := hr_1
  refine lv_aload_n hx hb dL_law_1829 rfl (lv_at hl 1 rfl) ?_
  have hFc := va_free (wc := [(q2, .inr (10, [.int 0, .int 1, .int 1, .int 1, .int 2, .int 1, .int 1, .int 0, .ref (v 8), .ref (v 9), .ref (v 10), .ref (v 11), .ref (v 12), .ref (v 13), .int 0, .long 0, .long 0, .ref (v 17), .ref (v 18), .ref (v 19), .ref (v 20), .ref (v 21), .ref (v 22), .ref (v 23), .int 0, .ref (v 25), .int 0, .ref (v 27), .int 0, .int 0, .int 0, .int 0, .int 0, .int 0, .ref (v 34), .ref (v 35), .ref (v 36), .ref (v 37), .ref (v 38), .ref (v 39), .ref (v 40), .int 0, .ref (v 42), .int 0, .int 0])), ((v 42), .inl (T 0, 143, .inl (fun _ => 0))), ((v 8), .inl (T 0, 24, .inl (fun _ => 0))), ((v 9), .inl (T 0, 24, .inl (fun _ => 0))), ((v 10), .inl (T 0, 24, .inl (fun _ => 0))), ((v 11), .inl (T 0, 24, .inl (fun _ => 0))), ((v 12), .inl (T 0, 36, .inl (fun _ => 0))), ((v 13), .inl (T 0, 3, .inl (fun _ => 0)))]) hD hS hA [0, 7, 1, 2, 3, 4, 5, 6] rfl
  refine va_calli (va_runV (As := []) (rest := [.int 0]) ⟨hx, hb, hml, hown, hts⟩ (f_X13_image l D T _ q2 [.int 0, .int 1, .int 1, .int 1, .int 2, .int 1, .int 1, .int 0, .ref (v 8), .ref (v 9), .ref (v 10), .ref (v 11), .ref (v 12), .ref (v 13), .int 0, .long 0, .long 0, .ref (v 17), .ref (v 18), .ref (v 19), .ref (v 20), .ref (v 21), .ref (v 22), .ref (v 23), .int 0, .ref (v 25), .int 0, .ref (v 27), .int 0, .int 0, .int 0, .int 0, .int 0, .int 0, .ref (v 34), .ref (v 35), .ref (v 36), .ref (v 37), .ref (v 38), .ref (v 39), .ref (v 40), .int 0, .ref (v 42), .int 0, .int 0] 0 1 1 1 2 1 1 (v 42) (fun _ => 0) (v 8) (fun _ => 0) (v 9) (fun _ => 0) (v 10) (fun _ => 0) (v 11) (fun _ => 0) (v 12) (fun _ => 0) (v 13) (fun _ => 0) rfl rfl rfl rfl rfl rfl rfl rfl rfl rfl rfl rfl rfl rfl rfl rfl) (cwV 0 hts lg_X13_image rfl rfl rfl (by decide +kernel) ⟨Nat.le_of_ble_eq_true rfl, Nat.le_of_ble_eq_true rfl⟩) (pW_V (ci := 10) (q0 := 0) hP hE hD rfl rfl [0, 7, 1, 2, 3, 4, 5, 6] (by decide) rfl rfl) rfl rfl hl.1 rfl (lv_room (Nat.le_of_ble_eq_true rfl)) dL_law_1830 ⟨Nat.le_of_ble_eq_true rfl, Nat.le_of_ble_eq_true rfl⟩) hS (fun q _ h => hFc q h) hFc (fun r_3 u_4 t H1 locs ht hvm hr_3 hB hz1 hk1 hS => ?_)
  obtain ⟨hP1, hD1⟩ := hB
  rw [ht] at hP1
  obtain ⟨hP, hD⟩ := va_join (wr := []) (w1 := []) hP hD [0, 7, 1, 2, 3, 4, 5, 6] [] rfl rfl (by decide) (by decide) hk1 hFc hP1 hD1
  clear hP1 hD1 hFc
  generalize H1 = H at hP hS ⊢
  have hP : va_P D vwCl [] H := hP
  have hD : va_D A [] := hD
  obtain rfl : r_3 = 0 := hr_3
  refine lv_icmp_eq (tgt := 1874) hx hb dL_law_1833 (by decide) (fun _ => ?_) (fun c9 => absurd c9 (by decide))
  exact law_tail C0 hAf hbA hS hl
