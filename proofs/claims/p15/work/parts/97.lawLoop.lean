theorem in_L_law_X12 : ∀ w ∈ wsX120, w ∈ lw_tbl := fun w h => (lgg_X120 w h).1
theorem in_L_law_X13 : ∀ w ∈ wsX130, w ∈ lw_tbl := fun w h => (lgg_X130 w h).1
theorem lg_X12_init : GoodIn lw_tbl wsX12_init := lgg_X12_init
theorem lg_X13_init : GoodIn lw_tbl wsX13_init := lgg_X13_init
theorem dL_law_18 : decode cL_law 18 = .ok (.iload_n 3, 1) := by decide +kernel
theorem dL_law_1867 : decode cL_law 1867 = .ok (.iinc 3 7, 3) := by decide +kernel
theorem dL_law_1870 : decode cL_law 1870 = .ok (.goto (-1852), 3) := by decide +kernel
theorem dL_law_1873 : decode cL_law 1873 = .ok (.iconst 1, 1) := by decide +kernel
theorem dL_law_1874 : decode cL_law 1874 = .ok (.ireturn, 1) := by decide +kernel
theorem dL_law_19 : decode cL_law 19 = .ok (.aload_n 0, 1) := by decide +kernel
theorem dL_law_20 : decode cL_law 20 = .ok (.arraylength, 1) := by decide +kernel
theorem dL_law_21 : decode cL_law 21 = .ok (.bipush 7, 2) := by decide +kernel
theorem dL_law_23 : decode cL_law 23 = .ok (.isub, 1) := by decide +kernel
theorem dL_law_24 : decode cL_law 24 = .ok (.if_icmp .gt 1849, 3) := by decide +kernel
theorem dL_law_27 : decode cL_law 27 = .ok (.aload_n 0, 1) := by decide +kernel
theorem dL_law_28 : decode cL_law 28 = .ok (.iload_n 3, 1) := by decide +kernel
theorem dL_law_29 : decode cL_law 29 = .ok (.iaload, 1) := by decide +kernel
theorem dL_law_30 : decode cL_law 30 = .ok (.bipush 63, 2) := by decide +kernel
theorem dL_law_32 : decode cL_law 32 = .ok (.iand, 1) := by decide +kernel
theorem dL_law_33 : decode cL_law 33 = .ok (.tableswitch 1834 0 40 #[179, 222, 255, 288, 321, 354, 407, 440, 453, 496, 549, 602, 655, 698, 741, 774, 807, 840, 893, 936, 999, 1052, 1085, 1098, 1131, 1154, 1187, 1230, 1273, 1296, 1339, 1412, 1455, 1488, 1551, 1666, 1699, 1732, 1785, 1798, 1811], 179) := by decide +kernel
set_option maxHeartbeats 8000000 in
set_option maxRecDepth 100000 in
/-- from the loop's head on -/
theorem law_loop {p : Program} {e : Env} {s : State} {m : MethodId} {below : List Frame} {meth : Method} {c : Code} {l : Launch} {b L : Nat} {xs : Nat → Int32} (hL : L ≤ 3584) (C0 : lw_At p s m meth c b L xs) {D : va_G} {T : Nat → ClassId} {ad sa av : Nat → Nat} {ta : Nat} {A : Nat → Prop} (hA : ∀ q : Nat, s.heap.size ≤ q → A q) (hAf : ∀ q : Nat, A q → s.heap.size ≤ q) (hbA : ¬ A b) (hE0 : ekK D T s) (hV0 : evK ad sa av ta A s s.heap) {q1 q2 : Nat} {u v : Nat → Nat} (c1 : Nat → Int32) (c2 : Nat → Nat → Int32) (c3 : Nat → Nat → Int64) (c4 : Nat → Nat → UInt32) (c5 : Nat → Nat → UInt64) (q : Nat → Int32) (vl wl : Int64) (rf : Nat → Nat → Int32) (rl : Nat → Nat → Int64) (rd : Nat → UInt64) {ls : Array Slot} {H : Heap} {locs : List Loc} {d0 : Drawn} (hd0 : s.drawn.sameBut d0 lw_cs) (hI : lwI c1 c2 c3 q rf rl) (hAg : (c1 3).toInt ≤ 1) (hP : va_P D vwCl (lwW T sa q1 q2 u v c1 c2 c3 c4 c5 q vl wl rf rl rd) H) (hD : va_D A (lwW T sa q1 q2 u v c1 c2 c3 c4 c5 q vl wl rf rl rd)) (hS : va_S A s.heap H locs) (hl : lv_has ls 4 [(3, .int 0), (2, .ref q2), (1, .ref q1), (0, .ref b)]) : W p l e room_1 (s.setDrawn d0) m #[Value.ref b] below meth c H locs 95 6031 (lw_Z below #[Value.ref b] s) (F0 m 18 ls []) := by
  obtain ⟨hx, hb, hr, hml, hown0, hts0, hX0, hbl, hlocks, hgv⟩ := id C0
  have hown0 : s.vm.findClass RL = some m.cls := hown0
  have hLt : (Int32.ofNat L).toInt = (L : Int) := nI_toInt (n := L) (by omega)
  refine loopWD (cs := lw_cs) (σ := (Int32) × (Nat → Int32) × (Nat → Nat → Int32) × (Nat → Nat → Int64) × (Nat → Nat → UInt32) × (Nat → Nat → UInt64) × (Nat → Int32) × (Int64) × (Int64) × (Nat → Nat → Int32) × (Nat → Nat → Int64) × (Nat → UInt64)) (fun x9 ls H locs => lv_has ls 4 [(3, .int x9.1), (2, .ref q2), (1, .ref q1), (0, .ref b)] ∧ va_P D vwCl (lwW T sa q1 q2 u v x9.2.1 x9.2.2.1 x9.2.2.2.1 x9.2.2.2.2.1 x9.2.2.2.2.2.1 x9.2.2.2.2.2.2.1 x9.2.2.2.2.2.2.2.1 x9.2.2.2.2.2.2.2.2.1 x9.2.2.2.2.2.2.2.2.2.1 x9.2.2.2.2.2.2.2.2.2.2.1 x9.2.2.2.2.2.2.2.2.2.2.2) H ∧ va_D A (lwW T sa q1 q2 u v x9.2.1 x9.2.2.1 x9.2.2.2.1 x9.2.2.2.2.1 x9.2.2.2.2.2.1 x9.2.2.2.2.2.2.1 x9.2.2.2.2.2.2.2.1 x9.2.2.2.2.2.2.2.2.1 x9.2.2.2.2.2.2.2.2.2.1 x9.2.2.2.2.2.2.2.2.2.2.1 x9.2.2.2.2.2.2.2.2.2.2.2) ∧ va_S A s.heap H locs ∧ 0 ≤ x9.1.toInt ∧ lwI x9.2.1 x9.2.2.1 x9.2.2.2.1 x9.2.2.2.2.2.2.1 x9.2.2.2.2.2.2.2.2.2.1 x9.2.2.2.2.2.2.2.2.2.2.1 ∧ (x9.2.1 3).toInt ≤ x9.1.toInt + 1) (fun x9 => ((L : Int) - x9.1.toInt).toNat) (fun x9 ls H locs d0 hd0 hIx ih => ?_) (0, c1, c2, c3, c4, c5, q, vl, wl, rf, rl, rd) ls _ hd0 ⟨hl, hP, hD, hS, (by show 0 ≤ (0 : Int32).toInt; decide), hI, (by show (c1 3).toInt ≤ (0 : Int32).toInt + 1; rw [ti_0]; omega)⟩
  obtain ⟨ii, c1, c2, c3, c4, c5, q, vl, wl, rf, rl, rd⟩ := x9
  obtain ⟨hl, hP, hD, hS, hi0, hI, hAg⟩ := hIx
  have hAg : (c1 3).toInt ≤ ii.toInt + 1 := hAg
  have hl : lv_has ls 4 [(3, .int ii), (2, .ref q2), (1, .ref q1), (0, .ref b)] := hl
  have hi0 : 0 ≤ ii.toInt := hi0
  have hX : va_X b L xs (s.setDrawn d0) s.heap := hX0
  have hts := dr_words hts0 d0
  have hown : (s.setDrawn d0).vm.findClass RL = some m.cls := hown0
  have h7 : ((Int32.ofNat L) - 7).toInt = (L : Int) - 7 := by rw [fb_subI (by rw [ti_7]; omega) (by rw [ti_7]; omega), ti_7, hLt]
  refine lv_iload_n hx hb dL_law_18 rfl (lv_at hl 0 rfl) ?_
  refine lv_aload_n hx hb dL_law_19 rfl (lv_at hl 3 rfl) ?_
  refine va_slen hx hb hX hbl hbA hS dL_law_20 ?_
  refine lv_bipush (v := 7) hx hb dL_law_21 (by decide +kernel) ?_
  refine lv_isub hx hb dL_law_23 ?_
  refine lv_icmp_gt (tgt := 1873) hx hb dL_law_24 (by decide +kernel) (fun c_1 => ?_) (fun c_1 => ?_)
  · rw [fa_lt] at c_1
    refine lv_iconst (v := 1) hx hb dL_law_1873 (by decide +kernel) ?_
    refine va_forget (fun q hq => hAf _ (hS.2.2 q hq)) ?_
    refine W.widen (k := 600000) (n := 7302249) (Nat.le_of_ble_eq_true rfl) (Nat.le_of_ble_eq_true rfl) ?_
    exact lw_ret hd0 hx hb hr hlocks dL_law_1874
  · rw [fa_lt] at c_1
    have hii : 0 ≤ ii.toInt ∧ ii.toInt + 7 ≤ L := by omega
    have K : lwK p l e s m below meth c b D T sa A q1 q2 u v ii := by
      intro c1 c2 c3 c4 c5 q vl wl rf rl rd ls H locs d0 hd0 hI hAg hP hD hS hl
      obtain ⟨z_501, ez_501⟩ : ∃ y : Int32, y = ii + 7 := ⟨_, rfl⟩
      refine lv_iinc (v := z_501) (lv' := [(3, .int z_501), (2, .ref q2), (1, .ref q1), (0, .ref b)]) hx hb dL_law_1867 hl (k := 0) rfl (by rw [ez_501]; rfl) (by decide +kernel) rfl (fun ls hl => ?_)
      refine lv_goto (tgt := 18) hx hb dL_law_1870 (by decide +kernel) ?_
      have hz : z_501.toInt = ii.toInt + 7 := by rw [ez_501, fb_addI (by rw [ti_7]; omega) (by rw [ti_7]; omega), ti_7]
      exact ih (z_501, c1, c2, c3, c4, c5, q, vl, wl, rf, rl, rd) ls H locs d0 hd0 ⟨hl, hP, hD, hS, (by show 0 ≤ z_501.toInt; omega), hI, (by show (c1 3).toInt ≤ z_501.toInt + 1; omega)⟩ (by show ((L : Int) - z_501.toInt).toNat < ((L : Int) - ii.toInt).toNat; omega)
    refine lv_aload_n hx hb dL_law_27 rfl (lv_at hl 3 rfl) ?_
    refine lv_iload_n hx hb dL_law_28 rfl (lv_at hl 0 rfl) ?_
    refine va_sld hx hb hX hbl hbA hS (by rw [vp_in_iff]; omega) dL_law_29 ?_
    refine lv_topi (fun z_2 ez_2 => ?_)
    refine lv_bipush (v := 63) hx hb dL_law_30 (by decide +kernel) ?_
    refine lv_iand hx hb dL_law_32 ?_
    refine lv_topi (fun z_3 ez_3 => ?_)
    by_cases k_4 : z_3 = 0
    · obtain rfl := k_4
      refine lv_tableIn (off := 179) (tgt := 212) hx hb dL_law_33 (by decide +kernel) (by decide +kernel) (by decide +kernel) (by decide +kernel) ?_
      exact law_c0 hL C0 hA hAf hbA hE0 hV0 hii K c1 c2 c3 c4 c5 q vl wl rf rl rd hd0 hI hAg hP hD hS hl
    by_cases k_5 : z_3 = 1
    · obtain rfl := k_5
      refine lv_tableIn (off := 222) (tgt := 255) hx hb dL_law_33 (by decide +kernel) (by decide +kernel) (by decide +kernel) (by decide +kernel) ?_
      exact law_c1 hL C0 hA hAf hbA hE0 hV0 hii K c1 c2 c3 c4 c5 q vl wl rf rl rd hd0 hI hAg hP hD hS hl
    by_cases k_6 : z_3 = 2
    · obtain rfl := k_6
      refine lv_tableIn (off := 255) (tgt := 288) hx hb dL_law_33 (by decide +kernel) (by decide +kernel) (by decide +kernel) (by decide +kernel) ?_
      exact law_c2 hL C0 hA hAf hbA hE0 hV0 hii K c1 c2 c3 c4 c5 q vl wl rf rl rd hd0 hI hAg hP hD hS hl
    by_cases k_7 : z_3 = 3
    · obtain rfl := k_7
      refine lv_tableIn (off := 288) (tgt := 321) hx hb dL_law_33 (by decide +kernel) (by decide +kernel) (by decide +kernel) (by decide +kernel) ?_
      exact law_c3 hL C0 hA hAf hbA hE0 hV0 hii K c1 c2 c3 c4 c5 q vl wl rf rl rd hd0 hI hAg hP hD hS hl
    by_cases k_8 : z_3 = 4
    · obtain rfl := k_8
      refine lv_tableIn (off := 321) (tgt := 354) hx hb dL_law_33 (by decide +kernel) (by decide +kernel) (by decide +kernel) (by decide +kernel) ?_
      exact law_c4 hL C0 hA hAf hbA hE0 hV0 hii K c1 c2 c3 c4 c5 q vl wl rf rl rd hd0 hI hAg hP hD hS hl
    by_cases k_9 : z_3 = 5
    · obtain rfl := k_9
      refine lv_tableIn (off := 354) (tgt := 387) hx hb dL_law_33 (by decide +kernel) (by decide +kernel) (by decide +kernel) (by decide +kernel) ?_
      exact law_c5 hL C0 hA hAf hbA hE0 hV0 hii K c1 c2 c3 c4 c5 q vl wl rf rl rd hd0 hI hAg hP hD hS hl
    by_cases k_10 : z_3 = 6
    · obtain rfl := k_10
      refine lv_tableIn (off := 407) (tgt := 440) hx hb dL_law_33 (by decide +kernel) (by decide +kernel) (by decide +kernel) (by decide +kernel) ?_
      exact law_c6 hL C0 hA hAf hbA hE0 hV0 hii K c1 c2 c3 c4 c5 q vl wl rf rl rd hd0 hI hAg hP hD hS hl
    by_cases k_11 : z_3 = 7
    · obtain rfl := k_11
      refine lv_tableIn (off := 440) (tgt := 473) hx hb dL_law_33 (by decide +kernel) (by decide +kernel) (by decide +kernel) (by decide +kernel) ?_
      exact law_c7 hL C0 hA hAf hbA hE0 hV0 hii K c1 c2 c3 c4 c5 q vl wl rf rl rd hd0 hI hAg hP hD hS hl
    by_cases k_12 : z_3 = 8
    · obtain rfl := k_12
      refine lv_tableIn (off := 453) (tgt := 486) hx hb dL_law_33 (by decide +kernel) (by decide +kernel) (by decide +kernel) (by decide +kernel) ?_
      exact law_c8 hL C0 hA hAf hbA hE0 hV0 hii K c1 c2 c3 c4 c5 q vl wl rf rl rd hd0 hI hAg hP hD hS hl
    by_cases k_13 : z_3 = 9
    · obtain rfl := k_13
      refine lv_tableIn (off := 496) (tgt := 529) hx hb dL_law_33 (by decide +kernel) (by decide +kernel) (by decide +kernel) (by decide +kernel) ?_
      exact law_c9 hL C0 hA hAf hbA hE0 hV0 hii K c1 c2 c3 c4 c5 q vl wl rf rl rd hd0 hI hAg hP hD hS hl
    by_cases k_14 : z_3 = 10
    · obtain rfl := k_14
      refine lv_tableIn (off := 549) (tgt := 582) hx hb dL_law_33 (by decide +kernel) (by decide +kernel) (by decide +kernel) (by decide +kernel) ?_
      exact law_c10 hL C0 hA hAf hbA hE0 hV0 hii K c1 c2 c3 c4 c5 q vl wl rf rl rd hd0 hI hAg hP hD hS hl
    by_cases k_15 : z_3 = 11
    · obtain rfl := k_15
      refine lv_tableIn (off := 602) (tgt := 635) hx hb dL_law_33 (by decide +kernel) (by decide +kernel) (by decide +kernel) (by decide +kernel) ?_
      exact law_c11 hL C0 hA hAf hbA hE0 hV0 hii K c1 c2 c3 c4 c5 q vl wl rf rl rd hd0 hI hAg hP hD hS hl
    by_cases k_16 : z_3 = 12
    · obtain rfl := k_16
      refine lv_tableIn (off := 655) (tgt := 688) hx hb dL_law_33 (by decide +kernel) (by decide +kernel) (by decide +kernel) (by decide +kernel) ?_
      exact law_c12 hL C0 hA hAf hbA hE0 hV0 hii K c1 c2 c3 c4 c5 q vl wl rf rl rd hd0 hI hAg hP hD hS hl
    by_cases k_17 : z_3 = 13
    · obtain rfl := k_17
      refine lv_tableIn (off := 698) (tgt := 731) hx hb dL_law_33 (by decide +kernel) (by decide +kernel) (by decide +kernel) (by decide +kernel) ?_
      exact law_c13 hL C0 hA hAf hbA hE0 hV0 hii K c1 c2 c3 c4 c5 q vl wl rf rl rd hd0 hI hAg hP hD hS hl
    by_cases k_18 : z_3 = 14
    · obtain rfl := k_18
      refine lv_tableIn (off := 741) (tgt := 774) hx hb dL_law_33 (by decide +kernel) (by decide +kernel) (by decide +kernel) (by decide +kernel) ?_
      exact law_c14 hL C0 hA hAf hbA hE0 hV0 hii K c1 c2 c3 c4 c5 q vl wl rf rl rd hd0 hI hAg hP hD hS hl
    by_cases k_19 : z_3 = 15
    · obtain rfl := k_19
      refine lv_tableIn (off := 774) (tgt := 807) hx hb dL_law_33 (by decide +kernel) (by decide +kernel) (by decide +kernel) (by decide +kernel) ?_
      exact law_c15 hL C0 hA hAf hbA hE0 hV0 hii K c1 c2 c3 c4 c5 q vl wl rf rl rd hd0 hI hAg hP hD hS hl
    by_cases k_20 : z_3 = 16
    · obtain rfl := k_20
      refine lv_tableIn (off := 807) (tgt := 840) hx hb dL_law_33 (by decide +kernel) (by decide +kernel) (by decide +kernel) (by decide +kernel) ?_
      exact law_c16 hL C0 hA hAf hbA hE0 hV0 hii K c1 c2 c3 c4 c5 q vl wl rf rl rd hd0 hI hAg hP hD hS hl
    by_cases k_21 : z_3 = 17
    · obtain rfl := k_21
      refine lv_tableIn (off := 840) (tgt := 873) hx hb dL_law_33 (by decide +kernel) (by decide +kernel) (by decide +kernel) (by decide +kernel) ?_
      exact law_c17 hL C0 hA hAf hbA hE0 hV0 hii K c1 c2 c3 c4 c5 q vl wl rf rl rd hd0 hI hAg hP hD hS hl
    by_cases k_22 : z_3 = 18
    · obtain rfl := k_22
      refine lv_tableIn (off := 893) (tgt := 926) hx hb dL_law_33 (by decide +kernel) (by decide +kernel) (by decide +kernel) (by decide +kernel) ?_
      exact law_c18 hL C0 hA hAf hbA hE0 hV0 hii K c1 c2 c3 c4 c5 q vl wl rf rl rd hd0 hI hAg hP hD hS hl
    by_cases k_23 : z_3 = 19
    · obtain rfl := k_23
      refine lv_tableIn (off := 936) (tgt := 969) hx hb dL_law_33 (by decide +kernel) (by decide +kernel) (by decide +kernel) (by decide +kernel) ?_
      exact law_c19 hL C0 hA hAf hbA hE0 hV0 hii K c1 c2 c3 c4 c5 q vl wl rf rl rd hd0 hI hAg hP hD hS hl
    by_cases k_24 : z_3 = 20
    · obtain rfl := k_24
      refine lv_tableIn (off := 999) (tgt := 1032) hx hb dL_law_33 (by decide +kernel) (by decide +kernel) (by decide +kernel) (by decide +kernel) ?_
      exact law_c20 hL C0 hA hAf hbA hE0 hV0 hii K c1 c2 c3 c4 c5 q vl wl rf rl rd hd0 hI hAg hP hD hS hl
    by_cases k_25 : z_3 = 21
    · obtain rfl := k_25
      refine lv_tableIn (off := 1052) (tgt := 1085) hx hb dL_law_33 (by decide +kernel) (by decide +kernel) (by decide +kernel) (by decide +kernel) ?_
      exact law_c21 hL C0 hA hAf hbA hE0 hV0 hii K c1 c2 c3 c4 c5 q vl wl rf rl rd hd0 hI hAg hP hD hS hl
    by_cases k_26 : z_3 = 22
    · obtain rfl := k_26
      refine lv_tableIn (off := 1085) (tgt := 1118) hx hb dL_law_33 (by decide +kernel) (by decide +kernel) (by decide +kernel) (by decide +kernel) ?_
      exact law_c22 hL C0 hA hAf hbA hE0 hV0 hii K c1 c2 c3 c4 c5 q vl wl rf rl rd hd0 hI hAg hP hD hS hl
    by_cases k_27 : z_3 = 23
    · obtain rfl := k_27
      refine lv_tableIn (off := 1098) (tgt := 1131) hx hb dL_law_33 (by decide +kernel) (by decide +kernel) (by decide +kernel) (by decide +kernel) ?_
      exact law_c23 hL C0 hA hAf hbA hE0 hV0 hii K c1 c2 c3 c4 c5 q vl wl rf rl rd hd0 hI hAg hP hD hS hl
    by_cases k_28 : z_3 = 24
    · obtain rfl := k_28
      refine lv_tableIn (off := 1131) (tgt := 1164) hx hb dL_law_33 (by decide +kernel) (by decide +kernel) (by decide +kernel) (by decide +kernel) ?_
      exact law_c24 hL C0 hA hAf hbA hE0 hV0 hii K c1 c2 c3 c4 c5 q vl wl rf rl rd hd0 hI hAg hP hD hS hl
    by_cases k_29 : z_3 = 25
    · obtain rfl := k_29
      refine lv_tableIn (off := 1154) (tgt := 1187) hx hb dL_law_33 (by decide +kernel) (by decide +kernel) (by decide +kernel) (by decide +kernel) ?_
      exact law_c25 hL C0 hA hAf hbA hE0 hV0 hii K c1 c2 c3 c4 c5 q vl wl rf rl rd hd0 hI hAg hP hD hS hl
    by_cases k_30 : z_3 = 26
    · obtain rfl := k_30
      refine lv_tableIn (off := 1187) (tgt := 1220) hx hb dL_law_33 (by decide +kernel) (by decide +kernel) (by decide +kernel) (by decide +kernel) ?_
      exact law_c26 hL C0 hA hAf hbA hE0 hV0 hii K c1 c2 c3 c4 c5 q vl wl rf rl rd hd0 hI hAg hP hD hS hl
    by_cases k_31 : z_3 = 27
    · obtain rfl := k_31
      refine lv_tableIn (off := 1230) (tgt := 1263) hx hb dL_law_33 (by decide +kernel) (by decide +kernel) (by decide +kernel) (by decide +kernel) ?_
      exact law_c27 hL C0 hA hAf hbA hE0 hV0 hii K c1 c2 c3 c4 c5 q vl wl rf rl rd hd0 hI hAg hP hD hS hl
    by_cases k_32 : z_3 = 28
    · obtain rfl := k_32
      refine lv_tableIn (off := 1273) (tgt := 1306) hx hb dL_law_33 (by decide +kernel) (by decide +kernel) (by decide +kernel) (by decide +kernel) ?_
      exact law_c28 hL C0 hA hAf hbA hE0 hV0 hii K c1 c2 c3 c4 c5 q vl wl rf rl rd hd0 hI hAg hP hD hS hl
    by_cases k_33 : z_3 = 29
    · obtain rfl := k_33
      refine lv_tableIn (off := 1296) (tgt := 1329) hx hb dL_law_33 (by decide +kernel) (by decide +kernel) (by decide +kernel) (by decide +kernel) ?_
      exact law_c29 hL C0 hA hAf hbA hE0 hV0 hii K c1 c2 c3 c4 c5 q vl wl rf rl rd hd0 hI hAg hP hD hS hl
    by_cases k_34 : z_3 = 30
    · obtain rfl := k_34
      refine lv_tableIn (off := 1339) (tgt := 1372) hx hb dL_law_33 (by decide +kernel) (by decide +kernel) (by decide +kernel) (by decide +kernel) ?_
      exact law_c30 hL C0 hA hAf hbA hE0 hV0 hii K c1 c2 c3 c4 c5 q vl wl rf rl rd hd0 hI hAg hP hD hS hl
    by_cases k_35 : z_3 = 31
    · obtain rfl := k_35
      refine lv_tableIn (off := 1412) (tgt := 1445) hx hb dL_law_33 (by decide +kernel) (by decide +kernel) (by decide +kernel) (by decide +kernel) ?_
      exact law_c31 hL C0 hA hAf hbA hE0 hV0 hii K c1 c2 c3 c4 c5 q vl wl rf rl rd hd0 hI hAg hP hD hS hl
    by_cases k_36 : z_3 = 32
    · obtain rfl := k_36
      refine lv_tableIn (off := 1455) (tgt := 1488) hx hb dL_law_33 (by decide +kernel) (by decide +kernel) (by decide +kernel) (by decide +kernel) ?_
      exact law_c32 hL C0 hA hAf hbA hE0 hV0 hii K c1 c2 c3 c4 c5 q vl wl rf rl rd hd0 hI hAg hP hD hS hl
    by_cases k_37 : z_3 = 33
    · obtain rfl := k_37
      refine lv_tableIn (off := 1488) (tgt := 1521) hx hb dL_law_33 (by decide +kernel) (by decide +kernel) (by decide +kernel) (by decide +kernel) ?_
      exact law_c33 hL C0 hA hAf hbA hE0 hV0 hii K c1 c2 c3 c4 c5 q vl wl rf rl rd hd0 hI hAg hP hD hS hl
    by_cases k_38 : z_3 = 34
    · obtain rfl := k_38
      refine lv_tableIn (off := 1551) (tgt := 1584) hx hb dL_law_33 (by decide +kernel) (by decide +kernel) (by decide +kernel) (by decide +kernel) ?_
      exact law_c34 hL C0 hA hAf hbA hE0 hV0 hii K c1 c2 c3 c4 c5 q vl wl rf rl rd hd0 hI hAg hP hD hS hl
    by_cases k_39 : z_3 = 35
    · obtain rfl := k_39
      refine lv_tableIn (off := 1666) (tgt := 1699) hx hb dL_law_33 (by decide +kernel) (by decide +kernel) (by decide +kernel) (by decide +kernel) ?_
      exact law_c35 hL C0 hA hAf hbA hE0 hV0 hii K c1 c2 c3 c4 c5 q vl wl rf rl rd hd0 hI hAg hP hD hS hl
    by_cases k_40 : z_3 = 36
    · obtain rfl := k_40
      refine lv_tableIn (off := 1699) (tgt := 1732) hx hb dL_law_33 (by decide +kernel) (by decide +kernel) (by decide +kernel) (by decide +kernel) ?_
      exact law_c36 hL C0 hA hAf hbA hE0 hV0 hii K c1 c2 c3 c4 c5 q vl wl rf rl rd hd0 hI hAg hP hD hS hl
    by_cases k_41 : z_3 = 37
    · obtain rfl := k_41
      refine lv_tableIn (off := 1732) (tgt := 1765) hx hb dL_law_33 (by decide +kernel) (by decide +kernel) (by decide +kernel) (by decide +kernel) ?_
      exact law_c37 hL C0 hA hAf hbA hE0 hV0 hii K c1 c2 c3 c4 c5 q vl wl rf rl rd hd0 hI hAg hP hD hS hl
    by_cases k_42 : z_3 = 38
    · obtain rfl := k_42
      refine lv_tableIn (off := 1785) (tgt := 1818) hx hb dL_law_33 (by decide +kernel) (by decide +kernel) (by decide +kernel) (by decide +kernel) ?_
      exact law_c38 hL C0 hA hAf hbA hE0 hV0 hii K c1 c2 c3 c4 c5 q vl wl rf rl rd hd0 hI hAg hP hD hS hl
    by_cases k_43 : z_3 = 39
    · obtain rfl := k_43
      refine lv_tableIn (off := 1798) (tgt := 1831) hx hb dL_law_33 (by decide +kernel) (by decide +kernel) (by decide +kernel) (by decide +kernel) ?_
      exact law_c39 hL C0 hA hAf hbA hE0 hV0 hii K c1 c2 c3 c4 c5 q vl wl rf rl rd hd0 hI hAg hP hD hS hl
    by_cases k_44 : z_3 = 40
    · obtain rfl := k_44
      refine lv_tableIn (off := 1811) (tgt := 1844) hx hb dL_law_33 (by decide +kernel) (by decide +kernel) (by decide +kernel) (by decide +kernel) ?_
      exact law_c40 hL C0 hA hAf hbA hE0 hV0 hii K c1 c2 c3 c4 c5 q vl wl rf rl rd hd0 hI hAg hP hD hS hl
    rw [fa_eq] at k_4 k_5 k_6 k_7 k_8 k_9 k_10 k_11 k_12 k_13 k_14 k_15 k_16 k_17 k_18 k_19 k_20 k_21 k_22 k_23 k_24 k_25 k_26 k_27 k_28 k_29 k_30 k_31 k_32 k_33 k_34 k_35 k_36 k_37 k_38 k_39 k_40 k_41 k_42 k_43 k_44
    try simp only [ti_0, ti_1, ti_2, ti_3, ti_4, ti_5, ti_6, ti_7, ti_8, ti_9, ti_10, ti_11, ti_12, ti_13, ti_14, ti_15, ti_16, ti_17, ti_18, ti_19, ti_20, ti_21, ti_22, ti_23, ti_24, ti_25, ti_26, ti_27, ti_28, ti_29, ti_30, ti_31, ti_32, ti_33, ti_34, ti_35, ti_36, ti_37, ti_38, ti_39, ti_40] at k_4 k_5 k_6 k_7 k_8 k_9 k_10 k_11 k_12 k_13 k_14 k_15 k_16 k_17 k_18 k_19 k_20 k_21 k_22 k_23 k_24 k_25 k_26 k_27 k_28 k_29 k_30 k_31 k_32 k_33 k_34 k_35 k_36 k_37 k_38 k_39 k_40 k_41 k_42 k_43 k_44
    refine lv_tableOut (tgt := 1867) hx hb dL_law_33 (by omega) (by decide +kernel) ?_
    exact K c1 c2 c3 c4 c5 q vl wl rf rl rd ls H locs d0 hd0 hI (by omega) hP hD hS hl
theorem okC_zero : okC (fun _ => 0) (fun _ => 0) (fun _ => 0) (fun _ => 0) := fun j hj => ⟨by (try dsimp only); decide, fun h => absurd h (by (try dsimp only); decide), fun h => absurd h (by (try dsimp only); decide), by (try dsimp only); decide⟩
theorem okR_zero : okR (fun _ => 0) (fun _ => 0) (fun _ => 0) := fun j hj => ⟨by (try dsimp only); decide, fun h => absurd h (by (try dsimp only); decide), fun h => absurd h (by (try dsimp only); decide)⟩
/-- both objects fresh -/
theorem lwI_zero : lwI (fun k => [0, 0, 0, 1, 0, 0, 0, 0, 0, 0, 0].getD k 0) (fun k => List.getD (α := Nat → Int32) ((fun k => [0, 1, 1, 1, 2, 1, 1].getD k 0) :: (fun k => [0, 1, 1, 1, 2, 1, 1].getD k 0) :: (fun _ => 0) :: (fun _ => 0) :: (fun _ => 0) :: (fun _ => 0) :: (fun _ => 0) :: (fun _ => 0) :: (fun _ => 0) :: (fun _ => 0) :: (fun _ => 0) :: (fun _ => 0) :: (fun _ => 0) :: (fun _ => 0) :: (fun _ => 0) :: (fun _ => 0) :: (fun k => [0, 0, 0].getD k 0) :: (fun k => [0, 0, 0].getD k 0) :: (fun _ => 0) :: (fun _ => 0) :: (fun _ => 0) :: (fun _ => 0) :: (fun _ => 0) :: (fun _ => 0) :: (fun _ => 0) :: (fun _ => 0) :: (fun _ => 0) :: (fun _ => 0) :: (fun k => [(-1), (-1), (-1), (-1)].getD k 0) :: (fun k => [0, 0, 0, 0].getD k 0) :: (fun _ => 0) :: (fun _ => 0) :: (fun _ => 0) :: (fun _ => 0) :: (fun k => [0, 0, 0, 0].getD k 0) :: (fun k => [0, 0, 0, 0].getD k 0) :: []) k (fun _ => 0)) (fun k => [(fun _ => 0), (fun _ => 0), (fun _ => 0), (fun _ => 0), (fun _ => 0), (fun _ => 0), (fun _ => 0), (fun k => [0, 0, 0, 0].getD k 0), (fun k => [1, 1, 1, 1].getD k 0)].getD k (fun _ => 0)) (fun k => List.getD (α := Int32) (0 :: 1 :: 1 :: 1 :: 2 :: 1 :: 1 :: 0 :: 0 :: 0 :: 0 :: 0 :: 0 :: 0 :: 0 :: 0 :: 0 :: 0 :: 0 :: 0 :: 0 :: 0 :: 0 :: 0 :: 0 :: 0 :: 0 :: 0 :: 0 :: 0 :: 0 :: 0 :: 0 :: 0 :: 0 :: 0 :: 0 :: 0 :: 0 :: 0 :: 0 :: 0 :: 0 :: 0 :: 0 :: []) k 0) (fun k => List.getD (α := Nat → Int32) ((fun _ => 0) :: (fun _ => 0) :: (fun _ => 0) :: (fun _ => 0) :: (fun _ => 0) :: (fun _ => 0) :: (fun _ => 0) :: (fun _ => 0) :: (fun _ => 0) :: (fun _ => 0) :: (fun _ => 0) :: (fun _ => 0) :: (fun _ => 0) :: (fun _ => 0) :: (fun _ => 0) :: (fun _ => 0) :: (fun _ => 0) :: (fun _ => 0) :: (fun _ => 0) :: (fun _ => 0) :: (fun _ => 0) :: (fun _ => 0) :: (fun _ => 0) :: (fun _ => 0) :: (fun _ => 0) :: (fun _ => 0) :: (fun _ => 0) :: (fun _ => 0) :: (fun _ => 0) :: (fun _ => 0) :: (fun _ => 0) :: (fun _ => 0) :: (fun _ => 0) :: (fun _ => 0) :: (upd (upd (upd (upd (fun _ => 0) 0 (-1)) 1 (-1)) 2 (-1)) 3 (-1)) :: (fun _ => 0) :: (fun _ => 0) :: (fun _ => 0) :: (fun _ => 0) :: (fun _ => 0) :: (fun _ => 0) :: (fun _ => 0) :: (fun _ => 0) :: []) k (fun _ => 0)) (fun k => List.getD (α := Nat → Int64) ((fun _ => 0) :: (fun _ => 0) :: (fun _ => 0) :: (fun _ => 0) :: (fun _ => 0) :: (fun _ => 0) :: (fun _ => 0) :: (fun _ => 0) :: (fun _ => 0) :: (fun _ => 0) :: (fun _ => 0) :: (fun _ => 0) :: (fun _ => 0) :: (fun _ => 0) :: (fun _ => 0) :: (fun _ => 0) :: (fun _ => 0) :: (fun _ => 0) :: (fun _ => 0) :: (fun _ => 0) :: (fun _ => 0) :: (fun _ => 0) :: (fun _ => 0) :: (fun _ => 0) :: (fun _ => 0) :: (fun _ => 0) :: (fun _ => 0) :: (fun _ => 0) :: (fun _ => 0) :: (fun _ => 0) :: (fun _ => 0) :: (fun _ => 0) :: (fun _ => 0) :: (fun _ => 0) :: (fun _ => 0) :: (fun _ => 0) :: (fun _ => 0) :: (fun _ => 0) :: (fun _ => 0) :: (fun _ => 0) :: (fun _ => 0) :: []) k (fun _ => 0)) := ⟨(by decide +kernel), okC_zero, okC_zero, (by decide +kernel), okR_zero, isB0, (fun _ => isB0), (fun k _ => by show 0 ≤ (0 : Int32).toInt ∧ (0 : Int32).toInt ≤ 12; decide), (fun k _ => by show 0 ≤ (0 : Int32).toInt ∧ (0 : Int32).toInt ≤ 30; decide), (fun k _ h => absurd (show (0 : Int32).toInt = 2 from h) (by decide +kernel)), (fun h => absurd (by decide +kernel) h), ⟨rfl, rfl, rfl, rfl, rfl, rfl, rfl⟩, rfl, (fun h => absurd (by decide +kernel) h), rfl, (fun k hk => by
  have hk : k = 0 ∨ k = 1 ∨ k = 2 ∨ k = 3 := by omega
  rcases hk with rfl | rfl | rfl | rfl <;> decide), all4' (fun h => absurd h (by decide +kernel)) (fun h => absurd h (by decide +kernel)) (fun h => absurd h (by decide +kernel)) (fun h => absurd h (by decide +kernel)), ⟨by decide, fun j hj => absurd hj (Nat.not_lt_zero j)⟩, all3 ⟨rfl, fun i hi => absurd hi (by show ¬ (i : Int) < (0 : Int32).toInt; rw [ti_0]; omega)⟩ ⟨rfl, fun i hi => absurd hi (by show ¬ (i : Int) < (0 : Int32).toInt; rw [ti_0]; omega)⟩ ⟨rfl, fun i hi => absurd hi (by show ¬ (i : Int) < (0 : Int32).toInt; rw [ti_0]; omega)⟩, all4' ⟨rfl, fun h => absurd h (by decide +kernel)⟩ ⟨rfl, fun h => absurd h (by decide +kernel)⟩ ⟨rfl, fun h => absurd h (by decide +kernel)⟩ ⟨rfl, fun h => absurd h (by decide +kernel)⟩, rfl, (fun h => absurd (by decide +kernel) h), (fun j hj => absurd hj (by show ¬ (j : Int) < (0 : Int32).toInt; rw [ti_0]; omega)), memW_zero, (fun j _ => by show (0 : Int32).toInt ≤ (1 : Int32).toInt; decide), (fun k _ h => absurd (show (0 : Int32).toInt = 2 from h) (by decide +kernel))⟩
