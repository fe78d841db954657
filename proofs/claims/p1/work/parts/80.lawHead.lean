theorem in_L_law_X12 : ∀ w ∈ wsX120, w ∈ lw_tbl := fun w h => (lgg_X120 w h).1
theorem in_L_law_X13 : ∀ w ∈ wsX130, w ∈ lw_tbl := fun w h => (lgg_X130 w h).1
theorem lg_X12_init : GoodIn lw_tbl wsX12_init := lgg_X12_init
theorem lg_X13_init : GoodIn lw_tbl wsX13_init := lgg_X13_init
theorem dL_law_27 : decode cL_law 27 = .ok (.aload_n 0, 1) := by decide +kernel
theorem dL_law_28 : decode cL_law 28 = .ok (.iload_n 3, 1) := by decide +kernel
theorem dL_law_29 : decode cL_law 29 = .ok (.iaload, 1) := by decide +kernel
theorem dL_law_30 : decode cL_law 30 = .ok (.bipush 63, 2) := by decide +kernel
theorem dL_law_32 : decode cL_law 32 = .ok (.iand, 1) := by decide +kernel
theorem dL_law_33 : decode cL_law 33 = .ok (.tableswitch 1841 0 40 #[179, 222, 255, 288, 321, 354, 407, 440, 453, 496, 550, 604, 658, 701, 744, 777, 810, 843, 897, 940, 1004, 1057, 1090, 1103, 1136, 1159, 1192, 1235, 1278, 1301, 1344, 1417, 1461, 1494, 1557, 1672, 1705, 1739, 1792, 1805, 1818], 179) := by decide +kernel
set_option maxHeartbeats 4000000 in
set_option maxRecDepth 100000 in
/-- at the loop's head, both objects fresh -/
theorem law_head {p : Program} {e : Env} {s : State} {m : MethodId} {below : List Frame} {meth : Method} {c : Code} {l : Launch} {b : Nat} {xs : Nat → Int32} {L : Nat} (hL : L ≤ 7) (C0 : lw_At p s m meth c b L xs) {D : va_G} {T : Nat → ClassId} {ad sa av : Nat → Nat} {ta : Nat} {A : Nat → Prop} (hA : ∀ q : Nat, s.heap.size ≤ q → A q) (hAf : ∀ q : Nat, A q → s.heap.size ≤ q) (hbA : ¬ A b) (hE : ekK D T s) (hV : evK ad sa av ta A s s.heap) {q1 q2 : Nat} {u v : Nat → Nat} {H : Heap} {locs : List Loc} (hP : va_P D vwCl (lwW T sa q1 q2 u v) H) (hD : va_D A (lwW T sa q1 q2 u v)) (hS : va_S A s.heap H locs) {ls : Array Slot} (hl : lv_has ls 4 [(3, .int 0), (2, .ref q2), (1, .ref q1), (0, .ref b)]) : W p l e room_1 s m #[Value.ref b] below meth c H locs 95 6031 (lw_Z below #[Value.ref b] s) (F0 m 18 ls []) := by
  obtain ⟨hx, hb, hr, hml, hown, hts, hX, hbl, hlocks, hgv⟩ := id C0
  rcases (show L = 0 ∨ L = 1 ∨ L = 2 ∨ L = 3 ∨ L = 4 ∨ L = 5 ∨ L = 6 ∨ L = 7 by omega) with rfl | rfl | rfl | rfl | rfl | rfl | rfl | rfl
  · refine lv_iload_n hx hb dL_law_18 rfl (lv_at hl 0 rfl) ?_
    refine lv_aload_n hx hb dL_law_19 rfl (lv_at hl 3 rfl) ?_
    refine va_slen hx hb hX hbl hbA hS dL_law_20 ?_
    refine lv_topi (fun z_1 ez_1 => ?_)
    obtain rfl : z_1 = 0 := ez_1.trans (by decide)
    refine lv_bipush (v := 7) hx hb dL_law_21 (by decide) ?_
    refine lv_isub hx hb dL_law_23 ?_
    refine lv_topi (fun z_2 ez_2 => ?_)
    obtain rfl : z_2 = (-7) := ez_2.trans (by decide)
    refine lv_icmp_gt (tgt := 1880) hx hb dL_law_24 (by decide) (fun _ => ?_) (fun c9 => absurd c9 (by decide))
    refine lv_iconst (v := 1) hx hb dL_law_1880 (by decide) ?_
    refine va_forget (fun q hq => hAf _ (hS.2.2 q hq)) ?_
    refine W.widen (k := 600000) (n := 7302250) (Nat.le_of_ble_eq_true rfl) (Nat.le_of_ble_eq_true rfl) ?_
    refine W.base ?_
    exact lw_ret (Drawn.sameBut.refl s.drawn lw_cs) hx hb hr hlocks dL_law_1881
  · refine lv_iload_n hx hb dL_law_18 rfl (lv_at hl 0 rfl) ?_
    refine lv_aload_n hx hb dL_law_19 rfl (lv_at hl 3 rfl) ?_
    refine va_slen hx hb hX hbl hbA hS dL_law_20 ?_
    refine lv_topi (fun z_1 ez_1 => ?_)
    obtain rfl : z_1 = 1 := ez_1.trans (by decide)
    refine lv_bipush (v := 7) hx hb dL_law_21 (by decide) ?_
    refine lv_isub hx hb dL_law_23 ?_
    refine lv_topi (fun z_2 ez_2 => ?_)
    obtain rfl : z_2 = (-6) := ez_2.trans (by decide)
    refine lv_icmp_gt (tgt := 1880) hx hb dL_law_24 (by decide) (fun _ => ?_) (fun c9 => absurd c9 (by decide))
    refine lv_iconst (v := 1) hx hb dL_law_1880 (by decide) ?_
    refine va_forget (fun q hq => hAf _ (hS.2.2 q hq)) ?_
    refine W.widen (k := 600000) (n := 7302250) (Nat.le_of_ble_eq_true rfl) (Nat.le_of_ble_eq_true rfl) ?_
    refine W.base ?_
    exact lw_ret (Drawn.sameBut.refl s.drawn lw_cs) hx hb hr hlocks dL_law_1881
  · refine lv_iload_n hx hb dL_law_18 rfl (lv_at hl 0 rfl) ?_
    refine lv_aload_n hx hb dL_law_19 rfl (lv_at hl 3 rfl) ?_
    refine va_slen hx hb hX hbl hbA hS dL_law_20 ?_
    refine lv_topi (fun z_1 ez_1 => ?_)
    obtain rfl : z_1 = 2 := ez_1.trans (by decide)
    refine lv_bipush (v := 7) hx hb dL_law_21 (by decide) ?_
    refine lv_isub hx hb dL_law_23 ?_
    refine lv_topi (fun z_2 ez_2 => ?_)
    obtain rfl : z_2 = (-5) := ez_2.trans (by decide)
    refine lv_icmp_gt (tgt := 1880) hx hb dL_law_24 (by decide) (fun _ => ?_) (fun c9 => absurd c9 (by decide))
    refine lv_iconst (v := 1) hx hb dL_law_1880 (by decide) ?_
    refine va_forget (fun q hq => hAf _ (hS.2.2 q hq)) ?_
    refine W.widen (k := 600000) (n := 7302250) (Nat.le_of_ble_eq_true rfl) (Nat.le_of_ble_eq_true rfl) ?_
    refine W.base ?_
    exact lw_ret (Drawn.sameBut.refl s.drawn lw_cs) hx hb hr hlocks dL_law_1881
  · refine lv_iload_n hx hb dL_law_18 rfl (lv_at hl 0 rfl) ?_
    refine lv_aload_n hx hb dL_law_19 rfl (lv_at hl 3 rfl) ?_
    refine va_slen hx hb hX hbl hbA hS dL_law_20 ?_
    refine lv_topi (fun z_1 ez_1 => ?_)
    obtain rfl : z_1 = 3 := ez_1.trans (by decide)
    refine lv_bipush (v := 7) hx hb dL_law_21 (by decide) ?_
    refine lv_isub hx hb dL_law_23 ?_
    refine lv_topi (fun z_2 ez_2 => ?_)
    obtain rfl : z_2 = (-4) := ez_2.trans (by decide)
    refine lv_icmp_gt (tgt := 1880) hx hb dL_law_24 (by decide) (fun _ => ?_) (fun c9 => absurd c9 (by decide))
    refine lv_iconst (v := 1) hx hb dL_law_1880 (by decide) ?_
    refine va_forget (fun q hq => hAf _ (hS.2.2 q hq)) ?_
    refine W.widen (k := 600000) (n := 7302250) (Nat.le_of_ble_eq_true rfl) (Nat.le_of_ble_eq_true rfl) ?_
    refine W.base ?_
    exact lw_ret (Drawn.sameBut.refl s.drawn lw_cs) hx hb hr hlocks dL_law_1881
  · refine lv_iload_n hx hb dL_law_18 rfl (lv_at hl 0 rfl) ?_
    refine lv_aload_n hx hb dL_law_19 rfl (lv_at hl 3 rfl) ?_
    refine va_slen hx hb hX hbl hbA hS dL_law_20 ?_
    refine lv_topi (fun z_1 ez_1 => ?_)
    obtain rfl : z_1 = 4 := ez_1.trans (by decide)
    refine lv_bipush (v := 7) hx hb dL_law_21 (by decide) ?_
    refine lv_isub hx hb dL_law_23 ?_
    refine lv_topi (fun z_2 ez_2 => ?_)
    obtain rfl : z_2 = (-3) := ez_2.trans (by decide)
    refine lv_icmp_gt (tgt := 1880) hx hb dL_law_24 (by decide) (fun _ => ?_) (fun c9 => absurd c9 (by decide))
    refine lv_iconst (v := 1) hx hb dL_law_1880 (by decide) ?_
    refine va_forget (fun q hq => hAf _ (hS.2.2 q hq)) ?_
    refine W.widen (k := 600000) (n := 7302250) (Nat.le_of_ble_eq_true rfl) (Nat.le_of_ble_eq_true rfl) ?_
    refine W.base ?_
    exact lw_ret (Drawn.sameBut.refl s.drawn lw_cs) hx hb hr hlocks dL_law_1881
  · refine lv_iload_n hx hb dL_law_18 rfl (lv_at hl 0 rfl) ?_
    refine lv_aload_n hx hb dL_law_19 rfl (lv_at hl 3 rfl) ?_
    refine va_slen hx hb hX hbl hbA hS dL_law_20 ?_
    refine lv_topi (fun z_1 ez_1 => ?_)
    obtain rfl : z_1 = 5 := ez_1.trans (by decide)
    refine lv_bipush (v := 7) hx hb dL_law_21 (by decide) ?_
    refine lv_isub hx hb dL_law_23 ?_
    refine lv_topi (fun z_2 ez_2 => ?_)
    obtain rfl : z_2 = (-2) := ez_2.trans (by decide)
    refine lv_icmp_gt (tgt := 1880) hx hb dL_law_24 (by decide) (fun _ => ?_) (fun c9 => absurd c9 (by decide))
    refine lv_iconst (v := 1) hx hb dL_law_1880 (by decide) ?_
    refine va_forget (fun q hq => hAf _ (hS.2.2 q hq)) ?_
    refine W.widen (k := 600000) (n := 7302250) (Nat.le_of_ble_eq_true rfl) (Nat.le_of_ble_eq_true rfl) ?_
    refine W.base ?_
    exact lw_ret (Drawn.sameBut.refl s.drawn lw_cs) hx hb hr hlocks dL_law_1881
  · refine lv_iload_n hx hb dL_law_18 rfl (lv_at hl 0 rfl) ?_
    refine lv_aload_n hx hb dL_law_19 rfl (lv_at hl 3 rfl) ?_
    refine va_slen hx hb hX hbl hbA hS dL_law_20 ?_
    refine lv_topi (fun z_1 ez_1 => ?_)
    obtain rfl : z_1 = 6 := ez_1.trans (by decide)
    refine lv_bipush (v := 7) hx hb dL_law_21 (by decide) ?_
    refine lv_isub hx hb dL_law_23 ?_
    refine lv_topi (fun z_2 ez_2 => ?_)
    obtain rfl : z_2 = (-1) := ez_2.trans (by decide)
    refine lv_icmp_gt (tgt := 1880) hx hb dL_law_24 (by decide) (fun _ => ?_) (fun c9 => absurd c9 (by decide))
    refine lv_iconst (v := 1) hx hb dL_law_1880 (by decide) ?_
    refine va_forget (fun q hq => hAf _ (hS.2.2 q hq)) ?_
    refine W.widen (k := 600000) (n := 7302250) (Nat.le_of_ble_eq_true rfl) (Nat.le_of_ble_eq_true rfl) ?_
    refine W.base ?_
    exact lw_ret (Drawn.sameBut.refl s.drawn lw_cs) hx hb hr hlocks dL_law_1881
  · refine lv_iload_n hx hb dL_law_18 rfl (lv_at hl 0 rfl) ?_
    refine lv_aload_n hx hb dL_law_19 rfl (lv_at hl 3 rfl) ?_
    refine va_slen hx hb hX hbl hbA hS dL_law_20 ?_
    refine lv_topi (fun z_1 ez_1 => ?_)
    obtain rfl : z_1 = 7 := ez_1.trans (by decide)
    refine lv_bipush (v := 7) hx hb dL_law_21 (by decide) ?_
    refine lv_isub hx hb dL_law_23 ?_
    refine lv_topi (fun z_2 ez_2 => ?_)
    obtain rfl : z_2 = 0 := ez_2.trans (by decide)
    refine lv_icmp_gt (tgt := 1880) hx hb dL_law_24 (by decide) (fun c9 => absurd c9 (by decide)) (fun _ => ?_)
    refine lv_aload_n hx hb dL_law_27 rfl (lv_at hl 3 rfl) ?_
    refine lv_iload_n hx hb dL_law_28 rfl (lv_at hl 0 rfl) ?_
    refine va_sld hx hb hX hbl hbA hS (by unfold vp_in; decide) dL_law_29 ?_
    refine W.eq (g2 := F0 m 30 ls [.int (xs 0)]) rfl ?_
    refine lv_bipush (v := 63) hx hb dL_law_30 (by decide) ?_
    refine lv_iand hx hb dL_law_32 ?_
    refine lv_topi (fun z_3 ez_3 => ?_)
    by_cases k_4 : z_3 = 0
    · obtain rfl := k_4
      refine lv_tableIn (off := 179) (tgt := 212) hx hb dL_law_33 (by decide) (by decide) (by decide) (by decide) ?_
      exact law_c0 C0 hA hAf hbA hE hV hP hD hS hl
    by_cases k_5 : z_3 = 1
    · obtain rfl := k_5
      refine lv_tableIn (off := 222) (tgt := 255) hx hb dL_law_33 (by decide) (by decide) (by decide) (by decide) ?_
      exact law_c1 C0 hA hAf hbA hE hV hP hD hS hl
    by_cases k_6 : z_3 = 2
    · obtain rfl := k_6
      refine lv_tableIn (off := 255) (tgt := 288) hx hb dL_law_33 (by decide) (by decide) (by decide) (by decide) ?_
      exact law_c2 C0 hA hAf hbA hE hV hP hD hS hl
    by_cases k_7 : z_3 = 3
    · obtain rfl := k_7
      refine lv_tableIn (off := 288) (tgt := 321) hx hb dL_law_33 (by decide) (by decide) (by decide) (by decide) ?_
      exact law_c3 C0 hA hAf hbA hE hV hP hD hS hl
    by_cases k_8 : z_3 = 4
    · obtain rfl := k_8
      refine lv_tableIn (off := 321) (tgt := 354) hx hb dL_law_33 (by decide) (by decide) (by decide) (by decide) ?_
      exact law_c4 C0 hA hAf hbA hE hV hP hD hS hl
    by_cases k_9 : z_3 = 5
    · obtain rfl := k_9
      refine lv_tableIn (off := 354) (tgt := 387) hx hb dL_law_33 (by decide) (by decide) (by decide) (by decide) ?_
      exact law_c5 C0 hA hAf hbA hE hV hP hD hS hl
    by_cases k_10 : z_3 = 6
    · obtain rfl := k_10
      refine lv_tableIn (off := 407) (tgt := 440) hx hb dL_law_33 (by decide) (by decide) (by decide) (by decide) ?_
      exact law_c6 C0 hA hAf hbA hE hV hP hD hS hl
    by_cases k_11 : z_3 = 7
    · obtain rfl := k_11
      refine lv_tableIn (off := 440) (tgt := 473) hx hb dL_law_33 (by decide) (by decide) (by decide) (by decide) ?_
      exact law_c7 C0 hA hAf hbA hE hV hP hD hS hl
    by_cases k_12 : z_3 = 8
    · obtain rfl := k_12
      refine lv_tableIn (off := 453) (tgt := 486) hx hb dL_law_33 (by decide) (by decide) (by decide) (by decide) ?_
      exact law_c8 C0 hA hAf hbA hE hV hP hD hS hl
    by_cases k_13 : z_3 = 9
    · obtain rfl := k_13
      refine lv_tableIn (off := 496) (tgt := 529) hx hb dL_law_33 (by decide) (by decide) (by decide) (by decide) ?_
      exact law_c9 C0 hA hAf hbA hE hV hP hD hS hl
    by_cases k_14 : z_3 = 10
    · obtain rfl := k_14
      refine lv_tableIn (off := 550) (tgt := 583) hx hb dL_law_33 (by decide) (by decide) (by decide) (by decide) ?_
      exact law_c10 C0 hA hAf hbA hE hV hP hD hS hl
    by_cases k_15 : z_3 = 11
    · obtain rfl := k_15
      refine lv_tableIn (off := 604) (tgt := 637) hx hb dL_law_33 (by decide) (by decide) (by decide) (by decide) ?_
      exact law_c11 C0 hA hAf hbA hE hV hP hD hS hl
    by_cases k_16 : z_3 = 12
    · obtain rfl := k_16
      refine lv_tableIn (off := 658) (tgt := 691) hx hb dL_law_33 (by decide) (by decide) (by decide) (by decide) ?_
      exact law_c12 C0 hA hAf hbA hE hV hP hD hS hl
    by_cases k_17 : z_3 = 13
    · obtain rfl := k_17
      refine lv_tableIn (off := 701) (tgt := 734) hx hb dL_law_33 (by decide) (by decide) (by decide) (by decide) ?_
      exact law_c13 C0 hA hAf hbA hE hV hP hD hS hl
    by_cases k_18 : z_3 = 14
    · obtain rfl := k_18
      refine lv_tableIn (off := 744) (tgt := 777) hx hb dL_law_33 (by decide) (by decide) (by decide) (by decide) ?_
      exact law_c14 C0 hA hAf hbA hE hV hP hD hS hl
    by_cases k_19 : z_3 = 15
    · obtain rfl := k_19
      refine lv_tableIn (off := 777) (tgt := 810) hx hb dL_law_33 (by decide) (by decide) (by decide) (by decide) ?_
      exact law_c15 C0 hA hAf hbA hE hV hP hD hS hl
    by_cases k_20 : z_3 = 16
    · obtain rfl := k_20
      refine lv_tableIn (off := 810) (tgt := 843) hx hb dL_law_33 (by decide) (by decide) (by decide) (by decide) ?_
      exact law_c16 C0 hA hAf hbA hE hV hP hD hS hl
    by_cases k_21 : z_3 = 17
    · obtain rfl := k_21
      refine lv_tableIn (off := 843) (tgt := 876) hx hb dL_law_33 (by decide) (by decide) (by decide) (by decide) ?_
      exact law_c17 C0 hA hAf hbA hE hV hP hD hS hl
    by_cases k_22 : z_3 = 18
    · obtain rfl := k_22
      refine lv_tableIn (off := 897) (tgt := 930) hx hb dL_law_33 (by decide) (by decide) (by decide) (by decide) ?_
      exact law_c18 C0 hA hAf hbA hE hV hP hD hS hl
    by_cases k_23 : z_3 = 19
    · obtain rfl := k_23
      refine lv_tableIn (off := 940) (tgt := 973) hx hb dL_law_33 (by decide) (by decide) (by decide) (by decide) ?_
      exact law_c19 C0 hA hAf hbA hE hV hP hD hS hl
    by_cases k_24 : z_3 = 20
    · obtain rfl := k_24
      refine lv_tableIn (off := 1004) (tgt := 1037) hx hb dL_law_33 (by decide) (by decide) (by decide) (by decide) ?_
      exact law_c20 C0 hA hAf hbA hE hV hP hD hS hl
    by_cases k_25 : z_3 = 21
    · obtain rfl := k_25
      refine lv_tableIn (off := 1057) (tgt := 1090) hx hb dL_law_33 (by decide) (by decide) (by decide) (by decide) ?_
      exact law_c21 C0 hA hAf hbA hE hV hP hD hS hl
    by_cases k_26 : z_3 = 22
    · obtain rfl := k_26
      refine lv_tableIn (off := 1090) (tgt := 1123) hx hb dL_law_33 (by decide) (by decide) (by decide) (by decide) ?_
      exact law_c22 C0 hA hAf hbA hE hV hP hD hS hl
    by_cases k_27 : z_3 = 23
    · obtain rfl := k_27
      refine lv_tableIn (off := 1103) (tgt := 1136) hx hb dL_law_33 (by decide) (by decide) (by decide) (by decide) ?_
      exact law_c23 C0 hA hAf hbA hE hV hP hD hS hl
    by_cases k_28 : z_3 = 24
    · obtain rfl := k_28
      refine lv_tableIn (off := 1136) (tgt := 1169) hx hb dL_law_33 (by decide) (by decide) (by decide) (by decide) ?_
      exact law_c24 C0 hA hAf hbA hE hV hP hD hS hl
    by_cases k_29 : z_3 = 25
    · obtain rfl := k_29
      refine lv_tableIn (off := 1159) (tgt := 1192) hx hb dL_law_33 (by decide) (by decide) (by decide) (by decide) ?_
      exact law_c25 C0 hA hAf hbA hE hV hP hD hS hl
    by_cases k_30 : z_3 = 26
    · obtain rfl := k_30
      refine lv_tableIn (off := 1192) (tgt := 1225) hx hb dL_law_33 (by decide) (by decide) (by decide) (by decide) ?_
      exact law_c26 C0 hA hAf hbA hE hV hP hD hS hl
    by_cases k_31 : z_3 = 27
    · obtain rfl := k_31
      refine lv_tableIn (off := 1235) (tgt := 1268) hx hb dL_law_33 (by decide) (by decide) (by decide) (by decide) ?_
      exact law_c27 C0 hA hAf hbA hE hV hP hD hS hl
    by_cases k_32 : z_3 = 28
    · obtain rfl := k_32
      refine lv_tableIn (off := 1278) (tgt := 1311) hx hb dL_law_33 (by decide) (by decide) (by decide) (by decide) ?_
      exact law_c28 C0 hA hAf hbA hE hV hP hD hS hl
    by_cases k_33 : z_3 = 29
    · obtain rfl := k_33
      refine lv_tableIn (off := 1301) (tgt := 1334) hx hb dL_law_33 (by decide) (by decide) (by decide) (by decide) ?_
      exact law_c29 C0 hA hAf hbA hE hV hP hD hS hl
    by_cases k_34 : z_3 = 30
    · obtain rfl := k_34
      refine lv_tableIn (off := 1344) (tgt := 1377) hx hb dL_law_33 (by decide) (by decide) (by decide) (by decide) ?_
      exact law_c30 C0 hA hAf hbA hE hV hP hD hS hl
    by_cases k_35 : z_3 = 31
    · obtain rfl := k_35
      refine lv_tableIn (off := 1417) (tgt := 1450) hx hb dL_law_33 (by decide) (by decide) (by decide) (by decide) ?_
      exact law_c31 C0 hA hAf hbA hE hV hP hD hS hl
    by_cases k_36 : z_3 = 32
    · obtain rfl := k_36
      refine lv_tableIn (off := 1461) (tgt := 1494) hx hb dL_law_33 (by decide) (by decide) (by decide) (by decide) ?_
      exact law_c32 C0 hA hAf hbA hE hV hP hD hS hl
    by_cases k_37 : z_3 = 33
    · obtain rfl := k_37
      refine lv_tableIn (off := 1494) (tgt := 1527) hx hb dL_law_33 (by decide) (by decide) (by decide) (by decide) ?_
      exact law_c33 C0 hA hAf hbA hE hV hP hD hS hl
    by_cases k_38 : z_3 = 34
    · obtain rfl := k_38
      refine lv_tableIn (off := 1557) (tgt := 1590) hx hb dL_law_33 (by decide) (by decide) (by decide) (by decide) ?_
      exact law_c34 C0 hA hAf hbA hE hV hP hD hS hl
    by_cases k_39 : z_3 = 35
    · obtain rfl := k_39
      refine lv_tableIn (off := 1672) (tgt := 1705) hx hb dL_law_33 (by decide) (by decide) (by decide) (by decide) ?_
      exact law_c35 C0 hA hAf hbA hE hV hP hD hS hl
    by_cases k_40 : z_3 = 36
    · obtain rfl := k_40
      refine lv_tableIn (off := 1705) (tgt := 1738) hx hb dL_law_33 (by decide) (by decide) (by decide) (by decide) ?_
      exact law_c36 C0 hA hAf hbA hE hV hP hD hS hl
    by_cases k_41 : z_3 = 37
    · obtain rfl := k_41
      refine lv_tableIn (off := 1739) (tgt := 1772) hx hb dL_law_33 (by decide) (by decide) (by decide) (by decide) ?_
      exact law_c37 C0 hA hAf hbA hE hV hP hD hS hl
    by_cases k_42 : z_3 = 38
    · obtain rfl := k_42
      refine lv_tableIn (off := 1792) (tgt := 1825) hx hb dL_law_33 (by decide) (by decide) (by decide) (by decide) ?_
      exact law_c38 C0 hA hAf hbA hE hV hP hD hS hl
    by_cases k_43 : z_3 = 39
    · obtain rfl := k_43
      refine lv_tableIn (off := 1805) (tgt := 1838) hx hb dL_law_33 (by decide) (by decide) (by decide) (by decide) ?_
      exact law_c39 C0 hA hAf hbA hE hV hP hD hS hl
    by_cases k_44 : z_3 = 40
    · obtain rfl := k_44
      refine lv_tableIn (off := 1818) (tgt := 1851) hx hb dL_law_33 (by decide) (by decide) (by decide) (by decide) ?_
      exact law_c40 C0 hA hAf hbA hE hV hP hD hS hl
    rw [fa_eq] at k_4 k_5 k_6 k_7 k_8 k_9 k_10 k_11 k_12 k_13 k_14 k_15 k_16 k_17 k_18 k_19 k_20 k_21 k_22 k_23 k_24 k_25 k_26 k_27 k_28 k_29 k_30 k_31 k_32 k_33 k_34 k_35 k_36 k_37 k_38 k_39 k_40 k_41 k_42 k_43 k_44
    try simp only [ti_0, ti_1, ti_2, ti_3, ti_4, ti_5, ti_6, ti_7, ti_8, ti_9, ti_10, ti_11, ti_12, ti_13, ti_14, ti_15, ti_16, ti_17, ti_18, ti_19, ti_20, ti_21, ti_22, ti_23, ti_24, ti_25, ti_26, ti_27, ti_28, ti_29, ti_30, ti_31, ti_32, ti_33, ti_34, ti_35, ti_36, ti_37, ti_38, ti_39, ti_40] at k_4 k_5 k_6 k_7 k_8 k_9 k_10 k_11 k_12 k_13 k_14 k_15 k_16 k_17 k_18 k_19 k_20 k_21 k_22 k_23 k_24 k_25 k_26 k_27 k_28 k_29 k_30 k_31 k_32 k_33 k_34 k_35 k_36 k_37 k_38 k_39 k_40 k_41 k_42 k_43 k_44
    refine lv_tableOut (tgt := 1874) hx hb dL_law_33 (by omega) (by decide) ?_
    exact law_tail C0 hAf hbA hS hl
