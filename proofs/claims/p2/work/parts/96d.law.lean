theorem dL_law_529 : decode cL_law 529 = .ok (.aload_n 1, 1) := by decide +kernel
theorem dL_law_530 : decode cL_law 530 = .ok (.aload_n 0, 1) := by decide +kernel
theorem dL_law_531 : decode cL_law 531 = .ok (.iload_n 3, 1) := by decide +kernel
theorem dL_law_532 : decode cL_law 532 = .ok (.iconst 1, 1) := by decide +kernel
theorem dL_law_533 : decode cL_law 533 = .ok (.iadd, 1) := by decide +kernel
theorem dL_law_534 : decode cL_law 534 = .ok (.iaload, 1) := by decide +kernel
theorem dL_law_535 : decode cL_law 535 = .ok (.aload_n 0, 1) := by decide +kernel
theorem dL_law_536 : decode cL_law 536 = .ok (.iload_n 3, 1) := by decide +kernel
theorem dL_law_537 : decode cL_law 537 = .ok (.iconst 2, 1) := by decide +kernel
theorem dL_law_538 : decode cL_law 538 = .ok (.iadd, 1) := by decide +kernel
theorem dL_law_539 : decode cL_law 539 = .ok (.iaload, 1) := by decide +kernel
theorem dL_law_540 : decode cL_law 540 = .ok (.aload_n 0, 1) := by decide +kernel
theorem dL_law_541 : decode cL_law 541 = .ok (.iload_n 3, 1) := by decide +kernel
theorem dL_law_542 : decode cL_law 542 = .ok (.iconst 3, 1) := by decide +kernel
theorem dL_law_543 : decode cL_law 543 = .ok (.iadd, 1) := by decide +kernel
theorem dL_law_544 : decode cL_law 544 = .ok (.iaload, 1) := by decide +kernel
theorem dL_law_545 : decode cL_law 545 = .ok (.aload_n 0, 1) := by decide +kernel
theorem dL_law_546 : decode cL_law 546 = .ok (.iload_n 3, 1) := by decide +kernel
theorem dL_law_547 : decode cL_law 547 = .ok (.iconst 4, 1) := by decide +kernel
theorem dL_law_548 : decode cL_law 548 = .ok (.iadd, 1) := by decide +kernel
theorem dL_law_549 : decode cL_law 549 = .ok (.iaload, 1) := by decide +kernel
theorem dL_law_550 : decode cL_law 550 = .ok (.invokevirtual 53, 3) := by decide +kernel
theorem dL_law_553 : decode cL_law 553 = .ok (.pop2, 1) := by decide +kernel
theorem dL_law_554 : decode cL_law 554 = .ok (.aload_n 2, 1) := by decide +kernel
theorem dL_law_555 : decode cL_law 555 = .ok (.aload_n 0, 1) := by decide +kernel
theorem dL_law_556 : decode cL_law 556 = .ok (.iload_n 3, 1) := by decide +kernel
theorem dL_law_557 : decode cL_law 557 = .ok (.iconst 1, 1) := by decide +kernel
theorem dL_law_558 : decode cL_law 558 = .ok (.iadd, 1) := by decide +kernel
theorem dL_law_559 : decode cL_law 559 = .ok (.iaload, 1) := by decide +kernel
theorem dL_law_560 : decode cL_law 560 = .ok (.aload_n 0, 1) := by decide +kernel
theorem dL_law_561 : decode cL_law 561 = .ok (.iload_n 3, 1) := by decide +kernel
theorem dL_law_562 : decode cL_law 562 = .ok (.iconst 2, 1) := by decide +kernel
theorem dL_law_563 : decode cL_law 563 = .ok (.iadd, 1) := by decide +kernel
theorem dL_law_564 : decode cL_law 564 = .ok (.iaload, 1) := by decide +kernel
theorem dL_law_565 : decode cL_law 565 = .ok (.aload_n 0, 1) := by decide +kernel
theorem dL_law_566 : decode cL_law 566 = .ok (.iload_n 3, 1) := by decide +kernel
theorem dL_law_567 : decode cL_law 567 = .ok (.iconst 3, 1) := by decide +kernel
theorem dL_law_568 : decode cL_law 568 = .ok (.iadd, 1) := by decide +kernel
theorem dL_law_569 : decode cL_law 569 = .ok (.iaload, 1) := by decide +kernel
theorem dL_law_570 : decode cL_law 570 = .ok (.aload_n 0, 1) := by decide +kernel
theorem dL_law_571 : decode cL_law 571 = .ok (.iload_n 3, 1) := by decide +kernel
theorem dL_law_572 : decode cL_law 572 = .ok (.iconst 4, 1) := by decide +kernel
theorem dL_law_573 : decode cL_law 573 = .ok (.iadd, 1) := by decide +kernel
theorem dL_law_574 : decode cL_law 574 = .ok (.iaload, 1) := by decide +kernel
theorem dL_law_575 : decode cL_law 575 = .ok (.invokevirtual 57, 3) := by decide +kernel
theorem dL_law_578 : decode cL_law 578 = .ok (.pop2, 1) := by decide +kernel
theorem dL_law_579 : decode cL_law 579 = .ok (.goto 1288, 3) := by decide +kernel
set_option maxRecDepth 40000 in
theorem lg_X12_value : GoodIn lw_tbl (wsV RL 53 RX12 yX12_value wsX12_value) := goodIn_app (gl_cons ⟨lwt_1 _ (List.mem_of_getElem? (i := 197) (by decide +kernel)), by decide +kernel⟩ (gl_cons ⟨lwt_1 _ (List.mem_of_getElem? (i := 198) (by decide +kernel)), by decide +kernel⟩ (gl_cons ⟨lwt_1 _ (List.mem_of_getElem? (i := 199) (by decide +kernel)), by decide +kernel⟩ (gl_cons ⟨lwt_0 _ (List.mem_of_getElem? (i := 1) (by decide +kernel)), by decide +kernel⟩ gl_nil)))) lgg_X12_value
set_option maxRecDepth 40000 in
theorem lg_X13_value : GoodIn lw_tbl (wsV RL 57 RX13 yX13_value wsX13_value) := goodIn_app (gl_cons ⟨lwt_4 _ (List.mem_of_getElem? (i := 189) (by decide +kernel)), by decide +kernel⟩ (gl_cons ⟨lwt_4 _ (List.mem_of_getElem? (i := 190) (by decide +kernel)), by decide +kernel⟩ (gl_cons ⟨lwt_4 _ (List.mem_of_getElem? (i := 191) (by decide +kernel)), by decide +kernel⟩ (gl_cons ⟨lwt_0 _ (List.mem_of_getElem? (i := 11) (by decide +kernel)), by decide +kernel⟩ gl_nil)))) lgg_X13_value
set_option maxHeartbeats 8000000 in
set_option maxRecDepth 100000 in
theorem law_c9 {p : Program} {e : Env} {s : State} {m : MethodId} {below : List Frame} {meth : Method} {c : Code} {l : Launch} {b L : Nat} {xs : Nat → Int32} (hL : L ≤ 3584) (C0 : lw_At p s m meth c b L xs) {D : va_G} {T : Nat → ClassId} {ad sa av : Nat → Nat} {ta : Nat} {A : Nat → Prop} (hA : ∀ q : Nat, s.heap.size ≤ q → A q) (hAf : ∀ q : Nat, A q → s.heap.size ≤ q) (hbA : ¬ A b) (hE0 : ekK D T s) (hV0 : evK ad sa av ta A s s.heap) {q1 q2 : Nat} {u v : Nat → Nat} {ii : Int32} (hii : 0 ≤ ii.toInt ∧ ii.toInt + 7 ≤ L) (K : lwK p l e s m below meth c b D T sa A q1 q2 u v ii) (c1 : Nat → Int32) (c2 : Nat → Nat → Int32) (c3 : Nat → Nat → Int64) (c4 : Nat → Nat → UInt32) (c5 : Nat → Nat → UInt64) (q : Nat → Int32) (vl wl : Int64) (rf : Nat → Nat → Int32) (rl : Nat → Nat → Int64) (rd : Nat → UInt64) {ls : Array Slot} {H : Heap} {locs : List Loc} {d0 : Drawn} (hd0 : s.drawn.sameBut d0 lw_cs) (hI : lwI c1 c2 q rf rl) (hP : va_P D vwCl (lwW T sa q1 q2 u v c1 c2 c3 c4 c5 q vl wl rf rl rd) H) (hD : va_D A (lwW T sa q1 q2 u v c1 c2 c3 c4 c5 q vl wl rf rl rd)) (hS : va_S A s.heap H locs) (hl : lv_has ls 4 [(3, .int ii), (2, .ref q2), (1, .ref q1), (0, .ref b)]) : W p l e room_1 (s.setDrawn d0) m #[Value.ref b] below meth c H locs 95 6031 (lw_Z below #[Value.ref b] s) (F0 m 529 ls []) := by
  obtain ⟨hx, hb, hr, hml, hown0, hts0, hX, hbl, hlocks, hgv⟩ := id C0
  have hown0 : s.vm.findClass RL = some m.cls := hown0
  have hts := dr_words hts0 d0
  have hE : ekK D T (s.setDrawn d0) := ekK.same (u := s) rfl hE0
  have hown : (s.setDrawn d0).vm.findClass RL = some m.cls := hown0
  have hV : evK ad sa av ta A (s.setDrawn d0) (s.setDrawn d0).heap := evK.same (u := s) rfl hV0
  obtain ⟨hA1, hok, hokk, hA2, hokR, hB, hZ, hbg, hsz, hhd, hKb⟩ := hI
  have hA1 : (0 ≤ (((c1 1) : Int32)).toInt ∧ (((c1 1) : Int32)).toInt ≤ 24) ∧ (0 ≤ (((c1 2) : Int32)).toInt ∧ (((c1 2) : Int32)).toInt ≤ 24) ∧ (0 ≤ (((c2 16 0) : Int32)).toInt ∧ (((c2 16 0) : Int32)).toInt ≤ 12) ∧ (0 ≤ (((c2 16 1) : Int32)).toInt ∧ (((c2 16 1) : Int32)).toInt ≤ 12) ∧ (0 ≤ (((c2 16 2) : Int32)).toInt ∧ (((c2 16 2) : Int32)).toInt ≤ 12) ∧ (0 ≤ (((c2 17 0) : Int32)).toInt ∧ (((c2 17 0) : Int32)).toInt ≤ 12) ∧ (0 ≤ (((c2 17 1) : Int32)).toInt ∧ (((c2 17 1) : Int32)).toInt ≤ 12) ∧ (0 ≤ (((c2 17 2) : Int32)).toInt ∧ (((c2 17 2) : Int32)).toInt ≤ 12) ∧ (0 ≤ (((c1 7) : Int32)).toInt ∧ (((c1 7) : Int32)).toInt ≤ 120) ∧ ((-1 ≤ (((c2 28 0) : Int32)).toInt ∧ (((c2 28 0) : Int32)).toInt ≤ 3) ∧ (0 ≤ (((c2 29 0) : Int32)).toInt ∧ (((c2 29 0) : Int32)).toInt ≤ 30)) ∧ ((-1 ≤ (((c2 28 1) : Int32)).toInt ∧ (((c2 28 1) : Int32)).toInt ≤ 3) ∧ (0 ≤ (((c2 29 1) : Int32)).toInt ∧ (((c2 29 1) : Int32)).toInt ≤ 30)) ∧ ((-1 ≤ (((c2 28 2) : Int32)).toInt ∧ (((c2 28 2) : Int32)).toInt ≤ 3) ∧ (0 ≤ (((c2 29 2) : Int32)).toInt ∧ (((c2 29 2) : Int32)).toInt ≤ 30)) ∧ ((-1 ≤ (((c2 28 3) : Int32)).toInt ∧ (((c2 28 3) : Int32)).toInt ≤ 3) ∧ (0 ≤ (((c2 29 3) : Int32)).toInt ∧ (((c2 29 3) : Int32)).toInt ≤ 30)) := hA1
  have hok : okC (c2 2) (c2 4) (c2 5) (c2 6) := hok
  have hokk : okC (c2 9) (c2 11) (c2 12) (c2 13) := hokk
  have hA2 : (0 ≤ (((q 7) : Int32)).toInt ∧ (((q 7) : Int32)).toInt ≤ 24) ∧ ((1 ≤ (((q 4) : Int32)).toInt ∧ (((q 4) : Int32)).toInt ≤ 9) ∧ (1 ≤ (((q 6) : Int32)).toInt ∧ (((q 6) : Int32)).toInt ≤ 9)) ∧ (0 ≤ (((q 26) : Int32)).toInt ∧ (((q 26) : Int32)).toInt ≤ 120) := hA2
  have hokR : okR (rf 8) (rf 10) (rf 11) := hokR
  have hB : isB (q 14) := hB
  have hZ : ∀ j : Nat, isB ((rf 22) j) := hZ
  have hbg : ∀ k : Nat, k < 3 → 0 ≤ ((rf 13) k).toInt ∧ ((rf 13) k).toInt ≤ 12 := hbg
  have hsz : ∀ k : Nat, k < 4 → 0 ≤ ((rf 35) k).toInt ∧ ((rf 35) k).toInt ≤ 30 := hsz
  have hhd : ∀ k : Nat, k < 4 → ((rf 38) k).toInt = 2 → 1 ≤ ((rl 40) k).toInt := hhd
  have hKb : ¬ ((q 41) : Int32).toInt = 0 → okK (rf 42) := hKb
  have hi_1 : (ii + 1).toInt = ii.toInt + 1 := by rw [fb_addI (by rw [ti_1]; omega) (by rw [ti_1]; omega), ti_1]
  have hi_2 : (ii + 2).toInt = ii.toInt + 2 := by rw [fb_addI (by rw [ti_2]; omega) (by rw [ti_2]; omega), ti_2]
  have hi_3 : (ii + 3).toInt = ii.toInt + 3 := by rw [fb_addI (by rw [ti_3]; omega) (by rw [ti_3]; omega), ti_3]
  have hi_4 : (ii + 4).toInt = ii.toInt + 4 := by rw [fb_addI (by rw [ti_4]; omega) (by rw [ti_4]; omega), ti_4]
  have hi_5 : (ii + 5).toInt = ii.toInt + 5 := by rw [fb_addI (by rw [ti_5]; omega) (by rw [ti_5]; omega), ti_5]
  have hi_6 : (ii + 6).toInt = ii.toInt + 6 := by rw [fb_addI (by rw [ti_6]; omega) (by rw [ti_6]; omega), ti_6]
  refine lv_aload_n hx hb dL_law_529 rfl (lv_at hl 2 rfl) ?_
  refine lv_aload_n hx hb dL_law_530 rfl (lv_at hl 3 rfl) ?_
  refine lv_iload_n hx hb dL_law_531 rfl (lv_at hl 0 rfl) ?_
  refine lv_iconst (v := 1) hx hb dL_law_532 (by decide) ?_
  refine lv_iadd hx hb dL_law_533 ?_
  refine va_sld hx hb hX hbl hbA hS (by rw [vp_in_iff, hi_1]; omega) dL_law_534 ?_
  refine lv_topi (fun z_1 ez_1 => ?_)
  refine lv_aload_n hx hb dL_law_535 rfl (lv_at hl 3 rfl) ?_
  refine lv_iload_n hx hb dL_law_536 rfl (lv_at hl 0 rfl) ?_
  refine lv_iconst (v := 2) hx hb dL_law_537 (by decide) ?_
  refine lv_iadd hx hb dL_law_538 ?_
  refine va_sld hx hb hX hbl hbA hS (by rw [vp_in_iff, hi_2]; omega) dL_law_539 ?_
  refine lv_topi (fun z_2 ez_2 => ?_)
  refine lv_aload_n hx hb dL_law_540 rfl (lv_at hl 3 rfl) ?_
  refine lv_iload_n hx hb dL_law_541 rfl (lv_at hl 0 rfl) ?_
  refine lv_iconst (v := 3) hx hb dL_law_542 (by decide) ?_
  refine lv_iadd hx hb dL_law_543 ?_
  refine va_sld hx hb hX hbl hbA hS (by rw [vp_in_iff, hi_3]; omega) dL_law_544 ?_
  refine lv_topi (fun z_3 ez_3 => ?_)
  refine lv_aload_n hx hb dL_law_545 rfl (lv_at hl 3 rfl) ?_
  refine lv_iload_n hx hb dL_law_546 rfl (lv_at hl 0 rfl) ?_
  refine lv_iconst (v := 4) hx hb dL_law_547 (by decide) ?_
  refine lv_iadd hx hb dL_law_548 ?_
  refine va_sld hx hb hX hbl hbA hS (by rw [vp_in_iff, hi_4]; omega) dL_law_549 ?_
  refine lv_topi (fun z_4 ez_4 => ?_)
  have hFc := va_free (wc := [(q1, .inr (9, [.ref (u 0), .ref (u 1), .int (c1 0), .ref (u 2), .ref (u 3), .ref (u 11), .ref (u 34), .ref (u 38), .ref (u 40), .ref (u 44), .ref (u 65)])), ((u 34), .inr (8, [.ref (u 2), .ref (u 3), .ref (u 35), .ref (u 36), .ref (u 37), .int (c1 3)])), ((u 2), .inr (5, [.int (c2 0 0), .int (c2 0 1), .int (c2 0 2), .int (c2 0 3), .int (c2 0 4), .int (c2 0 5), .int (c2 0 6)])), ((u 3), .inr (1, [.int (c1 1), .ref (u 4), .ref (u 5), .ref (u 6), .ref (u 7), .ref (u 8), .ref (u 9), .ref (u 10)])), ((u 4), .inl (T 0, 24, .inl (c2 2))), ((u 5), .inl (T 0, 24, .inl (c2 3))), ((u 6), .inl (T 0, 24, .inl (c2 4))), ((u 7), .inl (T 0, 24, .inl (c2 5))), ((u 8), .inl (T 0, 24, .inl (c2 6))), ((u 35), .inl (T 1, 676, .inr (.inl (c3 0)))), ((u 36), .inl (T 1, 676, .inr (.inl (c3 1)))), ((u 37), .inl (T 0, 672, .inl (c2 24)))]) hD hS hA [0, 35, 2, 3, 4, 5, 6, 7, 8, 36, 37, 38] rfl
  refine va_calll (va_runV (As := [.int z_1, .int z_2, .int z_3, .int z_4]) (rest := []) ⟨hx, hb, hml, hown, hts⟩ (c_X12_value l D T ad sa av ta _ q1 (u 34) [.ref (u 0), .ref (u 1), .int (c1 0), .ref (u 2), .ref (u 3), .ref (u 11), .ref (u 34), .ref (u 38), .ref (u 40), .ref (u 44), .ref (u 65)] (u 2) (u 3) (u 35) (u 36) (u 37) (c1 3) (fun k => [(c2 0 0), (c2 0 1), (c2 0 2), (c2 0 3), (c2 0 4), (c2 0 5), (c2 0 6)].getD k 0) (c1 1) (u 4) (u 5) (u 6) (u 7) (u 8) (u 9) (u 10) (c2 2) (c2 3) (c2 4) (c2 5) (c2 6) (c3 0) (c3 1) (c2 24) z_1 z_2 z_3 z_4 rfl rfl (by omega) hok) (cwV 4 hts lg_X12_value rfl rfl rfl (by decide +kernel) ⟨Nat.le_of_ble_eq_true rfl, Nat.le_of_ble_eq_true rfl⟩) (pWk_V (ci := 9) (q0 := 0) hP hE hD hV hS hFc rfl rfl [0, 35, 2, 3, 4, 5, 6, 7, 8, 36, 37, 38] (by decide) rfl rfl) rfl rfl hl.1 rfl (lv_room (Nat.le_of_ble_eq_true rfl)) dL_law_550 ⟨Nat.le_of_ble_eq_true rfl, Nat.le_of_ble_eq_true rfl⟩) hS (fun q _ h => hFc q h) hFc (fun r_5 u_6 t H1 locs ht hvm hr_5 hB hz1 hk1 hS => ?_)
  obtain ⟨f_7, f_8, f_9⟩ := u_6
  obtain ⟨hP1, hD1⟩ := hB
  rw [ht] at hP1
  obtain ⟨hP, hD⟩ := va_join (wr := ([1, 9, 10, 11, 12, 13, 14, 15, 16, 17, 18, 19, 20, 21, 22, 23, 24, 25, 26, 27, 28, 29, 30, 31, 32, 33, 34, 39, 40, 41, 42, 43, 44, 45, 46, 47, 48, 49, 50, 51, 52, 53, 54, 55, 56, 57, 58, 59, 60, 61, 62, 63, 64, 65, 66, 67, 68, 69, 70, 71, 72, 73, 74, 75, 76, 77, 78, 79, 80, 81, 82, 83, 84, 85, 86, 87, 88, 89, 90, 91, 92, 93, 94].filterMap (fun i => (lwW T sa q1 q2 u v c1 c2 c3 c4 c5 q vl wl rf rl rd)[i]?))) (w1 := [(q1, .inr (9, [.ref (u 0), .ref (u 1), .int (c1 0), .ref (u 2), .ref (u 3), .ref (u 11), .ref (u 34), .ref (u 38), .ref (u 40), .ref (u 44), .ref (u 65)])), ((u 34), .inr (8, [.ref (u 2), .ref (u 3), .ref (u 35), .ref (u 36), .ref (u 37), .int (c1 3)])), ((u 2), .inr (5, [.int (c2 0 0), .int (c2 0 1), .int (c2 0 2), .int (c2 0 3), .int (c2 0 4), .int (c2 0 5), .int (c2 0 6)])), ((u 3), .inr (1, [.int (c1 1), .ref (u 4), .ref (u 5), .ref (u 6), .ref (u 7), .ref (u 8), .ref (u 9), .ref (u 10)])), ((u 4), .inl (T 0, 24, .inl (c2 2))), ((u 5), .inl (T 0, 24, .inl (c2 3))), ((u 6), .inl (T 0, 24, .inl (c2 4))), ((u 7), .inl (T 0, 24, .inl (c2 5))), ((u 8), .inl (T 0, 24, .inl (c2 6))), ((u 35), .inl (T 1, 676, .inr (.inl f_7))), ((u 36), .inl (T 1, 676, .inr (.inl f_8))), ((u 37), .inl (T 0, 672, .inl f_9))]) hP hD [0, 35, 2, 3, 4, 5, 6, 7, 8, 36, 37, 38] [1, 9, 10, 11, 12, 13, 14, 15, 16, 17, 18, 19, 20, 21, 22, 23, 24, 25, 26, 27, 28, 29, 30, 31, 32, 33, 34, 39, 40, 41, 42, 43, 44, 45, 46, 47, 48, 49, 50, 51, 52, 53, 54, 55, 56, 57, 58, 59, 60, 61, 62, 63, 64, 65, 66, 67, 68, 69, 70, 71, 72, 73, 74, 75, 76, 77, 78, 79, 80, 81, 82, 83, 84, 85, 86, 87, 88, 89, 90, 91, 92, 93, 94] rfl rfl (by decide) (by decide) hk1 hFc hP1 hD1
  clear hP1 hD1 hFc
  generalize H1 = H at hP hS ⊢
  refine lv_pop2_2 hx hb dL_law_553 rfl ?_
  refine lv_aload_n hx hb dL_law_554 rfl (lv_at hl 1 rfl) ?_
  refine lv_aload_n hx hb dL_law_555 rfl (lv_at hl 3 rfl) ?_
  refine lv_iload_n hx hb dL_law_556 rfl (lv_at hl 0 rfl) ?_
  refine lv_iconst (v := 1) hx hb dL_law_557 (by decide) ?_
  refine lv_iadd hx hb dL_law_558 ?_
  refine va_sld hx hb hX hbl hbA hS (by rw [vp_in_iff, hi_1]; omega) dL_law_559 ?_
  refine lv_topi (fun z_10 ez_10 => ?_)
  have hsz_10 : z_1 = z_10 := ez_1.trans ez_10.symm
  subst hsz_10
  refine lv_aload_n hx hb dL_law_560 rfl (lv_at hl 3 rfl) ?_
  refine lv_iload_n hx hb dL_law_561 rfl (lv_at hl 0 rfl) ?_
  refine lv_iconst (v := 2) hx hb dL_law_562 (by decide) ?_
  refine lv_iadd hx hb dL_law_563 ?_
  refine va_sld hx hb hX hbl hbA hS (by rw [vp_in_iff, hi_2]; omega) dL_law_564 ?_
  refine lv_topi (fun z_11 ez_11 => ?_)
  have hsz_11 : z_2 = z_11 := ez_2.trans ez_11.symm
  subst hsz_11
  refine lv_aload_n hx hb dL_law_565 rfl (lv_at hl 3 rfl) ?_
  refine lv_iload_n hx hb dL_law_566 rfl (lv_at hl 0 rfl) ?_
  refine lv_iconst (v := 3) hx hb dL_law_567 (by decide) ?_
  refine lv_iadd hx hb dL_law_568 ?_
  refine va_sld hx hb hX hbl hbA hS (by rw [vp_in_iff, hi_3]; omega) dL_law_569 ?_
  refine lv_topi (fun z_12 ez_12 => ?_)
  have hsz_12 : z_3 = z_12 := ez_3.trans ez_12.symm
  subst hsz_12
  refine lv_aload_n hx hb dL_law_570 rfl (lv_at hl 3 rfl) ?_
  refine lv_iload_n hx hb dL_law_571 rfl (lv_at hl 0 rfl) ?_
  refine lv_iconst (v := 4) hx hb dL_law_572 (by decide) ?_
  refine lv_iadd hx hb dL_law_573 ?_
  refine va_sld hx hb hX hbl hbA hS (by rw [vp_in_iff, hi_4]; omega) dL_law_574 ?_
  refine lv_topi (fun z_13 ez_13 => ?_)
  have hsz_13 : z_4 = z_13 := ez_4.trans ez_13.symm
  subst hsz_13
  have hFc := va_free (wc := [(q2, .inr (10, [.int (q 0), .int (q 1), .int (q 2), .int (q 3), .int (q 4), .int (q 5), .int (q 6), .int (q 7), .ref (v 8), .ref (v 9), .ref (v 10), .ref (v 11), .ref (v 12), .ref (v 13), .int (q 14), .long vl, .long wl, .ref (v 17), .ref (v 18), .ref (v 19), .ref (v 20), .ref (v 21), .ref (v 22), .ref (v 23), .int (q 24), .ref (v 25), .int (q 26), .ref (v 27), .int (q 28), .int (q 29), .int (q 30), .int (q 31), .int (q 32), .int (q 33), .ref (v 34), .ref (v 35), .ref (v 36), .ref (v 37), .ref (v 38), .ref (v 39), .ref (v 40), .int (q 41), .ref (v 42), .int (q 43), .int (q 44)])), ((v 8), .inl (T 0, 24, .inl (rf 8))), ((v 9), .inl (T 0, 24, .inl (rf 9))), ((v 10), .inl (T 0, 24, .inl (rf 10))), ((v 11), .inl (T 0, 24, .inl (rf 11))), ((v 17), .inl (T 0, 24, .inl (rf 17))), ((v 18), .inl (T 0, 24, .inl (rf 18))), ((v 19), .inl (T 0, 24, .inl (rf 19))), ((v 20), .inl (T 1, 672, .inr (.inl (rl 20)))), ((v 21), .inl (T 1, 672, .inr (.inl (rl 21)))), ((v 22), .inl (T 4, 672, .inl (rf 22)))]) hD hS hA [59, 60, 61, 62, 63, 66, 67, 68, 69, 70, 71] rfl
  refine va_calll (va_runV (As := [.int z_1, .int z_2, .int z_3, .int z_4]) (rest := []) ⟨hx, hb, hml, hown, hts⟩ (c_X13_value l D T _ q2 q vl wl v (rf 8) (rf 9) (rf 10) (rf 11) (rf 17) (rf 18) (rf 19) (rl 20) (rl 21) (rf 22) z_1 z_2 z_3 z_4 hB (by omega) hokR hZ (by omega)) (cwV 4 hts lg_X13_value rfl rfl rfl (by decide +kernel) ⟨Nat.le_of_ble_eq_true rfl, Nat.le_of_ble_eq_true rfl⟩) (pW_V (ci := 10) (q0 := 59) hP hE hD rfl rfl [59, 60, 61, 62, 63, 66, 67, 68, 69, 70, 71] (by decide) rfl rfl) rfl rfl hl.1 rfl (lv_room (Nat.le_of_ble_eq_true rfl)) dL_law_575 ⟨Nat.le_of_ble_eq_true rfl, Nat.le_of_ble_eq_true rfl⟩) hS (fun q _ h => hFc q h) hFc (fun r_14 u_15 t H1 locs ht hvm hr_14 hB hz1 hk1 hS => ?_)
  obtain ⟨n_16, l_17, l_18, f_19, f_20, f_21, f_22, f_23, f_24⟩ := u_15
  obtain ⟨hi0_r_14, hi1_r_14⟩ := hr_14
  have hB14_r_14 : isB n_16 := hi0_r_14
  have hZ : ∀ j : Nat, isB (f_24 j) := hi1_r_14
  obtain ⟨hP1, hD1⟩ := hB
  rw [ht] at hP1
  obtain ⟨hP, hD⟩ := va_join (wr := ([0, 1, 2, 3, 4, 5, 6, 7, 8, 9, 10, 11, 12, 13, 14, 15, 16, 17, 18, 19, 20, 21, 22, 23, 24, 25, 26, 27, 28, 29, 30, 31, 32, 33, 34, 35, 36, 37, 38, 39, 40, 41, 42, 43, 44, 45, 46, 47, 48, 49, 50, 51, 52, 53, 54, 55, 56, 57, 58, 64, 65, 72, 73, 74, 75, 76, 77, 78, 79, 80, 81, 82, 83, 84, 85, 86, 87, 88, 89, 90, 91, 92, 93, 94].filterMap (fun i => (([1, 9, 10, 11, 12, 13, 14, 15, 16, 17, 18, 19, 20, 21, 22, 23, 24, 25, 26, 27, 28, 29, 30, 31, 32, 33, 34, 39, 40, 41, 42, 43, 44, 45, 46, 47, 48, 49, 50, 51, 52, 53, 54, 55, 56, 57, 58, 59, 60, 61, 62, 63, 64, 65, 66, 67, 68, 69, 70, 71, 72, 73, 74, 75, 76, 77, 78, 79, 80, 81, 82, 83, 84, 85, 86, 87, 88, 89, 90, 91, 92, 93, 94].filterMap (fun i => (lwW T sa q1 q2 u v c1 c2 c3 c4 c5 q vl wl rf rl rd)[i]?)) ++ [(q1, .inr (9, [.ref (u 0), .ref (u 1), .int (c1 0), .ref (u 2), .ref (u 3), .ref (u 11), .ref (u 34), .ref (u 38), .ref (u 40), .ref (u 44), .ref (u 65)])), ((u 34), .inr (8, [.ref (u 2), .ref (u 3), .ref (u 35), .ref (u 36), .ref (u 37), .int (c1 3)])), ((u 2), .inr (5, [.int (c2 0 0), .int (c2 0 1), .int (c2 0 2), .int (c2 0 3), .int (c2 0 4), .int (c2 0 5), .int (c2 0 6)])), ((u 3), .inr (1, [.int (c1 1), .ref (u 4), .ref (u 5), .ref (u 6), .ref (u 7), .ref (u 8), .ref (u 9), .ref (u 10)])), ((u 4), .inl (T 0, 24, .inl (c2 2))), ((u 5), .inl (T 0, 24, .inl (c2 3))), ((u 6), .inl (T 0, 24, .inl (c2 4))), ((u 7), .inl (T 0, 24, .inl (c2 5))), ((u 8), .inl (T 0, 24, .inl (c2 6))), ((u 35), .inl (T 1, 676, .inr (.inl f_7))), ((u 36), .inl (T 1, 676, .inr (.inl f_8))), ((u 37), .inl (T 0, 672, .inl f_9))])[i]?))) (w1 := [(q2, .inr (10, [.int (q 0), .int (q 1), .int (q 2), .int (q 3), .int (q 4), .int (q 5), .int (q 6), .int (q 7), .ref (v 8), .ref (v 9), .ref (v 10), .ref (v 11), .ref (v 12), .ref (v 13), .int n_16, .long l_17, .long l_18, .ref (v 17), .ref (v 18), .ref (v 19), .ref (v 20), .ref (v 21), .ref (v 22), .ref (v 23), .int (q 24), .ref (v 25), .int (q 26), .ref (v 27), .int (q 28), .int (q 29), .int (q 30), .int (q 31), .int (q 32), .int (q 33), .ref (v 34), .ref (v 35), .ref (v 36), .ref (v 37), .ref (v 38), .ref (v 39), .ref (v 40), .int (q 41), .ref (v 42), .int (q 43), .int (q 44)])), ((v 8), .inl (T 0, 24, .inl (rf 8))), ((v 9), .inl (T 0, 24, .inl (rf 9))), ((v 10), .inl (T 0, 24, .inl (rf 10))), ((v 11), .inl (T 0, 24, .inl (rf 11))), ((v 17), .inl (T 0, 24, .inl f_19)), ((v 18), .inl (T 0, 24, .inl f_20)), ((v 19), .inl (T 0, 24, .inl f_21)), ((v 20), .inl (T 1, 672, .inr (.inl f_22))), ((v 21), .inl (T 1, 672, .inr (.inl f_23))), ((v 22), .inl (T 4, 672, .inl f_24))]) hP hD [59, 60, 61, 62, 63, 66, 67, 68, 69, 70, 71] [0, 1, 2, 3, 4, 5, 6, 7, 8, 9, 10, 11, 12, 13, 14, 15, 16, 17, 18, 19, 20, 21, 22, 23, 24, 25, 26, 27, 28, 29, 30, 31, 32, 33, 34, 35, 36, 37, 38, 39, 40, 41, 42, 43, 44, 45, 46, 47, 48, 49, 50, 51, 52, 53, 54, 55, 56, 57, 58, 64, 65, 72, 73, 74, 75, 76, 77, 78, 79, 80, 81, 82, 83, 84, 85, 86, 87, 88, 89, 90, 91, 92, 93, 94] rfl rfl (by decide) (by decide) hk1 hFc hP1 hD1
  clear hP1 hD1 hFc
  generalize H1 = H at hP hS ⊢
  refine lv_pop2_2 hx hb dL_law_578 rfl ?_
  refine lv_goto (tgt := 1867) hx hb dL_law_579 (by decide) ?_
  exact K c1 (fun k => [(c2 0), (c2 1), (c2 2), (c2 3), (c2 4), (c2 5), (c2 6), (c2 7), (c2 8), (c2 9), (c2 10), (c2 11), (c2 12), (c2 13), (c2 14), (c2 15), (c2 16), (c2 17), (c2 18), (c2 19), (c2 20), (c2 21), (c2 22), (c2 23), f_9, (c2 25), (c2 26), (c2 27), (c2 28), (c2 29), (c2 30), (c2 31), (c2 32), (c2 33), (c2 34), (c2 35)].getD k (fun _ => 0)) (fun k => [f_7, f_8, (c3 2), (c3 3), (c3 4), (c3 5), (c3 6), (c3 7), (c3 8)].getD k (fun _ => 0)) c4 c5 (fun k => [(q 0), (q 1), (q 2), (q 3), (q 4), (q 5), (q 6), (q 7), 0, 0, 0, 0, 0, 0, n_16, 0, 0, 0, 0, 0, 0, 0, 0, 0, (q 24), 0, (q 26), 0, (q 28), (q 29), (q 30), (q 31), (q 32), (q 33), 0, 0, 0, 0, 0, 0, 0, (q 41), 0, (q 43), (q 44)].getD k 0) l_17 l_18 (fun k => [(fun _ => 0), (fun _ => 0), (fun _ => 0), (fun _ => 0), (fun _ => 0), (fun _ => 0), (fun _ => 0), (fun _ => 0), (rf 8), (rf 9), (rf 10), (rf 11), (rf 12), (rf 13), (fun _ => 0), (fun _ => 0), (fun _ => 0), f_19, f_20, f_21, (fun _ => 0), (fun _ => 0), f_24, (fun _ => 0), (fun _ => 0), (rf 25), (fun _ => 0), (fun _ => 0), (fun _ => 0), (fun _ => 0), (fun _ => 0), (fun _ => 0), (fun _ => 0), (fun _ => 0), (rf 34), (rf 35), (fun _ => 0), (fun _ => 0), (rf 38), (fun _ => 0), (fun _ => 0), (fun _ => 0), (rf 42)].getD k (fun _ => 0)) (fun k => [(fun _ => 0), (fun _ => 0), (fun _ => 0), (fun _ => 0), (fun _ => 0), (fun _ => 0), (fun _ => 0), (fun _ => 0), (fun _ => 0), (fun _ => 0), (fun _ => 0), (fun _ => 0), (fun _ => 0), (fun _ => 0), (fun _ => 0), (fun _ => 0), (fun _ => 0), (fun _ => 0), (fun _ => 0), (fun _ => 0), f_22, f_23, (fun _ => 0), (rl 23), (fun _ => 0), (fun _ => 0), (fun _ => 0), (fun _ => 0), (fun _ => 0), (fun _ => 0), (fun _ => 0), (fun _ => 0), (fun _ => 0), (fun _ => 0), (fun _ => 0), (fun _ => 0), (rl 36), (fun _ => 0), (fun _ => 0), (rl 39), (rl 40)].getD k (fun _ => 0)) rd ls H locs _ hd0 ⟨(show (0 ≤ (((c1 1) : Int32)).toInt ∧ (((c1 1) : Int32)).toInt ≤ 24) ∧ (0 ≤ (((c1 2) : Int32)).toInt ∧ (((c1 2) : Int32)).toInt ≤ 24) ∧ (0 ≤ (((c2 16 0) : Int32)).toInt ∧ (((c2 16 0) : Int32)).toInt ≤ 12) ∧ (0 ≤ (((c2 16 1) : Int32)).toInt ∧ (((c2 16 1) : Int32)).toInt ≤ 12) ∧ (0 ≤ (((c2 16 2) : Int32)).toInt ∧ (((c2 16 2) : Int32)).toInt ≤ 12) ∧ (0 ≤ (((c2 17 0) : Int32)).toInt ∧ (((c2 17 0) : Int32)).toInt ≤ 12) ∧ (0 ≤ (((c2 17 1) : Int32)).toInt ∧ (((c2 17 1) : Int32)).toInt ≤ 12) ∧ (0 ≤ (((c2 17 2) : Int32)).toInt ∧ (((c2 17 2) : Int32)).toInt ≤ 12) ∧ (0 ≤ (((c1 7) : Int32)).toInt ∧ (((c1 7) : Int32)).toInt ≤ 120) ∧ ((-1 ≤ (((c2 28 0) : Int32)).toInt ∧ (((c2 28 0) : Int32)).toInt ≤ 3) ∧ (0 ≤ (((c2 29 0) : Int32)).toInt ∧ (((c2 29 0) : Int32)).toInt ≤ 30)) ∧ ((-1 ≤ (((c2 28 1) : Int32)).toInt ∧ (((c2 28 1) : Int32)).toInt ≤ 3) ∧ (0 ≤ (((c2 29 1) : Int32)).toInt ∧ (((c2 29 1) : Int32)).toInt ≤ 30)) ∧ ((-1 ≤ (((c2 28 2) : Int32)).toInt ∧ (((c2 28 2) : Int32)).toInt ≤ 3) ∧ (0 ≤ (((c2 29 2) : Int32)).toInt ∧ (((c2 29 2) : Int32)).toInt ≤ 30)) ∧ ((-1 ≤ (((c2 28 3) : Int32)).toInt ∧ (((c2 28 3) : Int32)).toInt ≤ 3) ∧ (0 ≤ (((c2 29 3) : Int32)).toInt ∧ (((c2 29 3) : Int32)).toInt ≤ 30)) from (by (try simp only [ti_0, ti_1, ti_n1]); omega)), (show okC (c2 2) (c2 4) (c2 5) (c2 6) from (by assumption)), (show okC (c2 9) (c2 11) (c2 12) (c2 13) from (by assumption)), (show (0 ≤ (((q 7) : Int32)).toInt ∧ (((q 7) : Int32)).toInt ≤ 24) ∧ ((1 ≤ (((q 4) : Int32)).toInt ∧ (((q 4) : Int32)).toInt ≤ 9) ∧ (1 ≤ (((q 6) : Int32)).toInt ∧ (((q 6) : Int32)).toInt ≤ 9)) ∧ (0 ≤ (((q 26) : Int32)).toInt ∧ (((q 26) : Int32)).toInt ≤ 120) from (by (try simp only [ti_0, ti_1, ti_n1]); omega)), (show okR (rf 8) (rf 10) (rf 11) from (by assumption)), (show isB n_16 from (by first | assumption | exact isB0 | exact isB1)), (show ∀ j : Nat, isB (f_24 j) from (by assumption)), (show ∀ k : Nat, k < 3 → 0 ≤ ((rf 13) k).toInt ∧ ((rf 13) k).toInt ≤ 12 from (by assumption)), (show ∀ k : Nat, k < 4 → 0 ≤ ((rf 35) k).toInt ∧ ((rf 35) k).toInt ≤ 30 from (by assumption)), (show ∀ k : Nat, k < 4 → ((rf 38) k).toInt = 2 → 1 ≤ ((rl 40) k).toInt from (by assumption)), (show ¬ ((q 41) : Int32).toInt = 0 → okK (rf 42) from (by first | assumption | exact (fun _ => by assumption)))⟩ (show va_P D vwCl (lwW T sa q1 q2 u v c1 (fun k => [(c2 0), (c2 1), (c2 2), (c2 3), (c2 4), (c2 5), (c2 6), (c2 7), (c2 8), (c2 9), (c2 10), (c2 11), (c2 12), (c2 13), (c2 14), (c2 15), (c2 16), (c2 17), (c2 18), (c2 19), (c2 20), (c2 21), (c2 22), (c2 23), f_9, (c2 25), (c2 26), (c2 27), (c2 28), (c2 29), (c2 30), (c2 31), (c2 32), (c2 33), (c2 34), (c2 35)].getD k (fun _ => 0)) (fun k => [f_7, f_8, (c3 2), (c3 3), (c3 4), (c3 5), (c3 6), (c3 7), (c3 8)].getD k (fun _ => 0)) c4 c5 (fun k => [(q 0), (q 1), (q 2), (q 3), (q 4), (q 5), (q 6), (q 7), 0, 0, 0, 0, 0, 0, n_16, 0, 0, 0, 0, 0, 0, 0, 0, 0, (q 24), 0, (q 26), 0, (q 28), (q 29), (q 30), (q 31), (q 32), (q 33), 0, 0, 0, 0, 0, 0, 0, (q 41), 0, (q 43), (q 44)].getD k 0) l_17 l_18 (fun k => [(fun _ => 0), (fun _ => 0), (fun _ => 0), (fun _ => 0), (fun _ => 0), (fun _ => 0), (fun _ => 0), (fun _ => 0), (rf 8), (rf 9), (rf 10), (rf 11), (rf 12), (rf 13), (fun _ => 0), (fun _ => 0), (fun _ => 0), f_19, f_20, f_21, (fun _ => 0), (fun _ => 0), f_24, (fun _ => 0), (fun _ => 0), (rf 25), (fun _ => 0), (fun _ => 0), (fun _ => 0), (fun _ => 0), (fun _ => 0), (fun _ => 0), (fun _ => 0), (fun _ => 0), (rf 34), (rf 35), (fun _ => 0), (fun _ => 0), (rf 38), (fun _ => 0), (fun _ => 0), (fun _ => 0), (rf 42)].getD k (fun _ => 0)) (fun k => [(fun _ => 0), (fun _ => 0), (fun _ => 0), (fun _ => 0), (fun _ => 0), (fun _ => 0), (fun _ => 0), (fun _ => 0), (fun _ => 0), (fun _ => 0), (fun _ => 0), (fun _ => 0), (fun _ => 0), (fun _ => 0), (fun _ => 0), (fun _ => 0), (fun _ => 0), (fun _ => 0), (fun _ => 0), (fun _ => 0), f_22, f_23, (fun _ => 0), (rl 23), (fun _ => 0), (fun _ => 0), (fun _ => 0), (fun _ => 0), (fun _ => 0), (fun _ => 0), (fun _ => 0), (fun _ => 0), (fun _ => 0), (fun _ => 0), (fun _ => 0), (fun _ => 0), (rl 36), (fun _ => 0), (fun _ => 0), (rl 39), (rl 40)].getD k (fun _ => 0)) rd) H from hP.sub [72, 0, 74, 75, 76, 77, 78, 79, 80, 1, 2, 3, 4, 5, 6, 7, 8, 9, 10, 11, 12, 13, 14, 15, 16, 17, 18, 19, 20, 21, 22, 23, 24, 25, 26, 73, 81, 82, 83, 27, 28, 29, 30, 31, 32, 33, 34, 35, 36, 37, 38, 39, 40, 41, 42, 43, 44, 45, 46, 47, 48, 49, 50, 51, 52, 53, 54, 55, 56, 57, 58, 84, 85, 86, 87, 88, 59, 60, 89, 90, 91, 92, 93, 94, 61, 62, 63, 64, 65, 66, 67, 68, 69, 70, 71] rfl) (show va_D A (lwW T sa q1 q2 u v c1 (fun k => [(c2 0), (c2 1), (c2 2), (c2 3), (c2 4), (c2 5), (c2 6), (c2 7), (c2 8), (c2 9), (c2 10), (c2 11), (c2 12), (c2 13), (c2 14), (c2 15), (c2 16), (c2 17), (c2 18), (c2 19), (c2 20), (c2 21), (c2 22), (c2 23), f_9, (c2 25), (c2 26), (c2 27), (c2 28), (c2 29), (c2 30), (c2 31), (c2 32), (c2 33), (c2 34), (c2 35)].getD k (fun _ => 0)) (fun k => [f_7, f_8, (c3 2), (c3 3), (c3 4), (c3 5), (c3 6), (c3 7), (c3 8)].getD k (fun _ => 0)) c4 c5 (fun k => [(q 0), (q 1), (q 2), (q 3), (q 4), (q 5), (q 6), (q 7), 0, 0, 0, 0, 0, 0, n_16, 0, 0, 0, 0, 0, 0, 0, 0, 0, (q 24), 0, (q 26), 0, (q 28), (q 29), (q 30), (q 31), (q 32), (q 33), 0, 0, 0, 0, 0, 0, 0, (q 41), 0, (q 43), (q 44)].getD k 0) l_17 l_18 (fun k => [(fun _ => 0), (fun _ => 0), (fun _ => 0), (fun _ => 0), (fun _ => 0), (fun _ => 0), (fun _ => 0), (fun _ => 0), (rf 8), (rf 9), (rf 10), (rf 11), (rf 12), (rf 13), (fun _ => 0), (fun _ => 0), (fun _ => 0), f_19, f_20, f_21, (fun _ => 0), (fun _ => 0), f_24, (fun _ => 0), (fun _ => 0), (rf 25), (fun _ => 0), (fun _ => 0), (fun _ => 0), (fun _ => 0), (fun _ => 0), (fun _ => 0), (fun _ => 0), (fun _ => 0), (rf 34), (rf 35), (fun _ => 0), (fun _ => 0), (rf 38), (fun _ => 0), (fun _ => 0), (fun _ => 0), (rf 42)].getD k (fun _ => 0)) (fun k => [(fun _ => 0), (fun _ => 0), (fun _ => 0), (fun _ => 0), (fun _ => 0), (fun _ => 0), (fun _ => 0), (fun _ => 0), (fun _ => 0), (fun _ => 0), (fun _ => 0), (fun _ => 0), (fun _ => 0), (fun _ => 0), (fun _ => 0), (fun _ => 0), (fun _ => 0), (fun _ => 0), (fun _ => 0), (fun _ => 0), f_22, f_23, (fun _ => 0), (rl 23), (fun _ => 0), (fun _ => 0), (fun _ => 0), (fun _ => 0), (fun _ => 0), (fun _ => 0), (fun _ => 0), (fun _ => 0), (fun _ => 0), (fun _ => 0), (fun _ => 0), (fun _ => 0), (rl 36), (fun _ => 0), (fun _ => 0), (rl 39), (rl 40)].getD k (fun _ => 0)) rd) from hD.sub [72, 0, 74, 75, 76, 77, 78, 79, 80, 1, 2, 3, 4, 5, 6, 7, 8, 9, 10, 11, 12, 13, 14, 15, 16, 17, 18, 19, 20, 21, 22, 23, 24, 25, 26, 73, 81, 82, 83, 27, 28, 29, 30, 31, 32, 33, 34, 35, 36, 37, 38, 39, 40, 41, 42, 43, 44, 45, 46, 47, 48, 49, 50, 51, 52, 53, 54, 55, 56, 57, 58, 84, 85, 86, 87, 88, 59, 60, 89, 90, 91, 92, 93, 94, 61, 62, 63, 64, 65, 66, 67, 68, 69, 70, 71] (by decide) rfl) hS hl
theorem dL_law_582 : decode cL_law 582 = .ok (.aload_n 1, 1) := by decide +kernel
theorem dL_law_583 : decode cL_law 583 = .ok (.aload_n 0, 1) := by decide +kernel
theorem dL_law_584 : decode cL_law 584 = .ok (.iload_n 3, 1) := by decide +kernel
theorem dL_law_585 : decode cL_law 585 = .ok (.iconst 1, 1) := by decide +kernel
theorem dL_law_586 : decode cL_law 586 = .ok (.iadd, 1) := by decide +kernel
theorem dL_law_587 : decode cL_law 587 = .ok (.iaload, 1) := by decide +kernel
theorem dL_law_588 : decode cL_law 588 = .ok (.aload_n 0, 1) := by decide +kernel
theorem dL_law_589 : decode cL_law 589 = .ok (.iload_n 3, 1) := by decide +kernel
theorem dL_law_590 : decode cL_law 590 = .ok (.iconst 2, 1) := by decide +kernel
theorem dL_law_591 : decode cL_law 591 = .ok (.iadd, 1) := by decide +kernel
theorem dL_law_592 : decode cL_law 592 = .ok (.iaload, 1) := by decide +kernel
theorem dL_law_593 : decode cL_law 593 = .ok (.aload_n 0, 1) := by decide +kernel
theorem dL_law_594 : decode cL_law 594 = .ok (.iload_n 3, 1) := by decide +kernel
theorem dL_law_595 : decode cL_law 595 = .ok (.iconst 3, 1) := by decide +kernel
theorem dL_law_596 : decode cL_law 596 = .ok (.iadd, 1) := by decide +kernel
theorem dL_law_597 : decode cL_law 597 = .ok (.iaload, 1) := by decide +kernel
theorem dL_law_598 : decode cL_law 598 = .ok (.aload_n 0, 1) := by decide +kernel
theorem dL_law_599 : decode cL_law 599 = .ok (.iload_n 3, 1) := by decide +kernel
theorem dL_law_600 : decode cL_law 600 = .ok (.iconst 4, 1) := by decide +kernel
theorem dL_law_601 : decode cL_law 601 = .ok (.iadd, 1) := by decide +kernel
theorem dL_law_602 : decode cL_law 602 = .ok (.iaload, 1) := by decide +kernel
theorem dL_law_603 : decode cL_law 603 = .ok (.invokevirtual 58, 3) := by decide +kernel
theorem dL_law_606 : decode cL_law 606 = .ok (.pop2, 1) := by decide +kernel
theorem dL_law_607 : decode cL_law 607 = .ok (.aload_n 2, 1) := by decide +kernel
theorem dL_law_608 : decode cL_law 608 = .ok (.aload_n 0, 1) := by decide +kernel
theorem dL_law_609 : decode cL_law 609 = .ok (.iload_n 3, 1) := by decide +kernel
theorem dL_law_610 : decode cL_law 610 = .ok (.iconst 1, 1) := by decide +kernel
theorem dL_law_611 : decode cL_law 611 = .ok (.iadd, 1) := by decide +kernel
theorem dL_law_612 : decode cL_law 612 = .ok (.iaload, 1) := by decide +kernel
theorem dL_law_613 : decode cL_law 613 = .ok (.aload_n 0, 1) := by decide +kernel
theorem dL_law_614 : decode cL_law 614 = .ok (.iload_n 3, 1) := by decide +kernel
theorem dL_law_615 : decode cL_law 615 = .ok (.iconst 2, 1) := by decide +kernel
theorem dL_law_616 : decode cL_law 616 = .ok (.iadd, 1) := by decide +kernel
theorem dL_law_617 : decode cL_law 617 = .ok (.iaload, 1) := by decide +kernel
theorem dL_law_618 : decode cL_law 618 = .ok (.aload_n 0, 1) := by decide +kernel
theorem dL_law_619 : decode cL_law 619 = .ok (.iload_n 3, 1) := by decide +kernel
theorem dL_law_620 : decode cL_law 620 = .ok (.iconst 3, 1) := by decide +kernel
theorem dL_law_621 : decode cL_law 621 = .ok (.iadd, 1) := by decide +kernel
theorem dL_law_622 : decode cL_law 622 = .ok (.iaload, 1) := by decide +kernel
theorem dL_law_623 : decode cL_law 623 = .ok (.aload_n 0, 1) := by decide +kernel
theorem dL_law_624 : decode cL_law 624 = .ok (.iload_n 3, 1) := by decide +kernel
theorem dL_law_625 : decode cL_law 625 = .ok (.iconst 4, 1) := by decide +kernel
theorem dL_law_626 : decode cL_law 626 = .ok (.iadd, 1) := by decide +kernel
theorem dL_law_627 : decode cL_law 627 = .ok (.iaload, 1) := by decide +kernel
theorem dL_law_628 : decode cL_law 628 = .ok (.invokevirtual 61, 3) := by decide +kernel
theorem dL_law_631 : decode cL_law 631 = .ok (.pop2, 1) := by decide +kernel
theorem dL_law_632 : decode cL_law 632 = .ok (.goto 1235, 3) := by decide +kernel
set_option maxRecDepth 40000 in
theorem lg_X12_mean : GoodIn lw_tbl (wsV RL 58 RX12 yX12_mean wsX12_mean) := goodIn_app (gl_cons ⟨lwt_2 _ (List.mem_of_getElem? (i := 50) (by decide +kernel)), by decide +kernel⟩ (gl_cons ⟨lwt_2 _ (List.mem_of_getElem? (i := 51) (by decide +kernel)), by decide +kernel⟩ (gl_cons ⟨lwt_2 _ (List.mem_of_getElem? (i := 52) (by decide +kernel)), by decide +kernel⟩ (gl_cons ⟨lwt_0 _ (List.mem_of_getElem? (i := 1) (by decide +kernel)), by decide +kernel⟩ gl_nil)))) lgg_X12_mean
set_option maxRecDepth 40000 in
theorem lg_X13_mean : GoodIn lw_tbl (wsV RL 61 RX13 yX13_mean wsX13_mean) := goodIn_app (gl_cons ⟨lwt_5 _ (List.mem_of_getElem? (i := 17) (by decide +kernel)), by decide +kernel⟩ (gl_cons ⟨lwt_5 _ (List.mem_of_getElem? (i := 18) (by decide +kernel)), by decide +kernel⟩ (gl_cons ⟨lwt_5 _ (List.mem_of_getElem? (i := 19) (by decide +kernel)), by decide +kernel⟩ (gl_cons ⟨lwt_0 _ (List.mem_of_getElem? (i := 11) (by decide +kernel)), by decide +kernel⟩ gl_nil)))) lgg_X13_mean
set_option maxHeartbeats 8000000 in
set_option maxRecDepth 100000 in
theorem law_c10 {p : Program} {e : Env} {s : State} {m : MethodId} {below : List Frame} {meth : Method} {c : Code} {l : Launch} {b L : Nat} {xs : Nat → Int32} (hL : L ≤ 3584) (C0 : lw_At p s m meth c b L xs) {D : va_G} {T : Nat → ClassId} {ad sa av : Nat → Nat} {ta : Nat} {A : Nat → Prop} (hA : ∀ q : Nat, s.heap.size ≤ q → A q) (hAf : ∀ q : Nat, A q → s.heap.size ≤ q) (hbA : ¬ A b) (hE0 : ekK D T s) (hV0 : evK ad sa av ta A s s.heap) {q1 q2 : Nat} {u v : Nat → Nat} {ii : Int32} (hii : 0 ≤ ii.toInt ∧ ii.toInt + 7 ≤ L) (K : lwK p l e s m below meth c b D T sa A q1 q2 u v ii) (c1 : Nat → Int32) (c2 : Nat → Nat → Int32) (c3 : Nat → Nat → Int64) (c4 : Nat → Nat → UInt32) (c5 : Nat → Nat → UInt64) (q : Nat → Int32) (vl wl : Int64) (rf : Nat → Nat → Int32) (rl : Nat → Nat → Int64) (rd : Nat → UInt64) {ls : Array Slot} {H : Heap} {locs : List Loc} {d0 : Drawn} (hd0 : s.drawn.sameBut d0 lw_cs) (hI : lwI c1 c2 q rf rl) (hP : va_P D vwCl (lwW T sa q1 q2 u v c1 c2 c3 c4 c5 q vl wl rf rl rd) H) (hD : va_D A (lwW T sa q1 q2 u v c1 c2 c3 c4 c5 q vl wl rf rl rd)) (hS : va_S A s.heap H locs) (hl : lv_has ls 4 [(3, .int ii), (2, .ref q2), (1, .ref q1), (0, .ref b)]) : W p l e room_1 (s.setDrawn d0) m #[Value.ref b] below meth c H locs 95 6031 (lw_Z below #[Value.ref b] s) (F0 m 582 ls []) := by
  obtain ⟨hx, hb, hr, hml, hown0, hts0, hX, hbl, hlocks, hgv⟩ := id C0
  have hown0 : s.vm.findClass RL = some m.cls := hown0
  have hts := dr_words hts0 d0
  have hE : ekK D T (s.setDrawn d0) := ekK.same (u := s) rfl hE0
  have hown : (s.setDrawn d0).vm.findClass RL = some m.cls := hown0
  have hV : evK ad sa av ta A (s.setDrawn d0) (s.setDrawn d0).heap := evK.same (u := s) rfl hV0
  obtain ⟨hA1, hok, hokk, hA2, hokR, hB, hZ, hbg, hsz, hhd, hKb⟩ := hI
  have hA1 : (0 ≤ (((c1 1) : Int32)).toInt ∧ (((c1 1) : Int32)).toInt ≤ 24) ∧ (0 ≤ (((c1 2) : Int32)).toInt ∧ (((c1 2) : Int32)).toInt ≤ 24) ∧ (0 ≤ (((c2 16 0) : Int32)).toInt ∧ (((c2 16 0) : Int32)).toInt ≤ 12) ∧ (0 ≤ (((c2 16 1) : Int32)).toInt ∧ (((c2 16 1) : Int32)).toInt ≤ 12) ∧ (0 ≤ (((c2 16 2) : Int32)).toInt ∧ (((c2 16 2) : Int32)).toInt ≤ 12) ∧ (0 ≤ (((c2 17 0) : Int32)).toInt ∧ (((c2 17 0) : Int32)).toInt ≤ 12) ∧ (0 ≤ (((c2 17 1) : Int32)).toInt ∧ (((c2 17 1) : Int32)).toInt ≤ 12) ∧ (0 ≤ (((c2 17 2) : Int32)).toInt ∧ (((c2 17 2) : Int32)).toInt ≤ 12) ∧ (0 ≤ (((c1 7) : Int32)).toInt ∧ (((c1 7) : Int32)).toInt ≤ 120) ∧ ((-1 ≤ (((c2 28 0) : Int32)).toInt ∧ (((c2 28 0) : Int32)).toInt ≤ 3) ∧ (0 ≤ (((c2 29 0) : Int32)).toInt ∧ (((c2 29 0) : Int32)).toInt ≤ 30)) ∧ ((-1 ≤ (((c2 28 1) : Int32)).toInt ∧ (((c2 28 1) : Int32)).toInt ≤ 3) ∧ (0 ≤ (((c2 29 1) : Int32)).toInt ∧ (((c2 29 1) : Int32)).toInt ≤ 30)) ∧ ((-1 ≤ (((c2 28 2) : Int32)).toInt ∧ (((c2 28 2) : Int32)).toInt ≤ 3) ∧ (0 ≤ (((c2 29 2) : Int32)).toInt ∧ (((c2 29 2) : Int32)).toInt ≤ 30)) ∧ ((-1 ≤ (((c2 28 3) : Int32)).toInt ∧ (((c2 28 3) : Int32)).toInt ≤ 3) ∧ (0 ≤ (((c2 29 3) : Int32)).toInt ∧ (((c2 29 3) : Int32)).toInt ≤ 30)) := hA1
  have hok : okC (c2 2) (c2 4) (c2 5) (c2 6) := hok
  have hokk : okC (c2 9) (c2 11) (c2 12) (c2 13) := hokk
  have hA2 : (0 ≤ (((q 7) : Int32)).toInt ∧ (((q 7) : Int32)).toInt ≤ 24) ∧ ((1 ≤ (((q 4) : Int32)).toInt ∧ (((q 4) : Int32)).toInt ≤ 9) ∧ (1 ≤ (((q 6) : Int32)).toInt ∧ (((q 6) : Int32)).toInt ≤ 9)) ∧ (0 ≤ (((q 26) : Int32)).toInt ∧ (((q 26) : Int32)).toInt ≤ 120) := hA2
  have hokR : okR (rf 8) (rf 10) (rf 11) := hokR
  have hB : isB (q 14) := hB
  have hZ : ∀ j : Nat, isB ((rf 22) j) := hZ
  have hbg : ∀ k : Nat, k < 3 → 0 ≤ ((rf 13) k).toInt ∧ ((rf 13) k).toInt ≤ 12 := hbg
  have hsz : ∀ k : Nat, k < 4 → 0 ≤ ((rf 35) k).toInt ∧ ((rf 35) k).toInt ≤ 30 := hsz
  have hhd : ∀ k : Nat, k < 4 → ((rf 38) k).toInt = 2 → 1 ≤ ((rl 40) k).toInt := hhd
  have hKb : ¬ ((q 41) : Int32).toInt = 0 → okK (rf 42) := hKb
  have hi_1 : (ii + 1).toInt = ii.toInt + 1 := by rw [fb_addI (by rw [ti_1]; omega) (by rw [ti_1]; omega), ti_1]
  have hi_2 : (ii + 2).toInt = ii.toInt + 2 := by rw [fb_addI (by rw [ti_2]; omega) (by rw [ti_2]; omega), ti_2]
  have hi_3 : (ii + 3).toInt = ii.toInt + 3 := by rw [fb_addI (by rw [ti_3]; omega) (by rw [ti_3]; omega), ti_3]
  have hi_4 : (ii + 4).toInt = ii.toInt + 4 := by rw [fb_addI (by rw [ti_4]; omega) (by rw [ti_4]; omega), ti_4]
  have hi_5 : (ii + 5).toInt = ii.toInt + 5 := by rw [fb_addI (by rw [ti_5]; omega) (by rw [ti_5]; omega), ti_5]
  have hi_6 : (ii + 6).toInt = ii.toInt + 6 := by rw [fb_addI (by rw [ti_6]; omega) (by rw [ti_6]; omega), ti_6]
  refine lv_aload_n hx hb dL_law_582 rfl (lv_at hl 2 rfl) ?_
  refine lv_aload_n hx hb dL_law_583 rfl (lv_at hl 3 rfl) ?_
  refine lv_iload_n hx hb dL_law_584 rfl (lv_at hl 0 rfl) ?_
  refine lv_iconst (v := 1) hx hb dL_law_585 (by decide) ?_
  refine lv_iadd hx hb dL_law_586 ?_
  refine va_sld hx hb hX hbl hbA hS (by rw [vp_in_iff, hi_1]; omega) dL_law_587 ?_
  refine lv_topi (fun z_1 ez_1 => ?_)
  refine lv_aload_n hx hb dL_law_588 rfl (lv_at hl 3 rfl) ?_
  refine lv_iload_n hx hb dL_law_589 rfl (lv_at hl 0 rfl) ?_
  refine lv_iconst (v := 2) hx hb dL_law_590 (by decide) ?_
  refine lv_iadd hx hb dL_law_591 ?_
  refine va_sld hx hb hX hbl hbA hS (by rw [vp_in_iff, hi_2]; omega) dL_law_592 ?_
  refine lv_topi (fun z_2 ez_2 => ?_)
  refine lv_aload_n hx hb dL_law_593 rfl (lv_at hl 3 rfl) ?_
  refine lv_iload_n hx hb dL_law_594 rfl (lv_at hl 0 rfl) ?_
  refine lv_iconst (v := 3) hx hb dL_law_595 (by decide) ?_
  refine lv_iadd hx hb dL_law_596 ?_
  refine va_sld hx hb hX hbl hbA hS (by rw [vp_in_iff, hi_3]; omega) dL_law_597 ?_
  refine lv_topi (fun z_3 ez_3 => ?_)
  refine lv_aload_n hx hb dL_law_598 rfl (lv_at hl 3 rfl) ?_
  refine lv_iload_n hx hb dL_law_599 rfl (lv_at hl 0 rfl) ?_
  refine lv_iconst (v := 4) hx hb dL_law_600 (by decide) ?_
  refine lv_iadd hx hb dL_law_601 ?_
  refine va_sld hx hb hX hbl hbA hS (by rw [vp_in_iff, hi_4]; omega) dL_law_602 ?_
  refine lv_topi (fun z_4 ez_4 => ?_)
  have hFc := va_free (wc := [(q1, .inr (9, [.ref (u 0), .ref (u 1), .int (c1 0), .ref (u 2), .ref (u 3), .ref (u 11), .ref (u 34), .ref (u 38), .ref (u 40), .ref (u 44), .ref (u 65)])), ((u 34), .inr (8, [.ref (u 2), .ref (u 3), .ref (u 35), .ref (u 36), .ref (u 37), .int (c1 3)])), ((u 2), .inr (5, [.int (c2 0 0), .int (c2 0 1), .int (c2 0 2), .int (c2 0 3), .int (c2 0 4), .int (c2 0 5), .int (c2 0 6)])), ((u 3), .inr (1, [.int (c1 1), .ref (u 4), .ref (u 5), .ref (u 6), .ref (u 7), .ref (u 8), .ref (u 9), .ref (u 10)])), ((u 4), .inl (T 0, 24, .inl (c2 2))), ((u 5), .inl (T 0, 24, .inl (c2 3))), ((u 6), .inl (T 0, 24, .inl (c2 4))), ((u 7), .inl (T 0, 24, .inl (c2 5))), ((u 8), .inl (T 0, 24, .inl (c2 6))), ((u 35), .inl (T 1, 676, .inr (.inl (c3 0)))), ((u 36), .inl (T 1, 676, .inr (.inl (c3 1)))), ((u 37), .inl (T 0, 672, .inl (c2 24)))]) hD hS hA [0, 35, 2, 3, 4, 5, 6, 7, 8, 36, 37, 38] rfl
  refine va_calll (va_runV (As := [.int z_1, .int z_2, .int z_3, .int z_4]) (rest := []) ⟨hx, hb, hml, hown, hts⟩ (c_X12_mean l D T ad sa av ta _ q1 (u 34) [.ref (u 0), .ref (u 1), .int (c1 0), .ref (u 2), .ref (u 3), .ref (u 11), .ref (u 34), .ref (u 38), .ref (u 40), .ref (u 44), .ref (u 65)] (u 2) (u 3) (u 35) (u 36) (u 37) (c1 3) (fun k => [(c2 0 0), (c2 0 1), (c2 0 2), (c2 0 3), (c2 0 4), (c2 0 5), (c2 0 6)].getD k 0) (c1 1) (u 4) (u 5) (u 6) (u 7) (u 8) (u 9) (u 10) (c2 2) (c2 3) (c2 4) (c2 5) (c2 6) (c3 0) (c3 1) (c2 24) z_1 z_2 z_3 z_4 rfl rfl (by omega) hok) (cwV 4 hts lg_X12_mean rfl rfl rfl (by decide +kernel) ⟨Nat.le_of_ble_eq_true rfl, Nat.le_of_ble_eq_true rfl⟩) (pWk_V (ci := 9) (q0 := 0) hP hE hD hV hS hFc rfl rfl [0, 35, 2, 3, 4, 5, 6, 7, 8, 36, 37, 38] (by decide) rfl rfl) rfl rfl hl.1 rfl (lv_room (Nat.le_of_ble_eq_true rfl)) dL_law_603 ⟨Nat.le_of_ble_eq_true rfl, Nat.le_of_ble_eq_true rfl⟩) hS (fun q _ h => hFc q h) hFc (fun r_5 u_6 t H1 locs ht hvm hr_5 hB hz1 hk1 hS => ?_)
  obtain ⟨f_7, f_8, f_9⟩ := u_6
  obtain ⟨hP1, hD1⟩ := hB
  rw [ht] at hP1
  obtain ⟨hP, hD⟩ := va_join (wr := ([1, 9, 10, 11, 12, 13, 14, 15, 16, 17, 18, 19, 20, 21, 22, 23, 24, 25, 26, 27, 28, 29, 30, 31, 32, 33, 34, 39, 40, 41, 42, 43, 44, 45, 46, 47, 48, 49, 50, 51, 52, 53, 54, 55, 56, 57, 58, 59, 60, 61, 62, 63, 64, 65, 66, 67, 68, 69, 70, 71, 72, 73, 74, 75, 76, 77, 78, 79, 80, 81, 82, 83, 84, 85, 86, 87, 88, 89, 90, 91, 92, 93, 94].filterMap (fun i => (lwW T sa q1 q2 u v c1 c2 c3 c4 c5 q vl wl rf rl rd)[i]?))) (w1 := [(q1, .inr (9, [.ref (u 0), .ref (u 1), .int (c1 0), .ref (u 2), .ref (u 3), .ref (u 11), .ref (u 34), .ref (u 38), .ref (u 40), .ref (u 44), .ref (u 65)])), ((u 34), .inr (8, [.ref (u 2), .ref (u 3), .ref (u 35), .ref (u 36), .ref (u 37), .int (c1 3)])), ((u 2), .inr (5, [.int (c2 0 0), .int (c2 0 1), .int (c2 0 2), .int (c2 0 3), .int (c2 0 4), .int (c2 0 5), .int (c2 0 6)])), ((u 3), .inr (1, [.int (c1 1), .ref (u 4), .ref (u 5), .ref (u 6), .ref (u 7), .ref (u 8), .ref (u 9), .ref (u 10)])), ((u 4), .inl (T 0, 24, .inl (c2 2))), ((u 5), .inl (T 0, 24, .inl (c2 3))), ((u 6), .inl (T 0, 24, .inl (c2 4))), ((u 7), .inl (T 0, 24, .inl (c2 5))), ((u 8), .inl (T 0, 24, .inl (c2 6))), ((u 35), .inl (T 1, 676, .inr (.inl f_7))), ((u 36), .inl (T 1, 676, .inr (.inl f_8))), ((u 37), .inl (T 0, 672, .inl f_9))]) hP hD [0, 35, 2, 3, 4, 5, 6, 7, 8, 36, 37, 38] [1, 9, 10, 11, 12, 13, 14, 15, 16, 17, 18, 19, 20, 21, 22, 23, 24, 25, 26, 27, 28, 29, 30, 31, 32, 33, 34, 39, 40, 41, 42, 43, 44, 45, 46, 47, 48, 49, 50, 51, 52, 53, 54, 55, 56, 57, 58, 59, 60, 61, 62, 63, 64, 65, 66, 67, 68, 69, 70, 71, 72, 73, 74, 75, 76, 77, 78, 79, 80, 81, 82, 83, 84, 85, 86, 87, 88, 89, 90, 91, 92, 93, 94] rfl rfl (by decide) (by decide) hk1 hFc hP1 hD1
  clear hP1 hD1 hFc
  generalize H1 = H at hP hS ⊢
  refine lv_pop2_2 hx hb dL_law_606 rfl ?_
  refine lv_aload_n hx hb dL_law_607 rfl (lv_at hl 1 rfl) ?_
  refine lv_aload_n hx hb dL_law_608 rfl (lv_at hl 3 rfl) ?_
  refine lv_iload_n hx hb dL_law_609 rfl (lv_at hl 0 rfl) ?_
  refine lv_iconst (v := 1) hx hb dL_law_610 (by decide) ?_
  refine lv_iadd hx hb dL_law_611 ?_
  refine va_sld hx hb hX hbl hbA hS (by rw [vp_in_iff, hi_1]; omega) dL_law_612 ?_
  refine lv_topi (fun z_10 ez_10 => ?_)
  have hsz_10 : z_1 = z_10 := ez_1.trans ez_10.symm
  subst hsz_10
  refine lv_aload_n hx hb dL_law_613 rfl (lv_at hl 3 rfl) ?_
  refine lv_iload_n hx hb dL_law_614 rfl (lv_at hl 0 rfl) ?_
  refine lv_iconst (v := 2) hx hb dL_law_615 (by decide) ?_
  refine lv_iadd hx hb dL_law_616 ?_
  refine va_sld hx hb hX hbl hbA hS (by rw [vp_in_iff, hi_2]; omega) dL_law_617 ?_
  refine lv_topi (fun z_11 ez_11 => ?_)
  have hsz_11 : z_2 = z_11 := ez_2.trans ez_11.symm
  subst hsz_11
  refine lv_aload_n hx hb dL_law_618 rfl (lv_at hl 3 rfl) ?_
  refine lv_iload_n hx hb dL_law_619 rfl (lv_at hl 0 rfl) ?_
  refine lv_iconst (v := 3) hx hb dL_law_620 (by decide) ?_
  refine lv_iadd hx hb dL_law_621 ?_
  refine va_sld hx hb hX hbl hbA hS (by rw [vp_in_iff, hi_3]; omega) dL_law_622 ?_
  refine lv_topi (fun z_12 ez_12 => ?_)
  have hsz_12 : z_3 = z_12 := ez_3.trans ez_12.symm
  subst hsz_12
  refine lv_aload_n hx hb dL_law_623 rfl (lv_at hl 3 rfl) ?_
  refine lv_iload_n hx hb dL_law_624 rfl (lv_at hl 0 rfl) ?_
  refine lv_iconst (v := 4) hx hb dL_law_625 (by decide) ?_
  refine lv_iadd hx hb dL_law_626 ?_
  refine va_sld hx hb hX hbl hbA hS (by rw [vp_in_iff, hi_4]; omega) dL_law_627 ?_
  refine lv_topi (fun z_13 ez_13 => ?_)
  have hsz_13 : z_4 = z_13 := ez_4.trans ez_13.symm
  subst hsz_13
  have hFc := va_free (wc := [(q2, .inr (10, [.int (q 0), .int (q 1), .int (q 2), .int (q 3), .int (q 4), .int (q 5), .int (q 6), .int (q 7), .ref (v 8), .ref (v 9), .ref (v 10), .ref (v 11), .ref (v 12), .ref (v 13), .int (q 14), .long vl, .long wl, .ref (v 17), .ref (v 18), .ref (v 19), .ref (v 20), .ref (v 21), .ref (v 22), .ref (v 23), .int (q 24), .ref (v 25), .int (q 26), .ref (v 27), .int (q 28), .int (q 29), .int (q 30), .int (q 31), .int (q 32), .int (q 33), .ref (v 34), .ref (v 35), .ref (v 36), .ref (v 37), .ref (v 38), .ref (v 39), .ref (v 40), .int (q 41), .ref (v 42), .int (q 43), .int (q 44)])), ((v 8), .inl (T 0, 24, .inl (rf 8))), ((v 9), .inl (T 0, 24, .inl (rf 9))), ((v 10), .inl (T 0, 24, .inl (rf 10))), ((v 11), .inl (T 0, 24, .inl (rf 11))), ((v 17), .inl (T 0, 24, .inl (rf 17))), ((v 18), .inl (T 0, 24, .inl (rf 18))), ((v 19), .inl (T 0, 24, .inl (rf 19))), ((v 20), .inl (T 1, 672, .inr (.inl (rl 20)))), ((v 21), .inl (T 1, 672, .inr (.inl (rl 21)))), ((v 22), .inl (T 4, 672, .inl (rf 22)))]) hD hS hA [59, 60, 61, 62, 63, 66, 67, 68, 69, 70, 71] rfl
  refine va_calll (va_runV (As := [.int z_1, .int z_2, .int z_3, .int z_4]) (rest := []) ⟨hx, hb, hml, hown, hts⟩ (c_X13_mean l D T _ q2 q vl wl v (rf 8) (rf 9) (rf 10) (rf 11) (rf 17) (rf 18) (rf 19) (rl 20) (rl 21) (rf 22) z_1 z_2 z_3 z_4 hB (by omega) hokR hZ (by omega)) (cwV 4 hts lg_X13_mean rfl rfl rfl (by decide +kernel) ⟨Nat.le_of_ble_eq_true rfl, Nat.le_of_ble_eq_true rfl⟩) (pW_V (ci := 10) (q0 := 59) hP hE hD rfl rfl [59, 60, 61, 62, 63, 66, 67, 68, 69, 70, 71] (by decide) rfl rfl) rfl rfl hl.1 rfl (lv_room (Nat.le_of_ble_eq_true rfl)) dL_law_628 ⟨Nat.le_of_ble_eq_true rfl, Nat.le_of_ble_eq_true rfl⟩) hS (fun q _ h => hFc q h) hFc (fun r_14 u_15 t H1 locs ht hvm hr_14 hB hz1 hk1 hS => ?_)
  obtain ⟨n_16, l_17, l_18, f_19, f_20, f_21, f_22, f_23, f_24⟩ := u_15
  obtain ⟨hi0_r_14, hi1_r_14⟩ := hr_14
  have hB14_r_14 : isB n_16 := hi0_r_14
  have hZ : ∀ j : Nat, isB (f_24 j) := hi1_r_14
  obtain ⟨hP1, hD1⟩ := hB
  rw [ht] at hP1
  obtain ⟨hP, hD⟩ := va_join (wr := ([0, 1, 2, 3, 4, 5, 6, 7, 8, 9, 10, 11, 12, 13, 14, 15, 16, 17, 18, 19, 20, 21, 22, 23, 24, 25, 26, 27, 28, 29, 30, 31, 32, 33, 34, 35, 36, 37, 38, 39, 40, 41, 42, 43, 44, 45, 46, 47, 48, 49, 50, 51, 52, 53, 54, 55, 56, 57, 58, 64, 65, 72, 73, 74, 75, 76, 77, 78, 79, 80, 81, 82, 83, 84, 85, 86, 87, 88, 89, 90, 91, 92, 93, 94].filterMap (fun i => (([1, 9, 10, 11, 12, 13, 14, 15, 16, 17, 18, 19, 20, 21, 22, 23, 24, 25, 26, 27, 28, 29, 30, 31, 32, 33, 34, 39, 40, 41, 42, 43, 44, 45, 46, 47, 48, 49, 50, 51, 52, 53, 54, 55, 56, 57, 58, 59, 60, 61, 62, 63, 64, 65, 66, 67, 68, 69, 70, 71, 72, 73, 74, 75, 76, 77, 78, 79, 80, 81, 82, 83, 84, 85, 86, 87, 88, 89, 90, 91, 92, 93, 94].filterMap (fun i => (lwW T sa q1 q2 u v c1 c2 c3 c4 c5 q vl wl rf rl rd)[i]?)) ++ [(q1, .inr (9, [.ref (u 0), .ref (u 1), .int (c1 0), .ref (u 2), .ref (u 3), .ref (u 11), .ref (u 34), .ref (u 38), .ref (u 40), .ref (u 44), .ref (u 65)])), ((u 34), .inr (8, [.ref (u 2), .ref (u 3), .ref (u 35), .ref (u 36), .ref (u 37), .int (c1 3)])), ((u 2), .inr (5, [.int (c2 0 0), .int (c2 0 1), .int (c2 0 2), .int (c2 0 3), .int (c2 0 4), .int (c2 0 5), .int (c2 0 6)])), ((u 3), .inr (1, [.int (c1 1), .ref (u 4), .ref (u 5), .ref (u 6), .ref (u 7), .ref (u 8), .ref (u 9), .ref (u 10)])), ((u 4), .inl (T 0, 24, .inl (c2 2))), ((u 5), .inl (T 0, 24, .inl (c2 3))), ((u 6), .inl (T 0, 24, .inl (c2 4))), ((u 7), .inl (T 0, 24, .inl (c2 5))), ((u 8), .inl (T 0, 24, .inl (c2 6))), ((u 35), .inl (T 1, 676, .inr (.inl f_7))), ((u 36), .inl (T 1, 676, .inr (.inl f_8))), ((u 37), .inl (T 0, 672, .inl f_9))])[i]?))) (w1 := [(q2, .inr (10, [.int (q 0), .int (q 1), .int (q 2), .int (q 3), .int (q 4), .int (q 5), .int (q 6), .int (q 7), .ref (v 8), .ref (v 9), .ref (v 10), .ref (v 11), .ref (v 12), .ref (v 13), .int n_16, .long l_17, .long l_18, .ref (v 17), .ref (v 18), .ref (v 19), .ref (v 20), .ref (v 21), .ref (v 22), .ref (v 23), .int (q 24), .ref (v 25), .int (q 26), .ref (v 27), .int (q 28), .int (q 29), .int (q 30), .int (q 31), .int (q 32), .int (q 33), .ref (v 34), .ref (v 35), .ref (v 36), .ref (v 37), .ref (v 38), .ref (v 39), .ref (v 40), .int (q 41), .ref (v 42), .int (q 43), .int (q 44)])), ((v 8), .inl (T 0, 24, .inl (rf 8))), ((v 9), .inl (T 0, 24, .inl (rf 9))), ((v 10), .inl (T 0, 24, .inl (rf 10))), ((v 11), .inl (T 0, 24, .inl (rf 11))), ((v 17), .inl (T 0, 24, .inl f_19)), ((v 18), .inl (T 0, 24, .inl f_20)), ((v 19), .inl (T 0, 24, .inl f_21)), ((v 20), .inl (T 1, 672, .inr (.inl f_22))), ((v 21), .inl (T 1, 672, .inr (.inl f_23))), ((v 22), .inl (T 4, 672, .inl f_24))]) hP hD [59, 60, 61, 62, 63, 66, 67, 68, 69, 70, 71] [0, 1, 2, 3, 4, 5, 6, 7, 8, 9, 10, 11, 12, 13, 14, 15, 16, 17, 18, 19, 20, 21, 22, 23, 24, 25, 26, 27, 28, 29, 30, 31, 32, 33, 34, 35, 36, 37, 38, 39, 40, 41, 42, 43, 44, 45, 46, 47, 48, 49, 50, 51, 52, 53, 54, 55, 56, 57, 58, 64, 65, 72, 73, 74, 75, 76, 77, 78, 79, 80, 81, 82, 83, 84, 85, 86, 87, 88, 89, 90, 91, 92, 93, 94] rfl rfl (by decide) (by decide) hk1 hFc hP1 hD1
  clear hP1 hD1 hFc
  generalize H1 = H at hP hS ⊢
  refine lv_pop2_2 hx hb dL_law_631 rfl ?_
  refine lv_goto (tgt := 1867) hx hb dL_law_632 (by decide) ?_
  exact K c1 (fun k => [(c2 0), (c2 1), (c2 2), (c2 3), (c2 4), (c2 5), (c2 6), (c2 7), (c2 8), (c2 9), (c2 10), (c2 11), (c2 12), (c2 13), (c2 14), (c2 15), (c2 16), (c2 17), (c2 18), (c2 19), (c2 20), (c2 21), (c2 22), (c2 23), f_9, (c2 25), (c2 26), (c2 27), (c2 28), (c2 29), (c2 30), (c2 31), (c2 32), (c2 33), (c2 34), (c2 35)].getD k (fun _ => 0)) (fun k => [f_7, f_8, (c3 2), (c3 3), (c3 4), (c3 5), (c3 6), (c3 7), (c3 8)].getD k (fun _ => 0)) c4 c5 (fun k => [(q 0), (q 1), (q 2), (q 3), (q 4), (q 5), (q 6), (q 7), 0, 0, 0, 0, 0, 0, n_16, 0, 0, 0, 0, 0, 0, 0, 0, 0, (q 24), 0, (q 26), 0, (q 28), (q 29), (q 30), (q 31), (q 32), (q 33), 0, 0, 0, 0, 0, 0, 0, (q 41), 0, (q 43), (q 44)].getD k 0) l_17 l_18 (fun k => [(fun _ => 0), (fun _ => 0), (fun _ => 0), (fun _ => 0), (fun _ => 0), (fun _ => 0), (fun _ => 0), (fun _ => 0), (rf 8), (rf 9), (rf 10), (rf 11), (rf 12), (rf 13), (fun _ => 0), (fun _ => 0), (fun _ => 0), f_19, f_20, f_21, (fun _ => 0), (fun _ => 0), f_24, (fun _ => 0), (fun _ => 0), (rf 25), (fun _ => 0), (fun _ => 0), (fun _ => 0), (fun _ => 0), (fun _ => 0), (fun _ => 0), (fun _ => 0), (fun _ => 0), (rf 34), (rf 35), (fun _ => 0), (fun _ => 0), (rf 38), (fun _ => 0), (fun _ => 0), (fun _ => 0), (rf 42)].getD k (fun _ => 0)) (fun k => [(fun _ => 0), (fun _ => 0), (fun _ => 0), (fun _ => 0), (fun _ => 0), (fun _ => 0), (fun _ => 0), (fun _ => 0), (fun _ => 0), (fun _ => 0), (fun _ => 0), (fun _ => 0), (fun _ => 0), (fun _ => 0), (fun _ => 0), (fun _ => 0), (fun _ => 0), (fun _ => 0), (fun _ => 0), (fun _ => 0), f_22, f_23, (fun _ => 0), (rl 23), (fun _ => 0), (fun _ => 0), (fun _ => 0), (fun _ => 0), (fun _ => 0), (fun _ => 0), (fun _ => 0), (fun _ => 0), (fun _ => 0), (fun _ => 0), (fun _ => 0), (fun _ => 0), (rl 36), (fun _ => 0), (fun _ => 0), (rl 39), (rl 40)].getD k (fun _ => 0)) rd ls H locs _ hd0 ⟨(show (0 ≤ (((c1 1) : Int32)).toInt ∧ (((c1 1) : Int32)).toInt ≤ 24) ∧ (0 ≤ (((c1 2) : Int32)).toInt ∧ (((c1 2) : Int32)).toInt ≤ 24) ∧ (0 ≤ (((c2 16 0) : Int32)).toInt ∧ (((c2 16 0) : Int32)).toInt ≤ 12) ∧ (0 ≤ (((c2 16 1) : Int32)).toInt ∧ (((c2 16 1) : Int32)).toInt ≤ 12) ∧ (0 ≤ (((c2 16 2) : Int32)).toInt ∧ (((c2 16 2) : Int32)).toInt ≤ 12) ∧ (0 ≤ (((c2 17 0) : Int32)).toInt ∧ (((c2 17 0) : Int32)).toInt ≤ 12) ∧ (0 ≤ (((c2 17 1) : Int32)).toInt ∧ (((c2 17 1) : Int32)).toInt ≤ 12) ∧ (0 ≤ (((c2 17 2) : Int32)).toInt ∧ (((c2 17 2) : Int32)).toInt ≤ 12) ∧ (0 ≤ (((c1 7) : Int32)).toInt ∧ (((c1 7) : Int32)).toInt ≤ 120) ∧ ((-1 ≤ (((c2 28 0) : Int32)).toInt ∧ (((c2 28 0) : Int32)).toInt ≤ 3) ∧ (0 ≤ (((c2 29 0) : Int32)).toInt ∧ (((c2 29 0) : Int32)).toInt ≤ 30)) ∧ ((-1 ≤ (((c2 28 1) : Int32)).toInt ∧ (((c2 28 1) : Int32)).toInt ≤ 3) ∧ (0 ≤ (((c2 29 1) : Int32)).toInt ∧ (((c2 29 1) : Int32)).toInt ≤ 30)) ∧ ((-1 ≤ (((c2 28 2) : Int32)).toInt ∧ (((c2 28 2) : Int32)).toInt ≤ 3) ∧ (0 ≤ (((c2 29 2) : Int32)).toInt ∧ (((c2 29 2) : Int32)).toInt ≤ 30)) ∧ ((-1 ≤ (((c2 28 3) : Int32)).toInt ∧ (((c2 28 3) : Int32)).toInt ≤ 3) ∧ (0 ≤ (((c2 29 3) : Int32)).toInt ∧ (((c2 29 3) : Int32)).toInt ≤ 30)) from (by (try simp only [ti_0, ti_1, ti_n1]); omega)), (show okC (c2 2) (c2 4) (c2 5) (c2 6) from (by assumption)), (show okC (c2 9) (c2 11) (c2 12) (c2 13) from (by assumption)), (show (0 ≤ (((q 7) : Int32)).toInt ∧ (((q 7) : Int32)).toInt ≤ 24) ∧ ((1 ≤ (((q 4) : Int32)).toInt ∧ (((q 4) : Int32)).toInt ≤ 9) ∧ (1 ≤ (((q 6) : Int32)).toInt ∧ (((q 6) : Int32)).toInt ≤ 9)) ∧ (0 ≤ (((q 26) : Int32)).toInt ∧ (((q 26) : Int32)).toInt ≤ 120) from (by (try simp only [ti_0, ti_1, ti_n1]); omega)), (show okR (rf 8) (rf 10) (rf 11) from (by assumption)), (show isB n_16 from (by first | assumption | exact isB0 | exact isB1)), (show ∀ j : Nat, isB (f_24 j) from (by assumption)), (show ∀ k : Nat, k < 3 → 0 ≤ ((rf 13) k).toInt ∧ ((rf 13) k).toInt ≤ 12 from (by assumption)), (show ∀ k : Nat, k < 4 → 0 ≤ ((rf 35) k).toInt ∧ ((rf 35) k).toInt ≤ 30 from (by assumption)), (show ∀ k : Nat, k < 4 → ((rf 38) k).toInt = 2 → 1 ≤ ((rl 40) k).toInt from (by assumption)), (show ¬ ((q 41) : Int32).toInt = 0 → okK (rf 42) from (by first | assumption | exact (fun _ => by assumption)))⟩ (show va_P D vwCl (lwW T sa q1 q2 u v c1 (fun k => [(c2 0), (c2 1), (c2 2), (c2 3), (c2 4), (c2 5), (c2 6), (c2 7), (c2 8), (c2 9), (c2 10), (c2 11), (c2 12), (c2 13), (c2 14), (c2 15), (c2 16), (c2 17), (c2 18), (c2 19), (c2 20), (c2 21), (c2 22), (c2 23), f_9, (c2 25), (c2 26), (c2 27), (c2 28), (c2 29), (c2 30), (c2 31), (c2 32), (c2 33), (c2 34), (c2 35)].getD k (fun _ => 0)) (fun k => [f_7, f_8, (c3 2), (c3 3), (c3 4), (c3 5), (c3 6), (c3 7), (c3 8)].getD k (fun _ => 0)) c4 c5 (fun k => [(q 0), (q 1), (q 2), (q 3), (q 4), (q 5), (q 6), (q 7), 0, 0, 0, 0, 0, 0, n_16, 0, 0, 0, 0, 0, 0, 0, 0, 0, (q 24), 0, (q 26), 0, (q 28), (q 29), (q 30), (q 31), (q 32), (q 33), 0, 0, 0, 0, 0, 0, 0, (q 41), 0, (q 43), (q 44)].getD k 0) l_17 l_18 (fun k => [(fun _ => 0), (fun _ => 0), (fun _ => 0), (fun _ => 0), (fun _ => 0), (fun _ => 0), (fun _ => 0), (fun _ => 0), (rf 8), (rf 9), (rf 10), (rf 11), (rf 12), (rf 13), (fun _ => 0), (fun _ => 0), (fun _ => 0), f_19, f_20, f_21, (fun _ => 0), (fun _ => 0), f_24, (fun _ => 0), (fun _ => 0), (rf 25), (fun _ => 0), (fun _ => 0), (fun _ => 0), (fun _ => 0), (fun _ => 0), (fun _ => 0), (fun _ => 0), (fun _ => 0), (rf 34), (rf 35), (fun _ => 0), (fun _ => 0), (rf 38), (fun _ => 0), (fun _ => 0), (fun _ => 0), (rf 42)].getD k (fun _ => 0)) (fun k => [(fun _ => 0), (fun _ => 0), (fun _ => 0), (fun _ => 0), (fun _ => 0), (fun _ => 0), (fun _ => 0), (fun _ => 0), (fun _ => 0), (fun _ => 0), (fun _ => 0), (fun _ => 0), (fun _ => 0), (fun _ => 0), (fun _ => 0), (fun _ => 0), (fun _ => 0), (fun _ => 0), (fun _ => 0), (fun _ => 0), f_22, f_23, (fun _ => 0), (rl 23), (fun _ => 0), (fun _ => 0), (fun _ => 0), (fun _ => 0), (fun _ => 0), (fun _ => 0), (fun _ => 0), (fun _ => 0), (fun _ => 0), (fun _ => 0), (fun _ => 0), (fun _ => 0), (rl 36), (fun _ => 0), (fun _ => 0), (rl 39), (rl 40)].getD k (fun _ => 0)) rd) H from hP.sub [72, 0, 74, 75, 76, 77, 78, 79, 80, 1, 2, 3, 4, 5, 6, 7, 8, 9, 10, 11, 12, 13, 14, 15, 16, 17, 18, 19, 20, 21, 22, 23, 24, 25, 26, 73, 81, 82, 83, 27, 28, 29, 30, 31, 32, 33, 34, 35, 36, 37, 38, 39, 40, 41, 42, 43, 44, 45, 46, 47, 48, 49, 50, 51, 52, 53, 54, 55, 56, 57, 58, 84, 85, 86, 87, 88, 59, 60, 89, 90, 91, 92, 93, 94, 61, 62, 63, 64, 65, 66, 67, 68, 69, 70, 71] rfl) (show va_D A (lwW T sa q1 q2 u v c1 (fun k => [(c2 0), (c2 1), (c2 2), (c2 3), (c2 4), (c2 5), (c2 6), (c2 7), (c2 8), (c2 9), (c2 10), (c2 11), (c2 12), (c2 13), (c2 14), (c2 15), (c2 16), (c2 17), (c2 18), (c2 19), (c2 20), (c2 21), (c2 22), (c2 23), f_9, (c2 25), (c2 26), (c2 27), (c2 28), (c2 29), (c2 30), (c2 31), (c2 32), (c2 33), (c2 34), (c2 35)].getD k (fun _ => 0)) (fun k => [f_7, f_8, (c3 2), (c3 3), (c3 4), (c3 5), (c3 6), (c3 7), (c3 8)].getD k (fun _ => 0)) c4 c5 (fun k => [(q 0), (q 1), (q 2), (q 3), (q 4), (q 5), (q 6), (q 7), 0, 0, 0, 0, 0, 0, n_16, 0, 0, 0, 0, 0, 0, 0, 0, 0, (q 24), 0, (q 26), 0, (q 28), (q 29), (q 30), (q 31), (q 32), (q 33), 0, 0, 0, 0, 0, 0, 0, (q 41), 0, (q 43), (q 44)].getD k 0) l_17 l_18 (fun k => [(fun _ => 0), (fun _ => 0), (fun _ => 0), (fun _ => 0), (fun _ => 0), (fun _ => 0), (fun _ => 0), (fun _ => 0), (rf 8), (rf 9), (rf 10), (rf 11), (rf 12), (rf 13), (fun _ => 0), (fun _ => 0), (fun _ => 0), f_19, f_20, f_21, (fun _ => 0), (fun _ => 0), f_24, (fun _ => 0), (fun _ => 0), (rf 25), (fun _ => 0), (fun _ => 0), (fun _ => 0), (fun _ => 0), (fun _ => 0), (fun _ => 0), (fun _ => 0), (fun _ => 0), (rf 34), (rf 35), (fun _ => 0), (fun _ => 0), (rf 38), (fun _ => 0), (fun _ => 0), (fun _ => 0), (rf 42)].getD k (fun _ => 0)) (fun k => [(fun _ => 0), (fun _ => 0), (fun _ => 0), (fun _ => 0), (fun _ => 0), (fun _ => 0), (fun _ => 0), (fun _ => 0), (fun _ => 0), (fun _ => 0), (fun _ => 0), (fun _ => 0), (fun _ => 0), (fun _ => 0), (fun _ => 0), (fun _ => 0), (fun _ => 0), (fun _ => 0), (fun _ => 0), (fun _ => 0), f_22, f_23, (fun _ => 0), (rl 23), (fun _ => 0), (fun _ => 0), (fun _ => 0), (fun _ => 0), (fun _ => 0), (fun _ => 0), (fun _ => 0), (fun _ => 0), (fun _ => 0), (fun _ => 0), (fun _ => 0), (fun _ => 0), (rl 36), (fun _ => 0), (fun _ => 0), (rl 39), (rl 40)].getD k (fun _ => 0)) rd) from hD.sub [72, 0, 74, 75, 76, 77, 78, 79, 80, 1, 2, 3, 4, 5, 6, 7, 8, 9, 10, 11, 12, 13, 14, 15, 16, 17, 18, 19, 20, 21, 22, 23, 24, 25, 26, 73, 81, 82, 83, 27, 28, 29, 30, 31, 32, 33, 34, 35, 36, 37, 38, 39, 40, 41, 42, 43, 44, 45, 46, 47, 48, 49, 50, 51, 52, 53, 54, 55, 56, 57, 58, 84, 85, 86, 87, 88, 59, 60, 89, 90, 91, 92, 93, 94, 61, 62, 63, 64, 65, 66, 67, 68, 69, 70, 71] (by decide) rfl) hS hl
theorem dL_law_635 : decode cL_law 635 = .ok (.aload_n 1, 1) := by decide +kernel
theorem dL_law_636 : decode cL_law 636 = .ok (.aload_n 0, 1) := by decide +kernel
theorem dL_law_637 : decode cL_law 637 = .ok (.iload_n 3, 1) := by decide +kernel
theorem dL_law_638 : decode cL_law 638 = .ok (.iconst 1, 1) := by decide +kernel
theorem dL_law_639 : decode cL_law 639 = .ok (.iadd, 1) := by decide +kernel
theorem dL_law_640 : decode cL_law 640 = .ok (.iaload, 1) := by decide +kernel
theorem dL_law_641 : decode cL_law 641 = .ok (.aload_n 0, 1) := by decide +kernel
theorem dL_law_642 : decode cL_law 642 = .ok (.iload_n 3, 1) := by decide +kernel
theorem dL_law_643 : decode cL_law 643 = .ok (.iconst 2, 1) := by decide +kernel
theorem dL_law_644 : decode cL_law 644 = .ok (.iadd, 1) := by decide +kernel
theorem dL_law_645 : decode cL_law 645 = .ok (.iaload, 1) := by decide +kernel
theorem dL_law_646 : decode cL_law 646 = .ok (.aload_n 0, 1) := by decide +kernel
theorem dL_law_647 : decode cL_law 647 = .ok (.iload_n 3, 1) := by decide +kernel
theorem dL_law_648 : decode cL_law 648 = .ok (.iconst 3, 1) := by decide +kernel
theorem dL_law_649 : decode cL_law 649 = .ok (.iadd, 1) := by decide +kernel
theorem dL_law_650 : decode cL_law 650 = .ok (.iaload, 1) := by decide +kernel
theorem dL_law_651 : decode cL_law 651 = .ok (.aload_n 0, 1) := by decide +kernel
theorem dL_law_652 : decode cL_law 652 = .ok (.iload_n 3, 1) := by decide +kernel
theorem dL_law_653 : decode cL_law 653 = .ok (.iconst 4, 1) := by decide +kernel
theorem dL_law_654 : decode cL_law 654 = .ok (.iadd, 1) := by decide +kernel
theorem dL_law_655 : decode cL_law 655 = .ok (.iaload, 1) := by decide +kernel
theorem dL_law_656 : decode cL_law 656 = .ok (.invokevirtual 62, 3) := by decide +kernel
theorem dL_law_659 : decode cL_law 659 = .ok (.pop2, 1) := by decide +kernel
theorem dL_law_660 : decode cL_law 660 = .ok (.aload_n 2, 1) := by decide +kernel
theorem dL_law_661 : decode cL_law 661 = .ok (.aload_n 0, 1) := by decide +kernel
theorem dL_law_662 : decode cL_law 662 = .ok (.iload_n 3, 1) := by decide +kernel
theorem dL_law_663 : decode cL_law 663 = .ok (.iconst 1, 1) := by decide +kernel
theorem dL_law_664 : decode cL_law 664 = .ok (.iadd, 1) := by decide +kernel
theorem dL_law_665 : decode cL_law 665 = .ok (.iaload, 1) := by decide +kernel
theorem dL_law_666 : decode cL_law 666 = .ok (.aload_n 0, 1) := by decide +kernel
theorem dL_law_667 : decode cL_law 667 = .ok (.iload_n 3, 1) := by decide +kernel
theorem dL_law_668 : decode cL_law 668 = .ok (.iconst 2, 1) := by decide +kernel
theorem dL_law_669 : decode cL_law 669 = .ok (.iadd, 1) := by decide +kernel
theorem dL_law_670 : decode cL_law 670 = .ok (.iaload, 1) := by decide +kernel
theorem dL_law_671 : decode cL_law 671 = .ok (.aload_n 0, 1) := by decide +kernel
theorem dL_law_672 : decode cL_law 672 = .ok (.iload_n 3, 1) := by decide +kernel
theorem dL_law_673 : decode cL_law 673 = .ok (.iconst 3, 1) := by decide +kernel
theorem dL_law_674 : decode cL_law 674 = .ok (.iadd, 1) := by decide +kernel
theorem dL_law_675 : decode cL_law 675 = .ok (.iaload, 1) := by decide +kernel
theorem dL_law_676 : decode cL_law 676 = .ok (.aload_n 0, 1) := by decide +kernel
theorem dL_law_677 : decode cL_law 677 = .ok (.iload_n 3, 1) := by decide +kernel
theorem dL_law_678 : decode cL_law 678 = .ok (.iconst 4, 1) := by decide +kernel
theorem dL_law_679 : decode cL_law 679 = .ok (.iadd, 1) := by decide +kernel
theorem dL_law_680 : decode cL_law 680 = .ok (.iaload, 1) := by decide +kernel
theorem dL_law_681 : decode cL_law 681 = .ok (.invokevirtual 65, 3) := by decide +kernel
theorem dL_law_684 : decode cL_law 684 = .ok (.pop2, 1) := by decide +kernel
theorem dL_law_685 : decode cL_law 685 = .ok (.goto 1182, 3) := by decide +kernel
set_option maxRecDepth 40000 in
theorem lg_X12_valueAs : GoodIn lw_tbl (wsV RL 62 RX12 yX12_valueAs wsX12_valueAs) := goodIn_app (gl_cons ⟨lwt_2 _ (List.mem_of_getElem? (i := 55) (by decide +kernel)), by decide +kernel⟩ (gl_cons ⟨lwt_2 _ (List.mem_of_getElem? (i := 56) (by decide +kernel)), by decide +kernel⟩ (gl_cons ⟨lwt_2 _ (List.mem_of_getElem? (i := 57) (by decide +kernel)), by decide +kernel⟩ (gl_cons ⟨lwt_0 _ (List.mem_of_getElem? (i := 1) (by decide +kernel)), by decide +kernel⟩ gl_nil)))) lgg_X12_valueAs
set_option maxRecDepth 40000 in
theorem lg_X13_valueAs : GoodIn lw_tbl (wsV RL 65 RX13 yX13_valueAs wsX13_valueAs) := goodIn_app (gl_cons ⟨lwt_5 _ (List.mem_of_getElem? (i := 21) (by decide +kernel)), by decide +kernel⟩ (gl_cons ⟨lwt_5 _ (List.mem_of_getElem? (i := 22) (by decide +kernel)), by decide +kernel⟩ (gl_cons ⟨lwt_5 _ (List.mem_of_getElem? (i := 23) (by decide +kernel)), by decide +kernel⟩ (gl_cons ⟨lwt_0 _ (List.mem_of_getElem? (i := 11) (by decide +kernel)), by decide +kernel⟩ gl_nil)))) lgg_X13_valueAs
set_option maxHeartbeats 8000000 in
set_option maxRecDepth 100000 in
theorem law_c11 {p : Program} {e : Env} {s : State} {m : MethodId} {below : List Frame} {meth : Method} {c : Code} {l : Launch} {b L : Nat} {xs : Nat → Int32} (hL : L ≤ 3584) (C0 : lw_At p s m meth c b L xs) {D : va_G} {T : Nat → ClassId} {ad sa av : Nat → Nat} {ta : Nat} {A : Nat → Prop} (hA : ∀ q : Nat, s.heap.size ≤ q → A q) (hAf : ∀ q : Nat, A q → s.heap.size ≤ q) (hbA : ¬ A b) (hE0 : ekK D T s) (hV0 : evK ad sa av ta A s s.heap) {q1 q2 : Nat} {u v : Nat → Nat} {ii : Int32} (hii : 0 ≤ ii.toInt ∧ ii.toInt + 7 ≤ L) (K : lwK p l e s m below meth c b D T sa A q1 q2 u v ii) (c1 : Nat → Int32) (c2 : Nat → Nat → Int32) (c3 : Nat → Nat → Int64) (c4 : Nat → Nat → UInt32) (c5 : Nat → Nat → UInt64) (q : Nat → Int32) (vl wl : Int64) (rf : Nat → Nat → Int32) (rl : Nat → Nat → Int64) (rd : Nat → UInt64) {ls : Array Slot} {H : Heap} {locs : List Loc} {d0 : Drawn} (hd0 : s.drawn.sameBut d0 lw_cs) (hI : lwI c1 c2 q rf rl) (hP : va_P D vwCl (lwW T sa q1 q2 u v c1 c2 c3 c4 c5 q vl wl rf rl rd) H) (hD : va_D A (lwW T sa q1 q2 u v c1 c2 c3 c4 c5 q vl wl rf rl rd)) (hS : va_S A s.heap H locs) (hl : lv_has ls 4 [(3, .int ii), (2, .ref q2), (1, .ref q1), (0, .ref b)]) : W p l e room_1 (s.setDrawn d0) m #[Value.ref b] below meth c H locs 95 6031 (lw_Z below #[Value.ref b] s) (F0 m 635 ls []) := by
  obtain ⟨hx, hb, hr, hml, hown0, hts0, hX, hbl, hlocks, hgv⟩ := id C0
  have hown0 : s.vm.findClass RL = some m.cls := hown0
  have hts := dr_words hts0 d0
  have hE : ekK D T (s.setDrawn d0) := ekK.same (u := s) rfl hE0
  have hown : (s.setDrawn d0).vm.findClass RL = some m.cls := hown0
  have hV : evK ad sa av ta A (s.setDrawn d0) (s.setDrawn d0).heap := evK.same (u := s) rfl hV0
  obtain ⟨hA1, hok, hokk, hA2, hokR, hB, hZ, hbg, hsz, hhd, hKb⟩ := hI
  have hA1 : (0 ≤ (((c1 1) : Int32)).toInt ∧ (((c1 1) : Int32)).toInt ≤ 24) ∧ (0 ≤ (((c1 2) : Int32)).toInt ∧ (((c1 2) : Int32)).toInt ≤ 24) ∧ (0 ≤ (((c2 16 0) : Int32)).toInt ∧ (((c2 16 0) : Int32)).toInt ≤ 12) ∧ (0 ≤ (((c2 16 1) : Int32)).toInt ∧ (((c2 16 1) : Int32)).toInt ≤ 12) ∧ (0 ≤ (((c2 16 2) : Int32)).toInt ∧ (((c2 16 2) : Int32)).toInt ≤ 12) ∧ (0 ≤ (((c2 17 0) : Int32)).toInt ∧ (((c2 17 0) : Int32)).toInt ≤ 12) ∧ (0 ≤ (((c2 17 1) : Int32)).toInt ∧ (((c2 17 1) : Int32)).toInt ≤ 12) ∧ (0 ≤ (((c2 17 2) : Int32)).toInt ∧ (((c2 17 2) : Int32)).toInt ≤ 12) ∧ (0 ≤ (((c1 7) : Int32)).toInt ∧ (((c1 7) : Int32)).toInt ≤ 120) ∧ ((-1 ≤ (((c2 28 0) : Int32)).toInt ∧ (((c2 28 0) : Int32)).toInt ≤ 3) ∧ (0 ≤ (((c2 29 0) : Int32)).toInt ∧ (((c2 29 0) : Int32)).toInt ≤ 30)) ∧ ((-1 ≤ (((c2 28 1) : Int32)).toInt ∧ (((c2 28 1) : Int32)).toInt ≤ 3) ∧ (0 ≤ (((c2 29 1) : Int32)).toInt ∧ (((c2 29 1) : Int32)).toInt ≤ 30)) ∧ ((-1 ≤ (((c2 28 2) : Int32)).toInt ∧ (((c2 28 2) : Int32)).toInt ≤ 3) ∧ (0 ≤ (((c2 29 2) : Int32)).toInt ∧ (((c2 29 2) : Int32)).toInt ≤ 30)) ∧ ((-1 ≤ (((c2 28 3) : Int32)).toInt ∧ (((c2 28 3) : Int32)).toInt ≤ 3) ∧ (0 ≤ (((c2 29 3) : Int32)).toInt ∧ (((c2 29 3) : Int32)).toInt ≤ 30)) := hA1
  have hok : okC (c2 2) (c2 4) (c2 5) (c2 6) := hok
  have hokk : okC (c2 9) (c2 11) (c2 12) (c2 13) := hokk
  have hA2 : (0 ≤ (((q 7) : Int32)).toInt ∧ (((q 7) : Int32)).toInt ≤ 24) ∧ ((1 ≤ (((q 4) : Int32)).toInt ∧ (((q 4) : Int32)).toInt ≤ 9) ∧ (1 ≤ (((q 6) : Int32)).toInt ∧ (((q 6) : Int32)).toInt ≤ 9)) ∧ (0 ≤ (((q 26) : Int32)).toInt ∧ (((q 26) : Int32)).toInt ≤ 120) := hA2
  have hokR : okR (rf 8) (rf 10) (rf 11) := hokR
  have hB : isB (q 14) := hB
  have hZ : ∀ j : Nat, isB ((rf 22) j) := hZ
  have hbg : ∀ k : Nat, k < 3 → 0 ≤ ((rf 13) k).toInt ∧ ((rf 13) k).toInt ≤ 12 := hbg
  have hsz : ∀ k : Nat, k < 4 → 0 ≤ ((rf 35) k).toInt ∧ ((rf 35) k).toInt ≤ 30 := hsz
  have hhd : ∀ k : Nat, k < 4 → ((rf 38) k).toInt = 2 → 1 ≤ ((rl 40) k).toInt := hhd
  have hKb : ¬ ((q 41) : Int32).toInt = 0 → okK (rf 42) := hKb
  have hi_1 : (ii + 1).toInt = ii.toInt + 1 := by rw [fb_addI (by rw [ti_1]; omega) (by rw [ti_1]; omega), ti_1]
  have hi_2 : (ii + 2).toInt = ii.toInt + 2 := by rw [fb_addI (by rw [ti_2]; omega) (by rw [ti_2]; omega), ti_2]
  have hi_3 : (ii + 3).toInt = ii.toInt + 3 := by rw [fb_addI (by rw [ti_3]; omega) (by rw [ti_3]; omega), ti_3]
  have hi_4 : (ii + 4).toInt = ii.toInt + 4 := by rw [fb_addI (by rw [ti_4]; omega) (by rw [ti_4]; omega), ti_4]
  have hi_5 : (ii + 5).toInt = ii.toInt + 5 := by rw [fb_addI (by rw [ti_5]; omega) (by rw [ti_5]; omega), ti_5]
  have hi_6 : (ii + 6).toInt = ii.toInt + 6 := by rw [fb_addI (by rw [ti_6]; omega) (by rw [ti_6]; omega), ti_6]
  refine lv_aload_n hx hb dL_law_635 rfl (lv_at hl 2 rfl) ?_
  refine lv_aload_n hx hb dL_law_636 rfl (lv_at hl 3 rfl) ?_
  refine lv_iload_n hx hb dL_law_637 rfl (lv_at hl 0 rfl) ?_
  refine lv_iconst (v := 1) hx hb dL_law_638 (by decide) ?_
  refine lv_iadd hx hb dL_law_639 ?_
  refine va_sld hx hb hX hbl hbA hS (by rw [vp_in_iff, hi_1]; omega) dL_law_640 ?_
  refine lv_topi (fun z_1 ez_1 => ?_)
  refine lv_aload_n hx hb dL_law_641 rfl (lv_at hl 3 rfl) ?_
  refine lv_iload_n hx hb dL_law_642 rfl (lv_at hl 0 rfl) ?_
  refine lv_iconst (v := 2) hx hb dL_law_643 (by decide) ?_
  refine lv_iadd hx hb dL_law_644 ?_
  refine va_sld hx hb hX hbl hbA hS (by rw [vp_in_iff, hi_2]; omega) dL_law_645 ?_
  refine lv_topi (fun z_2 ez_2 => ?_)
  refine lv_aload_n hx hb dL_law_646 rfl (lv_at hl 3 rfl) ?_
  refine lv_iload_n hx hb dL_law_647 rfl (lv_at hl 0 rfl) ?_
  refine lv_iconst (v := 3) hx hb dL_law_648 (by decide) ?_
  refine lv_iadd hx hb dL_law_649 ?_
  refine va_sld hx hb hX hbl hbA hS (by rw [vp_in_iff, hi_3]; omega) dL_law_650 ?_
  refine lv_topi (fun z_3 ez_3 => ?_)
  refine lv_aload_n hx hb dL_law_651 rfl (lv_at hl 3 rfl) ?_
  refine lv_iload_n hx hb dL_law_652 rfl (lv_at hl 0 rfl) ?_
  refine lv_iconst (v := 4) hx hb dL_law_653 (by decide) ?_
  refine lv_iadd hx hb dL_law_654 ?_
  refine va_sld hx hb hX hbl hbA hS (by rw [vp_in_iff, hi_4]; omega) dL_law_655 ?_
  refine lv_topi (fun z_4 ez_4 => ?_)
  have hFc := va_free (wc := [(q1, .inr (9, [.ref (u 0), .ref (u 1), .int (c1 0), .ref (u 2), .ref (u 3), .ref (u 11), .ref (u 34), .ref (u 38), .ref (u 40), .ref (u 44), .ref (u 65)])), ((u 34), .inr (8, [.ref (u 2), .ref (u 3), .ref (u 35), .ref (u 36), .ref (u 37), .int (c1 3)])), ((u 2), .inr (5, [.int (c2 0 0), .int (c2 0 1), .int (c2 0 2), .int (c2 0 3), .int (c2 0 4), .int (c2 0 5), .int (c2 0 6)])), ((u 3), .inr (1, [.int (c1 1), .ref (u 4), .ref (u 5), .ref (u 6), .ref (u 7), .ref (u 8), .ref (u 9), .ref (u 10)])), ((u 4), .inl (T 0, 24, .inl (c2 2))), ((u 5), .inl (T 0, 24, .inl (c2 3))), ((u 6), .inl (T 0, 24, .inl (c2 4))), ((u 7), .inl (T 0, 24, .inl (c2 5))), ((u 8), .inl (T 0, 24, .inl (c2 6))), ((u 35), .inl (T 1, 676, .inr (.inl (c3 0)))), ((u 36), .inl (T 1, 676, .inr (.inl (c3 1)))), ((u 37), .inl (T 0, 672, .inl (c2 24)))]) hD hS hA [0, 35, 2, 3, 4, 5, 6, 7, 8, 36, 37, 38] rfl
  refine va_calllD hd0 (va_runV_D (As := [.int z_1, .int z_2, .int z_3, .int z_4]) (rest := []) ⟨hx, hb, hml, hown, hts⟩ (c_X12_valueAs l D T ad sa av ta _ q1 (u 34) [.ref (u 0), .ref (u 1), .int (c1 0), .ref (u 2), .ref (u 3), .ref (u 11), .ref (u 34), .ref (u 38), .ref (u 40), .ref (u 44), .ref (u 65)] (u 2) (u 3) (u 35) (u 36) (u 37) (c1 3) (fun k => [(c2 0 0), (c2 0 1), (c2 0 2), (c2 0 3), (c2 0 4), (c2 0 5), (c2 0 6)].getD k 0) (c1 1) (u 4) (u 5) (u 6) (u 7) (u 8) (u 9) (u 10) (c2 2) (c2 3) (c2 4) (c2 5) (c2 6) (c3 0) (c3 1) (c2 24) z_1 z_2 z_3 z_4 rfl rfl (by omega) hok) (cwV 4 hts lg_X12_valueAs rfl rfl rfl (by decide +kernel) ⟨Nat.le_of_ble_eq_true rfl, Nat.le_of_ble_eq_true rfl⟩) (pWk_V (ci := 9) (q0 := 0) hP hE hD hV hS hFc rfl rfl [0, 35, 2, 3, 4, 5, 6, 7, 8, 36, 37, 38] (by decide) rfl rfl) rfl rfl hl.1 rfl (lv_room (Nat.le_of_ble_eq_true rfl)) dL_law_656 ⟨Nat.le_of_ble_eq_true rfl, Nat.le_of_ble_eq_true rfl⟩) hS (fun q _ h => hFc q h) hFc (fun r_5 u_6 t H1 locs ht hvm hr_5 hB hz1 hk1 hS d_7 hd_7 => ?_)
  have hts := dr_words hts0 d_7
  have hE : ekK D T (s.setDrawn d_7) := ekK.same (u := s) rfl hE0
  have hown : (s.setDrawn d_7).vm.findClass RL = some m.cls := hown0
  have hV : evK ad sa av ta A (s.setDrawn d_7) (s.setDrawn d_7).heap := evK.same (u := s) rfl hV0
  obtain ⟨f_8, f_9, f_10⟩ := u_6
  obtain ⟨hP1, hD1⟩ := hB
  rw [ht] at hP1
  obtain ⟨hP, hD⟩ := va_join (wr := ([1, 9, 10, 11, 12, 13, 14, 15, 16, 17, 18, 19, 20, 21, 22, 23, 24, 25, 26, 27, 28, 29, 30, 31, 32, 33, 34, 39, 40, 41, 42, 43, 44, 45, 46, 47, 48, 49, 50, 51, 52, 53, 54, 55, 56, 57, 58, 59, 60, 61, 62, 63, 64, 65, 66, 67, 68, 69, 70, 71, 72, 73, 74, 75, 76, 77, 78, 79, 80, 81, 82, 83, 84, 85, 86, 87, 88, 89, 90, 91, 92, 93, 94].filterMap (fun i => (lwW T sa q1 q2 u v c1 c2 c3 c4 c5 q vl wl rf rl rd)[i]?))) (w1 := [(q1, .inr (9, [.ref (u 0), .ref (u 1), .int (c1 0), .ref (u 2), .ref (u 3), .ref (u 11), .ref (u 34), .ref (u 38), .ref (u 40), .ref (u 44), .ref (u 65)])), ((u 34), .inr (8, [.ref (u 2), .ref (u 3), .ref (u 35), .ref (u 36), .ref (u 37), .int (c1 3)])), ((u 2), .inr (5, [.int (c2 0 0), .int (c2 0 1), .int (c2 0 2), .int (c2 0 3), .int (c2 0 4), .int (c2 0 5), .int (c2 0 6)])), ((u 3), .inr (1, [.int (c1 1), .ref (u 4), .ref (u 5), .ref (u 6), .ref (u 7), .ref (u 8), .ref (u 9), .ref (u 10)])), ((u 4), .inl (T 0, 24, .inl (c2 2))), ((u 5), .inl (T 0, 24, .inl (c2 3))), ((u 6), .inl (T 0, 24, .inl (c2 4))), ((u 7), .inl (T 0, 24, .inl (c2 5))), ((u 8), .inl (T 0, 24, .inl (c2 6))), ((u 35), .inl (T 1, 676, .inr (.inl f_8))), ((u 36), .inl (T 1, 676, .inr (.inl f_9))), ((u 37), .inl (T 0, 672, .inl f_10))]) hP hD [0, 35, 2, 3, 4, 5, 6, 7, 8, 36, 37, 38] [1, 9, 10, 11, 12, 13, 14, 15, 16, 17, 18, 19, 20, 21, 22, 23, 24, 25, 26, 27, 28, 29, 30, 31, 32, 33, 34, 39, 40, 41, 42, 43, 44, 45, 46, 47, 48, 49, 50, 51, 52, 53, 54, 55, 56, 57, 58, 59, 60, 61, 62, 63, 64, 65, 66, 67, 68, 69, 70, 71, 72, 73, 74, 75, 76, 77, 78, 79, 80, 81, 82, 83, 84, 85, 86, 87, 88, 89, 90, 91, 92, 93, 94] rfl rfl (by decide) (by decide) hk1 hFc hP1 hD1
  clear hP1 hD1 hFc
  generalize H1 = H at hP hS ⊢
  refine lv_pop2_2 hx hb dL_law_659 rfl ?_
  refine lv_aload_n hx hb dL_law_660 rfl (lv_at hl 1 rfl) ?_
  refine lv_aload_n hx hb dL_law_661 rfl (lv_at hl 3 rfl) ?_
  refine lv_iload_n hx hb dL_law_662 rfl (lv_at hl 0 rfl) ?_
  refine lv_iconst (v := 1) hx hb dL_law_663 (by decide) ?_
  refine lv_iadd hx hb dL_law_664 ?_
  refine va_sld hx hb hX hbl hbA hS (by rw [vp_in_iff, hi_1]; omega) dL_law_665 ?_
  refine lv_topi (fun z_11 ez_11 => ?_)
  have hsz_11 : z_1 = z_11 := ez_1.trans ez_11.symm
  subst hsz_11
  refine lv_aload_n hx hb dL_law_666 rfl (lv_at hl 3 rfl) ?_
  refine lv_iload_n hx hb dL_law_667 rfl (lv_at hl 0 rfl) ?_
  refine lv_iconst (v := 2) hx hb dL_law_668 (by decide) ?_
  refine lv_iadd hx hb dL_law_669 ?_
  refine va_sld hx hb hX hbl hbA hS (by rw [vp_in_iff, hi_2]; omega) dL_law_670 ?_
  refine lv_topi (fun z_12 ez_12 => ?_)
  have hsz_12 : z_2 = z_12 := ez_2.trans ez_12.symm
  subst hsz_12
  refine lv_aload_n hx hb dL_law_671 rfl (lv_at hl 3 rfl) ?_
  refine lv_iload_n hx hb dL_law_672 rfl (lv_at hl 0 rfl) ?_
  refine lv_iconst (v := 3) hx hb dL_law_673 (by decide) ?_
  refine lv_iadd hx hb dL_law_674 ?_
  refine va_sld hx hb hX hbl hbA hS (by rw [vp_in_iff, hi_3]; omega) dL_law_675 ?_
  refine lv_topi (fun z_13 ez_13 => ?_)
  have hsz_13 : z_3 = z_13 := ez_3.trans ez_13.symm
  subst hsz_13
  refine lv_aload_n hx hb dL_law_676 rfl (lv_at hl 3 rfl) ?_
  refine lv_iload_n hx hb dL_law_677 rfl (lv_at hl 0 rfl) ?_
  refine lv_iconst (v := 4) hx hb dL_law_678 (by decide) ?_
  refine lv_iadd hx hb dL_law_679 ?_
  refine va_sld hx hb hX hbl hbA hS (by rw [vp_in_iff, hi_4]; omega) dL_law_680 ?_
  refine lv_topi (fun z_14 ez_14 => ?_)
  have hsz_14 : z_4 = z_14 := ez_4.trans ez_14.symm
  subst hsz_14
  have hFc := va_free (wc := [(q2, .inr (10, [.int (q 0), .int (q 1), .int (q 2), .int (q 3), .int (q 4), .int (q 5), .int (q 6), .int (q 7), .ref (v 8), .ref (v 9), .ref (v 10), .ref (v 11), .ref (v 12), .ref (v 13), .int (q 14), .long vl, .long wl, .ref (v 17), .ref (v 18), .ref (v 19), .ref (v 20), .ref (v 21), .ref (v 22), .ref (v 23), .int (q 24), .ref (v 25), .int (q 26), .ref (v 27), .int (q 28), .int (q 29), .int (q 30), .int (q 31), .int (q 32), .int (q 33), .ref (v 34), .ref (v 35), .ref (v 36), .ref (v 37), .ref (v 38), .ref (v 39), .ref (v 40), .int (q 41), .ref (v 42), .int (q 43), .int (q 44)])), ((v 8), .inl (T 0, 24, .inl (rf 8))), ((v 9), .inl (T 0, 24, .inl (rf 9))), ((v 10), .inl (T 0, 24, .inl (rf 10))), ((v 11), .inl (T 0, 24, .inl (rf 11))), ((v 17), .inl (T 0, 24, .inl (rf 17))), ((v 18), .inl (T 0, 24, .inl (rf 18))), ((v 19), .inl (T 0, 24, .inl (rf 19))), ((v 20), .inl (T 1, 672, .inr (.inl (rl 20)))), ((v 21), .inl (T 1, 672, .inr (.inl (rl 21)))), ((v 22), .inl (T 4, 672, .inl (rf 22)))]) hD hS hA [59, 60, 61, 62, 63, 66, 67, 68, 69, 70, 71] rfl
  refine va_calllD hd_7 (va_runV_D (As := [.int z_1, .int z_2, .int z_3, .int z_4]) (rest := []) ⟨hx, hb, hml, hown, hts⟩ (c_X13_valueAs l D T _ q2 q vl wl v (rf 8) (rf 9) (rf 10) (rf 11) (rf 17) (rf 18) (rf 19) (rl 20) (rl 21) (rf 22) z_1 z_2 z_3 z_4 hB (by omega) hokR hZ (by omega)) (cwV 4 hts lg_X13_valueAs rfl rfl rfl (by decide +kernel) ⟨Nat.le_of_ble_eq_true rfl, Nat.le_of_ble_eq_true rfl⟩) (pW_V (ci := 10) (q0 := 59) hP hE hD rfl rfl [59, 60, 61, 62, 63, 66, 67, 68, 69, 70, 71] (by decide) rfl rfl) rfl rfl hl.1 rfl (lv_room (Nat.le_of_ble_eq_true rfl)) dL_law_681 ⟨Nat.le_of_ble_eq_true rfl, Nat.le_of_ble_eq_true rfl⟩) hS (fun q _ h => hFc q h) hFc (fun r_15 u_16 t H1 locs ht hvm hr_15 hB hz1 hk1 hS d_17 hd_17 => ?_)
  have hts := dr_words hts0 d_17
  have hE : ekK D T (s.setDrawn d_17) := ekK.same (u := s) rfl hE0
  have hown : (s.setDrawn d_17).vm.findClass RL = some m.cls := hown0
  have hV : evK ad sa av ta A (s.setDrawn d_17) (s.setDrawn d_17).heap := evK.same (u := s) rfl hV0
  obtain ⟨n_18, l_19, l_20, f_21, f_22, f_23, f_24, f_25, f_26⟩ := u_16
  obtain ⟨hi0_r_15, hi1_r_15⟩ := hr_15
  have hB14_r_15 : isB n_18 := hi0_r_15
  have hZ : ∀ j : Nat, isB (f_26 j) := hi1_r_15
  obtain ⟨hP1, hD1⟩ := hB
  rw [ht] at hP1
  obtain ⟨hP, hD⟩ := va_join (wr := ([0, 1, 2, 3, 4, 5, 6, 7, 8, 9, 10, 11, 12, 13, 14, 15, 16, 17, 18, 19, 20, 21, 22, 23, 24, 25, 26, 27, 28, 29, 30, 31, 32, 33, 34, 35, 36, 37, 38, 39, 40, 41, 42, 43, 44, 45, 46, 47, 48, 49, 50, 51, 52, 53, 54, 55, 56, 57, 58, 64, 65, 72, 73, 74, 75, 76, 77, 78, 79, 80, 81, 82, 83, 84, 85, 86, 87, 88, 89, 90, 91, 92, 93, 94].filterMap (fun i => (([1, 9, 10, 11, 12, 13, 14, 15, 16, 17, 18, 19, 20, 21, 22, 23, 24, 25, 26, 27, 28, 29, 30, 31, 32, 33, 34, 39, 40, 41, 42, 43, 44, 45, 46, 47, 48, 49, 50, 51, 52, 53, 54, 55, 56, 57, 58, 59, 60, 61, 62, 63, 64, 65, 66, 67, 68, 69, 70, 71, 72, 73, 74, 75, 76, 77, 78, 79, 80, 81, 82, 83, 84, 85, 86, 87, 88, 89, 90, 91, 92, 93, 94].filterMap (fun i => (lwW T sa q1 q2 u v c1 c2 c3 c4 c5 q vl wl rf rl rd)[i]?)) ++ [(q1, .inr (9, [.ref (u 0), .ref (u 1), .int (c1 0), .ref (u 2), .ref (u 3), .ref (u 11), .ref (u 34), .ref (u 38), .ref (u 40), .ref (u 44), .ref (u 65)])), ((u 34), .inr (8, [.ref (u 2), .ref (u 3), .ref (u 35), .ref (u 36), .ref (u 37), .int (c1 3)])), ((u 2), .inr (5, [.int (c2 0 0), .int (c2 0 1), .int (c2 0 2), .int (c2 0 3), .int (c2 0 4), .int (c2 0 5), .int (c2 0 6)])), ((u 3), .inr (1, [.int (c1 1), .ref (u 4), .ref (u 5), .ref (u 6), .ref (u 7), .ref (u 8), .ref (u 9), .ref (u 10)])), ((u 4), .inl (T 0, 24, .inl (c2 2))), ((u 5), .inl (T 0, 24, .inl (c2 3))), ((u 6), .inl (T 0, 24, .inl (c2 4))), ((u 7), .inl (T 0, 24, .inl (c2 5))), ((u 8), .inl (T 0, 24, .inl (c2 6))), ((u 35), .inl (T 1, 676, .inr (.inl f_8))), ((u 36), .inl (T 1, 676, .inr (.inl f_9))), ((u 37), .inl (T 0, 672, .inl f_10))])[i]?))) (w1 := [(q2, .inr (10, [.int (q 0), .int (q 1), .int (q 2), .int (q 3), .int (q 4), .int (q 5), .int (q 6), .int (q 7), .ref (v 8), .ref (v 9), .ref (v 10), .ref (v 11), .ref (v 12), .ref (v 13), .int n_18, .long l_19, .long l_20, .ref (v 17), .ref (v 18), .ref (v 19), .ref (v 20), .ref (v 21), .ref (v 22), .ref (v 23), .int (q 24), .ref (v 25), .int (q 26), .ref (v 27), .int (q 28), .int (q 29), .int (q 30), .int (q 31), .int (q 32), .int (q 33), .ref (v 34), .ref (v 35), .ref (v 36), .ref (v 37), .ref (v 38), .ref (v 39), .ref (v 40), .int (q 41), .ref (v 42), .int (q 43), .int (q 44)])), ((v 8), .inl (T 0, 24, .inl (rf 8))), ((v 9), .inl (T 0, 24, .inl (rf 9))), ((v 10), .inl (T 0, 24, .inl (rf 10))), ((v 11), .inl (T 0, 24, .inl (rf 11))), ((v 17), .inl (T 0, 24, .inl f_21)), ((v 18), .inl (T 0, 24, .inl f_22)), ((v 19), .inl (T 0, 24, .inl f_23)), ((v 20), .inl (T 1, 672, .inr (.inl f_24))), ((v 21), .inl (T 1, 672, .inr (.inl f_25))), ((v 22), .inl (T 4, 672, .inl f_26))]) hP hD [59, 60, 61, 62, 63, 66, 67, 68, 69, 70, 71] [0, 1, 2, 3, 4, 5, 6, 7, 8, 9, 10, 11, 12, 13, 14, 15, 16, 17, 18, 19, 20, 21, 22, 23, 24, 25, 26, 27, 28, 29, 30, 31, 32, 33, 34, 35, 36, 37, 38, 39, 40, 41, 42, 43, 44, 45, 46, 47, 48, 49, 50, 51, 52, 53, 54, 55, 56, 57, 58, 64, 65, 72, 73, 74, 75, 76, 77, 78, 79, 80, 81, 82, 83, 84, 85, 86, 87, 88, 89, 90, 91, 92, 93, 94] rfl rfl (by decide) (by decide) hk1 hFc hP1 hD1
  clear hP1 hD1 hFc
  generalize H1 = H at hP hS ⊢
  refine lv_pop2_2 hx hb dL_law_684 rfl ?_
  refine lv_goto (tgt := 1867) hx hb dL_law_685 (by decide) ?_
  exact K c1 (fun k => [(c2 0), (c2 1), (c2 2), (c2 3), (c2 4), (c2 5), (c2 6), (c2 7), (c2 8), (c2 9), (c2 10), (c2 11), (c2 12), (c2 13), (c2 14), (c2 15), (c2 16), (c2 17), (c2 18), (c2 19), (c2 20), (c2 21), (c2 22), (c2 23), f_10, (c2 25), (c2 26), (c2 27), (c2 28), (c2 29), (c2 30), (c2 31), (c2 32), (c2 33), (c2 34), (c2 35)].getD k (fun _ => 0)) (fun k => [f_8, f_9, (c3 2), (c3 3), (c3 4), (c3 5), (c3 6), (c3 7), (c3 8)].getD k (fun _ => 0)) c4 c5 (fun k => [(q 0), (q 1), (q 2), (q 3), (q 4), (q 5), (q 6), (q 7), 0, 0, 0, 0, 0, 0, n_18, 0, 0, 0, 0, 0, 0, 0, 0, 0, (q 24), 0, (q 26), 0, (q 28), (q 29), (q 30), (q 31), (q 32), (q 33), 0, 0, 0, 0, 0, 0, 0, (q 41), 0, (q 43), (q 44)].getD k 0) l_19 l_20 (fun k => [(fun _ => 0), (fun _ => 0), (fun _ => 0), (fun _ => 0), (fun _ => 0), (fun _ => 0), (fun _ => 0), (fun _ => 0), (rf 8), (rf 9), (rf 10), (rf 11), (rf 12), (rf 13), (fun _ => 0), (fun _ => 0), (fun _ => 0), f_21, f_22, f_23, (fun _ => 0), (fun _ => 0), f_26, (fun _ => 0), (fun _ => 0), (rf 25), (fun _ => 0), (fun _ => 0), (fun _ => 0), (fun _ => 0), (fun _ => 0), (fun _ => 0), (fun _ => 0), (fun _ => 0), (rf 34), (rf 35), (fun _ => 0), (fun _ => 0), (rf 38), (fun _ => 0), (fun _ => 0), (fun _ => 0), (rf 42)].getD k (fun _ => 0)) (fun k => [(fun _ => 0), (fun _ => 0), (fun _ => 0), (fun _ => 0), (fun _ => 0), (fun _ => 0), (fun _ => 0), (fun _ => 0), (fun _ => 0), (fun _ => 0), (fun _ => 0), (fun _ => 0), (fun _ => 0), (fun _ => 0), (fun _ => 0), (fun _ => 0), (fun _ => 0), (fun _ => 0), (fun _ => 0), (fun _ => 0), f_24, f_25, (fun _ => 0), (rl 23), (fun _ => 0), (fun _ => 0), (fun _ => 0), (fun _ => 0), (fun _ => 0), (fun _ => 0), (fun _ => 0), (fun _ => 0), (fun _ => 0), (fun _ => 0), (fun _ => 0), (fun _ => 0), (rl 36), (fun _ => 0), (fun _ => 0), (rl 39), (rl 40)].getD k (fun _ => 0)) rd ls H locs _ hd_17 ⟨(show (0 ≤ (((c1 1) : Int32)).toInt ∧ (((c1 1) : Int32)).toInt ≤ 24) ∧ (0 ≤ (((c1 2) : Int32)).toInt ∧ (((c1 2) : Int32)).toInt ≤ 24) ∧ (0 ≤ (((c2 16 0) : Int32)).toInt ∧ (((c2 16 0) : Int32)).toInt ≤ 12) ∧ (0 ≤ (((c2 16 1) : Int32)).toInt ∧ (((c2 16 1) : Int32)).toInt ≤ 12) ∧ (0 ≤ (((c2 16 2) : Int32)).toInt ∧ (((c2 16 2) : Int32)).toInt ≤ 12) ∧ (0 ≤ (((c2 17 0) : Int32)).toInt ∧ (((c2 17 0) : Int32)).toInt ≤ 12) ∧ (0 ≤ (((c2 17 1) : Int32)).toInt ∧ (((c2 17 1) : Int32)).toInt ≤ 12) ∧ (0 ≤ (((c2 17 2) : Int32)).toInt ∧ (((c2 17 2) : Int32)).toInt ≤ 12) ∧ (0 ≤ (((c1 7) : Int32)).toInt ∧ (((c1 7) : Int32)).toInt ≤ 120) ∧ ((-1 ≤ (((c2 28 0) : Int32)).toInt ∧ (((c2 28 0) : Int32)).toInt ≤ 3) ∧ (0 ≤ (((c2 29 0) : Int32)).toInt ∧ (((c2 29 0) : Int32)).toInt ≤ 30)) ∧ ((-1 ≤ (((c2 28 1) : Int32)).toInt ∧ (((c2 28 1) : Int32)).toInt ≤ 3) ∧ (0 ≤ (((c2 29 1) : Int32)).toInt ∧ (((c2 29 1) : Int32)).toInt ≤ 30)) ∧ ((-1 ≤ (((c2 28 2) : Int32)).toInt ∧ (((c2 28 2) : Int32)).toInt ≤ 3) ∧ (0 ≤ (((c2 29 2) : Int32)).toInt ∧ (((c2 29 2) : Int32)).toInt ≤ 30)) ∧ ((-1 ≤ (((c2 28 3) : Int32)).toInt ∧ (((c2 28 3) : Int32)).toInt ≤ 3) ∧ (0 ≤ (((c2 29 3) : Int32)).toInt ∧ (((c2 29 3) : Int32)).toInt ≤ 30)) from (by (try simp only [ti_0, ti_1, ti_n1]); omega)), (show okC (c2 2) (c2 4) (c2 5) (c2 6) from (by assumption)), (show okC (c2 9) (c2 11) (c2 12) (c2 13) from (by assumption)), (show (0 ≤ (((q 7) : Int32)).toInt ∧ (((q 7) : Int32)).toInt ≤ 24) ∧ ((1 ≤ (((q 4) : Int32)).toInt ∧ (((q 4) : Int32)).toInt ≤ 9) ∧ (1 ≤ (((q 6) : Int32)).toInt ∧ (((q 6) : Int32)).toInt ≤ 9)) ∧ (0 ≤ (((q 26) : Int32)).toInt ∧ (((q 26) : Int32)).toInt ≤ 120) from (by (try simp only [ti_0, ti_1, ti_n1]); omega)), (show okR (rf 8) (rf 10) (rf 11) from (by assumption)), (show isB n_18 from (by first | assumption | exact isB0 | exact isB1)), (show ∀ j : Nat, isB (f_26 j) from (by assumption)), (show ∀ k : Nat, k < 3 → 0 ≤ ((rf 13) k).toInt ∧ ((rf 13) k).toInt ≤ 12 from (by assumption)), (show ∀ k : Nat, k < 4 → 0 ≤ ((rf 35) k).toInt ∧ ((rf 35) k).toInt ≤ 30 from (by assumption)), (show ∀ k : Nat, k < 4 → ((rf 38) k).toInt = 2 → 1 ≤ ((rl 40) k).toInt from (by assumption)), (show ¬ ((q 41) : Int32).toInt = 0 → okK (rf 42) from (by first | assumption | exact (fun _ => by assumption)))⟩ (show va_P D vwCl (lwW T sa q1 q2 u v c1 (fun k => [(c2 0), (c2 1), (c2 2), (c2 3), (c2 4), (c2 5), (c2 6), (c2 7), (c2 8), (c2 9), (c2 10), (c2 11), (c2 12), (c2 13), (c2 14), (c2 15), (c2 16), (c2 17), (c2 18), (c2 19), (c2 20), (c2 21), (c2 22), (c2 23), f_10, (c2 25), (c2 26), (c2 27), (c2 28), (c2 29), (c2 30), (c2 31), (c2 32), (c2 33), (c2 34), (c2 35)].getD k (fun _ => 0)) (fun k => [f_8, f_9, (c3 2), (c3 3), (c3 4), (c3 5), (c3 6), (c3 7), (c3 8)].getD k (fun _ => 0)) c4 c5 (fun k => [(q 0), (q 1), (q 2), (q 3), (q 4), (q 5), (q 6), (q 7), 0, 0, 0, 0, 0, 0, n_18, 0, 0, 0, 0, 0, 0, 0, 0, 0, (q 24), 0, (q 26), 0, (q 28), (q 29), (q 30), (q 31), (q 32), (q 33), 0, 0, 0, 0, 0, 0, 0, (q 41), 0, (q 43), (q 44)].getD k 0) l_19 l_20 (fun k => [(fun _ => 0), (fun _ => 0), (fun _ => 0), (fun _ => 0), (fun _ => 0), (fun _ => 0), (fun _ => 0), (fun _ => 0), (rf 8), (rf 9), (rf 10), (rf 11), (rf 12), (rf 13), (fun _ => 0), (fun _ => 0), (fun _ => 0), f_21, f_22, f_23, (fun _ => 0), (fun _ => 0), f_26, (fun _ => 0), (fun _ => 0), (rf 25), (fun _ => 0), (fun _ => 0), (fun _ => 0), (fun _ => 0), (fun _ => 0), (fun _ => 0), (fun _ => 0), (fun _ => 0), (rf 34), (rf 35), (fun _ => 0), (fun _ => 0), (rf 38), (fun _ => 0), (fun _ => 0), (fun _ => 0), (rf 42)].getD k (fun _ => 0)) (fun k => [(fun _ => 0), (fun _ => 0), (fun _ => 0), (fun _ => 0), (fun _ => 0), (fun _ => 0), (fun _ => 0), (fun _ => 0), (fun _ => 0), (fun _ => 0), (fun _ => 0), (fun _ => 0), (fun _ => 0), (fun _ => 0), (fun _ => 0), (fun _ => 0), (fun _ => 0), (fun _ => 0), (fun _ => 0), (fun _ => 0), f_24, f_25, (fun _ => 0), (rl 23), (fun _ => 0), (fun _ => 0), (fun _ => 0), (fun _ => 0), (fun _ => 0), (fun _ => 0), (fun _ => 0), (fun _ => 0), (fun _ => 0), (fun _ => 0), (fun _ => 0), (fun _ => 0), (rl 36), (fun _ => 0), (fun _ => 0), (rl 39), (rl 40)].getD k (fun _ => 0)) rd) H from hP.sub [72, 0, 74, 75, 76, 77, 78, 79, 80, 1, 2, 3, 4, 5, 6, 7, 8, 9, 10, 11, 12, 13, 14, 15, 16, 17, 18, 19, 20, 21, 22, 23, 24, 25, 26, 73, 81, 82, 83, 27, 28, 29, 30, 31, 32, 33, 34, 35, 36, 37, 38, 39, 40, 41, 42, 43, 44, 45, 46, 47, 48, 49, 50, 51, 52, 53, 54, 55, 56, 57, 58, 84, 85, 86, 87, 88, 59, 60, 89, 90, 91, 92, 93, 94, 61, 62, 63, 64, 65, 66, 67, 68, 69, 70, 71] rfl) (show va_D A (lwW T sa q1 q2 u v c1 (fun k => [(c2 0), (c2 1), (c2 2), (c2 3), (c2 4), (c2 5), (c2 6), (c2 7), (c2 8), (c2 9), (c2 10), (c2 11), (c2 12), (c2 13), (c2 14), (c2 15), (c2 16), (c2 17), (c2 18), (c2 19), (c2 20), (c2 21), (c2 22), (c2 23), f_10, (c2 25), (c2 26), (c2 27), (c2 28), (c2 29), (c2 30), (c2 31), (c2 32), (c2 33), (c2 34), (c2 35)].getD k (fun _ => 0)) (fun k => [f_8, f_9, (c3 2), (c3 3), (c3 4), (c3 5), (c3 6), (c3 7), (c3 8)].getD k (fun _ => 0)) c4 c5 (fun k => [(q 0), (q 1), (q 2), (q 3), (q 4), (q 5), (q 6), (q 7), 0, 0, 0, 0, 0, 0, n_18, 0, 0, 0, 0, 0, 0, 0, 0, 0, (q 24), 0, (q 26), 0, (q 28), (q 29), (q 30), (q 31), (q 32), (q 33), 0, 0, 0, 0, 0, 0, 0, (q 41), 0, (q 43), (q 44)].getD k 0) l_19 l_20 (fun k => [(fun _ => 0), (fun _ => 0), (fun _ => 0), (fun _ => 0), (fun _ => 0), (fun _ => 0), (fun _ => 0), (fun _ => 0), (rf 8), (rf 9), (rf 10), (rf 11), (rf 12), (rf 13), (fun _ => 0), (fun _ => 0), (fun _ => 0), f_21, f_22, f_23, (fun _ => 0), (fun _ => 0), f_26, (fun _ => 0), (fun _ => 0), (rf 25), (fun _ => 0), (fun _ => 0), (fun _ => 0), (fun _ => 0), (fun _ => 0), (fun _ => 0), (fun _ => 0), (fun _ => 0), (rf 34), (rf 35), (fun _ => 0), (fun _ => 0), (rf 38), (fun _ => 0), (fun _ => 0), (fun _ => 0), (rf 42)].getD k (fun _ => 0)) (fun k => [(fun _ => 0), (fun _ => 0), (fun _ => 0), (fun _ => 0), (fun _ => 0), (fun _ => 0), (fun _ => 0), (fun _ => 0), (fun _ => 0), (fun _ => 0), (fun _ => 0), (fun _ => 0), (fun _ => 0), (fun _ => 0), (fun _ => 0), (fun _ => 0), (fun _ => 0), (fun _ => 0), (fun _ => 0), (fun _ => 0), f_24, f_25, (fun _ => 0), (rl 23), (fun _ => 0), (fun _ => 0), (fun _ => 0), (fun _ => 0), (fun _ => 0), (fun _ => 0), (fun _ => 0), (fun _ => 0), (fun _ => 0), (fun _ => 0), (fun _ => 0), (fun _ => 0), (rl 36), (fun _ => 0), (fun _ => 0), (rl 39), (rl 40)].getD k (fun _ => 0)) rd) from hD.sub [72, 0, 74, 75, 76, 77, 78, 79, 80, 1, 2, 3, 4, 5, 6, 7, 8, 9, 10, 11, 12, 13, 14, 15, 16, 17, 18, 19, 20, 21, 22, 23, 24, 25, 26, 73, 81, 82, 83, 27, 28, 29, 30, 31, 32, 33, 34, 35, 36, 37, 38, 39, 40, 41, 42, 43, 44, 45, 46, 47, 48, 49, 50, 51, 52, 53, 54, 55, 56, 57, 58, 84, 85, 86, 87, 88, 59, 60, 89, 90, 91, 92, 93, 94, 61, 62, 63, 64, 65, 66, 67, 68, 69, 70, 71] (by decide) rfl) hS hl
