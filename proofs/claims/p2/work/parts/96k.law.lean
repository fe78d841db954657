theorem dL_law_1372 : decode cL_law 1372 = .ok (.aload_n 1, 1) := by decide +kernel
theorem dL_law_1373 : decode cL_law 1373 = .ok (.aload_n 0, 1) := by decide +kernel
theorem dL_law_1374 : decode cL_law 1374 = .ok (.iload_n 3, 1) := by decide +kernel
theorem dL_law_1375 : decode cL_law 1375 = .ok (.iconst 1, 1) := by decide +kernel
theorem dL_law_1376 : decode cL_law 1376 = .ok (.iadd, 1) := by decide +kernel
theorem dL_law_1377 : decode cL_law 1377 = .ok (.iaload, 1) := by decide +kernel
theorem dL_law_1378 : decode cL_law 1378 = .ok (.aload_n 0, 1) := by decide +kernel
theorem dL_law_1379 : decode cL_law 1379 = .ok (.iload_n 3, 1) := by decide +kernel
theorem dL_law_1380 : decode cL_law 1380 = .ok (.iconst 2, 1) := by decide +kernel
theorem dL_law_1381 : decode cL_law 1381 = .ok (.iadd, 1) := by decide +kernel
theorem dL_law_1382 : decode cL_law 1382 = .ok (.iaload, 1) := by decide +kernel
theorem dL_law_1383 : decode cL_law 1383 = .ok (.aload_n 0, 1) := by decide +kernel
theorem dL_law_1384 : decode cL_law 1384 = .ok (.iload_n 3, 1) := by decide +kernel
theorem dL_law_1385 : decode cL_law 1385 = .ok (.iconst 3, 1) := by decide +kernel
theorem dL_law_1386 : decode cL_law 1386 = .ok (.iadd, 1) := by decide +kernel
theorem dL_law_1387 : decode cL_law 1387 = .ok (.iaload, 1) := by decide +kernel
theorem dL_law_1388 : decode cL_law 1388 = .ok (.i2l, 1) := by decide +kernel
theorem dL_law_1389 : decode cL_law 1389 = .ok (.bipush 32, 2) := by decide +kernel
theorem dL_law_1391 : decode cL_law 1391 = .ok (.lshl, 1) := by decide +kernel
theorem dL_law_1392 : decode cL_law 1392 = .ok (.aload_n 0, 1) := by decide +kernel
theorem dL_law_1393 : decode cL_law 1393 = .ok (.iload_n 3, 1) := by decide +kernel
theorem dL_law_1394 : decode cL_law 1394 = .ok (.iconst 4, 1) := by decide +kernel
theorem dL_law_1395 : decode cL_law 1395 = .ok (.iadd, 1) := by decide +kernel
theorem dL_law_1396 : decode cL_law 1396 = .ok (.iaload, 1) := by decide +kernel
theorem dL_law_1397 : decode cL_law 1397 = .ok (.i2l, 1) := by decide +kernel
theorem dL_law_1398 : decode cL_law 1398 = .ok (.ldc2_w 140, 3) := by decide +kernel
theorem dL_law_1401 : decode cL_law 1401 = .ok (.land, 1) := by decide +kernel
theorem dL_law_1402 : decode cL_law 1402 = .ok (.lor, 1) := by decide +kernel
theorem dL_law_1403 : decode cL_law 1403 = .ok (.invokevirtual 142, 3) := by decide +kernel
theorem dL_law_1406 : decode cL_law 1406 = .ok (.pop, 1) := by decide +kernel
theorem dL_law_1407 : decode cL_law 1407 = .ok (.aload_n 2, 1) := by decide +kernel
theorem dL_law_1408 : decode cL_law 1408 = .ok (.aload_n 0, 1) := by decide +kernel
theorem dL_law_1409 : decode cL_law 1409 = .ok (.iload_n 3, 1) := by decide +kernel
theorem dL_law_1410 : decode cL_law 1410 = .ok (.iconst 1, 1) := by decide +kernel
theorem dL_law_1411 : decode cL_law 1411 = .ok (.iadd, 1) := by decide +kernel
theorem dL_law_1412 : decode cL_law 1412 = .ok (.iaload, 1) := by decide +kernel
theorem dL_law_1413 : decode cL_law 1413 = .ok (.aload_n 0, 1) := by decide +kernel
theorem dL_law_1414 : decode cL_law 1414 = .ok (.iload_n 3, 1) := by decide +kernel
theorem dL_law_1415 : decode cL_law 1415 = .ok (.iconst 2, 1) := by decide +kernel
theorem dL_law_1416 : decode cL_law 1416 = .ok (.iadd, 1) := by decide +kernel
theorem dL_law_1417 : decode cL_law 1417 = .ok (.iaload, 1) := by decide +kernel
theorem dL_law_1418 : decode cL_law 1418 = .ok (.aload_n 0, 1) := by decide +kernel
theorem dL_law_1419 : decode cL_law 1419 = .ok (.iload_n 3, 1) := by decide +kernel
theorem dL_law_1420 : decode cL_law 1420 = .ok (.iconst 3, 1) := by decide +kernel
theorem dL_law_1421 : decode cL_law 1421 = .ok (.iadd, 1) := by decide +kernel
theorem dL_law_1422 : decode cL_law 1422 = .ok (.iaload, 1) := by decide +kernel
theorem dL_law_1423 : decode cL_law 1423 = .ok (.i2l, 1) := by decide +kernel
theorem dL_law_1424 : decode cL_law 1424 = .ok (.bipush 32, 2) := by decide +kernel
theorem dL_law_1426 : decode cL_law 1426 = .ok (.lshl, 1) := by decide +kernel
theorem dL_law_1427 : decode cL_law 1427 = .ok (.aload_n 0, 1) := by decide +kernel
theorem dL_law_1428 : decode cL_law 1428 = .ok (.iload_n 3, 1) := by decide +kernel
theorem dL_law_1429 : decode cL_law 1429 = .ok (.iconst 4, 1) := by decide +kernel
theorem dL_law_1430 : decode cL_law 1430 = .ok (.iadd, 1) := by decide +kernel
theorem dL_law_1431 : decode cL_law 1431 = .ok (.iaload, 1) := by decide +kernel
theorem dL_law_1432 : decode cL_law 1432 = .ok (.i2l, 1) := by decide +kernel
theorem dL_law_1433 : decode cL_law 1433 = .ok (.ldc2_w 140, 3) := by decide +kernel
theorem dL_law_1436 : decode cL_law 1436 = .ok (.land, 1) := by decide +kernel
theorem dL_law_1437 : decode cL_law 1437 = .ok (.lor, 1) := by decide +kernel
theorem dL_law_1438 : decode cL_law 1438 = .ok (.invokevirtual 146, 3) := by decide +kernel
theorem dL_law_1441 : decode cL_law 1441 = .ok (.pop, 1) := by decide +kernel
theorem dL_law_1442 : decode cL_law 1442 = .ok (.goto 425, 3) := by decide +kernel
set_option maxRecDepth 40000 in
theorem lg_X12_cell : GoodIn lw_tbl (wsV RL 142 RX12 yX12_cell wsX12_cell) := goodIn_app (gl_cons ⟨lwt_3 _ (List.mem_of_getElem? (i := 66) (by decide +kernel)), by decide +kernel⟩ (gl_cons ⟨lwt_3 _ (List.mem_of_getElem? (i := 67) (by decide +kernel)), by decide +kernel⟩ (gl_cons ⟨lwt_3 _ (List.mem_of_getElem? (i := 68) (by decide +kernel)), by decide +kernel⟩ (gl_cons ⟨lwt_0 _ (List.mem_of_getElem? (i := 1) (by decide +kernel)), by decide +kernel⟩ gl_nil)))) lgg_X12_cell
set_option maxRecDepth 40000 in
theorem lg_X13_cell : GoodIn lw_tbl (wsV RL 146 RX13 yX13_cell wsX13_cell) := goodIn_app (gl_cons ⟨lwt_5 _ (List.mem_of_getElem? (i := 212) (by decide +kernel)), by decide +kernel⟩ (gl_cons ⟨lwt_5 _ (List.mem_of_getElem? (i := 127) (by decide +kernel)), by decide +kernel⟩ (gl_cons ⟨lwt_5 _ (List.mem_of_getElem? (i := 128) (by decide +kernel)), by decide +kernel⟩ (gl_cons ⟨lwt_0 _ (List.mem_of_getElem? (i := 11) (by decide +kernel)), by decide +kernel⟩ gl_nil)))) lgg_X13_cell
set_option maxHeartbeats 8000000 in
set_option maxRecDepth 100000 in
theorem law_c30 {p : Program} {e : Env} {s : State} {m : MethodId} {below : List Frame} {meth : Method} {c : Code} {l : Launch} {b L : Nat} {xs : Nat → Int32} (hL : L ≤ 3584) (C0 : lw_At p s m meth c b L xs) {D : va_G} {T : Nat → ClassId} {ad sa av : Nat → Nat} {ta : Nat} {A : Nat → Prop} (hA : ∀ q : Nat, s.heap.size ≤ q → A q) (hAf : ∀ q : Nat, A q → s.heap.size ≤ q) (hbA : ¬ A b) (hE0 : ekK D T s) (hV0 : evK ad sa av ta A s s.heap) {q1 q2 : Nat} {u v : Nat → Nat} {ii : Int32} (hii : 0 ≤ ii.toInt ∧ ii.toInt + 7 ≤ L) (K : lwK p l e s m below meth c b D T sa A q1 q2 u v ii) (c1 : Nat → Int32) (c2 : Nat → Nat → Int32) (c3 : Nat → Nat → Int64) (c4 : Nat → Nat → UInt32) (c5 : Nat → Nat → UInt64) (q : Nat → Int32) (vl wl : Int64) (rf : Nat → Nat → Int32) (rl : Nat → Nat → Int64) (rd : Nat → UInt64) {ls : Array Slot} {H : Heap} {locs : List Loc} {d0 : Drawn} (hd0 : s.drawn.sameBut d0 lw_cs) (hI : lwI c1 c2 q rf rl) (hP : va_P D vwCl (lwW T sa q1 q2 u v c1 c2 c3 c4 c5 q vl wl rf rl rd) H) (hD : va_D A (lwW T sa q1 q2 u v c1 c2 c3 c4 c5 q vl wl rf rl rd)) (hS : va_S A s.heap H locs) (hl : lv_has ls 4 [(3, .int ii), (2, .ref q2), (1, .ref q1), (0, .ref b)]) : W p l e room_1 (s.setDrawn d0) m #[Value.ref b] below meth c H locs 95 6031 (lw_Z below #[Value.ref b] s) (F0 m 1372 ls []) := by
  obtain ⟨hx, hb, hr, hml, hown0, hts0, hX, hbl, hlocks, hgv⟩ := id C0
  have hown0 : s.vm.findClass RL = some m.cls := hown0
  have hts := dr_words hts0 d0
  have hE : ekK D T (s.setDrawn d0) := ekK.same (u := s) rfl hE0
  have hown : (s.setDrawn d0).vm.findClass RL = some m.cls := hown0
  have hV : evK ad sa av ta A (s.setDrawn d0) (s.setDrawn d0).heap := evK.same (u := s) rfl hV0
  obtain ⟨hA1, hok, hokk, hA2, hokR, hB, hZ, hbg, hsz, hhd, hKb⟩ := hI
  have hA1 : (0 ≤ (((c1 1) : Int32)).toInt ∧ (((c1 1) : Int32)).toInt ≤ 24) ∧ (0 ≤ (((c1 2) : Int32)).toInt ∧ (((c1 2) : Int32)).toInt ≤ 24) ∧ (0 ≤ (((c2 16 0) : Int32)).toInt ∧ (((c2 16 0) : Int32)).toInt ≤ 12) ∧ (0 ≤ (((c2 16 1) : Int32)).toInt ∧ (((c2 16 1) : Int32)).toInt ≤ 12) ∧ (0 ≤ (((c2 16 2) : Int32)).toInt ∧ (((c2 16 2) : Int32)).toInt ≤ 12) ∧ (0 ≤ (((c2 17 0) : Int32)).toInt ∧ (((c2 17 0) : Int32)).toInt ≤ 12) ∧ (0 ≤ (((c2 17 1) : Int32)).toInt ∧ (((c2 17 1) : Int32)).toInt ≤ 12) ∧ (0 ≤ (((c2 17 2) : Int32)).toInt ∧ (((c2 17 2) : Int32)).toInt ≤ 12) ∧ (0 ≤ (((c1 7) : Int32)).toInt ∧ (((c1 7) : Int32)).toInt ≤ 120) ∧ ((-1 ≤ (((c2 28 0) : Int32)).toInt ∧ (((c2 28 0) : Int32)).toInt ≤ 3) ∧ (0 ≤ (((c2 29 0) : Int32)).toInt ∧ (((c2 29 0) : Int32)).toInt ≤ 30)) ∧ ((-1 ≤ (((c2 28 1) : Int32)).toInt ∧ (((c2 28 1) : Int32)).toInt ≤ 3) ∧ (0 ≤ (((c2 29 1) : Int32)).toInt ∧ (((c2 29 1) : Int32)).toInt ≤ 30)) ∧ ((-1 ≤ (((c2 28 2) : Int32)).toInt ∧ (((c2 28 2) : Int32)).toInt ≤ 3) ∧ (0 ≤ (((c2 29 2) : Int32)).toInt ∧ (((c2 29 2) : Int32)).toInt ≤ 30)) ∧ ((-1 ≤ (((c2 28 3) : Int32)).toInt ∧ (((c2 28 3) : Int32)).toInt ≤ 3) ∧ (0 ≤ (((c2 29 3) : Int32)).toInt ∧ (((c2 29 3) : Int32)).toInt ≤ 30)) := hA1
  have hok : okC (c2 2) (c2 4) (c2 5) (c2 6) := hok
  have hokk : okC (c2 9) (c2 11) (c2 12) (c2 13) := hokk
  have hA2 : (0 ≤ (((q 7) : Int32)).toInt ∧ (((q 7) : Int32)).toInt ≤ 24) ∧ ((1 ≤ (((q 4) : Int32)).toInt ∧ (((q 4) : Int32)).toInt ≤ 9) ∧ (1 ≤ (((q 6) : Int32)).toInt ∧ (((q 6) : Int32)).toInt ≤ 9)) ∧ (0 ≤ (((q 26) : Int32)).toInt ∧ (((q 26) : Int32)).toInt ≤ 120) := hA2
  have hokR : okR (rf 8) (rf 10) (rf 11) := hokR
  have hB : isB (q 14) := hB
  have hZ : ∀ j : Nat, isB ((rf 22) j) := hZ
  have hbg : ∀ k : Nat, k < 3 → 0 ≤ ((rf 13) k).toInt ∧ ((rf 13) k).toInt ≤ 12 := hbg
  have hsz : ∀ k : Nat, k < 4 → 0 ≤ ((rf 35) k).toInt ∧ ((rf 35) k).toInt ≤ 30 := hsz
  have hhd : ∀ k : Nat, k < 4 → ((rf 38) k).toInt = 2 → 1 ≤ ((rl 40) k).toInt := hhd
  have hKb : ¬ ((q 41) : Int32).toInt = 0 → okK (rf 42) := hKb
  have hi_1 : (ii + 1).toInt = ii.toInt + 1 := by rw [fb_addI (by rw [ti_1]; omega) (by rw [ti_1]; omega), ti_1]
  have hi_2 : (ii + 2).toInt = ii.toInt + 2 := by rw [fb_addI (by rw [ti_2]; omega) (by rw [ti_2]; omega), ti_2]
  have hi_3 : (ii + 3).toInt = ii.toInt + 3 := by rw [fb_addI (by rw [ti_3]; omega) (by rw [ti_3]; omega), ti_3]
  have hi_4 : (ii + 4).toInt = ii.toInt + 4 := by rw [fb_addI (by rw [ti_4]; omega) (by rw [ti_4]; omega), ti_4]
  have hi_5 : (ii + 5).toInt = ii.toInt + 5 := by rw [fb_addI (by rw [ti_5]; omega) (by rw [ti_5]; omega), ti_5]
  have hi_6 : (ii + 6).toInt = ii.toInt + 6 := by rw [fb_addI (by rw [ti_6]; omega) (by rw [ti_6]; omega), ti_6]
  refine lv_aload_n hx hb dL_law_1372 rfl (lv_at hl 2 rfl) ?_
  refine lv_aload_n hx hb dL_law_1373 rfl (lv_at hl 3 rfl) ?_
  refine lv_iload_n hx hb dL_law_1374 rfl (lv_at hl 0 rfl) ?_
  refine lv_iconst (v := 1) hx hb dL_law_1375 (by decide) ?_
  refine lv_iadd hx hb dL_law_1376 ?_
  refine va_sld hx hb hX hbl hbA hS (by rw [vp_in_iff, hi_1]; omega) dL_law_1377 ?_
  refine lv_topi (fun z_1 ez_1 => ?_)
  refine lv_aload_n hx hb dL_law_1378 rfl (lv_at hl 3 rfl) ?_
  refine lv_iload_n hx hb dL_law_1379 rfl (lv_at hl 0 rfl) ?_
  refine lv_iconst (v := 2) hx hb dL_law_1380 (by decide) ?_
  refine lv_iadd hx hb dL_law_1381 ?_
  refine va_sld hx hb hX hbl hbA hS (by rw [vp_in_iff, hi_2]; omega) dL_law_1382 ?_
  refine lv_topi (fun z_2 ez_2 => ?_)
  refine lv_aload_n hx hb dL_law_1383 rfl (lv_at hl 3 rfl) ?_
  refine lv_iload_n hx hb dL_law_1384 rfl (lv_at hl 0 rfl) ?_
  refine lv_iconst (v := 3) hx hb dL_law_1385 (by decide) ?_
  refine lv_iadd hx hb dL_law_1386 ?_
  refine va_sld hx hb hX hbl hbA hS (by rw [vp_in_iff, hi_3]; omega) dL_law_1387 ?_
  refine lv_topi (fun z_3 ez_3 => ?_)
  refine lv_i2l hx hb dL_law_1388 rfl ?_
  refine lv_bipush (v := 32) hx hb dL_law_1389 (by decide) ?_
  refine lv_lshl (v := ((z_3.toInt64) <<< ((32 : Int32).toInt64 &&& 63))) hx hb dL_law_1391 rfl ?_
  refine lv_aload_n hx hb dL_law_1392 rfl (lv_at hl 3 rfl) ?_
  refine lv_iload_n hx hb dL_law_1393 rfl (lv_at hl 0 rfl) ?_
  refine lv_iconst (v := 4) hx hb dL_law_1394 (by decide) ?_
  refine lv_iadd hx hb dL_law_1395 ?_
  refine va_sld hx hb hX hbl hbA hS (by rw [vp_in_iff, hi_4]; omega) dL_law_1396 ?_
  refine lv_topi (fun z_4 ez_4 => ?_)
  refine lv_i2l hx hb dL_law_1397 rfl ?_
  refine lv_ldc2 (v := 4294967295) hx hb hown (hts (.constantLong RL 140 (4294967295)) (lwt_6 _ (List.mem_of_getElem? (i := 38) (by decide +kernel)))) dL_law_1398 ?_
  refine lv_land hx hb dL_law_1401 ?_
  refine lv_lor hx hb dL_law_1402 ?_
  have hFc := va_free (wc := [(q1, .inr (9, [.ref (u 0), .ref (u 1), .int (c1 0), .ref (u 2), .ref (u 3), .ref (u 11), .ref (u 34), .ref (u 38), .ref (u 40), .ref (u 44), .ref (u 65)])), ((u 44), .inl (T 6, 4, .inr (.inr (.inr (.inr (va_up (va_up (va_up (va_up (fun _ => none) 0 (some (u 45))) 1 (some (u 46))) 2 (some (u 47))) 3 (some (u 48)))))))), ((u 45), .inr (6, [.int (c2 28 0), .int (c2 29 0), .ref (u 49), .ref (u 50), .ref (u 51), .ref (u 52)])), ((u 46), .inr (6, [.int (c2 28 1), .int (c2 29 1), .ref (u 53), .ref (u 54), .ref (u 55), .ref (u 56)])), ((u 47), .inr (6, [.int (c2 28 2), .int (c2 29 2), .ref (u 57), .ref (u 58), .ref (u 59), .ref (u 60)])), ((u 48), .inr (6, [.int (c2 28 3), .int (c2 29 3), .ref (u 61), .ref (u 62), .ref (u 63), .ref (u 64)])), ((u 49), .inl (T 0, 30, .inl (c2 30))), ((u 50), .inl (T 1, 30, .inr (.inl (c3 3)))), ((u 51), .inl (T 2, 30, .inr (.inr (.inl (c4 0))))), ((u 52), .inl (T 3, 30, .inr (.inr (.inr (.inl (c5 0)))))), ((u 53), .inl (T 0, 30, .inl (c2 31))), ((u 54), .inl (T 1, 30, .inr (.inl (c3 4)))), ((u 55), .inl (T 2, 30, .inr (.inr (.inl (c4 1))))), ((u 56), .inl (T 3, 30, .inr (.inr (.inr (.inl (c5 1)))))), ((u 57), .inl (T 0, 30, .inl (c2 32))), ((u 58), .inl (T 1, 30, .inr (.inl (c3 5)))), ((u 59), .inl (T 2, 30, .inr (.inr (.inl (c4 2))))), ((u 60), .inl (T 3, 30, .inr (.inr (.inr (.inl (c5 2)))))), ((u 61), .inl (T 0, 30, .inl (c2 33))), ((u 62), .inl (T 1, 30, .inr (.inl (c3 6)))), ((u 63), .inl (T 2, 30, .inr (.inr (.inl (c4 3))))), ((u 64), .inl (T 3, 30, .inr (.inr (.inr (.inl (c5 3))))))]) hD hS hA [0, 45, 46, 47, 48, 49, 50, 51, 52, 53, 54, 55, 56, 57, 58, 59, 60, 61, 62, 63, 64, 65] rfl
  refine va_calli (va_runV (As := [.int z_1, .int z_2, .long (((z_3.toInt64) <<< ((32 : Int32).toInt64 &&& 63)) ||| ((z_4.toInt64) &&& 4294967295))]) (rest := []) ⟨hx, hb, hml, hown, hts⟩ (c_X12_cell l D T _ q1 (u 44) [.ref (u 0), .ref (u 1), .int (c1 0), .ref (u 2), .ref (u 3), .ref (u 11), .ref (u 34), .ref (u 38), .ref (u 40), .ref (u 44), .ref (u 65)] (u 45) (u 46) (u 47) (u 48) (u 49) (u 50) (u 51) (u 52) (u 53) (u 54) (u 55) (u 56) (u 57) (u 58) (u 59) (u 60) (u 61) (u 62) (u 63) (u 64) (fun k => [(c2 28 0), (c2 28 1), (c2 28 2), (c2 28 3)].getD k 0) (fun k => [(c2 29 0), (c2 29 1), (c2 29 2), (c2 29 3)].getD k 0) (fun k => [(c2 30), (c2 31), (c2 32), (c2 33)].getD k (c2 30)) (fun k => [(c3 3), (c3 4), (c3 5), (c3 6)].getD k (c3 3)) c4 c5 z_1 z_2 (((z_3.toInt64) <<< ((32 : Int32).toInt64 &&& 63)) ||| ((z_4.toInt64) &&& 4294967295)) rfl (by omega) (by omega) (by omega) (by omega)) (cwV 3 hts lg_X12_cell rfl rfl rfl (by decide +kernel) ⟨Nat.le_of_ble_eq_true rfl, Nat.le_of_ble_eq_true rfl⟩) (pW_V (ci := 9) (q0 := 0) hP hE hD rfl rfl [0, 45, 46, 47, 48, 49, 50, 51, 52, 53, 54, 55, 56, 57, 58, 59, 60, 61, 62, 63, 64, 65] (by decide) rfl rfl) rfl rfl hl.1 rfl (lv_room (Nat.le_of_ble_eq_true rfl)) dL_law_1403 ⟨Nat.le_of_ble_eq_true rfl, Nat.le_of_ble_eq_true rfl⟩) hS (fun q _ h => hFc q h) hFc (fun r_5 u_6 t H1 locs ht hvm hr_5 hB hz1 hk1 hS => ?_)
  obtain ⟨so_7, sn_8, si_9, sl_10, sf_11, sd_12⟩ := u_6
  obtain ⟨hsso_7_0, hsso_7_1, hsso_7_2, hsso_7_3⟩ := hr_5.2
  obtain ⟨hP1, hD1⟩ := hB
  rw [ht] at hP1
  obtain ⟨hP, hD⟩ := va_join (wr := ([1, 2, 3, 4, 5, 6, 7, 8, 9, 10, 11, 12, 13, 14, 15, 16, 17, 18, 19, 20, 21, 22, 23, 24, 25, 26, 27, 28, 29, 30, 31, 32, 33, 34, 35, 36, 37, 38, 39, 40, 41, 42, 43, 44, 66, 67, 68, 69, 70, 71, 72, 73, 74, 75, 76, 77, 78, 79, 80, 81, 82, 83, 84, 85, 86, 87, 88, 89, 90, 91, 92, 93, 94].filterMap (fun i => (lwW T sa q1 q2 u v c1 c2 c3 c4 c5 q vl wl rf rl rd)[i]?))) (w1 := [(q1, .inr (9, [.ref (u 0), .ref (u 1), .int (c1 0), .ref (u 2), .ref (u 3), .ref (u 11), .ref (u 34), .ref (u 38), .ref (u 40), .ref (u 44), .ref (u 65)])), ((u 44), .inl (T 6, 4, .inr (.inr (.inr (.inr (va_up (va_up (va_up (va_up (fun _ => none) 0 (some (u 45))) 1 (some (u 46))) 2 (some (u 47))) 3 (some (u 48)))))))), ((u 45), .inr (6, [.int (so_7 0), .int (sn_8 0), .ref (u 49), .ref (u 50), .ref (u 51), .ref (u 52)])), ((u 46), .inr (6, [.int (so_7 1), .int (sn_8 1), .ref (u 53), .ref (u 54), .ref (u 55), .ref (u 56)])), ((u 47), .inr (6, [.int (so_7 2), .int (sn_8 2), .ref (u 57), .ref (u 58), .ref (u 59), .ref (u 60)])), ((u 48), .inr (6, [.int (so_7 3), .int (sn_8 3), .ref (u 61), .ref (u 62), .ref (u 63), .ref (u 64)])), ((u 49), .inl (T 0, 30, .inl (si_9 0))), ((u 50), .inl (T 1, 30, .inr (.inl (sl_10 0)))), ((u 51), .inl (T 2, 30, .inr (.inr (.inl (sf_11 0))))), ((u 52), .inl (T 3, 30, .inr (.inr (.inr (.inl (sd_12 0)))))), ((u 53), .inl (T 0, 30, .inl (si_9 1))), ((u 54), .inl (T 1, 30, .inr (.inl (sl_10 1)))), ((u 55), .inl (T 2, 30, .inr (.inr (.inl (sf_11 1))))), ((u 56), .inl (T 3, 30, .inr (.inr (.inr (.inl (sd_12 1)))))), ((u 57), .inl (T 0, 30, .inl (si_9 2))), ((u 58), .inl (T 1, 30, .inr (.inl (sl_10 2)))), ((u 59), .inl (T 2, 30, .inr (.inr (.inl (sf_11 2))))), ((u 60), .inl (T 3, 30, .inr (.inr (.inr (.inl (sd_12 2)))))), ((u 61), .inl (T 0, 30, .inl (si_9 3))), ((u 62), .inl (T 1, 30, .inr (.inl (sl_10 3)))), ((u 63), .inl (T 2, 30, .inr (.inr (.inl (sf_11 3))))), ((u 64), .inl (T 3, 30, .inr (.inr (.inr (.inl (sd_12 3))))))]) hP hD [0, 45, 46, 47, 48, 49, 50, 51, 52, 53, 54, 55, 56, 57, 58, 59, 60, 61, 62, 63, 64, 65] [1, 2, 3, 4, 5, 6, 7, 8, 9, 10, 11, 12, 13, 14, 15, 16, 17, 18, 19, 20, 21, 22, 23, 24, 25, 26, 27, 28, 29, 30, 31, 32, 33, 34, 35, 36, 37, 38, 39, 40, 41, 42, 43, 44, 66, 67, 68, 69, 70, 71, 72, 73, 74, 75, 76, 77, 78, 79, 80, 81, 82, 83, 84, 85, 86, 87, 88, 89, 90, 91, 92, 93, 94] rfl rfl (by decide) (by decide) hk1 hFc hP1 hD1
  clear hP1 hD1 hFc
  generalize H1 = H at hP hS ⊢
  refine lv_pop hx hb dL_law_1406 rfl ?_
  refine lv_aload_n hx hb dL_law_1407 rfl (lv_at hl 1 rfl) ?_
  refine lv_aload_n hx hb dL_law_1408 rfl (lv_at hl 3 rfl) ?_
  refine lv_iload_n hx hb dL_law_1409 rfl (lv_at hl 0 rfl) ?_
  refine lv_iconst (v := 1) hx hb dL_law_1410 (by decide) ?_
  refine lv_iadd hx hb dL_law_1411 ?_
  refine va_sld hx hb hX hbl hbA hS (by rw [vp_in_iff, hi_1]; omega) dL_law_1412 ?_
  refine lv_topi (fun z_13 ez_13 => ?_)
  have hsz_13 : z_1 = z_13 := ez_1.trans ez_13.symm
  subst hsz_13
  refine lv_aload_n hx hb dL_law_1413 rfl (lv_at hl 3 rfl) ?_
  refine lv_iload_n hx hb dL_law_1414 rfl (lv_at hl 0 rfl) ?_
  refine lv_iconst (v := 2) hx hb dL_law_1415 (by decide) ?_
  refine lv_iadd hx hb dL_law_1416 ?_
  refine va_sld hx hb hX hbl hbA hS (by rw [vp_in_iff, hi_2]; omega) dL_law_1417 ?_
  refine lv_topi (fun z_14 ez_14 => ?_)
  have hsz_14 : z_2 = z_14 := ez_2.trans ez_14.symm
  subst hsz_14
  refine lv_aload_n hx hb dL_law_1418 rfl (lv_at hl 3 rfl) ?_
  refine lv_iload_n hx hb dL_law_1419 rfl (lv_at hl 0 rfl) ?_
  refine lv_iconst (v := 3) hx hb dL_law_1420 (by decide) ?_
  refine lv_iadd hx hb dL_law_1421 ?_
  refine va_sld hx hb hX hbl hbA hS (by rw [vp_in_iff, hi_3]; omega) dL_law_1422 ?_
  refine lv_topi (fun z_15 ez_15 => ?_)
  have hsz_15 : z_3 = z_15 := ez_3.trans ez_15.symm
  subst hsz_15
  refine lv_i2l hx hb dL_law_1423 rfl ?_
  refine lv_bipush (v := 32) hx hb dL_law_1424 (by decide) ?_
  refine lv_lshl (v := ((z_3.toInt64) <<< ((32 : Int32).toInt64 &&& 63))) hx hb dL_law_1426 rfl ?_
  refine lv_aload_n hx hb dL_law_1427 rfl (lv_at hl 3 rfl) ?_
  refine lv_iload_n hx hb dL_law_1428 rfl (lv_at hl 0 rfl) ?_
  refine lv_iconst (v := 4) hx hb dL_law_1429 (by decide) ?_
  refine lv_iadd hx hb dL_law_1430 ?_
  refine va_sld hx hb hX hbl hbA hS (by rw [vp_in_iff, hi_4]; omega) dL_law_1431 ?_
  refine lv_topi (fun z_16 ez_16 => ?_)
  have hsz_16 : z_4 = z_16 := ez_4.trans ez_16.symm
  subst hsz_16
  refine lv_i2l hx hb dL_law_1432 rfl ?_
  refine lv_ldc2 (v := 4294967295) hx hb hown (hts (.constantLong RL 140 (4294967295)) (lwt_6 _ (List.mem_of_getElem? (i := 38) (by decide +kernel)))) dL_law_1433 ?_
  refine lv_land hx hb dL_law_1436 ?_
  refine lv_lor hx hb dL_law_1437 ?_
  have hFc := va_free (wc := [(q2, .inr (10, [.int (q 0), .int (q 1), .int (q 2), .int (q 3), .int (q 4), .int (q 5), .int (q 6), .int (q 7), .ref (v 8), .ref (v 9), .ref (v 10), .ref (v 11), .ref (v 12), .ref (v 13), .int (q 14), .long vl, .long wl, .ref (v 17), .ref (v 18), .ref (v 19), .ref (v 20), .ref (v 21), .ref (v 22), .ref (v 23), .int (q 24), .ref (v 25), .int (q 26), .ref (v 27), .int (q 28), .int (q 29), .int (q 30), .int (q 31), .int (q 32), .int (q 33), .ref (v 34), .ref (v 35), .ref (v 36), .ref (v 37), .ref (v 38), .ref (v 39), .ref (v 40), .int (q 41), .ref (v 42), .int (q 43), .int (q 44)])), ((v 34), .inl (T 0, 4, .inl (rf 34))), ((v 35), .inl (T 0, 4, .inl (rf 35))), ((v 36), .inl (T 1, 120, .inr (.inl (rl 36)))), ((v 37), .inl (T 3, 120, .inr (.inr (.inr (.inl rd)))))]) hD hS hA [49, 65, 66, 67, 68] rfl
  refine va_calliD hd0 (va_runV_D (As := [.int z_1, .int z_2, .long (((z_3.toInt64) <<< ((32 : Int32).toInt64 &&& 63)) ||| ((z_4.toInt64) &&& 4294967295))]) (rest := []) ⟨hx, hb, hml, hown, hts⟩ (c_X13_cell l D T _ q2 q vl wl v (rf 34) (rf 35) (rl 36) rd z_1 z_2 (((z_3.toInt64) <<< ((32 : Int32).toInt64 &&& 63)) ||| ((z_4.toInt64) &&& 4294967295)) hsz) (cwV 3 hts lg_X13_cell rfl rfl rfl (by decide +kernel) ⟨Nat.le_of_ble_eq_true rfl, Nat.le_of_ble_eq_true rfl⟩) (pW_V (ci := 10) (q0 := 49) hP hE hD rfl rfl [49, 65, 66, 67, 68] (by decide) rfl rfl) rfl rfl hl.1 rfl (lv_room (Nat.le_of_ble_eq_true rfl)) dL_law_1438 ⟨Nat.le_of_ble_eq_true rfl, Nat.le_of_ble_eq_true rfl⟩) hS (fun q _ h => hFc q h) hFc (fun r_17 u_18 t H1 locs ht hvm hr_17 hB hz1 hk1 hS d_19 hd_19 => ?_)
  have hts := dr_words hts0 d_19
  have hE : ekK D T (s.setDrawn d_19) := ekK.same (u := s) rfl hE0
  have hown : (s.setDrawn d_19).vm.findClass RL = some m.cls := hown0
  have hV : evK ad sa av ta A (s.setDrawn d_19) (s.setDrawn d_19).heap := evK.same (u := s) rfl hV0
  obtain ⟨f_20, f_21⟩ := u_18
  obtain ⟨hP1, hD1⟩ := hB
  rw [ht] at hP1
  obtain ⟨hP, hD⟩ := va_join (wr := ([0, 1, 2, 3, 4, 5, 6, 7, 8, 9, 10, 11, 12, 13, 14, 15, 16, 17, 18, 19, 20, 21, 22, 23, 24, 25, 26, 27, 28, 29, 30, 31, 32, 33, 34, 35, 36, 37, 38, 39, 40, 41, 42, 43, 44, 45, 46, 47, 48, 50, 51, 52, 53, 54, 55, 56, 57, 58, 59, 60, 61, 62, 63, 64, 69, 70, 71, 72, 73, 74, 75, 76, 77, 78, 79, 80, 81, 82, 83, 84, 85, 86, 87, 88, 89, 90, 91, 92, 93, 94].filterMap (fun i => (([1, 2, 3, 4, 5, 6, 7, 8, 9, 10, 11, 12, 13, 14, 15, 16, 17, 18, 19, 20, 21, 22, 23, 24, 25, 26, 27, 28, 29, 30, 31, 32, 33, 34, 35, 36, 37, 38, 39, 40, 41, 42, 43, 44, 66, 67, 68, 69, 70, 71, 72, 73, 74, 75, 76, 77, 78, 79, 80, 81, 82, 83, 84, 85, 86, 87, 88, 89, 90, 91, 92, 93, 94].filterMap (fun i => (lwW T sa q1 q2 u v c1 c2 c3 c4 c5 q vl wl rf rl rd)[i]?)) ++ [(q1, .inr (9, [.ref (u 0), .ref (u 1), .int (c1 0), .ref (u 2), .ref (u 3), .ref (u 11), .ref (u 34), .ref (u 38), .ref (u 40), .ref (u 44), .ref (u 65)])), ((u 44), .inl (T 6, 4, .inr (.inr (.inr (.inr (va_up (va_up (va_up (va_up (fun _ => none) 0 (some (u 45))) 1 (some (u 46))) 2 (some (u 47))) 3 (some (u 48)))))))), ((u 45), .inr (6, [.int (so_7 0), .int (sn_8 0), .ref (u 49), .ref (u 50), .ref (u 51), .ref (u 52)])), ((u 46), .inr (6, [.int (so_7 1), .int (sn_8 1), .ref (u 53), .ref (u 54), .ref (u 55), .ref (u 56)])), ((u 47), .inr (6, [.int (so_7 2), .int (sn_8 2), .ref (u 57), .ref (u 58), .ref (u 59), .ref (u 60)])), ((u 48), .inr (6, [.int (so_7 3), .int (sn_8 3), .ref (u 61), .ref (u 62), .ref (u 63), .ref (u 64)])), ((u 49), .inl (T 0, 30, .inl (si_9 0))), ((u 50), .inl (T 1, 30, .inr (.inl (sl_10 0)))), ((u 51), .inl (T 2, 30, .inr (.inr (.inl (sf_11 0))))), ((u 52), .inl (T 3, 30, .inr (.inr (.inr (.inl (sd_12 0)))))), ((u 53), .inl (T 0, 30, .inl (si_9 1))), ((u 54), .inl (T 1, 30, .inr (.inl (sl_10 1)))), ((u 55), .inl (T 2, 30, .inr (.inr (.inl (sf_11 1))))), ((u 56), .inl (T 3, 30, .inr (.inr (.inr (.inl (sd_12 1)))))), ((u 57), .inl (T 0, 30, .inl (si_9 2))), ((u 58), .inl (T 1, 30, .inr (.inl (sl_10 2)))), ((u 59), .inl (T 2, 30, .inr (.inr (.inl (sf_11 2))))), ((u 60), .inl (T 3, 30, .inr (.inr (.inr (.inl (sd_12 2)))))), ((u 61), .inl (T 0, 30, .inl (si_9 3))), ((u 62), .inl (T 1, 30, .inr (.inl (sl_10 3)))), ((u 63), .inl (T 2, 30, .inr (.inr (.inl (sf_11 3))))), ((u 64), .inl (T 3, 30, .inr (.inr (.inr (.inl (sd_12 3))))))])[i]?))) (w1 := [(q2, .inr (10, [.int (q 0), .int (q 1), .int (q 2), .int (q 3), .int (q 4), .int (q 5), .int (q 6), .int (q 7), .ref (v 8), .ref (v 9), .ref (v 10), .ref (v 11), .ref (v 12), .ref (v 13), .int (q 14), .long vl, .long wl, .ref (v 17), .ref (v 18), .ref (v 19), .ref (v 20), .ref (v 21), .ref (v 22), .ref (v 23), .int (q 24), .ref (v 25), .int (q 26), .ref (v 27), .int (q 28), .int (q 29), .int (q 30), .int (q 31), .int (q 32), .int (q 33), .ref (v 34), .ref (v 35), .ref (v 36), .ref (v 37), .ref (v 38), .ref (v 39), .ref (v 40), .int (q 41), .ref (v 42), .int (q 43), .int (q 44)])), ((v 34), .inl (T 0, 4, .inl (rf 34))), ((v 35), .inl (T 0, 4, .inl (rf 35))), ((v 36), .inl (T 1, 120, .inr (.inl f_20))), ((v 37), .inl (T 3, 120, .inr (.inr (.inr (.inl f_21)))))]) hP hD [49, 65, 66, 67, 68] [0, 1, 2, 3, 4, 5, 6, 7, 8, 9, 10, 11, 12, 13, 14, 15, 16, 17, 18, 19, 20, 21, 22, 23, 24, 25, 26, 27, 28, 29, 30, 31, 32, 33, 34, 35, 36, 37, 38, 39, 40, 41, 42, 43, 44, 45, 46, 47, 48, 50, 51, 52, 53, 54, 55, 56, 57, 58, 59, 60, 61, 62, 63, 64, 69, 70, 71, 72, 73, 74, 75, 76, 77, 78, 79, 80, 81, 82, 83, 84, 85, 86, 87, 88, 89, 90, 91, 92, 93, 94] rfl rfl (by decide) (by decide) hk1 hFc hP1 hD1
  clear hP1 hD1 hFc
  generalize H1 = H at hP hS ⊢
  refine lv_pop hx hb dL_law_1441 rfl ?_
  refine lv_goto (tgt := 1867) hx hb dL_law_1442 (by decide) ?_
  exact K c1 (fun k => [(c2 0), (c2 1), (c2 2), (c2 3), (c2 4), (c2 5), (c2 6), (c2 7), (c2 8), (c2 9), (c2 10), (c2 11), (c2 12), (c2 13), (c2 14), (c2 15), (c2 16), (c2 17), (c2 18), (c2 19), (c2 20), (c2 21), (c2 22), (c2 23), (c2 24), (c2 25), (c2 26), (c2 27), (fun k => [(so_7 0), (so_7 1), (so_7 2), (so_7 3)].getD k 0), (fun k => [(sn_8 0), (sn_8 1), (sn_8 2), (sn_8 3)].getD k 0), (si_9 0), (si_9 1), (si_9 2), (si_9 3), (c2 34), (c2 35)].getD k (fun _ => 0)) (fun k => [(c3 0), (c3 1), (c3 2), (sl_10 0), (sl_10 1), (sl_10 2), (sl_10 3), (c3 7), (c3 8)].getD k (fun _ => 0)) (fun k => [(sf_11 0), (sf_11 1), (sf_11 2), (sf_11 3)].getD k (fun _ => 0)) (fun k => [(sd_12 0), (sd_12 1), (sd_12 2), (sd_12 3)].getD k (fun _ => 0)) q vl wl rf (fun k => [(fun _ => 0), (fun _ => 0), (fun _ => 0), (fun _ => 0), (fun _ => 0), (fun _ => 0), (fun _ => 0), (fun _ => 0), (fun _ => 0), (fun _ => 0), (fun _ => 0), (fun _ => 0), (fun _ => 0), (fun _ => 0), (fun _ => 0), (fun _ => 0), (fun _ => 0), (fun _ => 0), (fun _ => 0), (fun _ => 0), (rl 20), (rl 21), (fun _ => 0), (rl 23), (fun _ => 0), (fun _ => 0), (fun _ => 0), (fun _ => 0), (fun _ => 0), (fun _ => 0), (fun _ => 0), (fun _ => 0), (fun _ => 0), (fun _ => 0), (fun _ => 0), (fun _ => 0), f_20, (fun _ => 0), (fun _ => 0), (rl 39), (rl 40)].getD k (fun _ => 0)) f_21 ls H locs _ hd_19 ⟨(show (0 ≤ (((c1 1) : Int32)).toInt ∧ (((c1 1) : Int32)).toInt ≤ 24) ∧ (0 ≤ (((c1 2) : Int32)).toInt ∧ (((c1 2) : Int32)).toInt ≤ 24) ∧ (0 ≤ (((c2 16 0) : Int32)).toInt ∧ (((c2 16 0) : Int32)).toInt ≤ 12) ∧ (0 ≤ (((c2 16 1) : Int32)).toInt ∧ (((c2 16 1) : Int32)).toInt ≤ 12) ∧ (0 ≤ (((c2 16 2) : Int32)).toInt ∧ (((c2 16 2) : Int32)).toInt ≤ 12) ∧ (0 ≤ (((c2 17 0) : Int32)).toInt ∧ (((c2 17 0) : Int32)).toInt ≤ 12) ∧ (0 ≤ (((c2 17 1) : Int32)).toInt ∧ (((c2 17 1) : Int32)).toInt ≤ 12) ∧ (0 ≤ (((c2 17 2) : Int32)).toInt ∧ (((c2 17 2) : Int32)).toInt ≤ 12) ∧ (0 ≤ (((c1 7) : Int32)).toInt ∧ (((c1 7) : Int32)).toInt ≤ 120) ∧ ((-1 ≤ (((so_7 0) : Int32)).toInt ∧ (((so_7 0) : Int32)).toInt ≤ 3) ∧ (0 ≤ (((sn_8 0) : Int32)).toInt ∧ (((sn_8 0) : Int32)).toInt ≤ 30)) ∧ ((-1 ≤ (((so_7 1) : Int32)).toInt ∧ (((so_7 1) : Int32)).toInt ≤ 3) ∧ (0 ≤ (((sn_8 1) : Int32)).toInt ∧ (((sn_8 1) : Int32)).toInt ≤ 30)) ∧ ((-1 ≤ (((so_7 2) : Int32)).toInt ∧ (((so_7 2) : Int32)).toInt ≤ 3) ∧ (0 ≤ (((sn_8 2) : Int32)).toInt ∧ (((sn_8 2) : Int32)).toInt ≤ 30)) ∧ ((-1 ≤ (((so_7 3) : Int32)).toInt ∧ (((so_7 3) : Int32)).toInt ≤ 3) ∧ (0 ≤ (((sn_8 3) : Int32)).toInt ∧ (((sn_8 3) : Int32)).toInt ≤ 30)) from (by (try simp only [ti_0, ti_1, ti_n1]); omega)), (show okC (c2 2) (c2 4) (c2 5) (c2 6) from (by assumption)), (show okC (c2 9) (c2 11) (c2 12) (c2 13) from (by assumption)), (show (0 ≤ (((q 7) : Int32)).toInt ∧ (((q 7) : Int32)).toInt ≤ 24) ∧ ((1 ≤ (((q 4) : Int32)).toInt ∧ (((q 4) : Int32)).toInt ≤ 9) ∧ (1 ≤ (((q 6) : Int32)).toInt ∧ (((q 6) : Int32)).toInt ≤ 9)) ∧ (0 ≤ (((q 26) : Int32)).toInt ∧ (((q 26) : Int32)).toInt ≤ 120) from (by (try simp only [ti_0, ti_1, ti_n1]); omega)), (show okR (rf 8) (rf 10) (rf 11) from (by assumption)), (show isB (q 14) from (by first | assumption | exact isB0 | exact isB1)), (show ∀ j : Nat, isB ((rf 22) j) from (by assumption)), (show ∀ k : Nat, k < 3 → 0 ≤ ((rf 13) k).toInt ∧ ((rf 13) k).toInt ≤ 12 from (by assumption)), (show ∀ k : Nat, k < 4 → 0 ≤ ((rf 35) k).toInt ∧ ((rf 35) k).toInt ≤ 30 from (by assumption)), (show ∀ k : Nat, k < 4 → ((rf 38) k).toInt = 2 → 1 ≤ ((rl 40) k).toInt from (by assumption)), (show ¬ ((q 41) : Int32).toInt = 0 → okK (rf 42) from (by first | assumption | exact (fun _ => by assumption)))⟩ (show va_P D vwCl (lwW T sa q1 q2 u v c1 (fun k => [(c2 0), (c2 1), (c2 2), (c2 3), (c2 4), (c2 5), (c2 6), (c2 7), (c2 8), (c2 9), (c2 10), (c2 11), (c2 12), (c2 13), (c2 14), (c2 15), (c2 16), (c2 17), (c2 18), (c2 19), (c2 20), (c2 21), (c2 22), (c2 23), (c2 24), (c2 25), (c2 26), (c2 27), (fun k => [(so_7 0), (so_7 1), (so_7 2), (so_7 3)].getD k 0), (fun k => [(sn_8 0), (sn_8 1), (sn_8 2), (sn_8 3)].getD k 0), (si_9 0), (si_9 1), (si_9 2), (si_9 3), (c2 34), (c2 35)].getD k (fun _ => 0)) (fun k => [(c3 0), (c3 1), (c3 2), (sl_10 0), (sl_10 1), (sl_10 2), (sl_10 3), (c3 7), (c3 8)].getD k (fun _ => 0)) (fun k => [(sf_11 0), (sf_11 1), (sf_11 2), (sf_11 3)].getD k (fun _ => 0)) (fun k => [(sd_12 0), (sd_12 1), (sd_12 2), (sd_12 3)].getD k (fun _ => 0)) q vl wl rf (fun k => [(fun _ => 0), (fun _ => 0), (fun _ => 0), (fun _ => 0), (fun _ => 0), (fun _ => 0), (fun _ => 0), (fun _ => 0), (fun _ => 0), (fun _ => 0), (fun _ => 0), (fun _ => 0), (fun _ => 0), (fun _ => 0), (fun _ => 0), (fun _ => 0), (fun _ => 0), (fun _ => 0), (fun _ => 0), (fun _ => 0), (rl 20), (rl 21), (fun _ => 0), (rl 23), (fun _ => 0), (fun _ => 0), (fun _ => 0), (fun _ => 0), (fun _ => 0), (fun _ => 0), (fun _ => 0), (fun _ => 0), (fun _ => 0), (fun _ => 0), (fun _ => 0), (fun _ => 0), f_20, (fun _ => 0), (fun _ => 0), (rl 39), (rl 40)].getD k (fun _ => 0)) f_21) H from hP.sub [68, 0, 1, 2, 3, 4, 5, 6, 7, 8, 9, 10, 11, 12, 13, 14, 15, 16, 17, 18, 19, 20, 21, 22, 23, 24, 25, 26, 27, 28, 29, 30, 31, 32, 33, 34, 35, 36, 37, 38, 39, 40, 41, 42, 43, 69, 70, 71, 72, 73, 74, 75, 76, 77, 78, 79, 80, 81, 82, 83, 84, 85, 86, 87, 88, 89, 44, 45, 46, 47, 48, 90, 49, 50, 51, 52, 53, 54, 55, 56, 57, 58, 59, 60, 61, 62, 63, 91, 92, 93, 94, 64, 65, 66, 67] rfl) (show va_D A (lwW T sa q1 q2 u v c1 (fun k => [(c2 0), (c2 1), (c2 2), (c2 3), (c2 4), (c2 5), (c2 6), (c2 7), (c2 8), (c2 9), (c2 10), (c2 11), (c2 12), (c2 13), (c2 14), (c2 15), (c2 16), (c2 17), (c2 18), (c2 19), (c2 20), (c2 21), (c2 22), (c2 23), (c2 24), (c2 25), (c2 26), (c2 27), (fun k => [(so_7 0), (so_7 1), (so_7 2), (so_7 3)].getD k 0), (fun k => [(sn_8 0), (sn_8 1), (sn_8 2), (sn_8 3)].getD k 0), (si_9 0), (si_9 1), (si_9 2), (si_9 3), (c2 34), (c2 35)].getD k (fun _ => 0)) (fun k => [(c3 0), (c3 1), (c3 2), (sl_10 0), (sl_10 1), (sl_10 2), (sl_10 3), (c3 7), (c3 8)].getD k (fun _ => 0)) (fun k => [(sf_11 0), (sf_11 1), (sf_11 2), (sf_11 3)].getD k (fun _ => 0)) (fun k => [(sd_12 0), (sd_12 1), (sd_12 2), (sd_12 3)].getD k (fun _ => 0)) q vl wl rf (fun k => [(fun _ => 0), (fun _ => 0), (fun _ => 0), (fun _ => 0), (fun _ => 0), (fun _ => 0), (fun _ => 0), (fun _ => 0), (fun _ => 0), (fun _ => 0), (fun _ => 0), (fun _ => 0), (fun _ => 0), (fun _ => 0), (fun _ => 0), (fun _ => 0), (fun _ => 0), (fun _ => 0), (fun _ => 0), (fun _ => 0), (rl 20), (rl 21), (fun _ => 0), (rl 23), (fun _ => 0), (fun _ => 0), (fun _ => 0), (fun _ => 0), (fun _ => 0), (fun _ => 0), (fun _ => 0), (fun _ => 0), (fun _ => 0), (fun _ => 0), (fun _ => 0), (fun _ => 0), f_20, (fun _ => 0), (fun _ => 0), (rl 39), (rl 40)].getD k (fun _ => 0)) f_21) from hD.sub [68, 0, 1, 2, 3, 4, 5, 6, 7, 8, 9, 10, 11, 12, 13, 14, 15, 16, 17, 18, 19, 20, 21, 22, 23, 24, 25, 26, 27, 28, 29, 30, 31, 32, 33, 34, 35, 36, 37, 38, 39, 40, 41, 42, 43, 69, 70, 71, 72, 73, 74, 75, 76, 77, 78, 79, 80, 81, 82, 83, 84, 85, 86, 87, 88, 89, 44, 45, 46, 47, 48, 90, 49, 50, 51, 52, 53, 54, 55, 56, 57, 58, 59, 60, 61, 62, 63, 91, 92, 93, 94, 64, 65, 66, 67] (by decide) rfl) hS hl
theorem dL_law_1445 : decode cL_law 1445 = .ok (.aload_n 1, 1) := by decide +kernel
theorem dL_law_1446 : decode cL_law 1446 = .ok (.aload_n 0, 1) := by decide +kernel
theorem dL_law_1447 : decode cL_law 1447 = .ok (.iload_n 3, 1) := by decide +kernel
theorem dL_law_1448 : decode cL_law 1448 = .ok (.iconst 1, 1) := by decide +kernel
theorem dL_law_1449 : decode cL_law 1449 = .ok (.iadd, 1) := by decide +kernel
theorem dL_law_1450 : decode cL_law 1450 = .ok (.iaload, 1) := by decide +kernel
theorem dL_law_1451 : decode cL_law 1451 = .ok (.aload_n 0, 1) := by decide +kernel
theorem dL_law_1452 : decode cL_law 1452 = .ok (.iload_n 3, 1) := by decide +kernel
theorem dL_law_1453 : decode cL_law 1453 = .ok (.iconst 2, 1) := by decide +kernel
theorem dL_law_1454 : decode cL_law 1454 = .ok (.iadd, 1) := by decide +kernel
theorem dL_law_1455 : decode cL_law 1455 = .ok (.iaload, 1) := by decide +kernel
theorem dL_law_1456 : decode cL_law 1456 = .ok (.aload_n 0, 1) := by decide +kernel
theorem dL_law_1457 : decode cL_law 1457 = .ok (.iload_n 3, 1) := by decide +kernel
theorem dL_law_1458 : decode cL_law 1458 = .ok (.iconst 3, 1) := by decide +kernel
theorem dL_law_1459 : decode cL_law 1459 = .ok (.iadd, 1) := by decide +kernel
theorem dL_law_1460 : decode cL_law 1460 = .ok (.iaload, 1) := by decide +kernel
theorem dL_law_1461 : decode cL_law 1461 = .ok (.invokevirtual 147, 3) := by decide +kernel
theorem dL_law_1464 : decode cL_law 1464 = .ok (.pop2, 1) := by decide +kernel
theorem dL_law_1465 : decode cL_law 1465 = .ok (.aload_n 2, 1) := by decide +kernel
theorem dL_law_1466 : decode cL_law 1466 = .ok (.aload_n 0, 1) := by decide +kernel
theorem dL_law_1467 : decode cL_law 1467 = .ok (.iload_n 3, 1) := by decide +kernel
theorem dL_law_1468 : decode cL_law 1468 = .ok (.iconst 1, 1) := by decide +kernel
theorem dL_law_1469 : decode cL_law 1469 = .ok (.iadd, 1) := by decide +kernel
theorem dL_law_1470 : decode cL_law 1470 = .ok (.iaload, 1) := by decide +kernel
theorem dL_law_1471 : decode cL_law 1471 = .ok (.aload_n 0, 1) := by decide +kernel
theorem dL_law_1472 : decode cL_law 1472 = .ok (.iload_n 3, 1) := by decide +kernel
theorem dL_law_1473 : decode cL_law 1473 = .ok (.iconst 2, 1) := by decide +kernel
theorem dL_law_1474 : decode cL_law 1474 = .ok (.iadd, 1) := by decide +kernel
theorem dL_law_1475 : decode cL_law 1475 = .ok (.iaload, 1) := by decide +kernel
theorem dL_law_1476 : decode cL_law 1476 = .ok (.aload_n 0, 1) := by decide +kernel
theorem dL_law_1477 : decode cL_law 1477 = .ok (.iload_n 3, 1) := by decide +kernel
theorem dL_law_1478 : decode cL_law 1478 = .ok (.iconst 3, 1) := by decide +kernel
theorem dL_law_1479 : decode cL_law 1479 = .ok (.iadd, 1) := by decide +kernel
theorem dL_law_1480 : decode cL_law 1480 = .ok (.iaload, 1) := by decide +kernel
theorem dL_law_1481 : decode cL_law 1481 = .ok (.invokevirtual 151, 3) := by decide +kernel
theorem dL_law_1484 : decode cL_law 1484 = .ok (.pop2, 1) := by decide +kernel
theorem dL_law_1485 : decode cL_law 1485 = .ok (.goto 382, 3) := by decide +kernel
set_option maxRecDepth 40000 in
theorem lg_X12_read : GoodIn lw_tbl (wsV RL 147 RX12 yX12_read wsX12_read) := goodIn_app (gl_cons ⟨lwt_3 _ (List.mem_of_getElem? (i := 74) (by decide +kernel)), by decide +kernel⟩ (gl_cons ⟨lwt_3 _ (List.mem_of_getElem? (i := 75) (by decide +kernel)), by decide +kernel⟩ (gl_cons ⟨lwt_3 _ (List.mem_of_getElem? (i := 76) (by decide +kernel)), by decide +kernel⟩ (gl_cons ⟨lwt_0 _ (List.mem_of_getElem? (i := 1) (by decide +kernel)), by decide +kernel⟩ gl_nil)))) lgg_X12_read
set_option maxRecDepth 40000 in
theorem lg_X13_read : GoodIn lw_tbl (wsV RL 151 RX13 yX13_read wsX13_read) := goodIn_app (gl_cons ⟨lwt_5 _ (List.mem_of_getElem? (i := 213) (by decide +kernel)), by decide +kernel⟩ (gl_cons ⟨lwt_5 _ (List.mem_of_getElem? (i := 214) (by decide +kernel)), by decide +kernel⟩ (gl_cons ⟨lwt_5 _ (List.mem_of_getElem? (i := 215) (by decide +kernel)), by decide +kernel⟩ (gl_cons ⟨lwt_0 _ (List.mem_of_getElem? (i := 11) (by decide +kernel)), by decide +kernel⟩ gl_nil)))) lgg_X13_read
set_option maxHeartbeats 8000000 in
set_option maxRecDepth 100000 in
theorem law_c31 {p : Program} {e : Env} {s : State} {m : MethodId} {below : List Frame} {meth : Method} {c : Code} {l : Launch} {b L : Nat} {xs : Nat → Int32} (hL : L ≤ 3584) (C0 : lw_At p s m meth c b L xs) {D : va_G} {T : Nat → ClassId} {ad sa av : Nat → Nat} {ta : Nat} {A : Nat → Prop} (hA : ∀ q : Nat, s.heap.size ≤ q → A q) (hAf : ∀ q : Nat, A q → s.heap.size ≤ q) (hbA : ¬ A b) (hE0 : ekK D T s) (hV0 : evK ad sa av ta A s s.heap) {q1 q2 : Nat} {u v : Nat → Nat} {ii : Int32} (hii : 0 ≤ ii.toInt ∧ ii.toInt + 7 ≤ L) (K : lwK p l e s m below meth c b D T sa A q1 q2 u v ii) (c1 : Nat → Int32) (c2 : Nat → Nat → Int32) (c3 : Nat → Nat → Int64) (c4 : Nat → Nat → UInt32) (c5 : Nat → Nat → UInt64) (q : Nat → Int32) (vl wl : Int64) (rf : Nat → Nat → Int32) (rl : Nat → Nat → Int64) (rd : Nat → UInt64) {ls : Array Slot} {H : Heap} {locs : List Loc} {d0 : Drawn} (hd0 : s.drawn.sameBut d0 lw_cs) (hI : lwI c1 c2 q rf rl) (hP : va_P D vwCl (lwW T sa q1 q2 u v c1 c2 c3 c4 c5 q vl wl rf rl rd) H) (hD : va_D A (lwW T sa q1 q2 u v c1 c2 c3 c4 c5 q vl wl rf rl rd)) (hS : va_S A s.heap H locs) (hl : lv_has ls 4 [(3, .int ii), (2, .ref q2), (1, .ref q1), (0, .ref b)]) : W p l e room_1 (s.setDrawn d0) m #[Value.ref b] below meth c H locs 95 6031 (lw_Z below #[Value.ref b] s) (F0 m 1445 ls []) := by
  obtain ⟨hx, hb, hr, hml, hown0, hts0, hX, hbl, hlocks, hgv⟩ := id C0
  have hown0 : s.vm.findClass RL = some m.cls := hown0
  have hts := dr_words hts0 d0
  have hE : ekK D T (s.setDrawn d0) := ekK.same (u := s) rfl hE0
  have hown : (s.setDrawn d0).vm.findClass RL = some m.cls := hown0
  have hV : evK ad sa av ta A (s.setDrawn d0) (s.setDrawn d0).heap := evK.same (u := s) rfl hV0
  obtain ⟨hA1, hok, hokk, hA2, hokR, hB, hZ, hbg, hsz, hhd, hKb⟩ := hI
  have hA1 : (0 ≤ (((c1 1) : Int32)).toInt ∧ (((c1 1) : Int32)).toInt ≤ 24) ∧ (0 ≤ (((c1 2) : Int32)).toInt ∧ (((c1 2) : Int32)).toInt ≤ 24) ∧ (0 ≤ (((c2 16 0) : Int32)).toInt ∧ (((c2 16 0) : Int32)).toInt ≤ 12) ∧ (0 ≤ (((c2 16 1) : Int32)).toInt ∧ (((c2 16 1) : Int32)).toInt ≤ 12) ∧ (0 ≤ (((c2 16 2) : Int32)).toInt ∧ (((c2 16 2) : Int32)).toInt ≤ 12) ∧ (0 ≤ (((c2 17 0) : Int32)).toInt ∧ (((c2 17 0) : Int32)).toInt ≤ 12) ∧ (0 ≤ (((c2 17 1) : Int32)).toInt ∧ (((c2 17 1) : Int32)).toInt ≤ 12) ∧ (0 ≤ (((c2 17 2) : Int32)).toInt ∧ (((c2 17 2) : Int32)).toInt ≤ 12) ∧ (0 ≤ (((c1 7) : Int32)).toInt ∧ (((c1 7) : Int32)).toInt ≤ 120) ∧ ((-1 ≤ (((c2 28 0) : Int32)).toInt ∧ (((c2 28 0) : Int32)).toInt ≤ 3) ∧ (0 ≤ (((c2 29 0) : Int32)).toInt ∧ (((c2 29 0) : Int32)).toInt ≤ 30)) ∧ ((-1 ≤ (((c2 28 1) : Int32)).toInt ∧ (((c2 28 1) : Int32)).toInt ≤ 3) ∧ (0 ≤ (((c2 29 1) : Int32)).toInt ∧ (((c2 29 1) : Int32)).toInt ≤ 30)) ∧ ((-1 ≤ (((c2 28 2) : Int32)).toInt ∧ (((c2 28 2) : Int32)).toInt ≤ 3) ∧ (0 ≤ (((c2 29 2) : Int32)).toInt ∧ (((c2 29 2) : Int32)).toInt ≤ 30)) ∧ ((-1 ≤ (((c2 28 3) : Int32)).toInt ∧ (((c2 28 3) : Int32)).toInt ≤ 3) ∧ (0 ≤ (((c2 29 3) : Int32)).toInt ∧ (((c2 29 3) : Int32)).toInt ≤ 30)) := hA1
  have hok : okC (c2 2) (c2 4) (c2 5) (c2 6) := hok
  have hokk : okC (c2 9) (c2 11) (c2 12) (c2 13) := hokk
  have hA2 : (0 ≤ (((q 7) : Int32)).toInt ∧ (((q 7) : Int32)).toInt ≤ 24) ∧ ((1 ≤ (((q 4) : Int32)).toInt ∧ (((q 4) : Int32)).toInt ≤ 9) ∧ (1 ≤ (((q 6) : Int32)).toInt ∧ (((q 6) : Int32)).toInt ≤ 9)) ∧ (0 ≤ (((q 26) : Int32)).toInt ∧ (((q 26) : Int32)).toInt ≤ 120) := hA2
  have hokR : okR (rf 8) (rf 10) (rf 11) := hokR
  have hB : isB (q 14) := hB
  have hZ : ∀ j : Nat, isB ((rf 22) j) := hZ
  have hbg : ∀ k : Nat, k < 3 → 0 ≤ ((rf 13) k).toInt ∧ ((rf 13) k).toInt ≤ 12 := hbg
  have hsz : ∀ k : Nat, k < 4 → 0 ≤ ((rf 35) k).toInt ∧ ((rf 35) k).toInt ≤ 30 := hsz
  have hhd : ∀ k : Nat, k < 4 → ((rf 38) k).toInt = 2 → 1 ≤ ((rl 40) k).toInt := hhd
  have hKb : ¬ ((q 41) : Int32).toInt = 0 → okK (rf 42) := hKb
  have hi_1 : (ii + 1).toInt = ii.toInt + 1 := by rw [fb_addI (by rw [ti_1]; omega) (by rw [ti_1]; omega), ti_1]
  have hi_2 : (ii + 2).toInt = ii.toInt + 2 := by rw [fb_addI (by rw [ti_2]; omega) (by rw [ti_2]; omega), ti_2]
  have hi_3 : (ii + 3).toInt = ii.toInt + 3 := by rw [fb_addI (by rw [ti_3]; omega) (by rw [ti_3]; omega), ti_3]
  have hi_4 : (ii + 4).toInt = ii.toInt + 4 := by rw [fb_addI (by rw [ti_4]; omega) (by rw [ti_4]; omega), ti_4]
  have hi_5 : (ii + 5).toInt = ii.toInt + 5 := by rw [fb_addI (by rw [ti_5]; omega) (by rw [ti_5]; omega), ti_5]
  have hi_6 : (ii + 6).toInt = ii.toInt + 6 := by rw [fb_addI (by rw [ti_6]; omega) (by rw [ti_6]; omega), ti_6]
  refine lv_aload_n hx hb dL_law_1445 rfl (lv_at hl 2 rfl) ?_
  refine lv_aload_n hx hb dL_law_1446 rfl (lv_at hl 3 rfl) ?_
  refine lv_iload_n hx hb dL_law_1447 rfl (lv_at hl 0 rfl) ?_
  refine lv_iconst (v := 1) hx hb dL_law_1448 (by decide) ?_
  refine lv_iadd hx hb dL_law_1449 ?_
  refine va_sld hx hb hX hbl hbA hS (by rw [vp_in_iff, hi_1]; omega) dL_law_1450 ?_
  refine lv_topi (fun z_1 ez_1 => ?_)
  refine lv_aload_n hx hb dL_law_1451 rfl (lv_at hl 3 rfl) ?_
  refine lv_iload_n hx hb dL_law_1452 rfl (lv_at hl 0 rfl) ?_
  refine lv_iconst (v := 2) hx hb dL_law_1453 (by decide) ?_
  refine lv_iadd hx hb dL_law_1454 ?_
  refine va_sld hx hb hX hbl hbA hS (by rw [vp_in_iff, hi_2]; omega) dL_law_1455 ?_
  refine lv_topi (fun z_2 ez_2 => ?_)
  refine lv_aload_n hx hb dL_law_1456 rfl (lv_at hl 3 rfl) ?_
  refine lv_iload_n hx hb dL_law_1457 rfl (lv_at hl 0 rfl) ?_
  refine lv_iconst (v := 3) hx hb dL_law_1458 (by decide) ?_
  refine lv_iadd hx hb dL_law_1459 ?_
  refine va_sld hx hb hX hbl hbA hS (by rw [vp_in_iff, hi_3]; omega) dL_law_1460 ?_
  refine lv_topi (fun z_3 ez_3 => ?_)
  have hFc := va_free (wc := [(q1, .inr (9, [.ref (u 0), .ref (u 1), .int (c1 0), .ref (u 2), .ref (u 3), .ref (u 11), .ref (u 34), .ref (u 38), .ref (u 40), .ref (u 44), .ref (u 65)])), ((u 44), .inl (T 6, 4, .inr (.inr (.inr (.inr (va_up (va_up (va_up (va_up (fun _ => none) 0 (some (u 45))) 1 (some (u 46))) 2 (some (u 47))) 3 (some (u 48)))))))), ((u 45), .inr (6, [.int (c2 28 0), .int (c2 29 0), .ref (u 49), .ref (u 50), .ref (u 51), .ref (u 52)])), ((u 46), .inr (6, [.int (c2 28 1), .int (c2 29 1), .ref (u 53), .ref (u 54), .ref (u 55), .ref (u 56)])), ((u 47), .inr (6, [.int (c2 28 2), .int (c2 29 2), .ref (u 57), .ref (u 58), .ref (u 59), .ref (u 60)])), ((u 48), .inr (6, [.int (c2 28 3), .int (c2 29 3), .ref (u 61), .ref (u 62), .ref (u 63), .ref (u 64)])), ((u 49), .inl (T 0, 30, .inl (c2 30))), ((u 50), .inl (T 1, 30, .inr (.inl (c3 3)))), ((u 51), .inl (T 2, 30, .inr (.inr (.inl (c4 0))))), ((u 52), .inl (T 3, 30, .inr (.inr (.inr (.inl (c5 0)))))), ((u 53), .inl (T 0, 30, .inl (c2 31))), ((u 54), .inl (T 1, 30, .inr (.inl (c3 4)))), ((u 55), .inl (T 2, 30, .inr (.inr (.inl (c4 1))))), ((u 56), .inl (T 3, 30, .inr (.inr (.inr (.inl (c5 1)))))), ((u 57), .inl (T 0, 30, .inl (c2 32))), ((u 58), .inl (T 1, 30, .inr (.inl (c3 5)))), ((u 59), .inl (T 2, 30, .inr (.inr (.inl (c4 2))))), ((u 60), .inl (T 3, 30, .inr (.inr (.inr (.inl (c5 2)))))), ((u 61), .inl (T 0, 30, .inl (c2 33))), ((u 62), .inl (T 1, 30, .inr (.inl (c3 6)))), ((u 63), .inl (T 2, 30, .inr (.inr (.inl (c4 3))))), ((u 64), .inl (T 3, 30, .inr (.inr (.inr (.inl (c5 3))))))]) hD hS hA [0, 45, 46, 47, 48, 49, 50, 51, 52, 53, 54, 55, 56, 57, 58, 59, 60, 61, 62, 63, 64, 65] rfl
  refine va_calllD hd0 (va_runV_D (As := [.int z_1, .int z_2, .int z_3]) (rest := []) ⟨hx, hb, hml, hown, hts⟩ (c_X12_read l D T _ q1 (u 44) [.ref (u 0), .ref (u 1), .int (c1 0), .ref (u 2), .ref (u 3), .ref (u 11), .ref (u 34), .ref (u 38), .ref (u 40), .ref (u 44), .ref (u 65)] (u 45) (u 46) (u 47) (u 48) (u 49) (u 50) (u 51) (u 52) (u 53) (u 54) (u 55) (u 56) (u 57) (u 58) (u 59) (u 60) (u 61) (u 62) (u 63) (u 64) (fun k => [(c2 28 0), (c2 28 1), (c2 28 2), (c2 28 3)].getD k 0) (fun k => [(c2 29 0), (c2 29 1), (c2 29 2), (c2 29 3)].getD k 0) (fun k => [(c2 30), (c2 31), (c2 32), (c2 33)].getD k (c2 30)) (fun k => [(c3 3), (c3 4), (c3 5), (c3 6)].getD k (c3 3)) c4 c5 z_1 z_2 z_3 rfl (by omega) (by omega) (by omega) (by omega)) (cwV 3 hts lg_X12_read rfl rfl rfl (by decide +kernel) ⟨Nat.le_of_ble_eq_true rfl, Nat.le_of_ble_eq_true rfl⟩) (pW_V (ci := 9) (q0 := 0) hP hE hD rfl rfl [0, 45, 46, 47, 48, 49, 50, 51, 52, 53, 54, 55, 56, 57, 58, 59, 60, 61, 62, 63, 64, 65] (by decide) rfl rfl) rfl rfl hl.1 rfl (lv_room (Nat.le_of_ble_eq_true rfl)) dL_law_1461 ⟨Nat.le_of_ble_eq_true rfl, Nat.le_of_ble_eq_true rfl⟩) hS (fun q _ h => hFc q h) hFc (fun r_4 u_5 t H1 locs ht hvm hr_4 hB hz1 hk1 hS d_6 hd_6 => ?_)
  have hts := dr_words hts0 d_6
  have hE : ekK D T (s.setDrawn d_6) := ekK.same (u := s) rfl hE0
  have hown : (s.setDrawn d_6).vm.findClass RL = some m.cls := hown0
  have hV : evK ad sa av ta A (s.setDrawn d_6) (s.setDrawn d_6).heap := evK.same (u := s) rfl hV0
  obtain ⟨hP1, hD1⟩ := hB
  rw [ht] at hP1
  obtain ⟨hP, hD⟩ := va_join (wr := ([1, 2, 3, 4, 5, 6, 7, 8, 9, 10, 11, 12, 13, 14, 15, 16, 17, 18, 19, 20, 21, 22, 23, 24, 25, 26, 27, 28, 29, 30, 31, 32, 33, 34, 35, 36, 37, 38, 39, 40, 41, 42, 43, 44, 66, 67, 68, 69, 70, 71, 72, 73, 74, 75, 76, 77, 78, 79, 80, 81, 82, 83, 84, 85, 86, 87, 88, 89, 90, 91, 92, 93, 94].filterMap (fun i => (lwW T sa q1 q2 u v c1 c2 c3 c4 c5 q vl wl rf rl rd)[i]?))) (w1 := [(q1, .inr (9, [.ref (u 0), .ref (u 1), .int (c1 0), .ref (u 2), .ref (u 3), .ref (u 11), .ref (u 34), .ref (u 38), .ref (u 40), .ref (u 44), .ref (u 65)])), ((u 44), .inl (T 6, 4, .inr (.inr (.inr (.inr (va_up (va_up (va_up (va_up (fun _ => none) 0 (some (u 45))) 1 (some (u 46))) 2 (some (u 47))) 3 (some (u 48)))))))), ((u 45), .inr (6, [.int (c2 28 0), .int (c2 29 0), .ref (u 49), .ref (u 50), .ref (u 51), .ref (u 52)])), ((u 46), .inr (6, [.int (c2 28 1), .int (c2 29 1), .ref (u 53), .ref (u 54), .ref (u 55), .ref (u 56)])), ((u 47), .inr (6, [.int (c2 28 2), .int (c2 29 2), .ref (u 57), .ref (u 58), .ref (u 59), .ref (u 60)])), ((u 48), .inr (6, [.int (c2 28 3), .int (c2 29 3), .ref (u 61), .ref (u 62), .ref (u 63), .ref (u 64)])), ((u 49), .inl (T 0, 30, .inl (c2 30))), ((u 50), .inl (T 1, 30, .inr (.inl (c3 3)))), ((u 51), .inl (T 2, 30, .inr (.inr (.inl (c4 0))))), ((u 52), .inl (T 3, 30, .inr (.inr (.inr (.inl (c5 0)))))), ((u 53), .inl (T 0, 30, .inl (c2 31))), ((u 54), .inl (T 1, 30, .inr (.inl (c3 4)))), ((u 55), .inl (T 2, 30, .inr (.inr (.inl (c4 1))))), ((u 56), .inl (T 3, 30, .inr (.inr (.inr (.inl (c5 1)))))), ((u 57), .inl (T 0, 30, .inl (c2 32))), ((u 58), .inl (T 1, 30, .inr (.inl (c3 5)))), ((u 59), .inl (T 2, 30, .inr (.inr (.inl (c4 2))))), ((u 60), .inl (T 3, 30, .inr (.inr (.inr (.inl (c5 2)))))), ((u 61), .inl (T 0, 30, .inl (c2 33))), ((u 62), .inl (T 1, 30, .inr (.inl (c3 6)))), ((u 63), .inl (T 2, 30, .inr (.inr (.inl (c4 3))))), ((u 64), .inl (T 3, 30, .inr (.inr (.inr (.inl (c5 3))))))]) hP hD [0, 45, 46, 47, 48, 49, 50, 51, 52, 53, 54, 55, 56, 57, 58, 59, 60, 61, 62, 63, 64, 65] [1, 2, 3, 4, 5, 6, 7, 8, 9, 10, 11, 12, 13, 14, 15, 16, 17, 18, 19, 20, 21, 22, 23, 24, 25, 26, 27, 28, 29, 30, 31, 32, 33, 34, 35, 36, 37, 38, 39, 40, 41, 42, 43, 44, 66, 67, 68, 69, 70, 71, 72, 73, 74, 75, 76, 77, 78, 79, 80, 81, 82, 83, 84, 85, 86, 87, 88, 89, 90, 91, 92, 93, 94] rfl rfl (by decide) (by decide) hk1 hFc hP1 hD1
  clear hP1 hD1 hFc
  generalize H1 = H at hP hS ⊢
  refine lv_pop2_2 hx hb dL_law_1464 rfl ?_
  refine lv_aload_n hx hb dL_law_1465 rfl (lv_at hl 1 rfl) ?_
  refine lv_aload_n hx hb dL_law_1466 rfl (lv_at hl 3 rfl) ?_
  refine lv_iload_n hx hb dL_law_1467 rfl (lv_at hl 0 rfl) ?_
  refine lv_iconst (v := 1) hx hb dL_law_1468 (by decide) ?_
  refine lv_iadd hx hb dL_law_1469 ?_
  refine va_sld hx hb hX hbl hbA hS (by rw [vp_in_iff, hi_1]; omega) dL_law_1470 ?_
  refine lv_topi (fun z_7 ez_7 => ?_)
  have hsz_7 : z_1 = z_7 := ez_1.trans ez_7.symm
  subst hsz_7
  refine lv_aload_n hx hb dL_law_1471 rfl (lv_at hl 3 rfl) ?_
  refine lv_iload_n hx hb dL_law_1472 rfl (lv_at hl 0 rfl) ?_
  refine lv_iconst (v := 2) hx hb dL_law_1473 (by decide) ?_
  refine lv_iadd hx hb dL_law_1474 ?_
  refine va_sld hx hb hX hbl hbA hS (by rw [vp_in_iff, hi_2]; omega) dL_law_1475 ?_
  refine lv_topi (fun z_8 ez_8 => ?_)
  have hsz_8 : z_2 = z_8 := ez_2.trans ez_8.symm
  subst hsz_8
  refine lv_aload_n hx hb dL_law_1476 rfl (lv_at hl 3 rfl) ?_
  refine lv_iload_n hx hb dL_law_1477 rfl (lv_at hl 0 rfl) ?_
  refine lv_iconst (v := 3) hx hb dL_law_1478 (by decide) ?_
  refine lv_iadd hx hb dL_law_1479 ?_
  refine va_sld hx hb hX hbl hbA hS (by rw [vp_in_iff, hi_3]; omega) dL_law_1480 ?_
  refine lv_topi (fun z_9 ez_9 => ?_)
  have hsz_9 : z_3 = z_9 := ez_3.trans ez_9.symm
  subst hsz_9
  have hFc := va_free (wc := [(q2, .inr (10, [.int (q 0), .int (q 1), .int (q 2), .int (q 3), .int (q 4), .int (q 5), .int (q 6), .int (q 7), .ref (v 8), .ref (v 9), .ref (v 10), .ref (v 11), .ref (v 12), .ref (v 13), .int (q 14), .long vl, .long wl, .ref (v 17), .ref (v 18), .ref (v 19), .ref (v 20), .ref (v 21), .ref (v 22), .ref (v 23), .int (q 24), .ref (v 25), .int (q 26), .ref (v 27), .int (q 28), .int (q 29), .int (q 30), .int (q 31), .int (q 32), .int (q 33), .ref (v 34), .ref (v 35), .ref (v 36), .ref (v 37), .ref (v 38), .ref (v 39), .ref (v 40), .int (q 41), .ref (v 42), .int (q 43), .int (q 44)])), ((v 34), .inl (T 0, 4, .inl (rf 34))), ((v 35), .inl (T 0, 4, .inl (rf 35))), ((v 36), .inl (T 1, 120, .inr (.inl (rl 36)))), ((v 37), .inl (T 3, 120, .inr (.inr (.inr (.inl rd)))))]) hD hS hA [49, 65, 66, 67, 68] rfl
  refine va_calllD hd_6 (va_runV_D (As := [.int z_1, .int z_2, .int z_3]) (rest := []) ⟨hx, hb, hml, hown, hts⟩ (c_X13_read l D T _ q2 q vl wl v (rf 34) (rf 35) (rl 36) rd z_1 z_2 z_3 hsz) (cwV 3 hts lg_X13_read rfl rfl rfl (by decide +kernel) ⟨Nat.le_of_ble_eq_true rfl, Nat.le_of_ble_eq_true rfl⟩) (pW_V (ci := 10) (q0 := 49) hP hE hD rfl rfl [49, 65, 66, 67, 68] (by decide) rfl rfl) rfl rfl hl.1 rfl (lv_room (Nat.le_of_ble_eq_true rfl)) dL_law_1481 ⟨Nat.le_of_ble_eq_true rfl, Nat.le_of_ble_eq_true rfl⟩) hS (fun q _ h => hFc q h) hFc (fun r_10 u_11 t H1 locs ht hvm hr_10 hB hz1 hk1 hS d_12 hd_12 => ?_)
  have hts := dr_words hts0 d_12
  have hE : ekK D T (s.setDrawn d_12) := ekK.same (u := s) rfl hE0
  have hown : (s.setDrawn d_12).vm.findClass RL = some m.cls := hown0
  have hV : evK ad sa av ta A (s.setDrawn d_12) (s.setDrawn d_12).heap := evK.same (u := s) rfl hV0
  obtain ⟨hP1, hD1⟩ := hB
  rw [ht] at hP1
  obtain ⟨hP, hD⟩ := va_join (wr := ([0, 1, 2, 3, 4, 5, 6, 7, 8, 9, 10, 11, 12, 13, 14, 15, 16, 17, 18, 19, 20, 21, 22, 23, 24, 25, 26, 27, 28, 29, 30, 31, 32, 33, 34, 35, 36, 37, 38, 39, 40, 41, 42, 43, 44, 45, 46, 47, 48, 50, 51, 52, 53, 54, 55, 56, 57, 58, 59, 60, 61, 62, 63, 64, 69, 70, 71, 72, 73, 74, 75, 76, 77, 78, 79, 80, 81, 82, 83, 84, 85, 86, 87, 88, 89, 90, 91, 92, 93, 94].filterMap (fun i => (([1, 2, 3, 4, 5, 6, 7, 8, 9, 10, 11, 12, 13, 14, 15, 16, 17, 18, 19, 20, 21, 22, 23, 24, 25, 26, 27, 28, 29, 30, 31, 32, 33, 34, 35, 36, 37, 38, 39, 40, 41, 42, 43, 44, 66, 67, 68, 69, 70, 71, 72, 73, 74, 75, 76, 77, 78, 79, 80, 81, 82, 83, 84, 85, 86, 87, 88, 89, 90, 91, 92, 93, 94].filterMap (fun i => (lwW T sa q1 q2 u v c1 c2 c3 c4 c5 q vl wl rf rl rd)[i]?)) ++ [(q1, .inr (9, [.ref (u 0), .ref (u 1), .int (c1 0), .ref (u 2), .ref (u 3), .ref (u 11), .ref (u 34), .ref (u 38), .ref (u 40), .ref (u 44), .ref (u 65)])), ((u 44), .inl (T 6, 4, .inr (.inr (.inr (.inr (va_up (va_up (va_up (va_up (fun _ => none) 0 (some (u 45))) 1 (some (u 46))) 2 (some (u 47))) 3 (some (u 48)))))))), ((u 45), .inr (6, [.int (c2 28 0), .int (c2 29 0), .ref (u 49), .ref (u 50), .ref (u 51), .ref (u 52)])), ((u 46), .inr (6, [.int (c2 28 1), .int (c2 29 1), .ref (u 53), .ref (u 54), .ref (u 55), .ref (u 56)])), ((u 47), .inr (6, [.int (c2 28 2), .int (c2 29 2), .ref (u 57), .ref (u 58), .ref (u 59), .ref (u 60)])), ((u 48), .inr (6, [.int (c2 28 3), .int (c2 29 3), .ref (u 61), .ref (u 62), .ref (u 63), .ref (u 64)])), ((u 49), .inl (T 0, 30, .inl (c2 30))), ((u 50), .inl (T 1, 30, .inr (.inl (c3 3)))), ((u 51), .inl (T 2, 30, .inr (.inr (.inl (c4 0))))), ((u 52), .inl (T 3, 30, .inr (.inr (.inr (.inl (c5 0)))))), ((u 53), .inl (T 0, 30, .inl (c2 31))), ((u 54), .inl (T 1, 30, .inr (.inl (c3 4)))), ((u 55), .inl (T 2, 30, .inr (.inr (.inl (c4 1))))), ((u 56), .inl (T 3, 30, .inr (.inr (.inr (.inl (c5 1)))))), ((u 57), .inl (T 0, 30, .inl (c2 32))), ((u 58), .inl (T 1, 30, .inr (.inl (c3 5)))), ((u 59), .inl (T 2, 30, .inr (.inr (.inl (c4 2))))), ((u 60), .inl (T 3, 30, .inr (.inr (.inr (.inl (c5 2)))))), ((u 61), .inl (T 0, 30, .inl (c2 33))), ((u 62), .inl (T 1, 30, .inr (.inl (c3 6)))), ((u 63), .inl (T 2, 30, .inr (.inr (.inl (c4 3))))), ((u 64), .inl (T 3, 30, .inr (.inr (.inr (.inl (c5 3))))))])[i]?))) (w1 := [(q2, .inr (10, [.int (q 0), .int (q 1), .int (q 2), .int (q 3), .int (q 4), .int (q 5), .int (q 6), .int (q 7), .ref (v 8), .ref (v 9), .ref (v 10), .ref (v 11), .ref (v 12), .ref (v 13), .int (q 14), .long vl, .long wl, .ref (v 17), .ref (v 18), .ref (v 19), .ref (v 20), .ref (v 21), .ref (v 22), .ref (v 23), .int (q 24), .ref (v 25), .int (q 26), .ref (v 27), .int (q 28), .int (q 29), .int (q 30), .int (q 31), .int (q 32), .int (q 33), .ref (v 34), .ref (v 35), .ref (v 36), .ref (v 37), .ref (v 38), .ref (v 39), .ref (v 40), .int (q 41), .ref (v 42), .int (q 43), .int (q 44)])), ((v 34), .inl (T 0, 4, .inl (rf 34))), ((v 35), .inl (T 0, 4, .inl (rf 35))), ((v 36), .inl (T 1, 120, .inr (.inl (rl 36)))), ((v 37), .inl (T 3, 120, .inr (.inr (.inr (.inl rd)))))]) hP hD [49, 65, 66, 67, 68] [0, 1, 2, 3, 4, 5, 6, 7, 8, 9, 10, 11, 12, 13, 14, 15, 16, 17, 18, 19, 20, 21, 22, 23, 24, 25, 26, 27, 28, 29, 30, 31, 32, 33, 34, 35, 36, 37, 38, 39, 40, 41, 42, 43, 44, 45, 46, 47, 48, 50, 51, 52, 53, 54, 55, 56, 57, 58, 59, 60, 61, 62, 63, 64, 69, 70, 71, 72, 73, 74, 75, 76, 77, 78, 79, 80, 81, 82, 83, 84, 85, 86, 87, 88, 89, 90, 91, 92, 93, 94] rfl rfl (by decide) (by decide) hk1 hFc hP1 hD1
  clear hP1 hD1 hFc
  generalize H1 = H at hP hS ⊢
  refine lv_pop2_2 hx hb dL_law_1484 rfl ?_
  refine lv_goto (tgt := 1867) hx hb dL_law_1485 (by decide) ?_
  exact K c1 c2 c3 c4 c5 q vl wl rf rl rd ls H locs _ hd_12 ⟨(show (0 ≤ (((c1 1) : Int32)).toInt ∧ (((c1 1) : Int32)).toInt ≤ 24) ∧ (0 ≤ (((c1 2) : Int32)).toInt ∧ (((c1 2) : Int32)).toInt ≤ 24) ∧ (0 ≤ (((c2 16 0) : Int32)).toInt ∧ (((c2 16 0) : Int32)).toInt ≤ 12) ∧ (0 ≤ (((c2 16 1) : Int32)).toInt ∧ (((c2 16 1) : Int32)).toInt ≤ 12) ∧ (0 ≤ (((c2 16 2) : Int32)).toInt ∧ (((c2 16 2) : Int32)).toInt ≤ 12) ∧ (0 ≤ (((c2 17 0) : Int32)).toInt ∧ (((c2 17 0) : Int32)).toInt ≤ 12) ∧ (0 ≤ (((c2 17 1) : Int32)).toInt ∧ (((c2 17 1) : Int32)).toInt ≤ 12) ∧ (0 ≤ (((c2 17 2) : Int32)).toInt ∧ (((c2 17 2) : Int32)).toInt ≤ 12) ∧ (0 ≤ (((c1 7) : Int32)).toInt ∧ (((c1 7) : Int32)).toInt ≤ 120) ∧ ((-1 ≤ (((c2 28 0) : Int32)).toInt ∧ (((c2 28 0) : Int32)).toInt ≤ 3) ∧ (0 ≤ (((c2 29 0) : Int32)).toInt ∧ (((c2 29 0) : Int32)).toInt ≤ 30)) ∧ ((-1 ≤ (((c2 28 1) : Int32)).toInt ∧ (((c2 28 1) : Int32)).toInt ≤ 3) ∧ (0 ≤ (((c2 29 1) : Int32)).toInt ∧ (((c2 29 1) : Int32)).toInt ≤ 30)) ∧ ((-1 ≤ (((c2 28 2) : Int32)).toInt ∧ (((c2 28 2) : Int32)).toInt ≤ 3) ∧ (0 ≤ (((c2 29 2) : Int32)).toInt ∧ (((c2 29 2) : Int32)).toInt ≤ 30)) ∧ ((-1 ≤ (((c2 28 3) : Int32)).toInt ∧ (((c2 28 3) : Int32)).toInt ≤ 3) ∧ (0 ≤ (((c2 29 3) : Int32)).toInt ∧ (((c2 29 3) : Int32)).toInt ≤ 30)) from (by (try simp only [ti_0, ti_1, ti_n1]); omega)), (show okC (c2 2) (c2 4) (c2 5) (c2 6) from (by assumption)), (show okC (c2 9) (c2 11) (c2 12) (c2 13) from (by assumption)), (show (0 ≤ (((q 7) : Int32)).toInt ∧ (((q 7) : Int32)).toInt ≤ 24) ∧ ((1 ≤ (((q 4) : Int32)).toInt ∧ (((q 4) : Int32)).toInt ≤ 9) ∧ (1 ≤ (((q 6) : Int32)).toInt ∧ (((q 6) : Int32)).toInt ≤ 9)) ∧ (0 ≤ (((q 26) : Int32)).toInt ∧ (((q 26) : Int32)).toInt ≤ 120) from (by (try simp only [ti_0, ti_1, ti_n1]); omega)), (show okR (rf 8) (rf 10) (rf 11) from (by assumption)), (show isB (q 14) from (by first | assumption | exact isB0 | exact isB1)), (show ∀ j : Nat, isB ((rf 22) j) from (by assumption)), (show ∀ k : Nat, k < 3 → 0 ≤ ((rf 13) k).toInt ∧ ((rf 13) k).toInt ≤ 12 from (by assumption)), (show ∀ k : Nat, k < 4 → 0 ≤ ((rf 35) k).toInt ∧ ((rf 35) k).toInt ≤ 30 from (by assumption)), (show ∀ k : Nat, k < 4 → ((rf 38) k).toInt = 2 → 1 ≤ ((rl 40) k).toInt from (by assumption)), (show ¬ ((q 41) : Int32).toInt = 0 → okK (rf 42) from (by first | assumption | exact (fun _ => by assumption)))⟩ (show va_P D vwCl (lwW T sa q1 q2 u v c1 c2 c3 c4 c5 q vl wl rf rl rd) H from hP.sub [68, 0, 1, 2, 3, 4, 5, 6, 7, 8, 9, 10, 11, 12, 13, 14, 15, 16, 17, 18, 19, 20, 21, 22, 23, 24, 25, 26, 27, 28, 29, 30, 31, 32, 33, 34, 35, 36, 37, 38, 39, 40, 41, 42, 43, 69, 70, 71, 72, 73, 74, 75, 76, 77, 78, 79, 80, 81, 82, 83, 84, 85, 86, 87, 88, 89, 44, 45, 46, 47, 48, 90, 49, 50, 51, 52, 53, 54, 55, 56, 57, 58, 59, 60, 61, 62, 63, 91, 92, 93, 94, 64, 65, 66, 67] rfl) (show va_D A (lwW T sa q1 q2 u v c1 c2 c3 c4 c5 q vl wl rf rl rd) from hD.sub [68, 0, 1, 2, 3, 4, 5, 6, 7, 8, 9, 10, 11, 12, 13, 14, 15, 16, 17, 18, 19, 20, 21, 22, 23, 24, 25, 26, 27, 28, 29, 30, 31, 32, 33, 34, 35, 36, 37, 38, 39, 40, 41, 42, 43, 69, 70, 71, 72, 73, 74, 75, 76, 77, 78, 79, 80, 81, 82, 83, 84, 85, 86, 87, 88, 89, 44, 45, 46, 47, 48, 90, 49, 50, 51, 52, 53, 54, 55, 56, 57, 58, 59, 60, 61, 62, 63, 91, 92, 93, 94, 64, 65, 66, 67] (by decide) rfl) hS hl
theorem dL_law_1488 : decode cL_law 1488 = .ok (.aload_n 1, 1) := by decide +kernel
theorem dL_law_1489 : decode cL_law 1489 = .ok (.aload_n 0, 1) := by decide +kernel
theorem dL_law_1490 : decode cL_law 1490 = .ok (.iload_n 3, 1) := by decide +kernel
theorem dL_law_1491 : decode cL_law 1491 = .ok (.iconst 1, 1) := by decide +kernel
theorem dL_law_1492 : decode cL_law 1492 = .ok (.iadd, 1) := by decide +kernel
theorem dL_law_1493 : decode cL_law 1493 = .ok (.iaload, 1) := by decide +kernel
theorem dL_law_1494 : decode cL_law 1494 = .ok (.aload_n 0, 1) := by decide +kernel
theorem dL_law_1495 : decode cL_law 1495 = .ok (.iload_n 3, 1) := by decide +kernel
theorem dL_law_1496 : decode cL_law 1496 = .ok (.iconst 2, 1) := by decide +kernel
theorem dL_law_1497 : decode cL_law 1497 = .ok (.iadd, 1) := by decide +kernel
theorem dL_law_1498 : decode cL_law 1498 = .ok (.iaload, 1) := by decide +kernel
theorem dL_law_1499 : decode cL_law 1499 = .ok (.invokevirtual 152, 3) := by decide +kernel
theorem dL_law_1502 : decode cL_law 1502 = .ok (.pop, 1) := by decide +kernel
theorem dL_law_1503 : decode cL_law 1503 = .ok (.aload_n 2, 1) := by decide +kernel
theorem dL_law_1504 : decode cL_law 1504 = .ok (.aload_n 0, 1) := by decide +kernel
theorem dL_law_1505 : decode cL_law 1505 = .ok (.iload_n 3, 1) := by decide +kernel
theorem dL_law_1506 : decode cL_law 1506 = .ok (.iconst 1, 1) := by decide +kernel
theorem dL_law_1507 : decode cL_law 1507 = .ok (.iadd, 1) := by decide +kernel
theorem dL_law_1508 : decode cL_law 1508 = .ok (.iaload, 1) := by decide +kernel
theorem dL_law_1509 : decode cL_law 1509 = .ok (.aload_n 0, 1) := by decide +kernel
theorem dL_law_1510 : decode cL_law 1510 = .ok (.iload_n 3, 1) := by decide +kernel
theorem dL_law_1511 : decode cL_law 1511 = .ok (.iconst 2, 1) := by decide +kernel
theorem dL_law_1512 : decode cL_law 1512 = .ok (.iadd, 1) := by decide +kernel
theorem dL_law_1513 : decode cL_law 1513 = .ok (.iaload, 1) := by decide +kernel
theorem dL_law_1514 : decode cL_law 1514 = .ok (.invokevirtual 155, 3) := by decide +kernel
theorem dL_law_1517 : decode cL_law 1517 = .ok (.pop, 1) := by decide +kernel
theorem dL_law_1518 : decode cL_law 1518 = .ok (.goto 349, 3) := by decide +kernel
set_option maxRecDepth 40000 in
theorem lg_X12_halve : GoodIn lw_tbl (wsV RL 152 RX12 yX12_halve wsX12_halve) := goodIn_app (gl_cons ⟨lwt_3 _ (List.mem_of_getElem? (i := 98) (by decide +kernel)), by decide +kernel⟩ (gl_cons ⟨lwt_3 _ (List.mem_of_getElem? (i := 99) (by decide +kernel)), by decide +kernel⟩ (gl_cons ⟨lwt_3 _ (List.mem_of_getElem? (i := 100) (by decide +kernel)), by decide +kernel⟩ (gl_cons ⟨lwt_0 _ (List.mem_of_getElem? (i := 1) (by decide +kernel)), by decide +kernel⟩ gl_nil)))) lgg_X12_halve
set_option maxRecDepth 40000 in
theorem lg_X13_halve : GoodIn lw_tbl (wsV RL 155 RX13 yX13_halve wsX13_halve) := goodIn_app (gl_cons ⟨lwt_5 _ (List.mem_of_getElem? (i := 218) (by decide +kernel)), by decide +kernel⟩ (gl_cons ⟨lwt_5 _ (List.mem_of_getElem? (i := 219) (by decide +kernel)), by decide +kernel⟩ (gl_cons ⟨lwt_5 _ (List.mem_of_getElem? (i := 220) (by decide +kernel)), by decide +kernel⟩ (gl_cons ⟨lwt_0 _ (List.mem_of_getElem? (i := 11) (by decide +kernel)), by decide +kernel⟩ gl_nil)))) lgg_X13_halve
set_option maxHeartbeats 8000000 in
set_option maxRecDepth 100000 in
theorem law_c32 {p : Program} {e : Env} {s : State} {m : MethodId} {below : List Frame} {meth : Method} {c : Code} {l : Launch} {b L : Nat} {xs : Nat → Int32} (hL : L ≤ 3584) (C0 : lw_At p s m meth c b L xs) {D : va_G} {T : Nat → ClassId} {ad sa av : Nat → Nat} {ta : Nat} {A : Nat → Prop} (hA : ∀ q : Nat, s.heap.size ≤ q → A q) (hAf : ∀ q : Nat, A q → s.heap.size ≤ q) (hbA : ¬ A b) (hE0 : ekK D T s) (hV0 : evK ad sa av ta A s s.heap) {q1 q2 : Nat} {u v : Nat → Nat} {ii : Int32} (hii : 0 ≤ ii.toInt ∧ ii.toInt + 7 ≤ L) (K : lwK p l e s m below meth c b D T sa A q1 q2 u v ii) (c1 : Nat → Int32) (c2 : Nat → Nat → Int32) (c3 : Nat → Nat → Int64) (c4 : Nat → Nat → UInt32) (c5 : Nat → Nat → UInt64) (q : Nat → Int32) (vl wl : Int64) (rf : Nat → Nat → Int32) (rl : Nat → Nat → Int64) (rd : Nat → UInt64) {ls : Array Slot} {H : Heap} {locs : List Loc} {d0 : Drawn} (hd0 : s.drawn.sameBut d0 lw_cs) (hI : lwI c1 c2 q rf rl) (hP : va_P D vwCl (lwW T sa q1 q2 u v c1 c2 c3 c4 c5 q vl wl rf rl rd) H) (hD : va_D A (lwW T sa q1 q2 u v c1 c2 c3 c4 c5 q vl wl rf rl rd)) (hS : va_S A s.heap H locs) (hl : lv_has ls 4 [(3, .int ii), (2, .ref q2), (1, .ref q1), (0, .ref b)]) : W p l e room_1 (s.setDrawn d0) m #[Value.ref b] below meth c H locs 95 6031 (lw_Z below #[Value.ref b] s) (F0 m 1488 ls []) := by
  obtain ⟨hx, hb, hr, hml, hown0, hts0, hX, hbl, hlocks, hgv⟩ := id C0
  have hown0 : s.vm.findClass RL = some m.cls := hown0
  have hts := dr_words hts0 d0
  have hE : ekK D T (s.setDrawn d0) := ekK.same (u := s) rfl hE0
  have hown : (s.setDrawn d0).vm.findClass RL = some m.cls := hown0
  have hV : evK ad sa av ta A (s.setDrawn d0) (s.setDrawn d0).heap := evK.same (u := s) rfl hV0
  obtain ⟨hA1, hok, hokk, hA2, hokR, hB, hZ, hbg, hsz, hhd, hKb⟩ := hI
  have hA1 : (0 ≤ (((c1 1) : Int32)).toInt ∧ (((c1 1) : Int32)).toInt ≤ 24) ∧ (0 ≤ (((c1 2) : Int32)).toInt ∧ (((c1 2) : Int32)).toInt ≤ 24) ∧ (0 ≤ (((c2 16 0) : Int32)).toInt ∧ (((c2 16 0) : Int32)).toInt ≤ 12) ∧ (0 ≤ (((c2 16 1) : Int32)).toInt ∧ (((c2 16 1) : Int32)).toInt ≤ 12) ∧ (0 ≤ (((c2 16 2) : Int32)).toInt ∧ (((c2 16 2) : Int32)).toInt ≤ 12) ∧ (0 ≤ (((c2 17 0) : Int32)).toInt ∧ (((c2 17 0) : Int32)).toInt ≤ 12) ∧ (0 ≤ (((c2 17 1) : Int32)).toInt ∧ (((c2 17 1) : Int32)).toInt ≤ 12) ∧ (0 ≤ (((c2 17 2) : Int32)).toInt ∧ (((c2 17 2) : Int32)).toInt ≤ 12) ∧ (0 ≤ (((c1 7) : Int32)).toInt ∧ (((c1 7) : Int32)).toInt ≤ 120) ∧ ((-1 ≤ (((c2 28 0) : Int32)).toInt ∧ (((c2 28 0) : Int32)).toInt ≤ 3) ∧ (0 ≤ (((c2 29 0) : Int32)).toInt ∧ (((c2 29 0) : Int32)).toInt ≤ 30)) ∧ ((-1 ≤ (((c2 28 1) : Int32)).toInt ∧ (((c2 28 1) : Int32)).toInt ≤ 3) ∧ (0 ≤ (((c2 29 1) : Int32)).toInt ∧ (((c2 29 1) : Int32)).toInt ≤ 30)) ∧ ((-1 ≤ (((c2 28 2) : Int32)).toInt ∧ (((c2 28 2) : Int32)).toInt ≤ 3) ∧ (0 ≤ (((c2 29 2) : Int32)).toInt ∧ (((c2 29 2) : Int32)).toInt ≤ 30)) ∧ ((-1 ≤ (((c2 28 3) : Int32)).toInt ∧ (((c2 28 3) : Int32)).toInt ≤ 3) ∧ (0 ≤ (((c2 29 3) : Int32)).toInt ∧ (((c2 29 3) : Int32)).toInt ≤ 30)) := hA1
  have hok : okC (c2 2) (c2 4) (c2 5) (c2 6) := hok
  have hokk : okC (c2 9) (c2 11) (c2 12) (c2 13) := hokk
  have hA2 : (0 ≤ (((q 7) : Int32)).toInt ∧ (((q 7) : Int32)).toInt ≤ 24) ∧ ((1 ≤ (((q 4) : Int32)).toInt ∧ (((q 4) : Int32)).toInt ≤ 9) ∧ (1 ≤ (((q 6) : Int32)).toInt ∧ (((q 6) : Int32)).toInt ≤ 9)) ∧ (0 ≤ (((q 26) : Int32)).toInt ∧ (((q 26) : Int32)).toInt ≤ 120) := hA2
  have hokR : okR (rf 8) (rf 10) (rf 11) := hokR
  have hB : isB (q 14) := hB
  have hZ : ∀ j : Nat, isB ((rf 22) j) := hZ
  have hbg : ∀ k : Nat, k < 3 → 0 ≤ ((rf 13) k).toInt ∧ ((rf 13) k).toInt ≤ 12 := hbg
  have hsz : ∀ k : Nat, k < 4 → 0 ≤ ((rf 35) k).toInt ∧ ((rf 35) k).toInt ≤ 30 := hsz
  have hhd : ∀ k : Nat, k < 4 → ((rf 38) k).toInt = 2 → 1 ≤ ((rl 40) k).toInt := hhd
  have hKb : ¬ ((q 41) : Int32).toInt = 0 → okK (rf 42) := hKb
  have hi_1 : (ii + 1).toInt = ii.toInt + 1 := by rw [fb_addI (by rw [ti_1]; omega) (by rw [ti_1]; omega), ti_1]
  have hi_2 : (ii + 2).toInt = ii.toInt + 2 := by rw [fb_addI (by rw [ti_2]; omega) (by rw [ti_2]; omega), ti_2]
  have hi_3 : (ii + 3).toInt = ii.toInt + 3 := by rw [fb_addI (by rw [ti_3]; omega) (by rw [ti_3]; omega), ti_3]
  have hi_4 : (ii + 4).toInt = ii.toInt + 4 := by rw [fb_addI (by rw [ti_4]; omega) (by rw [ti_4]; omega), ti_4]
  have hi_5 : (ii + 5).toInt = ii.toInt + 5 := by rw [fb_addI (by rw [ti_5]; omega) (by rw [ti_5]; omega), ti_5]
  have hi_6 : (ii + 6).toInt = ii.toInt + 6 := by rw [fb_addI (by rw [ti_6]; omega) (by rw [ti_6]; omega), ti_6]
  refine lv_aload_n hx hb dL_law_1488 rfl (lv_at hl 2 rfl) ?_
  refine lv_aload_n hx hb dL_law_1489 rfl (lv_at hl 3 rfl) ?_
  refine lv_iload_n hx hb dL_law_1490 rfl (lv_at hl 0 rfl) ?_
  refine lv_iconst (v := 1) hx hb dL_law_1491 (by decide) ?_
  refine lv_iadd hx hb dL_law_1492 ?_
  refine va_sld hx hb hX hbl hbA hS (by rw [vp_in_iff, hi_1]; omega) dL_law_1493 ?_
  refine lv_topi (fun z_1 ez_1 => ?_)
  refine lv_aload_n hx hb dL_law_1494 rfl (lv_at hl 3 rfl) ?_
  refine lv_iload_n hx hb dL_law_1495 rfl (lv_at hl 0 rfl) ?_
  refine lv_iconst (v := 2) hx hb dL_law_1496 (by decide) ?_
  refine lv_iadd hx hb dL_law_1497 ?_
  refine va_sld hx hb hX hbl hbA hS (by rw [vp_in_iff, hi_2]; omega) dL_law_1498 ?_
  refine lv_topi (fun z_2 ez_2 => ?_)
  have hFc := va_free (wc := [(q1, .inr (9, [.ref (u 0), .ref (u 1), .int (c1 0), .ref (u 2), .ref (u 3), .ref (u 11), .ref (u 34), .ref (u 38), .ref (u 40), .ref (u 44), .ref (u 65)])), ((u 44), .inl (T 6, 4, .inr (.inr (.inr (.inr (va_up (va_up (va_up (va_up (fun _ => none) 0 (some (u 45))) 1 (some (u 46))) 2 (some (u 47))) 3 (some (u 48)))))))), ((u 45), .inr (6, [.int (c2 28 0), .int (c2 29 0), .ref (u 49), .ref (u 50), .ref (u 51), .ref (u 52)])), ((u 46), .inr (6, [.int (c2 28 1), .int (c2 29 1), .ref (u 53), .ref (u 54), .ref (u 55), .ref (u 56)])), ((u 47), .inr (6, [.int (c2 28 2), .int (c2 29 2), .ref (u 57), .ref (u 58), .ref (u 59), .ref (u 60)])), ((u 48), .inr (6, [.int (c2 28 3), .int (c2 29 3), .ref (u 61), .ref (u 62), .ref (u 63), .ref (u 64)])), ((u 49), .inl (T 0, 30, .inl (c2 30))), ((u 50), .inl (T 1, 30, .inr (.inl (c3 3)))), ((u 51), .inl (T 2, 30, .inr (.inr (.inl (c4 0))))), ((u 52), .inl (T 3, 30, .inr (.inr (.inr (.inl (c5 0)))))), ((u 53), .inl (T 0, 30, .inl (c2 31))), ((u 54), .inl (T 1, 30, .inr (.inl (c3 4)))), ((u 55), .inl (T 2, 30, .inr (.inr (.inl (c4 1))))), ((u 56), .inl (T 3, 30, .inr (.inr (.inr (.inl (c5 1)))))), ((u 57), .inl (T 0, 30, .inl (c2 32))), ((u 58), .inl (T 1, 30, .inr (.inl (c3 5)))), ((u 59), .inl (T 2, 30, .inr (.inr (.inl (c4 2))))), ((u 60), .inl (T 3, 30, .inr (.inr (.inr (.inl (c5 2)))))), ((u 61), .inl (T 0, 30, .inl (c2 33))), ((u 62), .inl (T 1, 30, .inr (.inl (c3 6)))), ((u 63), .inl (T 2, 30, .inr (.inr (.inl (c4 3))))), ((u 64), .inl (T 3, 30, .inr (.inr (.inr (.inl (c5 3))))))]) hD hS hA [0, 45, 46, 47, 48, 49, 50, 51, 52, 53, 54, 55, 56, 57, 58, 59, 60, 61, 62, 63, 64, 65] rfl
  refine va_calliD hd0 (va_runV_D (As := [.int z_1, .int z_2]) (rest := []) ⟨hx, hb, hml, hown, hts⟩ (c_X12_halve l D T _ q1 (u 44) [.ref (u 0), .ref (u 1), .int (c1 0), .ref (u 2), .ref (u 3), .ref (u 11), .ref (u 34), .ref (u 38), .ref (u 40), .ref (u 44), .ref (u 65)] (u 45) (u 46) (u 47) (u 48) (u 49) (u 50) (u 51) (u 52) (u 53) (u 54) (u 55) (u 56) (u 57) (u 58) (u 59) (u 60) (u 61) (u 62) (u 63) (u 64) (fun k => [(c2 28 0), (c2 28 1), (c2 28 2), (c2 28 3)].getD k 0) (fun k => [(c2 29 0), (c2 29 1), (c2 29 2), (c2 29 3)].getD k 0) (fun k => [(c2 30), (c2 31), (c2 32), (c2 33)].getD k (c2 30)) (fun k => [(c3 3), (c3 4), (c3 5), (c3 6)].getD k (c3 3)) c4 c5 z_1 z_2 rfl (by omega) (by omega) (by omega) (by omega)) (cwV 2 hts lg_X12_halve rfl rfl rfl (by decide +kernel) ⟨Nat.le_of_ble_eq_true rfl, Nat.le_of_ble_eq_true rfl⟩) (pW_V (ci := 9) (q0 := 0) hP hE hD rfl rfl [0, 45, 46, 47, 48, 49, 50, 51, 52, 53, 54, 55, 56, 57, 58, 59, 60, 61, 62, 63, 64, 65] (by decide) rfl rfl) rfl rfl hl.1 rfl (lv_room (Nat.le_of_ble_eq_true rfl)) dL_law_1499 ⟨Nat.le_of_ble_eq_true rfl, Nat.le_of_ble_eq_true rfl⟩) hS (fun q _ h => hFc q h) hFc (fun r_3 u_4 t H1 locs ht hvm hr_3 hB hz1 hk1 hS d_5 hd_5 => ?_)
  have hts := dr_words hts0 d_5
  have hE : ekK D T (s.setDrawn d_5) := ekK.same (u := s) rfl hE0
  have hown : (s.setDrawn d_5).vm.findClass RL = some m.cls := hown0
  have hV : evK ad sa av ta A (s.setDrawn d_5) (s.setDrawn d_5).heap := evK.same (u := s) rfl hV0
  obtain ⟨so_6, sn_7, si_8, sl_9, sf_10, sd_11⟩ := u_4
  obtain ⟨hsso_6_0, hsso_6_1, hsso_6_2, hsso_6_3⟩ := hr_3.2
  obtain ⟨hP1, hD1⟩ := hB
  rw [ht] at hP1
  obtain ⟨hP, hD⟩ := va_join (wr := ([1, 2, 3, 4, 5, 6, 7, 8, 9, 10, 11, 12, 13, 14, 15, 16, 17, 18, 19, 20, 21, 22, 23, 24, 25, 26, 27, 28, 29, 30, 31, 32, 33, 34, 35, 36, 37, 38, 39, 40, 41, 42, 43, 44, 66, 67, 68, 69, 70, 71, 72, 73, 74, 75, 76, 77, 78, 79, 80, 81, 82, 83, 84, 85, 86, 87, 88, 89, 90, 91, 92, 93, 94].filterMap (fun i => (lwW T sa q1 q2 u v c1 c2 c3 c4 c5 q vl wl rf rl rd)[i]?))) (w1 := [(q1, .inr (9, [.ref (u 0), .ref (u 1), .int (c1 0), .ref (u 2), .ref (u 3), .ref (u 11), .ref (u 34), .ref (u 38), .ref (u 40), .ref (u 44), .ref (u 65)])), ((u 44), .inl (T 6, 4, .inr (.inr (.inr (.inr (va_up (va_up (va_up (va_up (fun _ => none) 0 (some (u 45))) 1 (some (u 46))) 2 (some (u 47))) 3 (some (u 48)))))))), ((u 45), .inr (6, [.int (so_6 0), .int (sn_7 0), .ref (u 49), .ref (u 50), .ref (u 51), .ref (u 52)])), ((u 46), .inr (6, [.int (so_6 1), .int (sn_7 1), .ref (u 53), .ref (u 54), .ref (u 55), .ref (u 56)])), ((u 47), .inr (6, [.int (so_6 2), .int (sn_7 2), .ref (u 57), .ref (u 58), .ref (u 59), .ref (u 60)])), ((u 48), .inr (6, [.int (so_6 3), .int (sn_7 3), .ref (u 61), .ref (u 62), .ref (u 63), .ref (u 64)])), ((u 49), .inl (T 0, 30, .inl (si_8 0))), ((u 50), .inl (T 1, 30, .inr (.inl (sl_9 0)))), ((u 51), .inl (T 2, 30, .inr (.inr (.inl (sf_10 0))))), ((u 52), .inl (T 3, 30, .inr (.inr (.inr (.inl (sd_11 0)))))), ((u 53), .inl (T 0, 30, .inl (si_8 1))), ((u 54), .inl (T 1, 30, .inr (.inl (sl_9 1)))), ((u 55), .inl (T 2, 30, .inr (.inr (.inl (sf_10 1))))), ((u 56), .inl (T 3, 30, .inr (.inr (.inr (.inl (sd_11 1)))))), ((u 57), .inl (T 0, 30, .inl (si_8 2))), ((u 58), .inl (T 1, 30, .inr (.inl (sl_9 2)))), ((u 59), .inl (T 2, 30, .inr (.inr (.inl (sf_10 2))))), ((u 60), .inl (T 3, 30, .inr (.inr (.inr (.inl (sd_11 2)))))), ((u 61), .inl (T 0, 30, .inl (si_8 3))), ((u 62), .inl (T 1, 30, .inr (.inl (sl_9 3)))), ((u 63), .inl (T 2, 30, .inr (.inr (.inl (sf_10 3))))), ((u 64), .inl (T 3, 30, .inr (.inr (.inr (.inl (sd_11 3))))))]) hP hD [0, 45, 46, 47, 48, 49, 50, 51, 52, 53, 54, 55, 56, 57, 58, 59, 60, 61, 62, 63, 64, 65] [1, 2, 3, 4, 5, 6, 7, 8, 9, 10, 11, 12, 13, 14, 15, 16, 17, 18, 19, 20, 21, 22, 23, 24, 25, 26, 27, 28, 29, 30, 31, 32, 33, 34, 35, 36, 37, 38, 39, 40, 41, 42, 43, 44, 66, 67, 68, 69, 70, 71, 72, 73, 74, 75, 76, 77, 78, 79, 80, 81, 82, 83, 84, 85, 86, 87, 88, 89, 90, 91, 92, 93, 94] rfl rfl (by decide) (by decide) hk1 hFc hP1 hD1
  clear hP1 hD1 hFc
  generalize H1 = H at hP hS ⊢
  refine lv_pop hx hb dL_law_1502 rfl ?_
  refine lv_aload_n hx hb dL_law_1503 rfl (lv_at hl 1 rfl) ?_
  refine lv_aload_n hx hb dL_law_1504 rfl (lv_at hl 3 rfl) ?_
  refine lv_iload_n hx hb dL_law_1505 rfl (lv_at hl 0 rfl) ?_
  refine lv_iconst (v := 1) hx hb dL_law_1506 (by decide) ?_
  refine lv_iadd hx hb dL_law_1507 ?_
  refine va_sld hx hb hX hbl hbA hS (by rw [vp_in_iff, hi_1]; omega) dL_law_1508 ?_
  refine lv_topi (fun z_12 ez_12 => ?_)
  have hsz_12 : z_1 = z_12 := ez_1.trans ez_12.symm
  subst hsz_12
  refine lv_aload_n hx hb dL_law_1509 rfl (lv_at hl 3 rfl) ?_
  refine lv_iload_n hx hb dL_law_1510 rfl (lv_at hl 0 rfl) ?_
  refine lv_iconst (v := 2) hx hb dL_law_1511 (by decide) ?_
  refine lv_iadd hx hb dL_law_1512 ?_
  refine va_sld hx hb hX hbl hbA hS (by rw [vp_in_iff, hi_2]; omega) dL_law_1513 ?_
  refine lv_topi (fun z_13 ez_13 => ?_)
  have hsz_13 : z_2 = z_13 := ez_2.trans ez_13.symm
  subst hsz_13
  have hFc := va_free (wc := [(q2, .inr (10, [.int (q 0), .int (q 1), .int (q 2), .int (q 3), .int (q 4), .int (q 5), .int (q 6), .int (q 7), .ref (v 8), .ref (v 9), .ref (v 10), .ref (v 11), .ref (v 12), .ref (v 13), .int (q 14), .long vl, .long wl, .ref (v 17), .ref (v 18), .ref (v 19), .ref (v 20), .ref (v 21), .ref (v 22), .ref (v 23), .int (q 24), .ref (v 25), .int (q 26), .ref (v 27), .int (q 28), .int (q 29), .int (q 30), .int (q 31), .int (q 32), .int (q 33), .ref (v 34), .ref (v 35), .ref (v 36), .ref (v 37), .ref (v 38), .ref (v 39), .ref (v 40), .int (q 41), .ref (v 42), .int (q 43), .int (q 44)])), ((v 34), .inl (T 0, 4, .inl (rf 34))), ((v 35), .inl (T 0, 4, .inl (rf 35))), ((v 36), .inl (T 1, 120, .inr (.inl (rl 36)))), ((v 37), .inl (T 3, 120, .inr (.inr (.inr (.inl rd)))))]) hD hS hA [49, 65, 66, 67, 68] rfl
  refine va_calliD hd_5 (va_runV_D (As := [.int z_1, .int z_2]) (rest := []) ⟨hx, hb, hml, hown, hts⟩ (c_X13_halve l D T _ q2 q vl wl v (rf 34) (rf 35) (rl 36) rd z_1 z_2 hsz) (cwV 2 hts lg_X13_halve rfl rfl rfl (by decide +kernel) ⟨Nat.le_of_ble_eq_true rfl, Nat.le_of_ble_eq_true rfl⟩) (pW_V (ci := 10) (q0 := 49) hP hE hD rfl rfl [49, 65, 66, 67, 68] (by decide) rfl rfl) rfl rfl hl.1 rfl (lv_room (Nat.le_of_ble_eq_true rfl)) dL_law_1514 ⟨Nat.le_of_ble_eq_true rfl, Nat.le_of_ble_eq_true rfl⟩) hS (fun q _ h => hFc q h) hFc (fun r_14 u_15 t H1 locs ht hvm hr_14 hB hz1 hk1 hS d_16 hd_16 => ?_)
  have hts := dr_words hts0 d_16
  have hE : ekK D T (s.setDrawn d_16) := ekK.same (u := s) rfl hE0
  have hown : (s.setDrawn d_16).vm.findClass RL = some m.cls := hown0
  have hV : evK ad sa av ta A (s.setDrawn d_16) (s.setDrawn d_16).heap := evK.same (u := s) rfl hV0
  obtain ⟨f_17, f_18⟩ := u_15
  obtain ⟨hP1, hD1⟩ := hB
  rw [ht] at hP1
  obtain ⟨hP, hD⟩ := va_join (wr := ([0, 1, 2, 3, 4, 5, 6, 7, 8, 9, 10, 11, 12, 13, 14, 15, 16, 17, 18, 19, 20, 21, 22, 23, 24, 25, 26, 27, 28, 29, 30, 31, 32, 33, 34, 35, 36, 37, 38, 39, 40, 41, 42, 43, 44, 45, 46, 47, 48, 50, 51, 52, 53, 54, 55, 56, 57, 58, 59, 60, 61, 62, 63, 64, 69, 70, 71, 72, 73, 74, 75, 76, 77, 78, 79, 80, 81, 82, 83, 84, 85, 86, 87, 88, 89, 90, 91, 92, 93, 94].filterMap (fun i => (([1, 2, 3, 4, 5, 6, 7, 8, 9, 10, 11, 12, 13, 14, 15, 16, 17, 18, 19, 20, 21, 22, 23, 24, 25, 26, 27, 28, 29, 30, 31, 32, 33, 34, 35, 36, 37, 38, 39, 40, 41, 42, 43, 44, 66, 67, 68, 69, 70, 71, 72, 73, 74, 75, 76, 77, 78, 79, 80, 81, 82, 83, 84, 85, 86, 87, 88, 89, 90, 91, 92, 93, 94].filterMap (fun i => (lwW T sa q1 q2 u v c1 c2 c3 c4 c5 q vl wl rf rl rd)[i]?)) ++ [(q1, .inr (9, [.ref (u 0), .ref (u 1), .int (c1 0), .ref (u 2), .ref (u 3), .ref (u 11), .ref (u 34), .ref (u 38), .ref (u 40), .ref (u 44), .ref (u 65)])), ((u 44), .inl (T 6, 4, .inr (.inr (.inr (.inr (va_up (va_up (va_up (va_up (fun _ => none) 0 (some (u 45))) 1 (some (u 46))) 2 (some (u 47))) 3 (some (u 48)))))))), ((u 45), .inr (6, [.int (so_6 0), .int (sn_7 0), .ref (u 49), .ref (u 50), .ref (u 51), .ref (u 52)])), ((u 46), .inr (6, [.int (so_6 1), .int (sn_7 1), .ref (u 53), .ref (u 54), .ref (u 55), .ref (u 56)])), ((u 47), .inr (6, [.int (so_6 2), .int (sn_7 2), .ref (u 57), .ref (u 58), .ref (u 59), .ref (u 60)])), ((u 48), .inr (6, [.int (so_6 3), .int (sn_7 3), .ref (u 61), .ref (u 62), .ref (u 63), .ref (u 64)])), ((u 49), .inl (T 0, 30, .inl (si_8 0))), ((u 50), .inl (T 1, 30, .inr (.inl (sl_9 0)))), ((u 51), .inl (T 2, 30, .inr (.inr (.inl (sf_10 0))))), ((u 52), .inl (T 3, 30, .inr (.inr (.inr (.inl (sd_11 0)))))), ((u 53), .inl (T 0, 30, .inl (si_8 1))), ((u 54), .inl (T 1, 30, .inr (.inl (sl_9 1)))), ((u 55), .inl (T 2, 30, .inr (.inr (.inl (sf_10 1))))), ((u 56), .inl (T 3, 30, .inr (.inr (.inr (.inl (sd_11 1)))))), ((u 57), .inl (T 0, 30, .inl (si_8 2))), ((u 58), .inl (T 1, 30, .inr (.inl (sl_9 2)))), ((u 59), .inl (T 2, 30, .inr (.inr (.inl (sf_10 2))))), ((u 60), .inl (T 3, 30, .inr (.inr (.inr (.inl (sd_11 2)))))), ((u 61), .inl (T 0, 30, .inl (si_8 3))), ((u 62), .inl (T 1, 30, .inr (.inl (sl_9 3)))), ((u 63), .inl (T 2, 30, .inr (.inr (.inl (sf_10 3))))), ((u 64), .inl (T 3, 30, .inr (.inr (.inr (.inl (sd_11 3))))))])[i]?))) (w1 := [(q2, .inr (10, [.int (q 0), .int (q 1), .int (q 2), .int (q 3), .int (q 4), .int (q 5), .int (q 6), .int (q 7), .ref (v 8), .ref (v 9), .ref (v 10), .ref (v 11), .ref (v 12), .ref (v 13), .int (q 14), .long vl, .long wl, .ref (v 17), .ref (v 18), .ref (v 19), .ref (v 20), .ref (v 21), .ref (v 22), .ref (v 23), .int (q 24), .ref (v 25), .int (q 26), .ref (v 27), .int (q 28), .int (q 29), .int (q 30), .int (q 31), .int (q 32), .int (q 33), .ref (v 34), .ref (v 35), .ref (v 36), .ref (v 37), .ref (v 38), .ref (v 39), .ref (v 40), .int (q 41), .ref (v 42), .int (q 43), .int (q 44)])), ((v 34), .inl (T 0, 4, .inl (rf 34))), ((v 35), .inl (T 0, 4, .inl (rf 35))), ((v 36), .inl (T 1, 120, .inr (.inl f_17))), ((v 37), .inl (T 3, 120, .inr (.inr (.inr (.inl f_18)))))]) hP hD [49, 65, 66, 67, 68] [0, 1, 2, 3, 4, 5, 6, 7, 8, 9, 10, 11, 12, 13, 14, 15, 16, 17, 18, 19, 20, 21, 22, 23, 24, 25, 26, 27, 28, 29, 30, 31, 32, 33, 34, 35, 36, 37, 38, 39, 40, 41, 42, 43, 44, 45, 46, 47, 48, 50, 51, 52, 53, 54, 55, 56, 57, 58, 59, 60, 61, 62, 63, 64, 69, 70, 71, 72, 73, 74, 75, 76, 77, 78, 79, 80, 81, 82, 83, 84, 85, 86, 87, 88, 89, 90, 91, 92, 93, 94] rfl rfl (by decide) (by decide) hk1 hFc hP1 hD1
  clear hP1 hD1 hFc
  generalize H1 = H at hP hS ⊢
  refine lv_pop hx hb dL_law_1517 rfl ?_
  refine lv_goto (tgt := 1867) hx hb dL_law_1518 (by decide) ?_
  exact K c1 (fun k => [(c2 0), (c2 1), (c2 2), (c2 3), (c2 4), (c2 5), (c2 6), (c2 7), (c2 8), (c2 9), (c2 10), (c2 11), (c2 12), (c2 13), (c2 14), (c2 15), (c2 16), (c2 17), (c2 18), (c2 19), (c2 20), (c2 21), (c2 22), (c2 23), (c2 24), (c2 25), (c2 26), (c2 27), (fun k => [(so_6 0), (so_6 1), (so_6 2), (so_6 3)].getD k 0), (fun k => [(sn_7 0), (sn_7 1), (sn_7 2), (sn_7 3)].getD k 0), (si_8 0), (si_8 1), (si_8 2), (si_8 3), (c2 34), (c2 35)].getD k (fun _ => 0)) (fun k => [(c3 0), (c3 1), (c3 2), (sl_9 0), (sl_9 1), (sl_9 2), (sl_9 3), (c3 7), (c3 8)].getD k (fun _ => 0)) (fun k => [(sf_10 0), (sf_10 1), (sf_10 2), (sf_10 3)].getD k (fun _ => 0)) (fun k => [(sd_11 0), (sd_11 1), (sd_11 2), (sd_11 3)].getD k (fun _ => 0)) q vl wl rf (fun k => [(fun _ => 0), (fun _ => 0), (fun _ => 0), (fun _ => 0), (fun _ => 0), (fun _ => 0), (fun _ => 0), (fun _ => 0), (fun _ => 0), (fun _ => 0), (fun _ => 0), (fun _ => 0), (fun _ => 0), (fun _ => 0), (fun _ => 0), (fun _ => 0), (fun _ => 0), (fun _ => 0), (fun _ => 0), (fun _ => 0), (rl 20), (rl 21), (fun _ => 0), (rl 23), (fun _ => 0), (fun _ => 0), (fun _ => 0), (fun _ => 0), (fun _ => 0), (fun _ => 0), (fun _ => 0), (fun _ => 0), (fun _ => 0), (fun _ => 0), (fun _ => 0), (fun _ => 0), f_17, (fun _ => 0), (fun _ => 0), (rl 39), (rl 40)].getD k (fun _ => 0)) f_18 ls H locs _ hd_16 ⟨(show (0 ≤ (((c1 1) : Int32)).toInt ∧ (((c1 1) : Int32)).toInt ≤ 24) ∧ (0 ≤ (((c1 2) : Int32)).toInt ∧ (((c1 2) : Int32)).toInt ≤ 24) ∧ (0 ≤ (((c2 16 0) : Int32)).toInt ∧ (((c2 16 0) : Int32)).toInt ≤ 12) ∧ (0 ≤ (((c2 16 1) : Int32)).toInt ∧ (((c2 16 1) : Int32)).toInt ≤ 12) ∧ (0 ≤ (((c2 16 2) : Int32)).toInt ∧ (((c2 16 2) : Int32)).toInt ≤ 12) ∧ (0 ≤ (((c2 17 0) : Int32)).toInt ∧ (((c2 17 0) : Int32)).toInt ≤ 12) ∧ (0 ≤ (((c2 17 1) : Int32)).toInt ∧ (((c2 17 1) : Int32)).toInt ≤ 12) ∧ (0 ≤ (((c2 17 2) : Int32)).toInt ∧ (((c2 17 2) : Int32)).toInt ≤ 12) ∧ (0 ≤ (((c1 7) : Int32)).toInt ∧ (((c1 7) : Int32)).toInt ≤ 120) ∧ ((-1 ≤ (((so_6 0) : Int32)).toInt ∧ (((so_6 0) : Int32)).toInt ≤ 3) ∧ (0 ≤ (((sn_7 0) : Int32)).toInt ∧ (((sn_7 0) : Int32)).toInt ≤ 30)) ∧ ((-1 ≤ (((so_6 1) : Int32)).toInt ∧ (((so_6 1) : Int32)).toInt ≤ 3) ∧ (0 ≤ (((sn_7 1) : Int32)).toInt ∧ (((sn_7 1) : Int32)).toInt ≤ 30)) ∧ ((-1 ≤ (((so_6 2) : Int32)).toInt ∧ (((so_6 2) : Int32)).toInt ≤ 3) ∧ (0 ≤ (((sn_7 2) : Int32)).toInt ∧ (((sn_7 2) : Int32)).toInt ≤ 30)) ∧ ((-1 ≤ (((so_6 3) : Int32)).toInt ∧ (((so_6 3) : Int32)).toInt ≤ 3) ∧ (0 ≤ (((sn_7 3) : Int32)).toInt ∧ (((sn_7 3) : Int32)).toInt ≤ 30)) from (by (try simp only [ti_0, ti_1, ti_n1]); omega)), (show okC (c2 2) (c2 4) (c2 5) (c2 6) from (by assumption)), (show okC (c2 9) (c2 11) (c2 12) (c2 13) from (by assumption)), (show (0 ≤ (((q 7) : Int32)).toInt ∧ (((q 7) : Int32)).toInt ≤ 24) ∧ ((1 ≤ (((q 4) : Int32)).toInt ∧ (((q 4) : Int32)).toInt ≤ 9) ∧ (1 ≤ (((q 6) : Int32)).toInt ∧ (((q 6) : Int32)).toInt ≤ 9)) ∧ (0 ≤ (((q 26) : Int32)).toInt ∧ (((q 26) : Int32)).toInt ≤ 120) from (by (try simp only [ti_0, ti_1, ti_n1]); omega)), (show okR (rf 8) (rf 10) (rf 11) from (by assumption)), (show isB (q 14) from (by first | assumption | exact isB0 | exact isB1)), (show ∀ j : Nat, isB ((rf 22) j) from (by assumption)), (show ∀ k : Nat, k < 3 → 0 ≤ ((rf 13) k).toInt ∧ ((rf 13) k).toInt ≤ 12 from (by assumption)), (show ∀ k : Nat, k < 4 → 0 ≤ ((rf 35) k).toInt ∧ ((rf 35) k).toInt ≤ 30 from (by assumption)), (show ∀ k : Nat, k < 4 → ((rf 38) k).toInt = 2 → 1 ≤ ((rl 40) k).toInt from (by assumption)), (show ¬ ((q 41) : Int32).toInt = 0 → okK (rf 42) from (by first | assumption | exact (fun _ => by assumption)))⟩ (show va_P D vwCl (lwW T sa q1 q2 u v c1 (fun k => [(c2 0), (c2 1), (c2 2), (c2 3), (c2 4), (c2 5), (c2 6), (c2 7), (c2 8), (c2 9), (c2 10), (c2 11), (c2 12), (c2 13), (c2 14), (c2 15), (c2 16), (c2 17), (c2 18), (c2 19), (c2 20), (c2 21), (c2 22), (c2 23), (c2 24), (c2 25), (c2 26), (c2 27), (fun k => [(so_6 0), (so_6 1), (so_6 2), (so_6 3)].getD k 0), (fun k => [(sn_7 0), (sn_7 1), (sn_7 2), (sn_7 3)].getD k 0), (si_8 0), (si_8 1), (si_8 2), (si_8 3), (c2 34), (c2 35)].getD k (fun _ => 0)) (fun k => [(c3 0), (c3 1), (c3 2), (sl_9 0), (sl_9 1), (sl_9 2), (sl_9 3), (c3 7), (c3 8)].getD k (fun _ => 0)) (fun k => [(sf_10 0), (sf_10 1), (sf_10 2), (sf_10 3)].getD k (fun _ => 0)) (fun k => [(sd_11 0), (sd_11 1), (sd_11 2), (sd_11 3)].getD k (fun _ => 0)) q vl wl rf (fun k => [(fun _ => 0), (fun _ => 0), (fun _ => 0), (fun _ => 0), (fun _ => 0), (fun _ => 0), (fun _ => 0), (fun _ => 0), (fun _ => 0), (fun _ => 0), (fun _ => 0), (fun _ => 0), (fun _ => 0), (fun _ => 0), (fun _ => 0), (fun _ => 0), (fun _ => 0), (fun _ => 0), (fun _ => 0), (fun _ => 0), (rl 20), (rl 21), (fun _ => 0), (rl 23), (fun _ => 0), (fun _ => 0), (fun _ => 0), (fun _ => 0), (fun _ => 0), (fun _ => 0), (fun _ => 0), (fun _ => 0), (fun _ => 0), (fun _ => 0), (fun _ => 0), (fun _ => 0), f_17, (fun _ => 0), (fun _ => 0), (rl 39), (rl 40)].getD k (fun _ => 0)) f_18) H from hP.sub [68, 0, 1, 2, 3, 4, 5, 6, 7, 8, 9, 10, 11, 12, 13, 14, 15, 16, 17, 18, 19, 20, 21, 22, 23, 24, 25, 26, 27, 28, 29, 30, 31, 32, 33, 34, 35, 36, 37, 38, 39, 40, 41, 42, 43, 69, 70, 71, 72, 73, 74, 75, 76, 77, 78, 79, 80, 81, 82, 83, 84, 85, 86, 87, 88, 89, 44, 45, 46, 47, 48, 90, 49, 50, 51, 52, 53, 54, 55, 56, 57, 58, 59, 60, 61, 62, 63, 91, 92, 93, 94, 64, 65, 66, 67] rfl) (show va_D A (lwW T sa q1 q2 u v c1 (fun k => [(c2 0), (c2 1), (c2 2), (c2 3), (c2 4), (c2 5), (c2 6), (c2 7), (c2 8), (c2 9), (c2 10), (c2 11), (c2 12), (c2 13), (c2 14), (c2 15), (c2 16), (c2 17), (c2 18), (c2 19), (c2 20), (c2 21), (c2 22), (c2 23), (c2 24), (c2 25), (c2 26), (c2 27), (fun k => [(so_6 0), (so_6 1), (so_6 2), (so_6 3)].getD k 0), (fun k => [(sn_7 0), (sn_7 1), (sn_7 2), (sn_7 3)].getD k 0), (si_8 0), (si_8 1), (si_8 2), (si_8 3), (c2 34), (c2 35)].getD k (fun _ => 0)) (fun k => [(c3 0), (c3 1), (c3 2), (sl_9 0), (sl_9 1), (sl_9 2), (sl_9 3), (c3 7), (c3 8)].getD k (fun _ => 0)) (fun k => [(sf_10 0), (sf_10 1), (sf_10 2), (sf_10 3)].getD k (fun _ => 0)) (fun k => [(sd_11 0), (sd_11 1), (sd_11 2), (sd_11 3)].getD k (fun _ => 0)) q vl wl rf (fun k => [(fun _ => 0), (fun _ => 0), (fun _ => 0), (fun _ => 0), (fun _ => 0), (fun _ => 0), (fun _ => 0), (fun _ => 0), (fun _ => 0), (fun _ => 0), (fun _ => 0), (fun _ => 0), (fun _ => 0), (fun _ => 0), (fun _ => 0), (fun _ => 0), (fun _ => 0), (fun _ => 0), (fun _ => 0), (fun _ => 0), (rl 20), (rl 21), (fun _ => 0), (rl 23), (fun _ => 0), (fun _ => 0), (fun _ => 0), (fun _ => 0), (fun _ => 0), (fun _ => 0), (fun _ => 0), (fun _ => 0), (fun _ => 0), (fun _ => 0), (fun _ => 0), (fun _ => 0), f_17, (fun _ => 0), (fun _ => 0), (rl 39), (rl 40)].getD k (fun _ => 0)) f_18) from hD.sub [68, 0, 1, 2, 3, 4, 5, 6, 7, 8, 9, 10, 11, 12, 13, 14, 15, 16, 17, 18, 19, 20, 21, 22, 23, 24, 25, 26, 27, 28, 29, 30, 31, 32, 33, 34, 35, 36, 37, 38, 39, 40, 41, 42, 43, 69, 70, 71, 72, 73, 74, 75, 76, 77, 78, 79, 80, 81, 82, 83, 84, 85, 86, 87, 88, 89, 44, 45, 46, 47, 48, 90, 49, 50, 51, 52, 53, 54, 55, 56, 57, 58, 59, 60, 61, 62, 63, 91, 92, 93, 94, 64, 65, 66, 67] (by decide) rfl) hS hl
