theorem dL_law_321 : decode cL_law 321 = .ok (.aload_n 1, 1) := by decide +kernel
theorem dL_law_322 : decode cL_law 322 = .ok (.aload_n 0, 1) := by decide +kernel
theorem dL_law_323 : decode cL_law 323 = .ok (.iload_n 3, 1) := by decide +kernel
theorem dL_law_324 : decode cL_law 324 = .ok (.iconst 1, 1) := by decide +kernel
theorem dL_law_325 : decode cL_law 325 = .ok (.iadd, 1) := by decide +kernel
theorem dL_law_326 : decode cL_law 326 = .ok (.iaload, 1) := by decide +kernel
theorem dL_law_327 : decode cL_law 327 = .ok (.aload_n 0, 1) := by decide +kernel
theorem dL_law_328 : decode cL_law 328 = .ok (.iload_n 3, 1) := by decide +kernel
theorem dL_law_329 : decode cL_law 329 = .ok (.iconst 2, 1) := by decide +kernel
theorem dL_law_330 : decode cL_law 330 = .ok (.iadd, 1) := by decide +kernel
theorem dL_law_331 : decode cL_law 331 = .ok (.iaload, 1) := by decide +kernel
theorem dL_law_332 : decode cL_law 332 = .ok (.invokevirtual 27, 3) := by decide +kernel
theorem dL_law_335 : decode cL_law 335 = .ok (.pop, 1) := by decide +kernel
theorem dL_law_336 : decode cL_law 336 = .ok (.aload_n 2, 1) := by decide +kernel
theorem dL_law_337 : decode cL_law 337 = .ok (.aload_n 0, 1) := by decide +kernel
theorem dL_law_338 : decode cL_law 338 = .ok (.iload_n 3, 1) := by decide +kernel
theorem dL_law_339 : decode cL_law 339 = .ok (.iconst 1, 1) := by decide +kernel
theorem dL_law_340 : decode cL_law 340 = .ok (.iadd, 1) := by decide +kernel
theorem dL_law_341 : decode cL_law 341 = .ok (.iaload, 1) := by decide +kernel
theorem dL_law_342 : decode cL_law 342 = .ok (.aload_n 0, 1) := by decide +kernel
theorem dL_law_343 : decode cL_law 343 = .ok (.iload_n 3, 1) := by decide +kernel
theorem dL_law_344 : decode cL_law 344 = .ok (.iconst 2, 1) := by decide +kernel
theorem dL_law_345 : decode cL_law 345 = .ok (.iadd, 1) := by decide +kernel
theorem dL_law_346 : decode cL_law 346 = .ok (.iaload, 1) := by decide +kernel
theorem dL_law_347 : decode cL_law 347 = .ok (.invokevirtual 30, 3) := by decide +kernel
theorem dL_law_350 : decode cL_law 350 = .ok (.pop, 1) := by decide +kernel
theorem dL_law_351 : decode cL_law 351 = .ok (.goto 1516, 3) := by decide +kernel
theorem hv_X12_price : yX12_price.cls = RX12 ∧ yX12_price.cls ≠ "java/lang/invoke/MethodHandle" ∧ yX12_price.cls ≠ "java/lang/invoke/VarHandle" ∧ (parseMethodDescriptor yX12_price.desc).map (fun d => d.parameters.length) = some 2 := by decide +kernel
theorem hv_X13_price : yX13_price.cls = RX13 ∧ yX13_price.cls ≠ "java/lang/invoke/MethodHandle" ∧ yX13_price.cls ≠ "java/lang/invoke/VarHandle" ∧ (parseMethodDescriptor yX13_price.desc).map (fun d => d.parameters.length) = some 2 := by decide +kernel
set_option maxRecDepth 40000 in
theorem lg_X12_price : GoodIn lw_tbl (wsV RL 27 RX12 yX12_price wsX12_price) := goodIn_app (gl_cons ⟨lwt_1 _ (List.mem_of_getElem? (i := 112) rfl), by decide +kernel⟩ (gl_cons ⟨lwt_1 _ (List.mem_of_getElem? (i := 113) rfl), by decide +kernel⟩ (gl_cons ⟨lwt_1 _ (List.mem_of_getElem? (i := 114) rfl), by decide +kernel⟩ (gl_cons ⟨lwt_0 _ (List.mem_of_getElem? (i := 1) rfl), by decide +kernel⟩ gl_nil)))) lgg_X12_price
set_option maxRecDepth 40000 in
theorem lg_X13_price : GoodIn lw_tbl (wsV RL 30 RX13 yX13_price wsX13_price) := goodIn_app (gl_cons ⟨lwt_4 _ (List.mem_of_getElem? (i := 125) rfl), by decide +kernel⟩ (gl_cons ⟨lwt_4 _ (List.mem_of_getElem? (i := 126) rfl), by decide +kernel⟩ (gl_cons ⟨lwt_4 _ (List.mem_of_getElem? (i := 127) rfl), by decide +kernel⟩ (gl_cons ⟨lwt_0 _ (List.mem_of_getElem? (i := 11) rfl), by decide +kernel⟩ gl_nil)))) lgg_X13_price
set_option maxHeartbeats 8000000 in
set_option maxRecDepth 100000 in
theorem law_c3 {p : Program} {e : Env} {s : State} {m : MethodId} {below : List Frame} {meth : Method} {c : Code} {l : Launch} {b L : Nat} {xs : Nat → Int32} (hL : L ≤ 3584) (C0 : lw_At p s m meth c b L xs) {D : va_G} {T : Nat → ClassId} {ad sa av : Nat → Nat} {ta : Nat} {A : Nat → Prop} (hA : ∀ q : Nat, s.heap.size ≤ q → A q) (hAf : ∀ q : Nat, A q → s.heap.size ≤ q) (hbA : ¬ A b) (hE0 : ekK D T s) (hV0 : evK ad sa av ta A s s.heap) {q1 q2 : Nat} {u v : Nat → Nat} {ii : Int32} (hii : 0 ≤ ii.toInt ∧ ii.toInt + 7 ≤ L) (K : lwK p l e s m below meth c b D T sa A q1 q2 u v ii) (c1 : Nat → Int32) (c2 : Nat → Nat → Int32) (c3 : Nat → Nat → Int64) (c4 : Nat → Nat → UInt32) (c5 : Nat → Nat → UInt64) (q : Nat → Int32) (vl wl : Int64) (rf : Nat → Nat → Int32) (rl : Nat → Nat → Int64) (rd : Nat → UInt64) {ls : Array Slot} {H : Heap} {locs : List Loc} {d0 : Drawn} (hd0 : s.drawn.sameBut d0 lw_cs) (hI : lwI c1 c2 c3 q rf rl) (hAg : (c1 3).toInt ≤ ii.toInt + 1) (hP : va_P D vwCl (lwW T sa q1 q2 u v c1 c2 c3 c4 c5 q vl wl rf rl rd) H) (hD : va_D A (lwW T sa q1 q2 u v c1 c2 c3 c4 c5 q vl wl rf rl rd)) (hS : va_S A s.heap H locs) (hl : lv_has ls 4 [(3, .int ii), (2, .ref q2), (1, .ref q1), (0, .ref b)]) : W p l e room_1 (s.setDrawn d0) m #[Value.ref b] below meth c H locs 95 6031 (lw_Z below #[Value.ref b] s) (F0 m 321 ls []) := by
  obtain ⟨hx, hb, hr, hml, hown0, hts0, hX0, hbl, hlocks, hgv⟩ := id C0
  have hX : va_X b L xs (s.setDrawn d0) s.heap := hX0
  have hown0 : s.vm.findClass RL = some m.cls := hown0
  have hts := dr_words hts0 d0
  have hE : ekK D T (s.setDrawn d0) := ekK.same (u := s) rfl hE0
  have hown : (s.setDrawn d0).vm.findClass RL = some m.cls := hown0
  have hV : evK ad sa av ta A (s.setDrawn d0) (s.setDrawn d0).heap := evK.same (u := s) rfl hV0
  obtain ⟨hA1, hok, hokk, hA2, hokR, hB, hZ, hbg, hsz, hhd, hKb, hLa, hIm, hKl, hTa, hSh, hRF, hRC, hRB, hRH, hTf, hRK, hme, hmm, hgB, hHl⟩ := hI
  have hA1 : (0 ≤ (((c1 1) : Int32)).toInt ∧ (((c1 1) : Int32)).toInt ≤ 24) ∧ (0 ≤ (((c1 2) : Int32)).toInt ∧ (((c1 2) : Int32)).toInt ≤ 24) ∧ (0 ≤ (((c2 16 0) : Int32)).toInt ∧ (((c2 16 0) : Int32)).toInt ≤ 12) ∧ (0 ≤ (((c2 16 1) : Int32)).toInt ∧ (((c2 16 1) : Int32)).toInt ≤ 12) ∧ (0 ≤ (((c2 16 2) : Int32)).toInt ∧ (((c2 16 2) : Int32)).toInt ≤ 12) ∧ (0 ≤ (((c2 17 0) : Int32)).toInt ∧ (((c2 17 0) : Int32)).toInt ≤ 12) ∧ (0 ≤ (((c2 17 1) : Int32)).toInt ∧ (((c2 17 1) : Int32)).toInt ≤ 12) ∧ (0 ≤ (((c2 17 2) : Int32)).toInt ∧ (((c2 17 2) : Int32)).toInt ≤ 12) ∧ (0 ≤ (((c1 7) : Int32)).toInt ∧ (((c1 7) : Int32)).toInt ≤ 120) ∧ ((-1 ≤ (((c2 28 0) : Int32)).toInt ∧ (((c2 28 0) : Int32)).toInt ≤ 3) ∧ (0 ≤ (((c2 29 0) : Int32)).toInt ∧ (((c2 29 0) : Int32)).toInt ≤ 30)) ∧ ((-1 ≤ (((c2 28 1) : Int32)).toInt ∧ (((c2 28 1) : Int32)).toInt ≤ 3) ∧ (0 ≤ (((c2 29 1) : Int32)).toInt ∧ (((c2 29 1) : Int32)).toInt ≤ 30)) ∧ ((-1 ≤ (((c2 28 2) : Int32)).toInt ∧ (((c2 28 2) : Int32)).toInt ≤ 3) ∧ (0 ≤ (((c2 29 2) : Int32)).toInt ∧ (((c2 29 2) : Int32)).toInt ≤ 30)) ∧ ((-1 ≤ (((c2 28 3) : Int32)).toInt ∧ (((c2 28 3) : Int32)).toInt ≤ 3) ∧ (0 ≤ (((c2 29 3) : Int32)).toInt ∧ (((c2 29 3) : Int32)).toInt ≤ 30)) := hA1
  have hok : okC (c2 2) (c2 4) (c2 5) (c2 6) := hok
  have hokk : okC (c2 9) (c2 11) (c2 12) (c2 13) := hokk
  have hA2 : (0 ≤ (((q 7) : Int32)).toInt ∧ (((q 7) : Int32)).toInt ≤ 24) ∧ ((1 ≤ (((q 4) : Int32)).toInt ∧ (((q 4) : Int32)).toInt ≤ 9) ∧ (1 ≤ (((q 6) : Int32)).toInt ∧ (((q 6) : Int32)).toInt ≤ 9)) ∧ (0 ≤ (((q 26) : Int32)).toInt ∧ (((q 26) : Int32)).toInt ≤ 120) := hA2
  have hokR : okR (rf 8) (rf 10) (rf 11) := hokR
  have hB : isB (q 14) := hB
  have hZ : ∀ j : Nat, isB ((rf 22) j) := hZ
  have hbg : ∀ k : Nat, k < 3 → 0 ≤ ((rf 13) k).toInt ∧ ((rf 13) k).toInt ≤ 12 := hbg
  have hsz : ∀ k : Nat, k < 4 → 0 ≤ ((rf 35) k).toInt ∧ ((rf 35) k).toInt ≤ 30 := hsz
  have hhd : ∀ k : Nat, k < 4 → ((rf 38) k).toInt = 2 → 1 ≤ ((rl 40) k).toInt := hhd
  have hKb : ¬ ((q 41) : Int32).toInt = 0 → okK (rf 42) := hKb
  have hLa : ((c2 0 0) : Int32) = (q 0) ∧ ((c2 0 1) : Int32) = (q 1) ∧ ((c2 0 2) : Int32) = (q 2) ∧ ((c2 0 3) : Int32) = (q 3) ∧ ((c2 0 4) : Int32) = (q 4) ∧ ((c2 0 5) : Int32) = (q 5) ∧ ((c2 0 6) : Int32) = (q 6) := hLa
  have hIm : ((c1 0) : Int32) = (q 41) := hIm
  have hKl : ¬ ((q 41) : Int32).toInt = 0 → ((c2 1 0) : Int32) = (rf 42) 0 ∧ ((c2 1 1) : Int32) = (rf 42) 1 ∧ ((c2 1 2) : Int32) = (rf 42) 2 ∧ ((c2 1 3) : Int32) = (rf 42) 3 ∧ ((c2 1 4) : Int32) = (rf 42) 4 ∧ ((c2 1 5) : Int32) = (rf 42) 5 ∧ ((c2 1 6) : Int32) = (rf 42) 6 := hKl
  have hTa : ((c1 7) : Int32) = (q 26) := hTa
  have hSh : ∀ k : Nat, k < 4 → ((c2 28) k).toInt = ((rf 34) k).toInt ∧ (0 ≤ ((c2 28) k).toInt → ((c2 29) k).toInt = ((rf 35) k).toInt) := hSh
  have hRF : rlF (c2 34) (c3 7) (c3 8) (rl 39) (rl 40) := hRF
  have hRC : rlC (c1 1) (c2 2) (c2 3) (c2 4) (c2 5) (rfA (q 7) (rf 8) (rf 9) (rf 10) (rf 11)) := hRC
  have hRB : rlB (c2 16) (fun k => [(c2 18), (c2 19), (c2 20)].getD k (c2 18)) (rf 13) (rf 12) := hRB
  have hRH : rlH (c2 34) (c2 35) (rf 38) (rl 39) := hRH
  have hTf : (c2 25) = (rf 25) := hTf
  have hRK : ¬ ((q 41) : Int32).toInt = 0 → rlK (c1 2) (c2 9) (c2 10) (c2 11) (c2 12) (c2 17) (fun k => [(c2 21), (c2 22), (c2 23)].getD k (c2 21)) (rf 42) := hRK
  have hme : ∀ j : Nat, (j : Int) < ((c1 1) : Int32).toInt → mesP (c2 2) (c2 3) (c2 4) (c2 5) (c2 6) (c2 7) (c2 8) j := hme
  have hmm : memW (VALW (fun k => [(c2 0 0), (c2 0 1), (c2 0 2), (c2 0 3), (c2 0 4), (c2 0 5), (c2 0 6)].getD k 0) (c2 2) (c2 3) (c2 4) (c2 5) (c2 6)) ((c1 1) : Int32) ((c1 3) : Int32) (c3 0) (c3 1) (c2 24) := hmm
  have hgB : ∀ j : Nat, j < 672 → ((c2 24) j).toInt ≤ ((c1 3) : Int32).toInt := hgB
  have hHl : ∀ k : Nat, k < 4 → ((rf 38) k).toInt = 2 → lowW ((rl 39) k, (rl 40) k) := hHl
  have hok0 := hok
  have hme0 := hme
  have hlq : (1 ≤ ((c2 0 4) : Int32).toInt ∧ ((c2 0 4) : Int32).toInt ≤ 9) ∧ 1 ≤ ((c2 0 6) : Int32).toInt ∧ ((c2 0 6) : Int32).toInt ≤ 9 := by rw [hLa.2.2.2.2.1, hLa.2.2.2.2.2.2]; exact hA2.2.1
  have hag5 : (c1 3).toInt ≤ 5000 := by omega
  have hi_1 : (ii + 1).toInt = ii.toInt + 1 := hin_1 hL hii
  have hi_2 : (ii + 2).toInt = ii.toInt + 2 := hin_2 hL hii
  have hi_3 : (ii + 3).toInt = ii.toInt + 3 := hin_3 hL hii
  have hi_4 : (ii + 4).toInt = ii.toInt + 4 := hin_4 hL hii
  have hi_5 : (ii + 5).toInt = ii.toInt + 5 := hin_5 hL hii
  have hi_6 : (ii + 6).toInt = ii.toInt + 6 := hin_6 hL hii
  refine lv_aload_n hx hb dL_law_321 rfl (lv_at hl 2 rfl) ?_
  refine lv_aload_n hx hb dL_law_322 rfl (lv_at hl 3 rfl) ?_
  refine lv_iload_n hx hb dL_law_323 rfl (lv_at hl 0 rfl) ?_
  refine lv_iconst (v := 1) hx hb dL_law_324 (by decide +kernel) ?_
  refine lv_iadd hx hb dL_law_325 ?_
  refine va_sld hx hb hX hbl hbA hS (vin_1 hL hii) dL_law_326 ?_
  refine lv_topi (fun z_1 ez_1 => ?_)
  refine lv_aload_n hx hb dL_law_327 rfl (lv_at hl 3 rfl) ?_
  refine lv_iload_n hx hb dL_law_328 rfl (lv_at hl 0 rfl) ?_
  refine lv_iconst (v := 2) hx hb dL_law_329 (by decide +kernel) ?_
  refine lv_iadd hx hb dL_law_330 ?_
  refine va_sld hx hb hX hbl hbA hS (vin_2 hL hii) dL_law_331 ?_
  refine lv_topi (fun z_2 ez_2 => ?_)
  refine vp_callSi (W.runV (As := [.int z_1, .int z_2]) (rest := []) ⟨hx, hb, hml, hown, hts⟩ (c_X12_price l D T q1 [.ref (u 0), .ref (u 1), .int (c1 0), .ref (u 2), .ref (u 3), .ref (u 11), .ref (u 34), .ref (u 38), .ref (u 40), .ref (u 44), .ref (u 65)] (u 2) [.int (c2 0 0), .int (c2 0 1), .int (c2 0 2), .int (c2 0 3), .int (c2 0 4), .int (c2 0 5), .int (c2 0 6)] z_1 z_2 (c2 0 0) (c2 0 1) (c2 0 2) rfl rfl rfl rfl) (cwV 2 hts lg_X12_price rfl rfl rfl hv_X12_price ⟨Nat.le_of_ble_eq_true rfl, Nat.le_of_ble_eq_true rfl⟩) (pR_V (q := (RX12, TX12, 11)) (ci := 9) (q0 := 0) hP hE rfl rfl [0, 2] rfl) rfl rfl hl.1 rfl (lv_room (Nat.le_of_ble_eq_true rfl)) dL_law_332 ⟨Nat.le_of_ble_eq_true rfl, Nat.le_of_ble_eq_true rfl⟩) (fun r_3 hr_3 => ?_)
  refine lv_pop hx hb dL_law_335 rfl ?_
  refine lv_aload_n hx hb dL_law_336 rfl (lv_at hl 1 rfl) ?_
  refine lv_aload_n hx hb dL_law_337 rfl (lv_at hl 3 rfl) ?_
  refine lv_iload_n hx hb dL_law_338 rfl (lv_at hl 0 rfl) ?_
  refine lv_iconst (v := 1) hx hb dL_law_339 (by decide +kernel) ?_
  refine lv_iadd hx hb dL_law_340 ?_
  refine va_sld hx hb hX hbl hbA hS (vin_1 hL hii) dL_law_341 ?_
  refine lv_topi (fun z_4 ez_4 => ?_)
  have hsz_4 : z_1 = z_4 := ez_1.trans ez_4.symm
  subst hsz_4
  refine lv_aload_n hx hb dL_law_342 rfl (lv_at hl 3 rfl) ?_
  refine lv_iload_n hx hb dL_law_343 rfl (lv_at hl 0 rfl) ?_
  refine lv_iconst (v := 2) hx hb dL_law_344 (by decide +kernel) ?_
  refine lv_iadd hx hb dL_law_345 ?_
  refine va_sld hx hb hX hbl hbA hS (vin_2 hL hii) dL_law_346 ?_
  refine lv_topi (fun z_5 ez_5 => ?_)
  have hsz_5 : z_2 = z_5 := ez_2.trans ez_5.symm
  subst hsz_5
  refine vp_callSi (W.runV (As := [.int z_1, .int z_2]) (rest := []) ⟨hx, hb, hml, hown, hts⟩ (c_X13_price l D T q2 [.int (q 0), .int (q 1), .int (q 2), .int (q 3), .int (q 4), .int (q 5), .int (q 6), .int (q 7), .ref (v 8), .ref (v 9), .ref (v 10), .ref (v 11), .ref (v 12), .ref (v 13), .int (q 14), .long vl, .long wl, .ref (v 17), .ref (v 18), .ref (v 19), .ref (v 20), .ref (v 21), .ref (v 22), .ref (v 23), .int (q 24), .ref (v 25), .int (q 26), .ref (v 27), .int (q 28), .int (q 29), .int (q 30), .int (q 31), .int (q 32), .int (q 33), .ref (v 34), .ref (v 35), .ref (v 36), .ref (v 37), .ref (v 38), .ref (v 39), .ref (v 40), .int (q 41), .ref (v 42), .int (q 43), .int (q 44)] z_1 z_2 (q 0) (q 1) (q 2) rfl rfl rfl) (cwV 2 hts lg_X13_price rfl rfl rfl hv_X13_price ⟨Nat.le_of_ble_eq_true rfl, Nat.le_of_ble_eq_true rfl⟩) (pR_V (q := (RX13, TX13, 45)) (ci := 10) (q0 := 71) hP hE rfl rfl [71] rfl) rfl rfl hl.1 rfl (lv_room (Nat.le_of_ble_eq_true rfl)) dL_law_347 ⟨Nat.le_of_ble_eq_true rfl, Nat.le_of_ble_eq_true rfl⟩) (fun r_6 hr_6 => ?_)
  refine lv_pop hx hb dL_law_350 rfl ?_
  refine lv_goto (tgt := 1867) hx hb dL_law_351 (by decide +kernel) ?_
  exact K c1 c2 c3 c4 c5 q vl wl rf rl rd ls H locs _ hd0 ⟨(show (0 ≤ (((c1 1) : Int32)).toInt ∧ (((c1 1) : Int32)).toInt ≤ 24) ∧ (0 ≤ (((c1 2) : Int32)).toInt ∧ (((c1 2) : Int32)).toInt ≤ 24) ∧ (0 ≤ (((c2 16 0) : Int32)).toInt ∧ (((c2 16 0) : Int32)).toInt ≤ 12) ∧ (0 ≤ (((c2 16 1) : Int32)).toInt ∧ (((c2 16 1) : Int32)).toInt ≤ 12) ∧ (0 ≤ (((c2 16 2) : Int32)).toInt ∧ (((c2 16 2) : Int32)).toInt ≤ 12) ∧ (0 ≤ (((c2 17 0) : Int32)).toInt ∧ (((c2 17 0) : Int32)).toInt ≤ 12) ∧ (0 ≤ (((c2 17 1) : Int32)).toInt ∧ (((c2 17 1) : Int32)).toInt ≤ 12) ∧ (0 ≤ (((c2 17 2) : Int32)).toInt ∧ (((c2 17 2) : Int32)).toInt ≤ 12) ∧ (0 ≤ (((c1 7) : Int32)).toInt ∧ (((c1 7) : Int32)).toInt ≤ 120) ∧ ((-1 ≤ (((c2 28 0) : Int32)).toInt ∧ (((c2 28 0) : Int32)).toInt ≤ 3) ∧ (0 ≤ (((c2 29 0) : Int32)).toInt ∧ (((c2 29 0) : Int32)).toInt ≤ 30)) ∧ ((-1 ≤ (((c2 28 1) : Int32)).toInt ∧ (((c2 28 1) : Int32)).toInt ≤ 3) ∧ (0 ≤ (((c2 29 1) : Int32)).toInt ∧ (((c2 29 1) : Int32)).toInt ≤ 30)) ∧ ((-1 ≤ (((c2 28 2) : Int32)).toInt ∧ (((c2 28 2) : Int32)).toInt ≤ 3) ∧ (0 ≤ (((c2 29 2) : Int32)).toInt ∧ (((c2 29 2) : Int32)).toInt ≤ 30)) ∧ ((-1 ≤ (((c2 28 3) : Int32)).toInt ∧ (((c2 28 3) : Int32)).toInt ≤ 3) ∧ (0 ≤ (((c2 29 3) : Int32)).toInt ∧ (((c2 29 3) : Int32)).toInt ≤ 30)) from ⟨hA1.1, hA1.2.1, hA1.2.2.1, hA1.2.2.2.1, hA1.2.2.2.2.1, hA1.2.2.2.2.2.1, hA1.2.2.2.2.2.2.1, hA1.2.2.2.2.2.2.2.1, hA1.2.2.2.2.2.2.2.2.1, hA1.2.2.2.2.2.2.2.2.2.1, hA1.2.2.2.2.2.2.2.2.2.2.1, hA1.2.2.2.2.2.2.2.2.2.2.2.1, hA1.2.2.2.2.2.2.2.2.2.2.2.2⟩), (show okC (c2 2) (c2 4) (c2 5) (c2 6) from (by first | exact hok | assumption)), (show okC (c2 9) (c2 11) (c2 12) (c2 13) from (by first | exact hokk | assumption)), (show (0 ≤ (((q 7) : Int32)).toInt ∧ (((q 7) : Int32)).toInt ≤ 24) ∧ ((1 ≤ (((q 4) : Int32)).toInt ∧ (((q 4) : Int32)).toInt ≤ 9) ∧ (1 ≤ (((q 6) : Int32)).toInt ∧ (((q 6) : Int32)).toInt ≤ 9)) ∧ (0 ≤ (((q 26) : Int32)).toInt ∧ (((q 26) : Int32)).toInt ≤ 120) from ⟨hA2.1, hA2.2.1, hA2.2.2⟩), (show okR (rf 8) (rf 10) (rf 11) from (by first | exact hokR | assumption)), (show isB (q 14) from (by first | exact hB | assumption | exact isB0 | exact isB1)), (show ∀ j : Nat, isB ((rf 22) j) from (by first | exact hZ | assumption)), (show ∀ k : Nat, k < 3 → 0 ≤ ((rf 13) k).toInt ∧ ((rf 13) k).toInt ≤ 12 from (by first | exact hbg | assumption)), (show ∀ k : Nat, k < 4 → 0 ≤ ((rf 35) k).toInt ∧ ((rf 35) k).toInt ≤ 30 from (by first | exact hsz | assumption)), (show ∀ k : Nat, k < 4 → ((rf 38) k).toInt = 2 → 1 ≤ ((rl 40) k).toInt from (by first | exact hhd | assumption)), (show ¬ ((q 41) : Int32).toInt = 0 → okK (rf 42) from (by first | exact hKb | assumption | exact (fun _ => by assumption))), (show ((c2 0 0) : Int32) = (q 0) ∧ ((c2 0 1) : Int32) = (q 1) ∧ ((c2 0 2) : Int32) = (q 2) ∧ ((c2 0 3) : Int32) = (q 3) ∧ ((c2 0 4) : Int32) = (q 4) ∧ ((c2 0 5) : Int32) = (q 5) ∧ ((c2 0 6) : Int32) = (q 6) from (by first | exact hLa | assumption)), (show ((c1 0) : Int32) = (q 41) from (by first | exact hIm | assumption | rfl)), (show ¬ ((q 41) : Int32).toInt = 0 → ((c2 1 0) : Int32) = (rf 42) 0 ∧ ((c2 1 1) : Int32) = (rf 42) 1 ∧ ((c2 1 2) : Int32) = (rf 42) 2 ∧ ((c2 1 3) : Int32) = (rf 42) 3 ∧ ((c2 1 4) : Int32) = (rf 42) 4 ∧ ((c2 1 5) : Int32) = (rf 42) 5 ∧ ((c2 1 6) : Int32) = (rf 42) 6 from (by first | exact hKl | assumption)), (show ((c1 7) : Int32) = (q 26) from (by first | exact hTa | assumption | rfl)), (show ∀ k : Nat, k < 4 → ((c2 28) k).toInt = ((rf 34) k).toInt ∧ (0 ≤ ((c2 28) k).toInt → ((c2 29) k).toInt = ((rf 35) k).toInt) from (by first | exact hSh | assumption)), (show rlF (c2 34) (c3 7) (c3 8) (rl 39) (rl 40) from (by first | exact hRF | assumption)), (show rlC (c1 1) (c2 2) (c2 3) (c2 4) (c2 5) (rfA (q 7) (rf 8) (rf 9) (rf 10) (rf 11)) from (by first | exact hRC | assumption)), (show rlB (c2 16) (fun k => [(c2 18), (c2 19), (c2 20)].getD k (c2 18)) (rf 13) (rf 12) from (by first | exact hRB | assumption)), (show rlH (c2 34) (c2 35) (rf 38) (rl 39) from (by first | exact hRH | assumption)), (show (c2 25) = (rf 25) from (by first | exact hTf | assumption | rfl)), (show ¬ ((q 41) : Int32).toInt = 0 → rlK (c1 2) (c2 9) (c2 10) (c2 11) (c2 12) (c2 17) (fun k => [(c2 21), (c2 22), (c2 23)].getD k (c2 21)) (rf 42) from (by first | exact hRK | assumption)), (show ∀ j : Nat, (j : Int) < ((c1 1) : Int32).toInt → mesP (c2 2) (c2 3) (c2 4) (c2 5) (c2 6) (c2 7) (c2 8) j from (by first | exact hme | assumption)), (show memW (VALW (fun k => [(c2 0 0), (c2 0 1), (c2 0 2), (c2 0 3), (c2 0 4), (c2 0 5), (c2 0 6)].getD k 0) (c2 2) (c2 3) (c2 4) (c2 5) (c2 6)) ((c1 1) : Int32) ((c1 3) : Int32) (c3 0) (c3 1) (c2 24) from (by first | exact hmm | assumption)), (show ∀ j : Nat, j < 672 → ((c2 24) j).toInt ≤ ((c1 3) : Int32).toInt from (by first | exact hgB | assumption)), (show ∀ k : Nat, k < 4 → ((rf 38) k).toInt = 2 → lowW ((rl 39) k, (rl 40) k) from (by first | exact hHl | assumption))⟩ (show ((c1 3) : Int32).toInt ≤ ii.toInt + 2 from by omega) (show va_P D vwCl (lwW T sa q1 q2 u v c1 c2 c3 c4 c5 q vl wl rf rl rd) H from hP) (show va_D A (lwW T sa q1 q2 u v c1 c2 c3 c4 c5 q vl wl rf rl rd) from hD) hS hl
theorem dL_law_354 : decode cL_law 354 = .ok (.aload_n 1, 1) := by decide +kernel
theorem dL_law_355 : decode cL_law 355 = .ok (.aload_n 0, 1) := by decide +kernel
theorem dL_law_356 : decode cL_law 356 = .ok (.iload_n 3, 1) := by decide +kernel
theorem dL_law_357 : decode cL_law 357 = .ok (.iconst 1, 1) := by decide +kernel
theorem dL_law_358 : decode cL_law 358 = .ok (.iadd, 1) := by decide +kernel
theorem dL_law_359 : decode cL_law 359 = .ok (.iaload, 1) := by decide +kernel
theorem dL_law_360 : decode cL_law 360 = .ok (.aload_n 0, 1) := by decide +kernel
theorem dL_law_361 : decode cL_law 361 = .ok (.iload_n 3, 1) := by decide +kernel
theorem dL_law_362 : decode cL_law 362 = .ok (.iconst 2, 1) := by decide +kernel
theorem dL_law_363 : decode cL_law 363 = .ok (.iadd, 1) := by decide +kernel
theorem dL_law_364 : decode cL_law 364 = .ok (.iaload, 1) := by decide +kernel
theorem dL_law_365 : decode cL_law 365 = .ok (.invokevirtual 31, 3) := by decide +kernel
theorem dL_law_368 : decode cL_law 368 = .ok (.pop, 1) := by decide +kernel
theorem dL_law_369 : decode cL_law 369 = .ok (.aload_n 2, 1) := by decide +kernel
theorem dL_law_370 : decode cL_law 370 = .ok (.aload_n 0, 1) := by decide +kernel
theorem dL_law_371 : decode cL_law 371 = .ok (.iload_n 3, 1) := by decide +kernel
theorem dL_law_372 : decode cL_law 372 = .ok (.iconst 1, 1) := by decide +kernel
theorem dL_law_373 : decode cL_law 373 = .ok (.iadd, 1) := by decide +kernel
theorem dL_law_374 : decode cL_law 374 = .ok (.iaload, 1) := by decide +kernel
theorem dL_law_375 : decode cL_law 375 = .ok (.aload_n 0, 1) := by decide +kernel
theorem dL_law_376 : decode cL_law 376 = .ok (.iload_n 3, 1) := by decide +kernel
theorem dL_law_377 : decode cL_law 377 = .ok (.iconst 2, 1) := by decide +kernel
theorem dL_law_378 : decode cL_law 378 = .ok (.iadd, 1) := by decide +kernel
theorem dL_law_379 : decode cL_law 379 = .ok (.iaload, 1) := by decide +kernel
theorem dL_law_380 : decode cL_law 380 = .ok (.invokevirtual 34, 3) := by decide +kernel
theorem dL_law_383 : decode cL_law 383 = .ok (.pop, 1) := by decide +kernel
theorem dL_law_384 : decode cL_law 384 = .ok (.goto 1483, 3) := by decide +kernel
theorem hv_X12_spotOf : yX12_spotOf.cls = RX12 ∧ yX12_spotOf.cls ≠ "java/lang/invoke/MethodHandle" ∧ yX12_spotOf.cls ≠ "java/lang/invoke/VarHandle" ∧ (parseMethodDescriptor yX12_spotOf.desc).map (fun d => d.parameters.length) = some 2 := by decide +kernel
theorem hv_X13_spotOf : yX13_spotOf.cls = RX13 ∧ yX13_spotOf.cls ≠ "java/lang/invoke/MethodHandle" ∧ yX13_spotOf.cls ≠ "java/lang/invoke/VarHandle" ∧ (parseMethodDescriptor yX13_spotOf.desc).map (fun d => d.parameters.length) = some 2 := by decide +kernel
set_option maxRecDepth 40000 in
theorem lg_X12_spotOf : GoodIn lw_tbl (wsV RL 31 RX12 yX12_spotOf wsX12_spotOf) := goodIn_app (gl_cons ⟨lwt_1 _ (List.mem_of_getElem? (i := 126) rfl), by decide +kernel⟩ (gl_cons ⟨lwt_1 _ (List.mem_of_getElem? (i := 127) rfl), by decide +kernel⟩ (gl_cons ⟨lwt_1 _ (List.mem_of_getElem? (i := 128) rfl), by decide +kernel⟩ (gl_cons ⟨lwt_0 _ (List.mem_of_getElem? (i := 1) rfl), by decide +kernel⟩ gl_nil)))) lgg_X12_spotOf
set_option maxRecDepth 40000 in
theorem lg_X13_spotOf : GoodIn lw_tbl (wsV RL 34 RX13 yX13_spotOf wsX13_spotOf) := goodIn_app (gl_cons ⟨lwt_4 _ (List.mem_of_getElem? (i := 137) rfl), by decide +kernel⟩ (gl_cons ⟨lwt_4 _ (List.mem_of_getElem? (i := 138) rfl), by decide +kernel⟩ (gl_cons ⟨lwt_4 _ (List.mem_of_getElem? (i := 139) rfl), by decide +kernel⟩ (gl_cons ⟨lwt_0 _ (List.mem_of_getElem? (i := 11) rfl), by decide +kernel⟩ gl_nil)))) lgg_X13_spotOf
set_option maxHeartbeats 8000000 in
set_option maxRecDepth 100000 in
theorem law_c4 {p : Program} {e : Env} {s : State} {m : MethodId} {below : List Frame} {meth : Method} {c : Code} {l : Launch} {b L : Nat} {xs : Nat → Int32} (hL : L ≤ 3584) (C0 : lw_At p s m meth c b L xs) {D : va_G} {T : Nat → ClassId} {ad sa av : Nat → Nat} {ta : Nat} {A : Nat → Prop} (hA : ∀ q : Nat, s.heap.size ≤ q → A q) (hAf : ∀ q : Nat, A q → s.heap.size ≤ q) (hbA : ¬ A b) (hE0 : ekK D T s) (hV0 : evK ad sa av ta A s s.heap) {q1 q2 : Nat} {u v : Nat → Nat} {ii : Int32} (hii : 0 ≤ ii.toInt ∧ ii.toInt + 7 ≤ L) (K : lwK p l e s m below meth c b D T sa A q1 q2 u v ii) (c1 : Nat → Int32) (c2 : Nat → Nat → Int32) (c3 : Nat → Nat → Int64) (c4 : Nat → Nat → UInt32) (c5 : Nat → Nat → UInt64) (q : Nat → Int32) (vl wl : Int64) (rf : Nat → Nat → Int32) (rl : Nat → Nat → Int64) (rd : Nat → UInt64) {ls : Array Slot} {H : Heap} {locs : List Loc} {d0 : Drawn} (hd0 : s.drawn.sameBut d0 lw_cs) (hI : lwI c1 c2 c3 q rf rl) (hAg : (c1 3).toInt ≤ ii.toInt + 1) (hP : va_P D vwCl (lwW T sa q1 q2 u v c1 c2 c3 c4 c5 q vl wl rf rl rd) H) (hD : va_D A (lwW T sa q1 q2 u v c1 c2 c3 c4 c5 q vl wl rf rl rd)) (hS : va_S A s.heap H locs) (hl : lv_has ls 4 [(3, .int ii), (2, .ref q2), (1, .ref q1), (0, .ref b)]) : W p l e room_1 (s.setDrawn d0) m #[Value.ref b] below meth c H locs 95 6031 (lw_Z below #[Value.ref b] s) (F0 m 354 ls []) := by
  obtain ⟨hx, hb, hr, hml, hown0, hts0, hX0, hbl, hlocks, hgv⟩ := id C0
  have hX : va_X b L xs (s.setDrawn d0) s.heap := hX0
  have hown0 : s.vm.findClass RL = some m.cls := hown0
  have hts := dr_words hts0 d0
  have hE : ekK D T (s.setDrawn d0) := ekK.same (u := s) rfl hE0
  have hown : (s.setDrawn d0).vm.findClass RL = some m.cls := hown0
  have hV : evK ad sa av ta A (s.setDrawn d0) (s.setDrawn d0).heap := evK.same (u := s) rfl hV0
  obtain ⟨hA1, hok, hokk, hA2, hokR, hB, hZ, hbg, hsz, hhd, hKb, hLa, hIm, hKl, hTa, hSh, hRF, hRC, hRB, hRH, hTf, hRK, hme, hmm, hgB, hHl⟩ := hI
  have hA1 : (0 ≤ (((c1 1) : Int32)).toInt ∧ (((c1 1) : Int32)).toInt ≤ 24) ∧ (0 ≤ (((c1 2) : Int32)).toInt ∧ (((c1 2) : Int32)).toInt ≤ 24) ∧ (0 ≤ (((c2 16 0) : Int32)).toInt ∧ (((c2 16 0) : Int32)).toInt ≤ 12) ∧ (0 ≤ (((c2 16 1) : Int32)).toInt ∧ (((c2 16 1) : Int32)).toInt ≤ 12) ∧ (0 ≤ (((c2 16 2) : Int32)).toInt ∧ (((c2 16 2) : Int32)).toInt ≤ 12) ∧ (0 ≤ (((c2 17 0) : Int32)).toInt ∧ (((c2 17 0) : Int32)).toInt ≤ 12) ∧ (0 ≤ (((c2 17 1) : Int32)).toInt ∧ (((c2 17 1) : Int32)).toInt ≤ 12) ∧ (0 ≤ (((c2 17 2) : Int32)).toInt ∧ (((c2 17 2) : Int32)).toInt ≤ 12) ∧ (0 ≤ (((c1 7) : Int32)).toInt ∧ (((c1 7) : Int32)).toInt ≤ 120) ∧ ((-1 ≤ (((c2 28 0) : Int32)).toInt ∧ (((c2 28 0) : Int32)).toInt ≤ 3) ∧ (0 ≤ (((c2 29 0) : Int32)).toInt ∧ (((c2 29 0) : Int32)).toInt ≤ 30)) ∧ ((-1 ≤ (((c2 28 1) : Int32)).toInt ∧ (((c2 28 1) : Int32)).toInt ≤ 3) ∧ (0 ≤ (((c2 29 1) : Int32)).toInt ∧ (((c2 29 1) : Int32)).toInt ≤ 30)) ∧ ((-1 ≤ (((c2 28 2) : Int32)).toInt ∧ (((c2 28 2) : Int32)).toInt ≤ 3) ∧ (0 ≤ (((c2 29 2) : Int32)).toInt ∧ (((c2 29 2) : Int32)).toInt ≤ 30)) ∧ ((-1 ≤ (((c2 28 3) : Int32)).toInt ∧ (((c2 28 3) : Int32)).toInt ≤ 3) ∧ (0 ≤ (((c2 29 3) : Int32)).toInt ∧ (((c2 29 3) : Int32)).toInt ≤ 30)) := hA1
  have hok : okC (c2 2) (c2 4) (c2 5) (c2 6) := hok
  have hokk : okC (c2 9) (c2 11) (c2 12) (c2 13) := hokk
  have hA2 : (0 ≤ (((q 7) : Int32)).toInt ∧ (((q 7) : Int32)).toInt ≤ 24) ∧ ((1 ≤ (((q 4) : Int32)).toInt ∧ (((q 4) : Int32)).toInt ≤ 9) ∧ (1 ≤ (((q 6) : Int32)).toInt ∧ (((q 6) : Int32)).toInt ≤ 9)) ∧ (0 ≤ (((q 26) : Int32)).toInt ∧ (((q 26) : Int32)).toInt ≤ 120) := hA2
  have hokR : okR (rf 8) (rf 10) (rf 11) := hokR
  have hB : isB (q 14) := hB
  have hZ : ∀ j : Nat, isB ((rf 22) j) := hZ
  have hbg : ∀ k : Nat, k < 3 → 0 ≤ ((rf 13) k).toInt ∧ ((rf 13) k).toInt ≤ 12 := hbg
  have hsz : ∀ k : Nat, k < 4 → 0 ≤ ((rf 35) k).toInt ∧ ((rf 35) k).toInt ≤ 30 := hsz
  have hhd : ∀ k : Nat, k < 4 → ((rf 38) k).toInt = 2 → 1 ≤ ((rl 40) k).toInt := hhd
  have hKb : ¬ ((q 41) : Int32).toInt = 0 → okK (rf 42) := hKb
  have hLa : ((c2 0 0) : Int32) = (q 0) ∧ ((c2 0 1) : Int32) = (q 1) ∧ ((c2 0 2) : Int32) = (q 2) ∧ ((c2 0 3) : Int32) = (q 3) ∧ ((c2 0 4) : Int32) = (q 4) ∧ ((c2 0 5) : Int32) = (q 5) ∧ ((c2 0 6) : Int32) = (q 6) := hLa
  have hIm : ((c1 0) : Int32) = (q 41) := hIm
  have hKl : ¬ ((q 41) : Int32).toInt = 0 → ((c2 1 0) : Int32) = (rf 42) 0 ∧ ((c2 1 1) : Int32) = (rf 42) 1 ∧ ((c2 1 2) : Int32) = (rf 42) 2 ∧ ((c2 1 3) : Int32) = (rf 42) 3 ∧ ((c2 1 4) : Int32) = (rf 42) 4 ∧ ((c2 1 5) : Int32) = (rf 42) 5 ∧ ((c2 1 6) : Int32) = (rf 42) 6 := hKl
  have hTa : ((c1 7) : Int32) = (q 26) := hTa
  have hSh : ∀ k : Nat, k < 4 → ((c2 28) k).toInt = ((rf 34) k).toInt ∧ (0 ≤ ((c2 28) k).toInt → ((c2 29) k).toInt = ((rf 35) k).toInt) := hSh
  have hRF : rlF (c2 34) (c3 7) (c3 8) (rl 39) (rl 40) := hRF
  have hRC : rlC (c1 1) (c2 2) (c2 3) (c2 4) (c2 5) (rfA (q 7) (rf 8) (rf 9) (rf 10) (rf 11)) := hRC
  have hRB : rlB (c2 16) (fun k => [(c2 18), (c2 19), (c2 20)].getD k (c2 18)) (rf 13) (rf 12) := hRB
  have hRH : rlH (c2 34) (c2 35) (rf 38) (rl 39) := hRH
  have hTf : (c2 25) = (rf 25) := hTf
  have hRK : ¬ ((q 41) : Int32).toInt = 0 → rlK (c1 2) (c2 9) (c2 10) (c2 11) (c2 12) (c2 17) (fun k => [(c2 21), (c2 22), (c2 23)].getD k (c2 21)) (rf 42) := hRK
  have hme : ∀ j : Nat, (j : Int) < ((c1 1) : Int32).toInt → mesP (c2 2) (c2 3) (c2 4) (c2 5) (c2 6) (c2 7) (c2 8) j := hme
  have hmm : memW (VALW (fun k => [(c2 0 0), (c2 0 1), (c2 0 2), (c2 0 3), (c2 0 4), (c2 0 5), (c2 0 6)].getD k 0) (c2 2) (c2 3) (c2 4) (c2 5) (c2 6)) ((c1 1) : Int32) ((c1 3) : Int32) (c3 0) (c3 1) (c2 24) := hmm
  have hgB : ∀ j : Nat, j < 672 → ((c2 24) j).toInt ≤ ((c1 3) : Int32).toInt := hgB
  have hHl : ∀ k : Nat, k < 4 → ((rf 38) k).toInt = 2 → lowW ((rl 39) k, (rl 40) k) := hHl
  have hok0 := hok
  have hme0 := hme
  have hlq : (1 ≤ ((c2 0 4) : Int32).toInt ∧ ((c2 0 4) : Int32).toInt ≤ 9) ∧ 1 ≤ ((c2 0 6) : Int32).toInt ∧ ((c2 0 6) : Int32).toInt ≤ 9 := by rw [hLa.2.2.2.2.1, hLa.2.2.2.2.2.2]; exact hA2.2.1
  have hag5 : (c1 3).toInt ≤ 5000 := by omega
  have hi_1 : (ii + 1).toInt = ii.toInt + 1 := hin_1 hL hii
  have hi_2 : (ii + 2).toInt = ii.toInt + 2 := hin_2 hL hii
  have hi_3 : (ii + 3).toInt = ii.toInt + 3 := hin_3 hL hii
  have hi_4 : (ii + 4).toInt = ii.toInt + 4 := hin_4 hL hii
  have hi_5 : (ii + 5).toInt = ii.toInt + 5 := hin_5 hL hii
  have hi_6 : (ii + 6).toInt = ii.toInt + 6 := hin_6 hL hii
  refine lv_aload_n hx hb dL_law_354 rfl (lv_at hl 2 rfl) ?_
  refine lv_aload_n hx hb dL_law_355 rfl (lv_at hl 3 rfl) ?_
  refine lv_iload_n hx hb dL_law_356 rfl (lv_at hl 0 rfl) ?_
  refine lv_iconst (v := 1) hx hb dL_law_357 (by decide +kernel) ?_
  refine lv_iadd hx hb dL_law_358 ?_
  refine va_sld hx hb hX hbl hbA hS (vin_1 hL hii) dL_law_359 ?_
  refine lv_topi (fun z_1 ez_1 => ?_)
  refine lv_aload_n hx hb dL_law_360 rfl (lv_at hl 3 rfl) ?_
  refine lv_iload_n hx hb dL_law_361 rfl (lv_at hl 0 rfl) ?_
  refine lv_iconst (v := 2) hx hb dL_law_362 (by decide +kernel) ?_
  refine lv_iadd hx hb dL_law_363 ?_
  refine va_sld hx hb hX hbl hbA hS (vin_2 hL hii) dL_law_364 ?_
  refine lv_topi (fun z_2 ez_2 => ?_)
  refine vp_callSi (W.runV (As := [.int z_1, .int z_2]) (rest := []) ⟨hx, hb, hml, hown, hts⟩ (c_X12_spotOf l D T q1 [.ref (u 0), .ref (u 1), .int (c1 0), .ref (u 2), .ref (u 3), .ref (u 11), .ref (u 34), .ref (u 38), .ref (u 40), .ref (u 44), .ref (u 65)] z_1 z_2) (cwV 2 hts lg_X12_spotOf rfl rfl rfl hv_X12_spotOf ⟨Nat.le_of_ble_eq_true rfl, Nat.le_of_ble_eq_true rfl⟩) (pR_V (q := (RX12, TX12, 11)) (ci := 9) (q0 := 0) hP hE rfl rfl [0] rfl) rfl rfl hl.1 rfl (lv_room (Nat.le_of_ble_eq_true rfl)) dL_law_365 ⟨Nat.le_of_ble_eq_true rfl, Nat.le_of_ble_eq_true rfl⟩) (fun r_3 hr_3 => ?_)
  refine lv_pop hx hb dL_law_368 rfl ?_
  refine lv_aload_n hx hb dL_law_369 rfl (lv_at hl 1 rfl) ?_
  refine lv_aload_n hx hb dL_law_370 rfl (lv_at hl 3 rfl) ?_
  refine lv_iload_n hx hb dL_law_371 rfl (lv_at hl 0 rfl) ?_
  refine lv_iconst (v := 1) hx hb dL_law_372 (by decide +kernel) ?_
  refine lv_iadd hx hb dL_law_373 ?_
  refine va_sld hx hb hX hbl hbA hS (vin_1 hL hii) dL_law_374 ?_
  refine lv_topi (fun z_4 ez_4 => ?_)
  have hsz_4 : z_1 = z_4 := ez_1.trans ez_4.symm
  subst hsz_4
  refine lv_aload_n hx hb dL_law_375 rfl (lv_at hl 3 rfl) ?_
  refine lv_iload_n hx hb dL_law_376 rfl (lv_at hl 0 rfl) ?_
  refine lv_iconst (v := 2) hx hb dL_law_377 (by decide +kernel) ?_
  refine lv_iadd hx hb dL_law_378 ?_
  refine va_sld hx hb hX hbl hbA hS (vin_2 hL hii) dL_law_379 ?_
  refine lv_topi (fun z_5 ez_5 => ?_)
  have hsz_5 : z_2 = z_5 := ez_2.trans ez_5.symm
  subst hsz_5
  refine vp_callSi (W.runV (As := [.int z_1, .int z_2]) (rest := []) ⟨hx, hb, hml, hown, hts⟩ (c_X13_spotOf l D T q2 [.int (q 0), .int (q 1), .int (q 2), .int (q 3), .int (q 4), .int (q 5), .int (q 6), .int (q 7), .ref (v 8), .ref (v 9), .ref (v 10), .ref (v 11), .ref (v 12), .ref (v 13), .int (q 14), .long vl, .long wl, .ref (v 17), .ref (v 18), .ref (v 19), .ref (v 20), .ref (v 21), .ref (v 22), .ref (v 23), .int (q 24), .ref (v 25), .int (q 26), .ref (v 27), .int (q 28), .int (q 29), .int (q 30), .int (q 31), .int (q 32), .int (q 33), .ref (v 34), .ref (v 35), .ref (v 36), .ref (v 37), .ref (v 38), .ref (v 39), .ref (v 40), .int (q 41), .ref (v 42), .int (q 43), .int (q 44)] z_1 z_2) (cwV 2 hts lg_X13_spotOf rfl rfl rfl hv_X13_spotOf ⟨Nat.le_of_ble_eq_true rfl, Nat.le_of_ble_eq_true rfl⟩) (pR_V (q := (RX13, TX13, 45)) (ci := 10) (q0 := 71) hP hE rfl rfl [71] rfl) rfl rfl hl.1 rfl (lv_room (Nat.le_of_ble_eq_true rfl)) dL_law_380 ⟨Nat.le_of_ble_eq_true rfl, Nat.le_of_ble_eq_true rfl⟩) (fun r_6 hr_6 => ?_)
  refine lv_pop hx hb dL_law_383 rfl ?_
  refine lv_goto (tgt := 1867) hx hb dL_law_384 (by decide +kernel) ?_
  exact K c1 c2 c3 c4 c5 q vl wl rf rl rd ls H locs _ hd0 ⟨(show (0 ≤ (((c1 1) : Int32)).toInt ∧ (((c1 1) : Int32)).toInt ≤ 24) ∧ (0 ≤ (((c1 2) : Int32)).toInt ∧ (((c1 2) : Int32)).toInt ≤ 24) ∧ (0 ≤ (((c2 16 0) : Int32)).toInt ∧ (((c2 16 0) : Int32)).toInt ≤ 12) ∧ (0 ≤ (((c2 16 1) : Int32)).toInt ∧ (((c2 16 1) : Int32)).toInt ≤ 12) ∧ (0 ≤ (((c2 16 2) : Int32)).toInt ∧ (((c2 16 2) : Int32)).toInt ≤ 12) ∧ (0 ≤ (((c2 17 0) : Int32)).toInt ∧ (((c2 17 0) : Int32)).toInt ≤ 12) ∧ (0 ≤ (((c2 17 1) : Int32)).toInt ∧ (((c2 17 1) : Int32)).toInt ≤ 12) ∧ (0 ≤ (((c2 17 2) : Int32)).toInt ∧ (((c2 17 2) : Int32)).toInt ≤ 12) ∧ (0 ≤ (((c1 7) : Int32)).toInt ∧ (((c1 7) : Int32)).toInt ≤ 120) ∧ ((-1 ≤ (((c2 28 0) : Int32)).toInt ∧ (((c2 28 0) : Int32)).toInt ≤ 3) ∧ (0 ≤ (((c2 29 0) : Int32)).toInt ∧ (((c2 29 0) : Int32)).toInt ≤ 30)) ∧ ((-1 ≤ (((c2 28 1) : Int32)).toInt ∧ (((c2 28 1) : Int32)).toInt ≤ 3) ∧ (0 ≤ (((c2 29 1) : Int32)).toInt ∧ (((c2 29 1) : Int32)).toInt ≤ 30)) ∧ ((-1 ≤ (((c2 28 2) : Int32)).toInt ∧ (((c2 28 2) : Int32)).toInt ≤ 3) ∧ (0 ≤ (((c2 29 2) : Int32)).toInt ∧ (((c2 29 2) : Int32)).toInt ≤ 30)) ∧ ((-1 ≤ (((c2 28 3) : Int32)).toInt ∧ (((c2 28 3) : Int32)).toInt ≤ 3) ∧ (0 ≤ (((c2 29 3) : Int32)).toInt ∧ (((c2 29 3) : Int32)).toInt ≤ 30)) from ⟨hA1.1, hA1.2.1, hA1.2.2.1, hA1.2.2.2.1, hA1.2.2.2.2.1, hA1.2.2.2.2.2.1, hA1.2.2.2.2.2.2.1, hA1.2.2.2.2.2.2.2.1, hA1.2.2.2.2.2.2.2.2.1, hA1.2.2.2.2.2.2.2.2.2.1, hA1.2.2.2.2.2.2.2.2.2.2.1, hA1.2.2.2.2.2.2.2.2.2.2.2.1, hA1.2.2.2.2.2.2.2.2.2.2.2.2⟩), (show okC (c2 2) (c2 4) (c2 5) (c2 6) from (by first | exact hok | assumption)), (show okC (c2 9) (c2 11) (c2 12) (c2 13) from (by first | exact hokk | assumption)), (show (0 ≤ (((q 7) : Int32)).toInt ∧ (((q 7) : Int32)).toInt ≤ 24) ∧ ((1 ≤ (((q 4) : Int32)).toInt ∧ (((q 4) : Int32)).toInt ≤ 9) ∧ (1 ≤ (((q 6) : Int32)).toInt ∧ (((q 6) : Int32)).toInt ≤ 9)) ∧ (0 ≤ (((q 26) : Int32)).toInt ∧ (((q 26) : Int32)).toInt ≤ 120) from ⟨hA2.1, hA2.2.1, hA2.2.2⟩), (show okR (rf 8) (rf 10) (rf 11) from (by first | exact hokR | assumption)), (show isB (q 14) from (by first | exact hB | assumption | exact isB0 | exact isB1)), (show ∀ j : Nat, isB ((rf 22) j) from (by first | exact hZ | assumption)), (show ∀ k : Nat, k < 3 → 0 ≤ ((rf 13) k).toInt ∧ ((rf 13) k).toInt ≤ 12 from (by first | exact hbg | assumption)), (show ∀ k : Nat, k < 4 → 0 ≤ ((rf 35) k).toInt ∧ ((rf 35) k).toInt ≤ 30 from (by first | exact hsz | assumption)), (show ∀ k : Nat, k < 4 → ((rf 38) k).toInt = 2 → 1 ≤ ((rl 40) k).toInt from (by first | exact hhd | assumption)), (show ¬ ((q 41) : Int32).toInt = 0 → okK (rf 42) from (by first | exact hKb | assumption | exact (fun _ => by assumption))), (show ((c2 0 0) : Int32) = (q 0) ∧ ((c2 0 1) : Int32) = (q 1) ∧ ((c2 0 2) : Int32) = (q 2) ∧ ((c2 0 3) : Int32) = (q 3) ∧ ((c2 0 4) : Int32) = (q 4) ∧ ((c2 0 5) : Int32) = (q 5) ∧ ((c2 0 6) : Int32) = (q 6) from (by first | exact hLa | assumption)), (show ((c1 0) : Int32) = (q 41) from (by first | exact hIm | assumption | rfl)), (show ¬ ((q 41) : Int32).toInt = 0 → ((c2 1 0) : Int32) = (rf 42) 0 ∧ ((c2 1 1) : Int32) = (rf 42) 1 ∧ ((c2 1 2) : Int32) = (rf 42) 2 ∧ ((c2 1 3) : Int32) = (rf 42) 3 ∧ ((c2 1 4) : Int32) = (rf 42) 4 ∧ ((c2 1 5) : Int32) = (rf 42) 5 ∧ ((c2 1 6) : Int32) = (rf 42) 6 from (by first | exact hKl | assumption)), (show ((c1 7) : Int32) = (q 26) from (by first | exact hTa | assumption | rfl)), (show ∀ k : Nat, k < 4 → ((c2 28) k).toInt = ((rf 34) k).toInt ∧ (0 ≤ ((c2 28) k).toInt → ((c2 29) k).toInt = ((rf 35) k).toInt) from (by first | exact hSh | assumption)), (show rlF (c2 34) (c3 7) (c3 8) (rl 39) (rl 40) from (by first | exact hRF | assumption)), (show rlC (c1 1) (c2 2) (c2 3) (c2 4) (c2 5) (rfA (q 7) (rf 8) (rf 9) (rf 10) (rf 11)) from (by first | exact hRC | assumption)), (show rlB (c2 16) (fun k => [(c2 18), (c2 19), (c2 20)].getD k (c2 18)) (rf 13) (rf 12) from (by first | exact hRB | assumption)), (show rlH (c2 34) (c2 35) (rf 38) (rl 39) from (by first | exact hRH | assumption)), (show (c2 25) = (rf 25) from (by first | exact hTf | assumption | rfl)), (show ¬ ((q 41) : Int32).toInt = 0 → rlK (c1 2) (c2 9) (c2 10) (c2 11) (c2 12) (c2 17) (fun k => [(c2 21), (c2 22), (c2 23)].getD k (c2 21)) (rf 42) from (by first | exact hRK | assumption)), (show ∀ j : Nat, (j : Int) < ((c1 1) : Int32).toInt → mesP (c2 2) (c2 3) (c2 4) (c2 5) (c2 6) (c2 7) (c2 8) j from (by first | exact hme | assumption)), (show memW (VALW (fun k => [(c2 0 0), (c2 0 1), (c2 0 2), (c2 0 3), (c2 0 4), (c2 0 5), (c2 0 6)].getD k 0) (c2 2) (c2 3) (c2 4) (c2 5) (c2 6)) ((c1 1) : Int32) ((c1 3) : Int32) (c3 0) (c3 1) (c2 24) from (by first | exact hmm | assumption)), (show ∀ j : Nat, j < 672 → ((c2 24) j).toInt ≤ ((c1 3) : Int32).toInt from (by first | exact hgB | assumption)), (show ∀ k : Nat, k < 4 → ((rf 38) k).toInt = 2 → lowW ((rl 39) k, (rl 40) k) from (by first | exact hHl | assumption))⟩ (show ((c1 3) : Int32).toInt ≤ ii.toInt + 2 from by omega) (show va_P D vwCl (lwW T sa q1 q2 u v c1 c2 c3 c4 c5 q vl wl rf rl rd) H from hP) (show va_D A (lwW T sa q1 q2 u v c1 c2 c3 c4 c5 q vl wl rf rl rd) from hD) hS hl
theorem dL_law_387 : decode cL_law 387 = .ok (.aload_n 1, 1) := by decide +kernel
theorem dL_law_388 : decode cL_law 388 = .ok (.aload_n 0, 1) := by decide +kernel
theorem dL_law_389 : decode cL_law 389 = .ok (.iload_n 3, 1) := by decide +kernel
theorem dL_law_390 : decode cL_law 390 = .ok (.iconst 1, 1) := by decide +kernel
theorem dL_law_391 : decode cL_law 391 = .ok (.iadd, 1) := by decide +kernel
theorem dL_law_392 : decode cL_law 392 = .ok (.iaload, 1) := by decide +kernel
theorem dL_law_393 : decode cL_law 393 = .ok (.aload_n 0, 1) := by decide +kernel
theorem dL_law_394 : decode cL_law 394 = .ok (.iload_n 3, 1) := by decide +kernel
theorem dL_law_395 : decode cL_law 395 = .ok (.iconst 2, 1) := by decide +kernel
theorem dL_law_396 : decode cL_law 396 = .ok (.iadd, 1) := by decide +kernel
theorem dL_law_397 : decode cL_law 397 = .ok (.iaload, 1) := by decide +kernel
theorem dL_law_398 : decode cL_law 398 = .ok (.aload_n 0, 1) := by decide +kernel
theorem dL_law_399 : decode cL_law 399 = .ok (.iload_n 3, 1) := by decide +kernel
theorem dL_law_400 : decode cL_law 400 = .ok (.iconst 3, 1) := by decide +kernel
theorem dL_law_401 : decode cL_law 401 = .ok (.iadd, 1) := by decide +kernel
theorem dL_law_402 : decode cL_law 402 = .ok (.iaload, 1) := by decide +kernel
theorem dL_law_403 : decode cL_law 403 = .ok (.aload_n 0, 1) := by decide +kernel
theorem dL_law_404 : decode cL_law 404 = .ok (.iload_n 3, 1) := by decide +kernel
theorem dL_law_405 : decode cL_law 405 = .ok (.iconst 4, 1) := by decide +kernel
theorem dL_law_406 : decode cL_law 406 = .ok (.iadd, 1) := by decide +kernel
theorem dL_law_407 : decode cL_law 407 = .ok (.iaload, 1) := by decide +kernel
theorem dL_law_408 : decode cL_law 408 = .ok (.invokevirtual 35, 3) := by decide +kernel
theorem dL_law_411 : decode cL_law 411 = .ok (.pop, 1) := by decide +kernel
theorem dL_law_412 : decode cL_law 412 = .ok (.aload_n 2, 1) := by decide +kernel
theorem dL_law_413 : decode cL_law 413 = .ok (.aload_n 0, 1) := by decide +kernel
theorem dL_law_414 : decode cL_law 414 = .ok (.iload_n 3, 1) := by decide +kernel
theorem dL_law_415 : decode cL_law 415 = .ok (.iconst 1, 1) := by decide +kernel
theorem dL_law_416 : decode cL_law 416 = .ok (.iadd, 1) := by decide +kernel
theorem dL_law_417 : decode cL_law 417 = .ok (.iaload, 1) := by decide +kernel
theorem dL_law_418 : decode cL_law 418 = .ok (.aload_n 0, 1) := by decide +kernel
theorem dL_law_419 : decode cL_law 419 = .ok (.iload_n 3, 1) := by decide +kernel
theorem dL_law_420 : decode cL_law 420 = .ok (.iconst 2, 1) := by decide +kernel
theorem dL_law_421 : decode cL_law 421 = .ok (.iadd, 1) := by decide +kernel
theorem dL_law_422 : decode cL_law 422 = .ok (.iaload, 1) := by decide +kernel
theorem dL_law_423 : decode cL_law 423 = .ok (.aload_n 0, 1) := by decide +kernel
theorem dL_law_424 : decode cL_law 424 = .ok (.iload_n 3, 1) := by decide +kernel
theorem dL_law_425 : decode cL_law 425 = .ok (.iconst 3, 1) := by decide +kernel
theorem dL_law_426 : decode cL_law 426 = .ok (.iadd, 1) := by decide +kernel
theorem dL_law_427 : decode cL_law 427 = .ok (.iaload, 1) := by decide +kernel
theorem dL_law_428 : decode cL_law 428 = .ok (.aload_n 0, 1) := by decide +kernel
theorem dL_law_429 : decode cL_law 429 = .ok (.iload_n 3, 1) := by decide +kernel
theorem dL_law_430 : decode cL_law 430 = .ok (.iconst 4, 1) := by decide +kernel
theorem dL_law_431 : decode cL_law 431 = .ok (.iadd, 1) := by decide +kernel
theorem dL_law_432 : decode cL_law 432 = .ok (.iaload, 1) := by decide +kernel
theorem dL_law_433 : decode cL_law 433 = .ok (.invokevirtual 39, 3) := by decide +kernel
theorem dL_law_436 : decode cL_law 436 = .ok (.pop, 1) := by decide +kernel
theorem dL_law_437 : decode cL_law 437 = .ok (.goto 1430, 3) := by decide +kernel
theorem hv_X12_clause : yX12_clause.cls = RX12 ∧ yX12_clause.cls ≠ "java/lang/invoke/MethodHandle" ∧ yX12_clause.cls ≠ "java/lang/invoke/VarHandle" ∧ (parseMethodDescriptor yX12_clause.desc).map (fun d => d.parameters.length) = some 4 := by decide +kernel
theorem hv_X13_clause : yX13_clause.cls = RX13 ∧ yX13_clause.cls ≠ "java/lang/invoke/MethodHandle" ∧ yX13_clause.cls ≠ "java/lang/invoke/VarHandle" ∧ (parseMethodDescriptor yX13_clause.desc).map (fun d => d.parameters.length) = some 4 := by decide +kernel
set_option maxRecDepth 40000 in
theorem lg_X12_clause : GoodIn lw_tbl (wsV RL 35 RX12 yX12_clause wsX12_clause) := goodIn_app (gl_cons ⟨lwt_1 _ (List.mem_of_getElem? (i := 142) rfl), by decide +kernel⟩ (gl_cons ⟨lwt_1 _ (List.mem_of_getElem? (i := 143) rfl), by decide +kernel⟩ (gl_cons ⟨lwt_1 _ (List.mem_of_getElem? (i := 144) rfl), by decide +kernel⟩ (gl_cons ⟨lwt_0 _ (List.mem_of_getElem? (i := 1) rfl), by decide +kernel⟩ gl_nil)))) lgg_X12_clause
set_option maxRecDepth 40000 in
theorem lg_X13_clause : GoodIn lw_tbl (wsV RL 39 RX13 yX13_clause wsX13_clause) := goodIn_app (gl_cons ⟨lwt_4 _ (List.mem_of_getElem? (i := 148) rfl), by decide +kernel⟩ (gl_cons ⟨lwt_4 _ (List.mem_of_getElem? (i := 149) rfl), by decide +kernel⟩ (gl_cons ⟨lwt_4 _ (List.mem_of_getElem? (i := 150) rfl), by decide +kernel⟩ (gl_cons ⟨lwt_0 _ (List.mem_of_getElem? (i := 11) rfl), by decide +kernel⟩ gl_nil)))) lgg_X13_clause
set_option maxHeartbeats 8000000 in
set_option maxRecDepth 100000 in
theorem law_c5 {p : Program} {e : Env} {s : State} {m : MethodId} {below : List Frame} {meth : Method} {c : Code} {l : Launch} {b L : Nat} {xs : Nat → Int32} (hL : L ≤ 3584) (C0 : lw_At p s m meth c b L xs) {D : va_G} {T : Nat → ClassId} {ad sa av : Nat → Nat} {ta : Nat} {A : Nat → Prop} (hA : ∀ q : Nat, s.heap.size ≤ q → A q) (hAf : ∀ q : Nat, A q → s.heap.size ≤ q) (hbA : ¬ A b) (hE0 : ekK D T s) (hV0 : evK ad sa av ta A s s.heap) {q1 q2 : Nat} {u v : Nat → Nat} {ii : Int32} (hii : 0 ≤ ii.toInt ∧ ii.toInt + 7 ≤ L) (K : lwK p l e s m below meth c b D T sa A q1 q2 u v ii) (c1 : Nat → Int32) (c2 : Nat → Nat → Int32) (c3 : Nat → Nat → Int64) (c4 : Nat → Nat → UInt32) (c5 : Nat → Nat → UInt64) (q : Nat → Int32) (vl wl : Int64) (rf : Nat → Nat → Int32) (rl : Nat → Nat → Int64) (rd : Nat → UInt64) {ls : Array Slot} {H : Heap} {locs : List Loc} {d0 : Drawn} (hd0 : s.drawn.sameBut d0 lw_cs) (hI : lwI c1 c2 c3 q rf rl) (hAg : (c1 3).toInt ≤ ii.toInt + 1) (hP : va_P D vwCl (lwW T sa q1 q2 u v c1 c2 c3 c4 c5 q vl wl rf rl rd) H) (hD : va_D A (lwW T sa q1 q2 u v c1 c2 c3 c4 c5 q vl wl rf rl rd)) (hS : va_S A s.heap H locs) (hl : lv_has ls 4 [(3, .int ii), (2, .ref q2), (1, .ref q1), (0, .ref b)]) : W p l e room_1 (s.setDrawn d0) m #[Value.ref b] below meth c H locs 95 6031 (lw_Z below #[Value.ref b] s) (F0 m 387 ls []) := by
  obtain ⟨hx, hb, hr, hml, hown0, hts0, hX0, hbl, hlocks, hgv⟩ := id C0
  have hX : va_X b L xs (s.setDrawn d0) s.heap := hX0
  have hown0 : s.vm.findClass RL = some m.cls := hown0
  have hts := dr_words hts0 d0
  have hE : ekK D T (s.setDrawn d0) := ekK.same (u := s) rfl hE0
  have hown : (s.setDrawn d0).vm.findClass RL = some m.cls := hown0
  have hV : evK ad sa av ta A (s.setDrawn d0) (s.setDrawn d0).heap := evK.same (u := s) rfl hV0
  obtain ⟨hA1, hok, hokk, hA2, hokR, hB, hZ, hbg, hsz, hhd, hKb, hLa, hIm, hKl, hTa, hSh, hRF, hRC, hRB, hRH, hTf, hRK, hme, hmm, hgB, hHl⟩ := hI
  have hA1 : (0 ≤ (((c1 1) : Int32)).toInt ∧ (((c1 1) : Int32)).toInt ≤ 24) ∧ (0 ≤ (((c1 2) : Int32)).toInt ∧ (((c1 2) : Int32)).toInt ≤ 24) ∧ (0 ≤ (((c2 16 0) : Int32)).toInt ∧ (((c2 16 0) : Int32)).toInt ≤ 12) ∧ (0 ≤ (((c2 16 1) : Int32)).toInt ∧ (((c2 16 1) : Int32)).toInt ≤ 12) ∧ (0 ≤ (((c2 16 2) : Int32)).toInt ∧ (((c2 16 2) : Int32)).toInt ≤ 12) ∧ (0 ≤ (((c2 17 0) : Int32)).toInt ∧ (((c2 17 0) : Int32)).toInt ≤ 12) ∧ (0 ≤ (((c2 17 1) : Int32)).toInt ∧ (((c2 17 1) : Int32)).toInt ≤ 12) ∧ (0 ≤ (((c2 17 2) : Int32)).toInt ∧ (((c2 17 2) : Int32)).toInt ≤ 12) ∧ (0 ≤ (((c1 7) : Int32)).toInt ∧ (((c1 7) : Int32)).toInt ≤ 120) ∧ ((-1 ≤ (((c2 28 0) : Int32)).toInt ∧ (((c2 28 0) : Int32)).toInt ≤ 3) ∧ (0 ≤ (((c2 29 0) : Int32)).toInt ∧ (((c2 29 0) : Int32)).toInt ≤ 30)) ∧ ((-1 ≤ (((c2 28 1) : Int32)).toInt ∧ (((c2 28 1) : Int32)).toInt ≤ 3) ∧ (0 ≤ (((c2 29 1) : Int32)).toInt ∧ (((c2 29 1) : Int32)).toInt ≤ 30)) ∧ ((-1 ≤ (((c2 28 2) : Int32)).toInt ∧ (((c2 28 2) : Int32)).toInt ≤ 3) ∧ (0 ≤ (((c2 29 2) : Int32)).toInt ∧ (((c2 29 2) : Int32)).toInt ≤ 30)) ∧ ((-1 ≤ (((c2 28 3) : Int32)).toInt ∧ (((c2 28 3) : Int32)).toInt ≤ 3) ∧ (0 ≤ (((c2 29 3) : Int32)).toInt ∧ (((c2 29 3) : Int32)).toInt ≤ 30)) := hA1
  have hok : okC (c2 2) (c2 4) (c2 5) (c2 6) := hok
  have hokk : okC (c2 9) (c2 11) (c2 12) (c2 13) := hokk
  have hA2 : (0 ≤ (((q 7) : Int32)).toInt ∧ (((q 7) : Int32)).toInt ≤ 24) ∧ ((1 ≤ (((q 4) : Int32)).toInt ∧ (((q 4) : Int32)).toInt ≤ 9) ∧ (1 ≤ (((q 6) : Int32)).toInt ∧ (((q 6) : Int32)).toInt ≤ 9)) ∧ (0 ≤ (((q 26) : Int32)).toInt ∧ (((q 26) : Int32)).toInt ≤ 120) := hA2
  have hokR : okR (rf 8) (rf 10) (rf 11) := hokR
  have hB : isB (q 14) := hB
  have hZ : ∀ j : Nat, isB ((rf 22) j) := hZ
  have hbg : ∀ k : Nat, k < 3 → 0 ≤ ((rf 13) k).toInt ∧ ((rf 13) k).toInt ≤ 12 := hbg
  have hsz : ∀ k : Nat, k < 4 → 0 ≤ ((rf 35) k).toInt ∧ ((rf 35) k).toInt ≤ 30 := hsz
  have hhd : ∀ k : Nat, k < 4 → ((rf 38) k).toInt = 2 → 1 ≤ ((rl 40) k).toInt := hhd
  have hKb : ¬ ((q 41) : Int32).toInt = 0 → okK (rf 42) := hKb
  have hLa : ((c2 0 0) : Int32) = (q 0) ∧ ((c2 0 1) : Int32) = (q 1) ∧ ((c2 0 2) : Int32) = (q 2) ∧ ((c2 0 3) : Int32) = (q 3) ∧ ((c2 0 4) : Int32) = (q 4) ∧ ((c2 0 5) : Int32) = (q 5) ∧ ((c2 0 6) : Int32) = (q 6) := hLa
  have hIm : ((c1 0) : Int32) = (q 41) := hIm
  have hKl : ¬ ((q 41) : Int32).toInt = 0 → ((c2 1 0) : Int32) = (rf 42) 0 ∧ ((c2 1 1) : Int32) = (rf 42) 1 ∧ ((c2 1 2) : Int32) = (rf 42) 2 ∧ ((c2 1 3) : Int32) = (rf 42) 3 ∧ ((c2 1 4) : Int32) = (rf 42) 4 ∧ ((c2 1 5) : Int32) = (rf 42) 5 ∧ ((c2 1 6) : Int32) = (rf 42) 6 := hKl
  have hTa : ((c1 7) : Int32) = (q 26) := hTa
  have hSh : ∀ k : Nat, k < 4 → ((c2 28) k).toInt = ((rf 34) k).toInt ∧ (0 ≤ ((c2 28) k).toInt → ((c2 29) k).toInt = ((rf 35) k).toInt) := hSh
  have hRF : rlF (c2 34) (c3 7) (c3 8) (rl 39) (rl 40) := hRF
  have hRC : rlC (c1 1) (c2 2) (c2 3) (c2 4) (c2 5) (rfA (q 7) (rf 8) (rf 9) (rf 10) (rf 11)) := hRC
  have hRB : rlB (c2 16) (fun k => [(c2 18), (c2 19), (c2 20)].getD k (c2 18)) (rf 13) (rf 12) := hRB
  have hRH : rlH (c2 34) (c2 35) (rf 38) (rl 39) := hRH
  have hTf : (c2 25) = (rf 25) := hTf
  have hRK : ¬ ((q 41) : Int32).toInt = 0 → rlK (c1 2) (c2 9) (c2 10) (c2 11) (c2 12) (c2 17) (fun k => [(c2 21), (c2 22), (c2 23)].getD k (c2 21)) (rf 42) := hRK
  have hme : ∀ j : Nat, (j : Int) < ((c1 1) : Int32).toInt → mesP (c2 2) (c2 3) (c2 4) (c2 5) (c2 6) (c2 7) (c2 8) j := hme
  have hmm : memW (VALW (fun k => [(c2 0 0), (c2 0 1), (c2 0 2), (c2 0 3), (c2 0 4), (c2 0 5), (c2 0 6)].getD k 0) (c2 2) (c2 3) (c2 4) (c2 5) (c2 6)) ((c1 1) : Int32) ((c1 3) : Int32) (c3 0) (c3 1) (c2 24) := hmm
  have hgB : ∀ j : Nat, j < 672 → ((c2 24) j).toInt ≤ ((c1 3) : Int32).toInt := hgB
  have hHl : ∀ k : Nat, k < 4 → ((rf 38) k).toInt = 2 → lowW ((rl 39) k, (rl 40) k) := hHl
  have hok0 := hok
  have hme0 := hme
  have hlq : (1 ≤ ((c2 0 4) : Int32).toInt ∧ ((c2 0 4) : Int32).toInt ≤ 9) ∧ 1 ≤ ((c2 0 6) : Int32).toInt ∧ ((c2 0 6) : Int32).toInt ≤ 9 := by rw [hLa.2.2.2.2.1, hLa.2.2.2.2.2.2]; exact hA2.2.1
  have hag5 : (c1 3).toInt ≤ 5000 := by omega
  have hi_1 : (ii + 1).toInt = ii.toInt + 1 := hin_1 hL hii
  have hi_2 : (ii + 2).toInt = ii.toInt + 2 := hin_2 hL hii
  have hi_3 : (ii + 3).toInt = ii.toInt + 3 := hin_3 hL hii
  have hi_4 : (ii + 4).toInt = ii.toInt + 4 := hin_4 hL hii
  have hi_5 : (ii + 5).toInt = ii.toInt + 5 := hin_5 hL hii
  have hi_6 : (ii + 6).toInt = ii.toInt + 6 := hin_6 hL hii
  refine lv_aload_n hx hb dL_law_387 rfl (lv_at hl 2 rfl) ?_
  refine lv_aload_n hx hb dL_law_388 rfl (lv_at hl 3 rfl) ?_
  refine lv_iload_n hx hb dL_law_389 rfl (lv_at hl 0 rfl) ?_
  refine lv_iconst (v := 1) hx hb dL_law_390 (by decide +kernel) ?_
  refine lv_iadd hx hb dL_law_391 ?_
  refine va_sld hx hb hX hbl hbA hS (vin_1 hL hii) dL_law_392 ?_
  refine lv_topi (fun z_1 ez_1 => ?_)
  refine lv_aload_n hx hb dL_law_393 rfl (lv_at hl 3 rfl) ?_
  refine lv_iload_n hx hb dL_law_394 rfl (lv_at hl 0 rfl) ?_
  refine lv_iconst (v := 2) hx hb dL_law_395 (by decide +kernel) ?_
  refine lv_iadd hx hb dL_law_396 ?_
  refine va_sld hx hb hX hbl hbA hS (vin_2 hL hii) dL_law_397 ?_
  refine lv_topi (fun z_2 ez_2 => ?_)
  refine lv_aload_n hx hb dL_law_398 rfl (lv_at hl 3 rfl) ?_
  refine lv_iload_n hx hb dL_law_399 rfl (lv_at hl 0 rfl) ?_
  refine lv_iconst (v := 3) hx hb dL_law_400 (by decide +kernel) ?_
  refine lv_iadd hx hb dL_law_401 ?_
  refine va_sld hx hb hX hbl hbA hS (vin_3 hL hii) dL_law_402 ?_
  refine lv_topi (fun z_3 ez_3 => ?_)
  refine lv_aload_n hx hb dL_law_403 rfl (lv_at hl 3 rfl) ?_
  refine lv_iload_n hx hb dL_law_404 rfl (lv_at hl 0 rfl) ?_
  refine lv_iconst (v := 4) hx hb dL_law_405 (by decide +kernel) ?_
  refine lv_iadd hx hb dL_law_406 ?_
  refine va_sld hx hb hX hbl hbA hS (vin_4 hL hii) dL_law_407 ?_
  refine lv_topi (fun z_4 ez_4 => ?_)
  have hFc := va_free (wc := [(q1, .inr (9, [.ref (u 0), .ref (u 1), .int (c1 0), .ref (u 2), .ref (u 3), .ref (u 11), .ref (u 34), .ref (u 38), .ref (u 40), .ref (u 44), .ref (u 65)])), ((u 3), .inr (1, [.int (c1 1), .ref (u 4), .ref (u 5), .ref (u 6), .ref (u 7), .ref (u 8), .ref (u 9), .ref (u 10)])), ((u 4), .inl (T 0, 24, .inl (c2 2))), ((u 5), .inl (T 0, 24, .inl (c2 3))), ((u 6), .inl (T 0, 24, .inl (c2 4))), ((u 7), .inl (T 0, 24, .inl (c2 5))), ((u 8), .inl (T 0, 24, .inl (c2 6))), ((u 9), .inl (T 0, 24, .inl (c2 7))), ((u 10), .inl (T 0, 24, .inl (c2 8)))]) hD hS hA [0, 3, 4, 5, 6, 7, 8, 9, 10] rfl
  refine va_calli (va_runV (As := [.int z_1, .int z_2, .int z_3, .int z_4]) (rest := []) ⟨hx, hb, hml, hown, hts⟩ (c_X12_clause l D T ad sa av ta _ q1 (u 3) [.ref (u 0), .ref (u 1), .int (c1 0), .ref (u 2), .ref (u 3), .ref (u 11), .ref (u 34), .ref (u 38), .ref (u 40), .ref (u 44), .ref (u 65)] (c1 1) (u 4) (u 5) (u 6) (u 7) (u 8) (u 9) (u 10) (c2 2) (c2 3) (c2 4) (c2 5) (c2 6) (c2 7) (c2 8) z_1 z_2 z_3 z_4 rfl (by omega) hok hme) (cwV 4 hts lg_X12_clause rfl rfl rfl hv_X12_clause ⟨Nat.le_of_ble_eq_true rfl, Nat.le_of_ble_eq_true rfl⟩) (pWk_V (q := (RX12, TX12, 11)) (ci := 9) (q0 := 0) hP hE hD hV hS hFc rfl rfl [0, 3, 4, 5, 6, 7, 8, 9, 10] (by decide +kernel) rfl rfl) rfl rfl hl.1 rfl (lv_room (Nat.le_of_ble_eq_true rfl)) dL_law_408 ⟨Nat.le_of_ble_eq_true rfl, Nat.le_of_ble_eq_true rfl⟩) hS (fun q _ h => hFc q h) hFc (fun r_5 u_6 t H1 locs ht hvm hr_5 hB hz1 hk1 hS => ?_)
  obtain ⟨⟨hszu_6, hok⟩, hPc, hme⟩ := hr_5
  have hPc : clauseC (c1 1) z_1 z_2 z_3 z_4 r_5 (u_6 0 0) (c2 2) (c2 3) (c2 4) (c2 5) (u_6 1) (u_6 2) (u_6 3) (u_6 4) := hPc
  have hme : (∀ j : Nat, (j : Int) < (u_6 0 0).toInt → mesP (u_6 1) (u_6 2) (u_6 3) (u_6 4) (u_6 5) (u_6 6) (u_6 7) j) := hme
  obtain ⟨hP1, hD1⟩ := hB
  rw [ht] at hP1
  obtain ⟨hP, hD⟩ := va_repl [(q1, .inr (9, [.ref (u 0), .ref (u 1), .int (c1 0), .ref (u 2), .ref (u 3), .ref (u 11), .ref (u 34), .ref (u 38), .ref (u 40), .ref (u 44), .ref (u 65)])), ((u 0), .inr (4, [.ref (u 2), .ref (u 3), .ref (u 11)])), ((u 2), .inr (5, [.int (c2 0 0), .int (c2 0 1), .int (c2 0 2), .int (c2 0 3), .int (c2 0 4), .int (c2 0 5), .int (c2 0 6)])), ((u 3), .inr (1, [.int (u_6 0 0), .ref (u 4), .ref (u 5), .ref (u 6), .ref (u 7), .ref (u 8), .ref (u 9), .ref (u 10)])), ((u 4), .inl (T 0, 24, .inl (u_6 1))), ((u 5), .inl (T 0, 24, .inl (u_6 2))), ((u 6), .inl (T 0, 24, .inl (u_6 3))), ((u 7), .inl (T 0, 24, .inl (u_6 4))), ((u 8), .inl (T 0, 24, .inl (u_6 5))), ((u 9), .inl (T 0, 24, .inl (u_6 6))), ((u 10), .inl (T 0, 24, .inl (u_6 7))), ((u 11), .inl (T 5, 3, .inr (.inr (.inr (.inr (va_up (va_up (va_up (fun _ => none) 0 (some (u 12))) 1 (some (u 13))) 2 (some (u 14)))))))), ((u 12), .inr (0, [.int (c2 16 0), .ref (u 15)])), ((u 13), .inr (0, [.int (c2 16 1), .ref (u 16)])), ((u 14), .inr (0, [.int (c2 16 2), .ref (u 17)])), ((u 15), .inl (T 0, 12, .inl (c2 18))), ((u 16), .inl (T 0, 12, .inl (c2 19))), ((u 17), .inl (T 0, 12, .inl (c2 20))), ((u 1), .inr (4, [.ref (u 18), .ref (u 19), .ref (u 27)])), ((u 18), .inr (5, [.int (c2 1 0), .int (c2 1 1), .int (c2 1 2), .int (c2 1 3), .int (c2 1 4), .int (c2 1 5), .int (c2 1 6)])), ((u 19), .inr (1, [.int (c1 2), .ref (u 20), .ref (u 21), .ref (u 22), .ref (u 23), .ref (u 24), .ref (u 25), .ref (u 26)])), ((u 20), .inl (T 0, 24, .inl (c2 9))), ((u 21), .inl (T 0, 24, .inl (c2 10))), ((u 22), .inl (T 0, 24, .inl (c2 11))), ((u 23), .inl (T 0, 24, .inl (c2 12))), ((u 24), .inl (T 0, 24, .inl (c2 13))), ((u 25), .inl (T 0, 24, .inl (c2 14))), ((u 26), .inl (T 0, 24, .inl (c2 15))), ((u 27), .inl (T 5, 3, .inr (.inr (.inr (.inr (va_up (va_up (va_up (fun _ => none) 0 (some (u 28))) 1 (some (u 29))) 2 (some (u 30)))))))), ((u 28), .inr (0, [.int (c2 17 0), .ref (u 31)])), ((u 29), .inr (0, [.int (c2 17 1), .ref (u 32)])), ((u 30), .inr (0, [.int (c2 17 2), .ref (u 33)])), ((u 31), .inl (T 0, 12, .inl (c2 21))), ((u 32), .inl (T 0, 12, .inl (c2 22))), ((u 33), .inl (T 0, 12, .inl (c2 23))), ((u 34), .inr (8, [.ref (u 2), .ref (u 3), .ref (u 35), .ref (u 36), .ref (u 37), .int (c1 3)])), ((u 35), .inl (T 1, 676, .inr (.inl (c3 0)))), ((u 36), .inl (T 1, 676, .inr (.inl (c3 1)))), ((u 37), .inl (T 0, 672, .inl (c2 24))), ((u 38), .inr (2, [.ref (u 2), .ref (u 3), .ref (u 34), .ref (u 39), .int (c1 4), .int (c1 5), .int (c1 6)])), ((u 39), .inl (T 1, 7, .inr (.inl (c3 2)))), ((u 40), .inr (7, [.int (c1 7), .ref (u 41), .ref (u 42), .ref (u 43), .int (c1 8), .int (c1 9), .int (c1 10)])), ((u 41), .inl (T 0, 120, .inl (c2 25))), ((u 42), .inl (T 0, 24, .inl (c2 26))), ((u 43), .inl (T 0, 24, .inl (c2 27))), ((u 44), .inl (T 6, 4, .inr (.inr (.inr (.inr (va_up (va_up (va_up (va_up (fun _ => none) 0 (some (u 45))) 1 (some (u 46))) 2 (some (u 47))) 3 (some (u 48)))))))), ((u 45), .inr (6, [.int (c2 28 0), .int (c2 29 0), .ref (u 49), .ref (u 50), .ref (u 51), .ref (u 52)])), ((u 46), .inr (6, [.int (c2 28 1), .int (c2 29 1), .ref (u 53), .ref (u 54), .ref (u 55), .ref (u 56)])), ((u 47), .inr (6, [.int (c2 28 2), .int (c2 29 2), .ref (u 57), .ref (u 58), .ref (u 59), .ref (u 60)])), ((u 48), .inr (6, [.int (c2 28 3), .int (c2 29 3), .ref (u 61), .ref (u 62), .ref (u 63), .ref (u 64)])), ((u 49), .inl (T 0, 30, .inl (c2 30))), ((u 50), .inl (T 1, 30, .inr (.inl (c3 3)))), ((u 51), .inl (T 2, 30, .inr (.inr (.inl (c4 0))))), ((u 52), .inl (T 3, 30, .inr (.inr (.inr (.inl (c5 0)))))), ((u 53), .inl (T 0, 30, .inl (c2 31))), ((u 54), .inl (T 1, 30, .inr (.inl (c3 4)))), ((u 55), .inl (T 2, 30, .inr (.inr (.inl (c4 1))))), ((u 56), .inl (T 3, 30, .inr (.inr (.inr (.inl (c5 1)))))), ((u 57), .inl (T 0, 30, .inl (c2 32))), ((u 58), .inl (T 1, 30, .inr (.inl (c3 5)))), ((u 59), .inl (T 2, 30, .inr (.inr (.inl (c4 2))))), ((u 60), .inl (T 3, 30, .inr (.inr (.inr (.inl (c5 2)))))), ((u 61), .inl (T 0, 30, .inl (c2 33))), ((u 62), .inl (T 1, 30, .inr (.inl (c3 6)))), ((u 63), .inl (T 2, 30, .inr (.inr (.inl (c4 3))))), ((u 64), .inl (T 3, 30, .inr (.inr (.inr (.inl (c5 3)))))), ((u 65), .inl (T 7, 4, .inr (.inr (.inr (.inr (va_up (va_up (va_up (va_up (fun _ => none) 0 (some (u 66))) 1 (some (u 67))) 2 (some (u 68))) 3 (some (u 69)))))))), ((u 66), .inr (3, [.int (c2 34 0), .int (c2 35 0), .long (c3 7 0), .long (c3 8 0)])), ((u 67), .inr (3, [.int (c2 34 1), .int (c2 35 1), .long (c3 7 1), .long (c3 8 1)])), ((u 68), .inr (3, [.int (c2 34 2), .int (c2 35 2), .long (c3 7 2), .long (c3 8 2)])), ((u 69), .inr (3, [.int (c2 34 3), .int (c2 35 3), .long (c3 7 3), .long (c3 8 3)])), (q2, .inr (10, (Value.int (q 0) :: Value.int (q 1) :: Value.int (q 2) :: Value.int (q 3) :: Value.int (q 4) :: Value.int (q 5) :: Value.int (q 6) :: Value.int (q 7) :: Value.ref (v 8) :: Value.ref (v 9) :: Value.ref (v 10) :: Value.ref (v 11) :: Value.ref (v 12) :: Value.ref (v 13) :: Value.int (q 14) :: Value.long vl :: Value.long wl :: Value.ref (v 17) :: Value.ref (v 18) :: Value.ref (v 19) :: Value.ref (v 20) :: Value.ref (v 21) :: Value.ref (v 22) :: Value.ref (v 23) :: Value.int (q 24) :: Value.ref (v 25) :: Value.int (q 26) :: Value.ref (v 27) :: Value.int (q 28) :: Value.int (q 29) :: Value.int (q 30) :: Value.int (q 31) :: Value.int (q 32) :: Value.int (q 33) :: Value.ref (v 34) :: Value.ref (v 35) :: Value.ref (v 36) :: Value.ref (v 37) :: Value.ref (v 38) :: Value.ref (v 39) :: Value.ref (v 40) :: Value.int (q 41) :: Value.ref (v 42) :: Value.int (q 43) :: Value.int (q 44) :: []))), ((v 8), .inl (T 0, 24, .inl (rf 8))), ((v 9), .inl (T 0, 24, .inl (rf 9))), ((v 10), .inl (T 0, 24, .inl (rf 10))), ((v 11), .inl (T 0, 24, .inl (rf 11))), ((v 12), .inl (T 0, 36, .inl (rf 12))), ((v 13), .inl (T 0, 3, .inl (rf 13))), ((v 17), .inl (T 0, 24, .inl (rf 17))), ((v 18), .inl (T 0, 24, .inl (rf 18))), ((v 19), .inl (T 0, 24, .inl (rf 19))), ((v 20), .inl (T 1, 672, .inr (.inl (rl 20)))), ((v 21), .inl (T 1, 672, .inr (.inl (rl 21)))), ((v 22), .inl (T 4, 672, .inl (rf 22))), ((v 23), .inl (T 1, 7, .inr (.inl (rl 23)))), ((v 25), .inl (T 0, 120, .inl (rf 25))), ((v 27), .inl (T 8, 13, .inr (.inr (.inr (.inr (va_up (va_up (va_up (va_up (va_up (va_up (va_up (va_up (va_up (va_up (va_up (va_up (va_up (fun _ => none) 0 (some (sa 0))) 1 (some (sa 1))) 2 (some (sa 2))) 3 (some (sa 3))) 4 (some (sa 4))) 5 (some (sa 5))) 6 (some (sa 6))) 7 (some (sa 7))) 8 (some (sa 8))) 9 (some (sa 9))) 10 (some (sa 10))) 11 (some (sa 11))) 12 (some (sa 12)))))))), ((v 34), .inl (T 0, 4, .inl (rf 34))), ((v 35), .inl (T 0, 4, .inl (rf 35))), ((v 36), .inl (T 1, 120, .inr (.inl (rl 36)))), ((v 37), .inl (T 3, 120, .inr (.inr (.inr (.inl rd))))), ((v 38), .inl (T 0, 4, .inl (rf 38))), ((v 39), .inl (T 1, 4, .inr (.inl (rl 39)))), ((v 40), .inl (T 1, 4, .inr (.inl (rl 40)))), ((v 42), .inl (T 0, 143, .inl (rf 42)))] hP hD [0, 3, 4, 5, 6, 7, 8, 9, 10] [0, 3, 4, 5, 6, 7, 8, 9, 10] rfl (by decide +kernel) rfl rfl rfl hk1 hP1
  clear hP1 hD1 hFc
  generalize H1 = H at hP hS ⊢
  have hmm : memW (VALW (fun k => [(c2 0 0), (c2 0 1), (c2 0 2), (c2 0 3), (c2 0 4), (c2 0 5), (c2 0 6)].getD k 0) (u_6 1) (u_6 2) (u_6 3) (u_6 4) (u_6 5)) ((u_6 0 0) : Int32) ((c1 3) : Int32) (c3 0) (c3 1) (c2 24) := memW_grow (clauseX (by omega) hPc) (by omega) hok0 hme0 hme hmm
  refine lv_pop hx hb dL_law_411 rfl ?_
  refine lv_aload_n hx hb dL_law_412 rfl (lv_at hl 1 rfl) ?_
  refine lv_aload_n hx hb dL_law_413 rfl (lv_at hl 3 rfl) ?_
  refine lv_iload_n hx hb dL_law_414 rfl (lv_at hl 0 rfl) ?_
  refine lv_iconst (v := 1) hx hb dL_law_415 (by decide +kernel) ?_
  refine lv_iadd hx hb dL_law_416 ?_
  refine va_sld hx hb hX hbl hbA hS (vin_1 hL hii) dL_law_417 ?_
  refine lv_topi (fun z_7 ez_7 => ?_)
  have hsz_7 : z_1 = z_7 := ez_1.trans ez_7.symm
  subst hsz_7
  refine lv_aload_n hx hb dL_law_418 rfl (lv_at hl 3 rfl) ?_
  refine lv_iload_n hx hb dL_law_419 rfl (lv_at hl 0 rfl) ?_
  refine lv_iconst (v := 2) hx hb dL_law_420 (by decide +kernel) ?_
  refine lv_iadd hx hb dL_law_421 ?_
  refine va_sld hx hb hX hbl hbA hS (vin_2 hL hii) dL_law_422 ?_
  refine lv_topi (fun z_8 ez_8 => ?_)
  have hsz_8 : z_2 = z_8 := ez_2.trans ez_8.symm
  subst hsz_8
  refine lv_aload_n hx hb dL_law_423 rfl (lv_at hl 3 rfl) ?_
  refine lv_iload_n hx hb dL_law_424 rfl (lv_at hl 0 rfl) ?_
  refine lv_iconst (v := 3) hx hb dL_law_425 (by decide +kernel) ?_
  refine lv_iadd hx hb dL_law_426 ?_
  refine va_sld hx hb hX hbl hbA hS (vin_3 hL hii) dL_law_427 ?_
  refine lv_topi (fun z_9 ez_9 => ?_)
  have hsz_9 : z_3 = z_9 := ez_3.trans ez_9.symm
  subst hsz_9
  refine lv_aload_n hx hb dL_law_428 rfl (lv_at hl 3 rfl) ?_
  refine lv_iload_n hx hb dL_law_429 rfl (lv_at hl 0 rfl) ?_
  refine lv_iconst (v := 4) hx hb dL_law_430 (by decide +kernel) ?_
  refine lv_iadd hx hb dL_law_431 ?_
  refine va_sld hx hb hX hbl hbA hS (vin_4 hL hii) dL_law_432 ?_
  refine lv_topi (fun z_10 ez_10 => ?_)
  have hsz_10 : z_4 = z_10 := ez_4.trans ez_10.symm
  subst hsz_10
  have hFc := va_free (wc := [(q2, .inr (10, (Value.int (q 0) :: Value.int (q 1) :: Value.int (q 2) :: Value.int (q 3) :: Value.int (q 4) :: Value.int (q 5) :: Value.int (q 6) :: Value.int (q 7) :: Value.ref (v 8) :: Value.ref (v 9) :: Value.ref (v 10) :: Value.ref (v 11) :: Value.ref (v 12) :: Value.ref (v 13) :: Value.int (q 14) :: Value.long vl :: Value.long wl :: Value.ref (v 17) :: Value.ref (v 18) :: Value.ref (v 19) :: Value.ref (v 20) :: Value.ref (v 21) :: Value.ref (v 22) :: Value.ref (v 23) :: Value.int (q 24) :: Value.ref (v 25) :: Value.int (q 26) :: Value.ref (v 27) :: Value.int (q 28) :: Value.int (q 29) :: Value.int (q 30) :: Value.int (q 31) :: Value.int (q 32) :: Value.int (q 33) :: Value.ref (v 34) :: Value.ref (v 35) :: Value.ref (v 36) :: Value.ref (v 37) :: Value.ref (v 38) :: Value.ref (v 39) :: Value.ref (v 40) :: Value.int (q 41) :: Value.ref (v 42) :: Value.int (q 43) :: Value.int (q 44) :: []))), ((v 8), .inl (T 0, 24, .inl (rf 8))), ((v 9), .inl (T 0, 24, .inl (rf 9))), ((v 10), .inl (T 0, 24, .inl (rf 10))), ((v 11), .inl (T 0, 24, .inl (rf 11)))]) hD hS hA [71, 72, 73, 74, 75] rfl
  refine va_calli (va_runV (As := [.int z_1, .int z_2, .int z_3, .int z_4]) (rest := []) ⟨hx, hb, hml, hown, hts⟩ (c_X13_clause l D T _ q2 q vl wl v (rf 8) (rf 9) (rf 10) (rf 11) z_1 z_2 z_3 z_4 (show 0 ≤ (q 7).toInt ∧ (q 7).toInt ≤ 24 from (by omega)) (show okR (rf 8) (rf 10) (rf 11) from hokR)) (cwV 4 hts lg_X13_clause rfl rfl rfl hv_X13_clause ⟨Nat.le_of_ble_eq_true rfl, Nat.le_of_ble_eq_true rfl⟩) (pW_V (q := (RX13, TX13, 45)) (ci := 10) (q0 := 71) hP hE hD rfl rfl [71, 72, 73, 74, 75] (by decide +kernel) rfl rfl) rfl rfl hl.1 rfl (lv_room (Nat.le_of_ble_eq_true rfl)) dL_law_433 ⟨Nat.le_of_ble_eq_true rfl, Nat.le_of_ble_eq_true rfl⟩) hS (fun q _ h => hFc q h) hFc (fun r_11 u_12 t H1 locs ht hvm hr_11 hB hz1 hk1 hS => ?_)
  obtain ⟨n_13, f_14, f_15, f_16, f_17⟩ := u_12
  obtain ⟨hi0_r_11, hi1_r_11, hi2_r_11⟩ := hr_11
  have hokR : okR f_14 f_16 f_17 := hi0_r_11
  have hj1_r_11 : 0 ≤ n_13.toInt ∧ n_13.toInt ≤ 24 := hi1_r_11
  have hPm : clauseR (q 7) z_1 z_2 z_3 z_4 r_11 n_13 (rf 8) (rf 9) (rf 10) (rf 11) f_14 f_15 f_16 f_17  := hi2_r_11
  obtain ⟨hP1, hD1⟩ := hB
  rw [ht] at hP1
  obtain ⟨hP, hD⟩ := va_repl [(q1, .inr (9, [.ref (u 0), .ref (u 1), .int (c1 0), .ref (u 2), .ref (u 3), .ref (u 11), .ref (u 34), .ref (u 38), .ref (u 40), .ref (u 44), .ref (u 65)])), ((u 0), .inr (4, [.ref (u 2), .ref (u 3), .ref (u 11)])), ((u 2), .inr (5, [.int (c2 0 0), .int (c2 0 1), .int (c2 0 2), .int (c2 0 3), .int (c2 0 4), .int (c2 0 5), .int (c2 0 6)])), ((u 3), .inr (1, [.int (u_6 0 0), .ref (u 4), .ref (u 5), .ref (u 6), .ref (u 7), .ref (u 8), .ref (u 9), .ref (u 10)])), ((u 4), .inl (T 0, 24, .inl (u_6 1))), ((u 5), .inl (T 0, 24, .inl (u_6 2))), ((u 6), .inl (T 0, 24, .inl (u_6 3))), ((u 7), .inl (T 0, 24, .inl (u_6 4))), ((u 8), .inl (T 0, 24, .inl (u_6 5))), ((u 9), .inl (T 0, 24, .inl (u_6 6))), ((u 10), .inl (T 0, 24, .inl (u_6 7))), ((u 11), .inl (T 5, 3, .inr (.inr (.inr (.inr (va_up (va_up (va_up (fun _ => none) 0 (some (u 12))) 1 (some (u 13))) 2 (some (u 14)))))))), ((u 12), .inr (0, [.int (c2 16 0), .ref (u 15)])), ((u 13), .inr (0, [.int (c2 16 1), .ref (u 16)])), ((u 14), .inr (0, [.int (c2 16 2), .ref (u 17)])), ((u 15), .inl (T 0, 12, .inl (c2 18))), ((u 16), .inl (T 0, 12, .inl (c2 19))), ((u 17), .inl (T 0, 12, .inl (c2 20))), ((u 1), .inr (4, [.ref (u 18), .ref (u 19), .ref (u 27)])), ((u 18), .inr (5, [.int (c2 1 0), .int (c2 1 1), .int (c2 1 2), .int (c2 1 3), .int (c2 1 4), .int (c2 1 5), .int (c2 1 6)])), ((u 19), .inr (1, [.int (c1 2), .ref (u 20), .ref (u 21), .ref (u 22), .ref (u 23), .ref (u 24), .ref (u 25), .ref (u 26)])), ((u 20), .inl (T 0, 24, .inl (c2 9))), ((u 21), .inl (T 0, 24, .inl (c2 10))), ((u 22), .inl (T 0, 24, .inl (c2 11))), ((u 23), .inl (T 0, 24, .inl (c2 12))), ((u 24), .inl (T 0, 24, .inl (c2 13))), ((u 25), .inl (T 0, 24, .inl (c2 14))), ((u 26), .inl (T 0, 24, .inl (c2 15))), ((u 27), .inl (T 5, 3, .inr (.inr (.inr (.inr (va_up (va_up (va_up (fun _ => none) 0 (some (u 28))) 1 (some (u 29))) 2 (some (u 30)))))))), ((u 28), .inr (0, [.int (c2 17 0), .ref (u 31)])), ((u 29), .inr (0, [.int (c2 17 1), .ref (u 32)])), ((u 30), .inr (0, [.int (c2 17 2), .ref (u 33)])), ((u 31), .inl (T 0, 12, .inl (c2 21))), ((u 32), .inl (T 0, 12, .inl (c2 22))), ((u 33), .inl (T 0, 12, .inl (c2 23))), ((u 34), .inr (8, [.ref (u 2), .ref (u 3), .ref (u 35), .ref (u 36), .ref (u 37), .int (c1 3)])), ((u 35), .inl (T 1, 676, .inr (.inl (c3 0)))), ((u 36), .inl (T 1, 676, .inr (.inl (c3 1)))), ((u 37), .inl (T 0, 672, .inl (c2 24))), ((u 38), .inr (2, [.ref (u 2), .ref (u 3), .ref (u 34), .ref (u 39), .int (c1 4), .int (c1 5), .int (c1 6)])), ((u 39), .inl (T 1, 7, .inr (.inl (c3 2)))), ((u 40), .inr (7, [.int (c1 7), .ref (u 41), .ref (u 42), .ref (u 43), .int (c1 8), .int (c1 9), .int (c1 10)])), ((u 41), .inl (T 0, 120, .inl (c2 25))), ((u 42), .inl (T 0, 24, .inl (c2 26))), ((u 43), .inl (T 0, 24, .inl (c2 27))), ((u 44), .inl (T 6, 4, .inr (.inr (.inr (.inr (va_up (va_up (va_up (va_up (fun _ => none) 0 (some (u 45))) 1 (some (u 46))) 2 (some (u 47))) 3 (some (u 48)))))))), ((u 45), .inr (6, [.int (c2 28 0), .int (c2 29 0), .ref (u 49), .ref (u 50), .ref (u 51), .ref (u 52)])), ((u 46), .inr (6, [.int (c2 28 1), .int (c2 29 1), .ref (u 53), .ref (u 54), .ref (u 55), .ref (u 56)])), ((u 47), .inr (6, [.int (c2 28 2), .int (c2 29 2), .ref (u 57), .ref (u 58), .ref (u 59), .ref (u 60)])), ((u 48), .inr (6, [.int (c2 28 3), .int (c2 29 3), .ref (u 61), .ref (u 62), .ref (u 63), .ref (u 64)])), ((u 49), .inl (T 0, 30, .inl (c2 30))), ((u 50), .inl (T 1, 30, .inr (.inl (c3 3)))), ((u 51), .inl (T 2, 30, .inr (.inr (.inl (c4 0))))), ((u 52), .inl (T 3, 30, .inr (.inr (.inr (.inl (c5 0)))))), ((u 53), .inl (T 0, 30, .inl (c2 31))), ((u 54), .inl (T 1, 30, .inr (.inl (c3 4)))), ((u 55), .inl (T 2, 30, .inr (.inr (.inl (c4 1))))), ((u 56), .inl (T 3, 30, .inr (.inr (.inr (.inl (c5 1)))))), ((u 57), .inl (T 0, 30, .inl (c2 32))), ((u 58), .inl (T 1, 30, .inr (.inl (c3 5)))), ((u 59), .inl (T 2, 30, .inr (.inr (.inl (c4 2))))), ((u 60), .inl (T 3, 30, .inr (.inr (.inr (.inl (c5 2)))))), ((u 61), .inl (T 0, 30, .inl (c2 33))), ((u 62), .inl (T 1, 30, .inr (.inl (c3 6)))), ((u 63), .inl (T 2, 30, .inr (.inr (.inl (c4 3))))), ((u 64), .inl (T 3, 30, .inr (.inr (.inr (.inl (c5 3)))))), ((u 65), .inl (T 7, 4, .inr (.inr (.inr (.inr (va_up (va_up (va_up (va_up (fun _ => none) 0 (some (u 66))) 1 (some (u 67))) 2 (some (u 68))) 3 (some (u 69)))))))), ((u 66), .inr (3, [.int (c2 34 0), .int (c2 35 0), .long (c3 7 0), .long (c3 8 0)])), ((u 67), .inr (3, [.int (c2 34 1), .int (c2 35 1), .long (c3 7 1), .long (c3 8 1)])), ((u 68), .inr (3, [.int (c2 34 2), .int (c2 35 2), .long (c3 7 2), .long (c3 8 2)])), ((u 69), .inr (3, [.int (c2 34 3), .int (c2 35 3), .long (c3 7 3), .long (c3 8 3)])), (q2, .inr (10, (Value.int (q 0) :: Value.int (q 1) :: Value.int (q 2) :: Value.int (q 3) :: Value.int (q 4) :: Value.int (q 5) :: Value.int (q 6) :: Value.int n_13 :: Value.ref (v 8) :: Value.ref (v 9) :: Value.ref (v 10) :: Value.ref (v 11) :: Value.ref (v 12) :: Value.ref (v 13) :: Value.int (q 14) :: Value.long vl :: Value.long wl :: Value.ref (v 17) :: Value.ref (v 18) :: Value.ref (v 19) :: Value.ref (v 20) :: Value.ref (v 21) :: Value.ref (v 22) :: Value.ref (v 23) :: Value.int (q 24) :: Value.ref (v 25) :: Value.int (q 26) :: Value.ref (v 27) :: Value.int (q 28) :: Value.int (q 29) :: Value.int (q 30) :: Value.int (q 31) :: Value.int (q 32) :: Value.int (q 33) :: Value.ref (v 34) :: Value.ref (v 35) :: Value.ref (v 36) :: Value.ref (v 37) :: Value.ref (v 38) :: Value.ref (v 39) :: Value.ref (v 40) :: Value.int (q 41) :: Value.ref (v 42) :: Value.int (q 43) :: Value.int (q 44) :: []))), ((v 8), .inl (T 0, 24, .inl f_14)), ((v 9), .inl (T 0, 24, .inl f_15)), ((v 10), .inl (T 0, 24, .inl f_16)), ((v 11), .inl (T 0, 24, .inl f_17)), ((v 12), .inl (T 0, 36, .inl (rf 12))), ((v 13), .inl (T 0, 3, .inl (rf 13))), ((v 17), .inl (T 0, 24, .inl (rf 17))), ((v 18), .inl (T 0, 24, .inl (rf 18))), ((v 19), .inl (T 0, 24, .inl (rf 19))), ((v 20), .inl (T 1, 672, .inr (.inl (rl 20)))), ((v 21), .inl (T 1, 672, .inr (.inl (rl 21)))), ((v 22), .inl (T 4, 672, .inl (rf 22))), ((v 23), .inl (T 1, 7, .inr (.inl (rl 23)))), ((v 25), .inl (T 0, 120, .inl (rf 25))), ((v 27), .inl (T 8, 13, .inr (.inr (.inr (.inr (va_up (va_up (va_up (va_up (va_up (va_up (va_up (va_up (va_up (va_up (va_up (va_up (va_up (fun _ => none) 0 (some (sa 0))) 1 (some (sa 1))) 2 (some (sa 2))) 3 (some (sa 3))) 4 (some (sa 4))) 5 (some (sa 5))) 6 (some (sa 6))) 7 (some (sa 7))) 8 (some (sa 8))) 9 (some (sa 9))) 10 (some (sa 10))) 11 (some (sa 11))) 12 (some (sa 12)))))))), ((v 34), .inl (T 0, 4, .inl (rf 34))), ((v 35), .inl (T 0, 4, .inl (rf 35))), ((v 36), .inl (T 1, 120, .inr (.inl (rl 36)))), ((v 37), .inl (T 3, 120, .inr (.inr (.inr (.inl rd))))), ((v 38), .inl (T 0, 4, .inl (rf 38))), ((v 39), .inl (T 1, 4, .inr (.inl (rl 39)))), ((v 40), .inl (T 1, 4, .inr (.inl (rl 40)))), ((v 42), .inl (T 0, 143, .inl (rf 42)))] hP hD [71, 72, 73, 74, 75] [71, 72, 73, 74, 75] rfl (by decide +kernel) rfl rfl rfl hk1 hP1
  clear hP1 hD1 hFc
  generalize H1 = H at hP hS ⊢
  have hm9 : 0 ≤ (q 7).toInt := by omega
  have hs9 := rlC_size hRC hm9
  obtain ⟨he8, hRC9⟩ := clause_rel hRC hm9 hPc hPm
  have hRC : rlC (u_6 0 0) (u_6 1) (u_6 2) (u_6 3) (u_6 4) (rfA n_13 f_14 f_15 f_16 f_17) := hRC9
  refine lv_pop hx hb dL_law_436 rfl ?_
  refine lv_goto (tgt := 1867) hx hb dL_law_437 (by decide +kernel) ?_
  exact K (fun k => [(c1 0), (u_6 0 0), (c1 2), (c1 3), (c1 4), (c1 5), (c1 6), (c1 7), (c1 8), (c1 9), (c1 10)].getD k 0) (fun k => List.getD (α := Nat → Int32) ((c2 0) :: (c2 1) :: (u_6 1) :: (u_6 2) :: (u_6 3) :: (u_6 4) :: (u_6 5) :: (u_6 6) :: (u_6 7) :: (c2 9) :: (c2 10) :: (c2 11) :: (c2 12) :: (c2 13) :: (c2 14) :: (c2 15) :: (c2 16) :: (c2 17) :: (c2 18) :: (c2 19) :: (c2 20) :: (c2 21) :: (c2 22) :: (c2 23) :: (c2 24) :: (c2 25) :: (c2 26) :: (c2 27) :: (c2 28) :: (c2 29) :: (c2 30) :: (c2 31) :: (c2 32) :: (c2 33) :: (c2 34) :: (c2 35) :: []) k (fun _ => 0)) c3 c4 c5 (fun k => List.getD (α := Int32) ((q 0) :: (q 1) :: (q 2) :: (q 3) :: (q 4) :: (q 5) :: (q 6) :: n_13 :: 0 :: 0 :: 0 :: 0 :: 0 :: 0 :: (q 14) :: 0 :: 0 :: 0 :: 0 :: 0 :: 0 :: 0 :: 0 :: 0 :: (q 24) :: 0 :: (q 26) :: 0 :: (q 28) :: (q 29) :: (q 30) :: (q 31) :: (q 32) :: (q 33) :: 0 :: 0 :: 0 :: 0 :: 0 :: 0 :: 0 :: (q 41) :: 0 :: (q 43) :: (q 44) :: []) k 0) vl wl (fun k => List.getD (α := Nat → Int32) ((fun _ => 0) :: (fun _ => 0) :: (fun _ => 0) :: (fun _ => 0) :: (fun _ => 0) :: (fun _ => 0) :: (fun _ => 0) :: (fun _ => 0) :: f_14 :: f_15 :: f_16 :: f_17 :: (rf 12) :: (rf 13) :: (fun _ => 0) :: (fun _ => 0) :: (fun _ => 0) :: (rf 17) :: (rf 18) :: (rf 19) :: (fun _ => 0) :: (fun _ => 0) :: (rf 22) :: (fun _ => 0) :: (fun _ => 0) :: (rf 25) :: (fun _ => 0) :: (fun _ => 0) :: (fun _ => 0) :: (fun _ => 0) :: (fun _ => 0) :: (fun _ => 0) :: (fun _ => 0) :: (fun _ => 0) :: (rf 34) :: (rf 35) :: (fun _ => 0) :: (fun _ => 0) :: (rf 38) :: (fun _ => 0) :: (fun _ => 0) :: (fun _ => 0) :: (rf 42) :: []) k (fun _ => 0)) rl rd ls H locs _ hd0 ⟨(show (0 ≤ (((u_6 0 0) : Int32)).toInt ∧ (((u_6 0 0) : Int32)).toInt ≤ 24) ∧ (0 ≤ (((c1 2) : Int32)).toInt ∧ (((c1 2) : Int32)).toInt ≤ 24) ∧ (0 ≤ (((c2 16 0) : Int32)).toInt ∧ (((c2 16 0) : Int32)).toInt ≤ 12) ∧ (0 ≤ (((c2 16 1) : Int32)).toInt ∧ (((c2 16 1) : Int32)).toInt ≤ 12) ∧ (0 ≤ (((c2 16 2) : Int32)).toInt ∧ (((c2 16 2) : Int32)).toInt ≤ 12) ∧ (0 ≤ (((c2 17 0) : Int32)).toInt ∧ (((c2 17 0) : Int32)).toInt ≤ 12) ∧ (0 ≤ (((c2 17 1) : Int32)).toInt ∧ (((c2 17 1) : Int32)).toInt ≤ 12) ∧ (0 ≤ (((c2 17 2) : Int32)).toInt ∧ (((c2 17 2) : Int32)).toInt ≤ 12) ∧ (0 ≤ (((c1 7) : Int32)).toInt ∧ (((c1 7) : Int32)).toInt ≤ 120) ∧ ((-1 ≤ (((c2 28 0) : Int32)).toInt ∧ (((c2 28 0) : Int32)).toInt ≤ 3) ∧ (0 ≤ (((c2 29 0) : Int32)).toInt ∧ (((c2 29 0) : Int32)).toInt ≤ 30)) ∧ ((-1 ≤ (((c2 28 1) : Int32)).toInt ∧ (((c2 28 1) : Int32)).toInt ≤ 3) ∧ (0 ≤ (((c2 29 1) : Int32)).toInt ∧ (((c2 29 1) : Int32)).toInt ≤ 30)) ∧ ((-1 ≤ (((c2 28 2) : Int32)).toInt ∧ (((c2 28 2) : Int32)).toInt ≤ 3) ∧ (0 ≤ (((c2 29 2) : Int32)).toInt ∧ (((c2 29 2) : Int32)).toInt ≤ 30)) ∧ ((-1 ≤ (((c2 28 3) : Int32)).toInt ∧ (((c2 28 3) : Int32)).toInt ≤ 3) ∧ (0 ≤ (((c2 29 3) : Int32)).toInt ∧ (((c2 29 3) : Int32)).toInt ≤ 30)) from ⟨(by (try simp only [ti_0, ti_1, ti_n1]); omega), hA1.2.1, hA1.2.2.1, hA1.2.2.2.1, hA1.2.2.2.2.1, hA1.2.2.2.2.2.1, hA1.2.2.2.2.2.2.1, hA1.2.2.2.2.2.2.2.1, hA1.2.2.2.2.2.2.2.2.1, hA1.2.2.2.2.2.2.2.2.2.1, hA1.2.2.2.2.2.2.2.2.2.2.1, hA1.2.2.2.2.2.2.2.2.2.2.2.1, hA1.2.2.2.2.2.2.2.2.2.2.2.2⟩), (show okC (u_6 1) (u_6 3) (u_6 4) (u_6 5) from (by assumption)), (show okC (c2 9) (c2 11) (c2 12) (c2 13) from (by first | exact hokk | assumption)), (show (0 ≤ ((n_13 : Int32)).toInt ∧ ((n_13 : Int32)).toInt ≤ 24) ∧ ((1 ≤ (((q 4) : Int32)).toInt ∧ (((q 4) : Int32)).toInt ≤ 9) ∧ (1 ≤ (((q 6) : Int32)).toInt ∧ (((q 6) : Int32)).toInt ≤ 9)) ∧ (0 ≤ (((q 26) : Int32)).toInt ∧ (((q 26) : Int32)).toInt ≤ 120) from ⟨(by (try simp only [ti_0, ti_1, ti_n1]); omega), hA2.2.1, hA2.2.2⟩), (show okR f_14 f_16 f_17 from (by assumption)), (show isB (q 14) from (by first | exact hB | assumption | exact isB0 | exact isB1)), (show ∀ j : Nat, isB ((rf 22) j) from (by first | exact hZ | assumption)), (show ∀ k : Nat, k < 3 → 0 ≤ ((rf 13) k).toInt ∧ ((rf 13) k).toInt ≤ 12 from (by first | exact hbg | assumption)), (show ∀ k : Nat, k < 4 → 0 ≤ ((rf 35) k).toInt ∧ ((rf 35) k).toInt ≤ 30 from (by first | exact hsz | assumption)), (show ∀ k : Nat, k < 4 → ((rf 38) k).toInt = 2 → 1 ≤ ((rl 40) k).toInt from (by first | exact hhd | assumption)), (show ¬ ((q 41) : Int32).toInt = 0 → okK (rf 42) from (by first | exact hKb | assumption | exact (fun _ => by assumption))), (show ((c2 0 0) : Int32) = (q 0) ∧ ((c2 0 1) : Int32) = (q 1) ∧ ((c2 0 2) : Int32) = (q 2) ∧ ((c2 0 3) : Int32) = (q 3) ∧ ((c2 0 4) : Int32) = (q 4) ∧ ((c2 0 5) : Int32) = (q 5) ∧ ((c2 0 6) : Int32) = (q 6) from (by first | exact hLa | assumption)), (show ((c1 0) : Int32) = (q 41) from (by first | exact hIm | assumption | rfl)), (show ¬ ((q 41) : Int32).toInt = 0 → ((c2 1 0) : Int32) = (rf 42) 0 ∧ ((c2 1 1) : Int32) = (rf 42) 1 ∧ ((c2 1 2) : Int32) = (rf 42) 2 ∧ ((c2 1 3) : Int32) = (rf 42) 3 ∧ ((c2 1 4) : Int32) = (rf 42) 4 ∧ ((c2 1 5) : Int32) = (rf 42) 5 ∧ ((c2 1 6) : Int32) = (rf 42) 6 from (by first | exact hKl | assumption)), (show ((c1 7) : Int32) = (q 26) from (by first | exact hTa | assumption | rfl)), (show ∀ k : Nat, k < 4 → ((c2 28) k).toInt = ((rf 34) k).toInt ∧ (0 ≤ ((c2 28) k).toInt → ((c2 29) k).toInt = ((rf 35) k).toInt) from (by first | exact hSh | assumption)), (show rlF (c2 34) (c3 7) (c3 8) (rl 39) (rl 40) from (by first | exact hRF | assumption)), (show rlC (u_6 0 0) (u_6 1) (u_6 2) (u_6 3) (u_6 4) (rfA n_13 f_14 f_15 f_16 f_17) from (by assumption)), (show rlB (c2 16) (fun k => [(c2 18), (c2 19), (c2 20)].getD k (c2 18)) (rf 13) (rf 12) from (by first | exact hRB | assumption)), (show rlH (c2 34) (c2 35) (rf 38) (rl 39) from (by first | exact hRH | assumption)), (show (c2 25) = (rf 25) from (by first | exact hTf | assumption | rfl)), (show ¬ ((q 41) : Int32).toInt = 0 → rlK (c1 2) (c2 9) (c2 10) (c2 11) (c2 12) (c2 17) (fun k => [(c2 21), (c2 22), (c2 23)].getD k (c2 21)) (rf 42) from (by first | exact hRK | assumption)), (show ∀ j : Nat, (j : Int) < ((u_6 0 0) : Int32).toInt → mesP (u_6 1) (u_6 2) (u_6 3) (u_6 4) (u_6 5) (u_6 6) (u_6 7) j from (by assumption)), (show memW (VALW (fun k => [(c2 0 0), (c2 0 1), (c2 0 2), (c2 0 3), (c2 0 4), (c2 0 5), (c2 0 6)].getD k 0) (u_6 1) (u_6 2) (u_6 3) (u_6 4) (u_6 5)) ((u_6 0 0) : Int32) ((c1 3) : Int32) (c3 0) (c3 1) (c2 24) from (by assumption)), (show ∀ j : Nat, j < 672 → ((c2 24) j).toInt ≤ ((c1 3) : Int32).toInt from (by first | exact hgB | assumption)), (show ∀ k : Nat, k < 4 → ((rf 38) k).toInt = 2 → lowW ((rl 39) k, (rl 40) k) from (by first | exact hHl | assumption))⟩ (show ((c1 3) : Int32).toInt ≤ ii.toInt + 2 from by omega) (show va_P D vwCl (lwW T sa q1 q2 u v (fun k => [(c1 0), (u_6 0 0), (c1 2), (c1 3), (c1 4), (c1 5), (c1 6), (c1 7), (c1 8), (c1 9), (c1 10)].getD k 0) (fun k => List.getD (α := Nat → Int32) ((c2 0) :: (c2 1) :: (u_6 1) :: (u_6 2) :: (u_6 3) :: (u_6 4) :: (u_6 5) :: (u_6 6) :: (u_6 7) :: (c2 9) :: (c2 10) :: (c2 11) :: (c2 12) :: (c2 13) :: (c2 14) :: (c2 15) :: (c2 16) :: (c2 17) :: (c2 18) :: (c2 19) :: (c2 20) :: (c2 21) :: (c2 22) :: (c2 23) :: (c2 24) :: (c2 25) :: (c2 26) :: (c2 27) :: (c2 28) :: (c2 29) :: (c2 30) :: (c2 31) :: (c2 32) :: (c2 33) :: (c2 34) :: (c2 35) :: []) k (fun _ => 0)) c3 c4 c5 (fun k => List.getD (α := Int32) ((q 0) :: (q 1) :: (q 2) :: (q 3) :: (q 4) :: (q 5) :: (q 6) :: n_13 :: 0 :: 0 :: 0 :: 0 :: 0 :: 0 :: (q 14) :: 0 :: 0 :: 0 :: 0 :: 0 :: 0 :: 0 :: 0 :: 0 :: (q 24) :: 0 :: (q 26) :: 0 :: (q 28) :: (q 29) :: (q 30) :: (q 31) :: (q 32) :: (q 33) :: 0 :: 0 :: 0 :: 0 :: 0 :: 0 :: 0 :: (q 41) :: 0 :: (q 43) :: (q 44) :: []) k 0) vl wl (fun k => List.getD (α := Nat → Int32) ((fun _ => 0) :: (fun _ => 0) :: (fun _ => 0) :: (fun _ => 0) :: (fun _ => 0) :: (fun _ => 0) :: (fun _ => 0) :: (fun _ => 0) :: f_14 :: f_15 :: f_16 :: f_17 :: (rf 12) :: (rf 13) :: (fun _ => 0) :: (fun _ => 0) :: (fun _ => 0) :: (rf 17) :: (rf 18) :: (rf 19) :: (fun _ => 0) :: (fun _ => 0) :: (rf 22) :: (fun _ => 0) :: (fun _ => 0) :: (rf 25) :: (fun _ => 0) :: (fun _ => 0) :: (fun _ => 0) :: (fun _ => 0) :: (fun _ => 0) :: (fun _ => 0) :: (fun _ => 0) :: (fun _ => 0) :: (rf 34) :: (rf 35) :: (fun _ => 0) :: (fun _ => 0) :: (rf 38) :: (fun _ => 0) :: (fun _ => 0) :: (fun _ => 0) :: (rf 42) :: []) k (fun _ => 0)) rl rd) H from hP) (show va_D A (lwW T sa q1 q2 u v (fun k => [(c1 0), (u_6 0 0), (c1 2), (c1 3), (c1 4), (c1 5), (c1 6), (c1 7), (c1 8), (c1 9), (c1 10)].getD k 0) (fun k => List.getD (α := Nat → Int32) ((c2 0) :: (c2 1) :: (u_6 1) :: (u_6 2) :: (u_6 3) :: (u_6 4) :: (u_6 5) :: (u_6 6) :: (u_6 7) :: (c2 9) :: (c2 10) :: (c2 11) :: (c2 12) :: (c2 13) :: (c2 14) :: (c2 15) :: (c2 16) :: (c2 17) :: (c2 18) :: (c2 19) :: (c2 20) :: (c2 21) :: (c2 22) :: (c2 23) :: (c2 24) :: (c2 25) :: (c2 26) :: (c2 27) :: (c2 28) :: (c2 29) :: (c2 30) :: (c2 31) :: (c2 32) :: (c2 33) :: (c2 34) :: (c2 35) :: []) k (fun _ => 0)) c3 c4 c5 (fun k => List.getD (α := Int32) ((q 0) :: (q 1) :: (q 2) :: (q 3) :: (q 4) :: (q 5) :: (q 6) :: n_13 :: 0 :: 0 :: 0 :: 0 :: 0 :: 0 :: (q 14) :: 0 :: 0 :: 0 :: 0 :: 0 :: 0 :: 0 :: 0 :: 0 :: (q 24) :: 0 :: (q 26) :: 0 :: (q 28) :: (q 29) :: (q 30) :: (q 31) :: (q 32) :: (q 33) :: 0 :: 0 :: 0 :: 0 :: 0 :: 0 :: 0 :: (q 41) :: 0 :: (q 43) :: (q 44) :: []) k 0) vl wl (fun k => List.getD (α := Nat → Int32) ((fun _ => 0) :: (fun _ => 0) :: (fun _ => 0) :: (fun _ => 0) :: (fun _ => 0) :: (fun _ => 0) :: (fun _ => 0) :: (fun _ => 0) :: f_14 :: f_15 :: f_16 :: f_17 :: (rf 12) :: (rf 13) :: (fun _ => 0) :: (fun _ => 0) :: (fun _ => 0) :: (rf 17) :: (rf 18) :: (rf 19) :: (fun _ => 0) :: (fun _ => 0) :: (rf 22) :: (fun _ => 0) :: (fun _ => 0) :: (rf 25) :: (fun _ => 0) :: (fun _ => 0) :: (fun _ => 0) :: (fun _ => 0) :: (fun _ => 0) :: (fun _ => 0) :: (fun _ => 0) :: (fun _ => 0) :: (rf 34) :: (rf 35) :: (fun _ => 0) :: (fun _ => 0) :: (rf 38) :: (fun _ => 0) :: (fun _ => 0) :: (fun _ => 0) :: (rf 42) :: []) k (fun _ => 0)) rl rd) from hD) hS hl
