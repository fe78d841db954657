theorem dL_law_212 : decode cL_law 212 = .ok (.aload_n 1, 1) := by decide +kernel
theorem dL_law_213 : decode cL_law 213 = .ok (.aload_n 0, 1) := by decide +kernel
theorem dL_law_214 : decode cL_law 214 = .ok (.iload_n 3, 1) := by decide +kernel
theorem dL_law_215 : decode cL_law 215 = .ok (.iconst 1, 1) := by decide +kernel
theorem dL_law_216 : decode cL_law 216 = .ok (.iadd, 1) := by decide +kernel
theorem dL_law_217 : decode cL_law 217 = .ok (.iaload, 1) := by decide +kernel
theorem dL_law_218 : decode cL_law 218 = .ok (.aload_n 0, 1) := by decide +kernel
theorem dL_law_219 : decode cL_law 219 = .ok (.iload_n 3, 1) := by decide +kernel
theorem dL_law_220 : decode cL_law 220 = .ok (.iconst 2, 1) := by decide +kernel
theorem dL_law_221 : decode cL_law 221 = .ok (.iadd, 1) := by decide +kernel
theorem dL_law_222 : decode cL_law 222 = .ok (.iaload, 1) := by decide +kernel
theorem dL_law_223 : decode cL_law 223 = .ok (.aload_n 0, 1) := by decide +kernel
theorem dL_law_224 : decode cL_law 224 = .ok (.iload_n 3, 1) := by decide +kernel
theorem dL_law_225 : decode cL_law 225 = .ok (.iconst 3, 1) := by decide +kernel
theorem dL_law_226 : decode cL_law 226 = .ok (.iadd, 1) := by decide +kernel
theorem dL_law_227 : decode cL_law 227 = .ok (.iaload, 1) := by decide +kernel
theorem dL_law_228 : decode cL_law 228 = .ok (.invokevirtual 13, 3) := by decide +kernel
theorem dL_law_231 : decode cL_law 231 = .ok (.aload_n 2, 1) := by decide +kernel
theorem dL_law_232 : decode cL_law 232 = .ok (.aload_n 0, 1) := by decide +kernel
theorem dL_law_233 : decode cL_law 233 = .ok (.iload_n 3, 1) := by decide +kernel
theorem dL_law_234 : decode cL_law 234 = .ok (.iconst 1, 1) := by decide +kernel
theorem dL_law_235 : decode cL_law 235 = .ok (.iadd, 1) := by decide +kernel
theorem dL_law_236 : decode cL_law 236 = .ok (.iaload, 1) := by decide +kernel
theorem dL_law_237 : decode cL_law 237 = .ok (.aload_n 0, 1) := by decide +kernel
theorem dL_law_238 : decode cL_law 238 = .ok (.iload_n 3, 1) := by decide +kernel
theorem dL_law_239 : decode cL_law 239 = .ok (.iconst 2, 1) := by decide +kernel
theorem dL_law_240 : decode cL_law 240 = .ok (.iadd, 1) := by decide +kernel
theorem dL_law_241 : decode cL_law 241 = .ok (.iaload, 1) := by decide +kernel
theorem dL_law_242 : decode cL_law 242 = .ok (.aload_n 0, 1) := by decide +kernel
theorem dL_law_243 : decode cL_law 243 = .ok (.iload_n 3, 1) := by decide +kernel
theorem dL_law_244 : decode cL_law 244 = .ok (.iconst 3, 1) := by decide +kernel
theorem dL_law_245 : decode cL_law 245 = .ok (.iadd, 1) := by decide +kernel
theorem dL_law_246 : decode cL_law 246 = .ok (.iaload, 1) := by decide +kernel
theorem dL_law_247 : decode cL_law 247 = .ok (.invokevirtual 17, 3) := by decide +kernel
theorem dL_law_250 : decode cL_law 250 = .ok (.if_icmp .eq 1617, 3) := by decide +kernel
set_option maxRecDepth 40000 in
theorem lg_X12_start : GoodIn lw_tbl (wsV RL 13 RX12 yX12_start wsX12_start) := goodIn_app (gl_cons ⟨lwt_1 _ (List.mem_of_getElem? (i := 93) (by decide +kernel)), by decide +kernel⟩ (gl_cons ⟨lwt_1 _ (List.mem_of_getElem? (i := 94) (by decide +kernel)), by decide +kernel⟩ (gl_cons ⟨lwt_1 _ (List.mem_of_getElem? (i := 95) (by decide +kernel)), by decide +kernel⟩ (gl_cons ⟨lwt_0 _ (List.mem_of_getElem? (i := 1) (by decide +kernel)), by decide +kernel⟩ gl_nil)))) lgg_X12_start
set_option maxRecDepth 40000 in
theorem lg_X13_start : GoodIn lw_tbl (wsV RL 17 RX13 yX13_start wsX13_start) := goodIn_app (gl_cons ⟨lwt_4 _ (List.mem_of_getElem? (i := 106) (by decide +kernel)), by decide +kernel⟩ (gl_cons ⟨lwt_4 _ (List.mem_of_getElem? (i := 107) (by decide +kernel)), by decide +kernel⟩ (gl_cons ⟨lwt_4 _ (List.mem_of_getElem? (i := 108) (by decide +kernel)), by decide +kernel⟩ (gl_cons ⟨lwt_0 _ (List.mem_of_getElem? (i := 11) (by decide +kernel)), by decide +kernel⟩ gl_nil)))) lgg_X13_start
set_option maxHeartbeats 8000000 in
set_option maxRecDepth 100000 in
theorem law_c0 {p : Program} {e : Env} {s : State} {m : MethodId} {below : List Frame} {meth : Method} {c : Code} {l : Launch} {b L : Nat} {xs : Nat → Int32} (hL : L ≤ 3584) (C0 : lw_At p s m meth c b L xs) {D : va_G} {T : Nat → ClassId} {ad sa av : Nat → Nat} {ta : Nat} {A : Nat → Prop} (hA : ∀ q : Nat, s.heap.size ≤ q → A q) (hAf : ∀ q : Nat, A q → s.heap.size ≤ q) (hbA : ¬ A b) (hE0 : ekK D T s) (hV0 : evK ad sa av ta A s s.heap) {q1 q2 : Nat} {u v : Nat → Nat} {ii : Int32} (hii : 0 ≤ ii.toInt ∧ ii.toInt + 7 ≤ L) (K : lwK p l e s m below meth c b D T sa A q1 q2 u v ii) (c1 : Nat → Int32) (c2 : Nat → Nat → Int32) (c3 : Nat → Nat → Int64) (c4 : Nat → Nat → UInt32) (c5 : Nat → Nat → UInt64) (q : Nat → Int32) (vl wl : Int64) (rf : Nat → Nat → Int32) (rl : Nat → Nat → Int64) (rd : Nat → UInt64) {ls : Array Slot} {H : Heap} {locs : List Loc} {d0 : Drawn} (hd0 : s.drawn.sameBut d0 lw_cs) (hI : lwI c1 c2 q rf rl) (hP : va_P D vwCl (lwW T sa q1 q2 u v c1 c2 c3 c4 c5 q vl wl rf rl rd) H) (hD : va_D A (lwW T sa q1 q2 u v c1 c2 c3 c4 c5 q vl wl rf rl rd)) (hS : va_S A s.heap H locs) (hl : lv_has ls 4 [(3, .int ii), (2, .ref q2), (1, .ref q1), (0, .ref b)]) : W p l e room_1 (s.setDrawn d0) m #[Value.ref b] below meth c H locs 95 6031 (lw_Z below #[Value.ref b] s) (F0 m 212 ls []) := by
  obtain ⟨hx, hb, hr, hml, hown0, hts0, hX, hbl, hlocks, hgv⟩ := id C0
  have hown0 : s.vm.findClass RL = some m.cls := hown0
  have hts := dr_words hts0 d0
  have hE : ekK D T (s.setDrawn d0) := ekK.same (u := s) rfl hE0
  have hown : (s.setDrawn d0).vm.findClass RL = some m.cls := hown0
  have hV : evK ad sa av ta A (s.setDrawn d0) (s.setDrawn d0).heap := evK.same (u := s) rfl hV0
  obtain ⟨hA1, hok, hokk, hA2, hokR, hB, hZ, hbg, hsz, hhd, hKb⟩ := hI
  have hA1 : (0 ≤ (((c1 1) : Int32)).toInt ∧ (((c1 1) : Int32)).toInt ≤ 24) ∧ (0 ≤ (((c1 2) : Int32)).toInt ∧ (((c1 2) : Int32)).toInt ≤ 24) ∧ (0 ≤ (((c2 16 0) : Int32)).toInt ∧ (((c2 16 0) : Int32)).toInt ≤ 12) ∧ (0 ≤ (((c2 16 1) : Int32)).toInt ∧ (((c2 16 1) : Int32)).toInt ≤ 12) ∧ (0 ≤ (((c2 16 2) : Int32)).toInt ∧ (((c2 16 2) : Int32)).toInt ≤ 12) ∧ (0 ≤ (((c2 17 0) : Int32)).toInt ∧ (((c2 17 0) : Int32)).toInt ≤ 12) ∧ (0 ≤ (((c2 17 1) : Int32)).toInt ∧ (((c2 17 1) : Int32)).toInt ≤ 12) ∧ (0 ≤ (((c2 17 2) : Int32)).toInt ∧ (((c2 17 2) : Int32)).toInt ≤ 12) ∧ (0 ≤ (((c1 7) : Int32)).toInt ∧ (((c1 7) : Int32)).toInt ≤ 120) ∧ ((-1 ≤ (((c2 28 0) : Int32)).toInt ∧ (((c2 28 0) : Int32)).toInt ≤ 3) ∧ (0 ≤ (((c2 29 0) : Int32)).toInt ∧ (((c2 29 0) : Int32)).toInt ≤ 30)) ∧ ((-1 ≤ (((c2 28 1) : Int32)).toInt ∧ (((c2 28 1) : Int32)).toInt ≤ 3) ∧ (0 ≤ (((c2 29 1) : Int32)).toInt ∧ (((c2 29 1) : Int32)).toInt ≤ 30)) ∧ ((-1 ≤ (((c2 28 2) : Int32)).toInt ∧ (((c2 28 2) : Int32)).toInt ≤ 3) ∧ (0 ≤ (((c2 29 2) : Int32)).toInt ∧ (((c2 29 2) : Int32)).toInt ≤ 30)) ∧ ((-1 ≤ (((c2 28 3) : Int32)).toInt ∧ (((c2 28 3) : Int32)).toInt ≤ 3) ∧ (0 ≤ (((c2 29 3) : Int32)).toInt ∧ (((c2 29 3) : Int32)).toInt ≤ 30)) := hA1
  have hok : okC (c2 2) (c2 4) (c2 5) (c2 6) := hok
  have hokk : okC (c2 9) (c2 11) (c2 12) (c2 13) := hokk
  have hA2 : (0 ≤ (((q 7) : Int32)).toInt ∧ (((q 7) : Int32)).toInt ≤ 24) ∧ ((1 ≤ (((q 4) : Int32)).toInt ∧ (((q 4) : Int32)).toInt ≤ 9) ∧ (1 ≤ (((q 6) : Int32)).toInt ∧ (((q 6) : Int32)).toInt ≤ 9)) ∧ (0 ≤ (((q 26) : Int32)).toInt ∧ (((q 26) : Int32)).toInt ≤ 120) := hA2
  have hokR : okR (rf 8) (rf 10) (rf 11) := hokR
  have hB : isB (q 14) := hB
  have hZ : ∀ j : Nat, isB ((rf 22) j) := hZ
  have hbg : ∀ k : Nat, k < 3 → 0 ≤ ((rf 13) k).toInt ∧ ((rf 13) k).toInt ≤ 12 := hbg
  have hsz : ∀ k : Nat, k < 4 → 0 ≤ ((rf 35) k).toInt ∧ ((rf 35) k).toInt ≤ 30 := hsz
  have hhd : ∀ k : Nat, k < 4 → ((rf 38) k).toInt = 2 → 1 ≤ ((rl 40) k).toInt := hhd
  have hKb : ¬ ((q 41) : Int32).toInt = 0 → okK (rf 42) := hKb
  have hi_1 : (ii + 1).toInt = ii.toInt + 1 := by rw [fb_addI (by rw [ti_1]; omega) (by rw [ti_1]; omega), ti_1]
  have hi_2 : (ii + 2).toInt = ii.toInt + 2 := by rw [fb_addI (by rw [ti_2]; omega) (by rw [ti_2]; omega), ti_2]
  have hi_3 : (ii + 3).toInt = ii.toInt + 3 := by rw [fb_addI (by rw [ti_3]; omega) (by rw [ti_3]; omega), ti_3]
  have hi_4 : (ii + 4).toInt = ii.toInt + 4 := by rw [fb_addI (by rw [ti_4]; omega) (by rw [ti_4]; omega), ti_4]
  have hi_5 : (ii + 5).toInt = ii.toInt + 5 := by rw [fb_addI (by rw [ti_5]; omega) (by rw [ti_5]; omega), ti_5]
  have hi_6 : (ii + 6).toInt = ii.toInt + 6 := by rw [fb_addI (by rw [ti_6]; omega) (by rw [ti_6]; omega), ti_6]
  refine lv_aload_n hx hb dL_law_212 rfl (lv_at hl 2 rfl) ?_
  refine lv_aload_n hx hb dL_law_213 rfl (lv_at hl 3 rfl) ?_
  refine lv_iload_n hx hb dL_law_214 rfl (lv_at hl 0 rfl) ?_
  refine lv_iconst (v := 1) hx hb dL_law_215 (by decide) ?_
  refine lv_iadd hx hb dL_law_216 ?_
  refine va_sld hx hb hX hbl hbA hS (by rw [vp_in_iff, hi_1]; omega) dL_law_217 ?_
  refine lv_topi (fun z_1 ez_1 => ?_)
  refine lv_aload_n hx hb dL_law_218 rfl (lv_at hl 3 rfl) ?_
  refine lv_iload_n hx hb dL_law_219 rfl (lv_at hl 0 rfl) ?_
  refine lv_iconst (v := 2) hx hb dL_law_220 (by decide) ?_
  refine lv_iadd hx hb dL_law_221 ?_
  refine va_sld hx hb hX hbl hbA hS (by rw [vp_in_iff, hi_2]; omega) dL_law_222 ?_
  refine lv_topi (fun z_2 ez_2 => ?_)
  refine lv_aload_n hx hb dL_law_223 rfl (lv_at hl 3 rfl) ?_
  refine lv_iload_n hx hb dL_law_224 rfl (lv_at hl 0 rfl) ?_
  refine lv_iconst (v := 3) hx hb dL_law_225 (by decide) ?_
  refine lv_iadd hx hb dL_law_226 ?_
  refine va_sld hx hb hX hbl hbA hS (by rw [vp_in_iff, hi_3]; omega) dL_law_227 ?_
  refine lv_topi (fun z_3 ez_3 => ?_)
  have hFc := va_free (wc := [(q1, .inr (9, [.ref (u 0), .ref (u 1), .int (c1 0), .ref (u 2), .ref (u 3), .ref (u 11), .ref (u 34), .ref (u 38), .ref (u 40), .ref (u 44), .ref (u 65)])), ((u 2), .inr (5, [.int (c2 0 0), .int (c2 0 1), .int (c2 0 2), .int (c2 0 3), .int (c2 0 4), .int (c2 0 5), .int (c2 0 6)])), ((u 34), .inr (8, [.ref (u 2), .ref (u 3), .ref (u 35), .ref (u 36), .ref (u 37), .int (c1 3)]))]) hD hS hA [0, 2, 35] rfl
  refine va_calli (va_runV (As := [.int z_1, .int z_2, .int z_3]) (rest := []) ⟨hx, hb, hml, hown, hts⟩ (c_X12_start l D T _ q1 (u 2) (u 34) [.ref (u 0), .ref (u 1), .int (c1 0), .ref (u 2), .ref (u 3), .ref (u 11), .ref (u 34), .ref (u 38), .ref (u 40), .ref (u 44), .ref (u 65)] (fun k => [(c2 0 0), (c2 0 1), (c2 0 2), (c2 0 3), (c2 0 4), (c2 0 5), (c2 0 6)].getD k 0) (.ref (u 2)) (.ref (u 3)) (.ref (u 35)) (.ref (u 36)) (.ref (u 37)) (c1 3) z_1 z_2 z_3 rfl rfl) (cwV 3 hts lg_X12_start rfl rfl rfl (by decide +kernel) ⟨Nat.le_of_ble_eq_true rfl, Nat.le_of_ble_eq_true rfl⟩) (pW_V (ci := 9) (q0 := 0) hP hE hD rfl rfl [0, 2, 35] (by decide) rfl rfl) rfl rfl hl.1 rfl (lv_room (Nat.le_of_ble_eq_true rfl)) dL_law_228 ⟨Nat.le_of_ble_eq_true rfl, Nat.le_of_ble_eq_true rfl⟩) hS (fun q _ h => hFc q h) hFc (fun r_4 u_5 t H1 locs ht hvm hr_4 hB hz1 hk1 hS => ?_)
  obtain ⟨hP1, hD1⟩ := hB
  rw [ht] at hP1
  obtain ⟨hP, hD⟩ := va_join (wr := ([1, 3, 4, 5, 6, 7, 8, 9, 10, 11, 12, 13, 14, 15, 16, 17, 18, 19, 20, 21, 22, 23, 24, 25, 26, 27, 28, 29, 30, 31, 32, 33, 34, 36, 37, 38, 39, 40, 41, 42, 43, 44, 45, 46, 47, 48, 49, 50, 51, 52, 53, 54, 55, 56, 57, 58, 59, 60, 61, 62, 63, 64, 65, 66, 67, 68, 69, 70, 71, 72, 73, 74, 75, 76, 77, 78, 79, 80, 81, 82, 83, 84, 85, 86, 87, 88, 89, 90, 91, 92, 93, 94].filterMap (fun i => (lwW T sa q1 q2 u v c1 c2 c3 c4 c5 q vl wl rf rl rd)[i]?))) (w1 := [(q1, .inr (9, [.ref (u 0), .ref (u 1), .int (c1 0), .ref (u 2), .ref (u 3), .ref (u 11), .ref (u 34), .ref (u 38), .ref (u 40), .ref (u 44), .ref (u 65)])), ((u 2), .inr (5, [.int (u_5 0), .int (u_5 1), .int (u_5 2), .int (u_5 3), .int (u_5 4), .int (u_5 5), .int (u_5 6)])), ((u 34), .inr (8, [.ref (u 2), .ref (u 3), .ref (u 35), .ref (u 36), .ref (u 37), .int (u_5 7)]))]) hP hD [0, 2, 35] [1, 3, 4, 5, 6, 7, 8, 9, 10, 11, 12, 13, 14, 15, 16, 17, 18, 19, 20, 21, 22, 23, 24, 25, 26, 27, 28, 29, 30, 31, 32, 33, 34, 36, 37, 38, 39, 40, 41, 42, 43, 44, 45, 46, 47, 48, 49, 50, 51, 52, 53, 54, 55, 56, 57, 58, 59, 60, 61, 62, 63, 64, 65, 66, 67, 68, 69, 70, 71, 72, 73, 74, 75, 76, 77, 78, 79, 80, 81, 82, 83, 84, 85, 86, 87, 88, 89, 90, 91, 92, 93, 94] rfl rfl (by decide) (by decide) hk1 hFc hP1 hD1
  clear hP1 hD1 hFc
  generalize H1 = H at hP hS ⊢
  refine lv_aload_n hx hb dL_law_231 rfl (lv_at hl 1 rfl) ?_
  refine lv_aload_n hx hb dL_law_232 rfl (lv_at hl 3 rfl) ?_
  refine lv_iload_n hx hb dL_law_233 rfl (lv_at hl 0 rfl) ?_
  refine lv_iconst (v := 1) hx hb dL_law_234 (by decide) ?_
  refine lv_iadd hx hb dL_law_235 ?_
  refine va_sld hx hb hX hbl hbA hS (by rw [vp_in_iff, hi_1]; omega) dL_law_236 ?_
  refine lv_topi (fun z_6 ez_6 => ?_)
  have hsz_6 : z_1 = z_6 := ez_1.trans ez_6.symm
  subst hsz_6
  refine lv_aload_n hx hb dL_law_237 rfl (lv_at hl 3 rfl) ?_
  refine lv_iload_n hx hb dL_law_238 rfl (lv_at hl 0 rfl) ?_
  refine lv_iconst (v := 2) hx hb dL_law_239 (by decide) ?_
  refine lv_iadd hx hb dL_law_240 ?_
  refine va_sld hx hb hX hbl hbA hS (by rw [vp_in_iff, hi_2]; omega) dL_law_241 ?_
  refine lv_topi (fun z_7 ez_7 => ?_)
  have hsz_7 : z_2 = z_7 := ez_2.trans ez_7.symm
  subst hsz_7
  refine lv_aload_n hx hb dL_law_242 rfl (lv_at hl 3 rfl) ?_
  refine lv_iload_n hx hb dL_law_243 rfl (lv_at hl 0 rfl) ?_
  refine lv_iconst (v := 3) hx hb dL_law_244 (by decide) ?_
  refine lv_iadd hx hb dL_law_245 ?_
  refine va_sld hx hb hX hbl hbA hS (by rw [vp_in_iff, hi_3]; omega) dL_law_246 ?_
  refine lv_topi (fun z_8 ez_8 => ?_)
  have hsz_8 : z_3 = z_8 := ez_3.trans ez_8.symm
  subst hsz_8
  have hFc := va_free (wc := [(q2, .inr (10, [.int (q 0), .int (q 1), .int (q 2), .int (q 3), .int (q 4), .int (q 5), .int (q 6), .int (q 7), .ref (v 8), .ref (v 9), .ref (v 10), .ref (v 11), .ref (v 12), .ref (v 13), .int (q 14), .long vl, .long wl, .ref (v 17), .ref (v 18), .ref (v 19), .ref (v 20), .ref (v 21), .ref (v 22), .ref (v 23), .int (q 24), .ref (v 25), .int (q 26), .ref (v 27), .int (q 28), .int (q 29), .int (q 30), .int (q 31), .int (q 32), .int (q 33), .ref (v 34), .ref (v 35), .ref (v 36), .ref (v 37), .ref (v 38), .ref (v 39), .ref (v 40), .int (q 41), .ref (v 42), .int (q 43), .int (q 44)]))]) hD hS hA [68] rfl
  refine va_calli (va_runV (As := [.int z_1, .int z_2, .int z_3]) (rest := [.int r_4]) ⟨hx, hb, hml, hown, hts⟩ (c_X13_start l D T _ q2 q vl wl v z_1 z_2 z_3) (cwV 3 hts lg_X13_start rfl rfl rfl (by decide +kernel) ⟨Nat.le_of_ble_eq_true rfl, Nat.le_of_ble_eq_true rfl⟩) (pW_V (ci := 10) (q0 := 68) hP hE hD rfl rfl [68] (by decide) rfl rfl) rfl rfl hl.1 rfl (lv_room (Nat.le_of_ble_eq_true rfl)) dL_law_247 ⟨Nat.le_of_ble_eq_true rfl, Nat.le_of_ble_eq_true rfl⟩) hS (fun q _ h => hFc q h) hFc (fun r_9 u_10 t H1 locs ht hvm hr_9 hB hz1 hk1 hS => ?_)
  obtain ⟨n_11, n_12, n_13⟩ := u_10
  have hi0_r_9 := hr_9
  have hj0_r_9 : r_9 = sp_start z_1 z_2 z_3 := hi0_r_9
  obtain ⟨hP1, hD1⟩ := hB
  rw [ht] at hP1
  obtain ⟨hP, hD⟩ := va_join (wr := ([0, 1, 2, 3, 4, 5, 6, 7, 8, 9, 10, 11, 12, 13, 14, 15, 16, 17, 18, 19, 20, 21, 22, 23, 24, 25, 26, 27, 28, 29, 30, 31, 32, 33, 34, 35, 36, 37, 38, 39, 40, 41, 42, 43, 44, 45, 46, 47, 48, 49, 50, 51, 52, 53, 54, 55, 56, 57, 58, 59, 60, 61, 62, 63, 64, 65, 66, 67, 69, 70, 71, 72, 73, 74, 75, 76, 77, 78, 79, 80, 81, 82, 83, 84, 85, 86, 87, 88, 89, 90, 91, 92, 93, 94].filterMap (fun i => (([1, 3, 4, 5, 6, 7, 8, 9, 10, 11, 12, 13, 14, 15, 16, 17, 18, 19, 20, 21, 22, 23, 24, 25, 26, 27, 28, 29, 30, 31, 32, 33, 34, 36, 37, 38, 39, 40, 41, 42, 43, 44, 45, 46, 47, 48, 49, 50, 51, 52, 53, 54, 55, 56, 57, 58, 59, 60, 61, 62, 63, 64, 65, 66, 67, 68, 69, 70, 71, 72, 73, 74, 75, 76, 77, 78, 79, 80, 81, 82, 83, 84, 85, 86, 87, 88, 89, 90, 91, 92, 93, 94].filterMap (fun i => (lwW T sa q1 q2 u v c1 c2 c3 c4 c5 q vl wl rf rl rd)[i]?)) ++ [(q1, .inr (9, [.ref (u 0), .ref (u 1), .int (c1 0), .ref (u 2), .ref (u 3), .ref (u 11), .ref (u 34), .ref (u 38), .ref (u 40), .ref (u 44), .ref (u 65)])), ((u 2), .inr (5, [.int (u_5 0), .int (u_5 1), .int (u_5 2), .int (u_5 3), .int (u_5 4), .int (u_5 5), .int (u_5 6)])), ((u 34), .inr (8, [.ref (u 2), .ref (u 3), .ref (u 35), .ref (u 36), .ref (u 37), .int (u_5 7)]))])[i]?))) (w1 := [(q2, .inr (10, [.int n_11, .int n_12, .int n_13, .int (q 3), .int (q 4), .int (q 5), .int (q 6), .int (q 7), .ref (v 8), .ref (v 9), .ref (v 10), .ref (v 11), .ref (v 12), .ref (v 13), .int (q 14), .long vl, .long wl, .ref (v 17), .ref (v 18), .ref (v 19), .ref (v 20), .ref (v 21), .ref (v 22), .ref (v 23), .int (q 24), .ref (v 25), .int (q 26), .ref (v 27), .int (q 28), .int (q 29), .int (q 30), .int (q 31), .int (q 32), .int (q 33), .ref (v 34), .ref (v 35), .ref (v 36), .ref (v 37), .ref (v 38), .ref (v 39), .ref (v 40), .int (q 41), .ref (v 42), .int (q 43), .int (q 44)]))]) hP hD [68] [0, 1, 2, 3, 4, 5, 6, 7, 8, 9, 10, 11, 12, 13, 14, 15, 16, 17, 18, 19, 20, 21, 22, 23, 24, 25, 26, 27, 28, 29, 30, 31, 32, 33, 34, 35, 36, 37, 38, 39, 40, 41, 42, 43, 44, 45, 46, 47, 48, 49, 50, 51, 52, 53, 54, 55, 56, 57, 58, 59, 60, 61, 62, 63, 64, 65, 66, 67, 69, 70, 71, 72, 73, 74, 75, 76, 77, 78, 79, 80, 81, 82, 83, 84, 85, 86, 87, 88, 89, 90, 91, 92, 93, 94] rfl rfl (by decide) (by decide) hk1 hFc hP1 hD1
  clear hP1 hD1 hFc
  generalize H1 = H at hP hS ⊢
  have he9 : r_9 = r_4 := (hj0_r_9).trans (hr_4).symm
  subst he9
  refine lv_icmp_eq (tgt := 1867) hx hb dL_law_250 (by decide) (fun _ => ?_) (fun c9 => absurd rfl c9)
  exact K (fun k => [(c1 0), (c1 1), (c1 2), (u_5 7), (c1 4), (c1 5), (c1 6), (c1 7), (c1 8), (c1 9), (c1 10)].getD k 0) (fun k => [(fun k => [(u_5 0), (u_5 1), (u_5 2), (u_5 3), (u_5 4), (u_5 5), (u_5 6)].getD k 0), (c2 1), (c2 2), (c2 3), (c2 4), (c2 5), (c2 6), (c2 7), (c2 8), (c2 9), (c2 10), (c2 11), (c2 12), (c2 13), (c2 14), (c2 15), (c2 16), (c2 17), (c2 18), (c2 19), (c2 20), (c2 21), (c2 22), (c2 23), (c2 24), (c2 25), (c2 26), (c2 27), (c2 28), (c2 29), (c2 30), (c2 31), (c2 32), (c2 33), (c2 34), (c2 35)].getD k (fun _ => 0)) c3 c4 c5 (fun k => [n_11, n_12, n_13, (q 3), (q 4), (q 5), (q 6), (q 7), 0, 0, 0, 0, 0, 0, (q 14), 0, 0, 0, 0, 0, 0, 0, 0, 0, (q 24), 0, (q 26), 0, (q 28), (q 29), (q 30), (q 31), (q 32), (q 33), 0, 0, 0, 0, 0, 0, 0, (q 41), 0, (q 43), (q 44)].getD k 0) vl wl rf rl rd ls H locs _ hd0 ⟨(show (0 ≤ (((c1 1) : Int32)).toInt ∧ (((c1 1) : Int32)).toInt ≤ 24) ∧ (0 ≤ (((c1 2) : Int32)).toInt ∧ (((c1 2) : Int32)).toInt ≤ 24) ∧ (0 ≤ (((c2 16 0) : Int32)).toInt ∧ (((c2 16 0) : Int32)).toInt ≤ 12) ∧ (0 ≤ (((c2 16 1) : Int32)).toInt ∧ (((c2 16 1) : Int32)).toInt ≤ 12) ∧ (0 ≤ (((c2 16 2) : Int32)).toInt ∧ (((c2 16 2) : Int32)).toInt ≤ 12) ∧ (0 ≤ (((c2 17 0) : Int32)).toInt ∧ (((c2 17 0) : Int32)).toInt ≤ 12) ∧ (0 ≤ (((c2 17 1) : Int32)).toInt ∧ (((c2 17 1) : Int32)).toInt ≤ 12) ∧ (0 ≤ (((c2 17 2) : Int32)).toInt ∧ (((c2 17 2) : Int32)).toInt ≤ 12) ∧ (0 ≤ (((c1 7) : Int32)).toInt ∧ (((c1 7) : Int32)).toInt ≤ 120) ∧ ((-1 ≤ (((c2 28 0) : Int32)).toInt ∧ (((c2 28 0) : Int32)).toInt ≤ 3) ∧ (0 ≤ (((c2 29 0) : Int32)).toInt ∧ (((c2 29 0) : Int32)).toInt ≤ 30)) ∧ ((-1 ≤ (((c2 28 1) : Int32)).toInt ∧ (((c2 28 1) : Int32)).toInt ≤ 3) ∧ (0 ≤ (((c2 29 1) : Int32)).toInt ∧ (((c2 29 1) : Int32)).toInt ≤ 30)) ∧ ((-1 ≤ (((c2 28 2) : Int32)).toInt ∧ (((c2 28 2) : Int32)).toInt ≤ 3) ∧ (0 ≤ (((c2 29 2) : Int32)).toInt ∧ (((c2 29 2) : Int32)).toInt ≤ 30)) ∧ ((-1 ≤ (((c2 28 3) : Int32)).toInt ∧ (((c2 28 3) : Int32)).toInt ≤ 3) ∧ (0 ≤ (((c2 29 3) : Int32)).toInt ∧ (((c2 29 3) : Int32)).toInt ≤ 30)) from (by (try simp only [ti_0, ti_1, ti_n1]); omega)), (show okC (c2 2) (c2 4) (c2 5) (c2 6) from (by assumption)), (show okC (c2 9) (c2 11) (c2 12) (c2 13) from (by assumption)), (show (0 ≤ (((q 7) : Int32)).toInt ∧ (((q 7) : Int32)).toInt ≤ 24) ∧ ((1 ≤ (((q 4) : Int32)).toInt ∧ (((q 4) : Int32)).toInt ≤ 9) ∧ (1 ≤ (((q 6) : Int32)).toInt ∧ (((q 6) : Int32)).toInt ≤ 9)) ∧ (0 ≤ (((q 26) : Int32)).toInt ∧ (((q 26) : Int32)).toInt ≤ 120) from (by (try simp only [ti_0, ti_1, ti_n1]); omega)), (show okR (rf 8) (rf 10) (rf 11) from (by assumption)), (show isB (q 14) from (by first | assumption | exact isB0 | exact isB1)), (show ∀ j : Nat, isB ((rf 22) j) from (by assumption)), (show ∀ k : Nat, k < 3 → 0 ≤ ((rf 13) k).toInt ∧ ((rf 13) k).toInt ≤ 12 from (by assumption)), (show ∀ k : Nat, k < 4 → 0 ≤ ((rf 35) k).toInt ∧ ((rf 35) k).toInt ≤ 30 from (by assumption)), (show ∀ k : Nat, k < 4 → ((rf 38) k).toInt = 2 → 1 ≤ ((rl 40) k).toInt from (by assumption)), (show ¬ ((q 41) : Int32).toInt = 0 → okK (rf 42) from (by first | assumption | exact (fun _ => by assumption)))⟩ (show va_P D vwCl (lwW T sa q1 q2 u v (fun k => [(c1 0), (c1 1), (c1 2), (u_5 7), (c1 4), (c1 5), (c1 6), (c1 7), (c1 8), (c1 9), (c1 10)].getD k 0) (fun k => [(fun k => [(u_5 0), (u_5 1), (u_5 2), (u_5 3), (u_5 4), (u_5 5), (u_5 6)].getD k 0), (c2 1), (c2 2), (c2 3), (c2 4), (c2 5), (c2 6), (c2 7), (c2 8), (c2 9), (c2 10), (c2 11), (c2 12), (c2 13), (c2 14), (c2 15), (c2 16), (c2 17), (c2 18), (c2 19), (c2 20), (c2 21), (c2 22), (c2 23), (c2 24), (c2 25), (c2 26), (c2 27), (c2 28), (c2 29), (c2 30), (c2 31), (c2 32), (c2 33), (c2 34), (c2 35)].getD k (fun _ => 0)) c3 c4 c5 (fun k => [n_11, n_12, n_13, (q 3), (q 4), (q 5), (q 6), (q 7), 0, 0, 0, 0, 0, 0, (q 14), 0, 0, 0, 0, 0, 0, 0, 0, 0, (q 24), 0, (q 26), 0, (q 28), (q 29), (q 30), (q 31), (q 32), (q 33), 0, 0, 0, 0, 0, 0, 0, (q 41), 0, (q 43), (q 44)].getD k 0) vl wl rf rl rd) H from hP.sub [91, 0, 92, 1, 2, 3, 4, 5, 6, 7, 8, 9, 10, 11, 12, 13, 14, 15, 16, 17, 18, 19, 20, 21, 22, 23, 24, 25, 26, 27, 28, 29, 30, 31, 32, 93, 33, 34, 35, 36, 37, 38, 39, 40, 41, 42, 43, 44, 45, 46, 47, 48, 49, 50, 51, 52, 53, 54, 55, 56, 57, 58, 59, 60, 61, 62, 63, 64, 65, 66, 67, 94, 68, 69, 70, 71, 72, 73, 74, 75, 76, 77, 78, 79, 80, 81, 82, 83, 84, 85, 86, 87, 88, 89, 90] rfl) (show va_D A (lwW T sa q1 q2 u v (fun k => [(c1 0), (c1 1), (c1 2), (u_5 7), (c1 4), (c1 5), (c1 6), (c1 7), (c1 8), (c1 9), (c1 10)].getD k 0) (fun k => [(fun k => [(u_5 0), (u_5 1), (u_5 2), (u_5 3), (u_5 4), (u_5 5), (u_5 6)].getD k 0), (c2 1), (c2 2), (c2 3), (c2 4), (c2 5), (c2 6), (c2 7), (c2 8), (c2 9), (c2 10), (c2 11), (c2 12), (c2 13), (c2 14), (c2 15), (c2 16), (c2 17), (c2 18), (c2 19), (c2 20), (c2 21), (c2 22), (c2 23), (c2 24), (c2 25), (c2 26), (c2 27), (c2 28), (c2 29), (c2 30), (c2 31), (c2 32), (c2 33), (c2 34), (c2 35)].getD k (fun _ => 0)) c3 c4 c5 (fun k => [n_11, n_12, n_13, (q 3), (q 4), (q 5), (q 6), (q 7), 0, 0, 0, 0, 0, 0, (q 14), 0, 0, 0, 0, 0, 0, 0, 0, 0, (q 24), 0, (q 26), 0, (q 28), (q 29), (q 30), (q 31), (q 32), (q 33), 0, 0, 0, 0, 0, 0, 0, (q 41), 0, (q 43), (q 44)].getD k 0) vl wl rf rl rd) from hD.sub [91, 0, 92, 1, 2, 3, 4, 5, 6, 7, 8, 9, 10, 11, 12, 13, 14, 15, 16, 17, 18, 19, 20, 21, 22, 23, 24, 25, 26, 27, 28, 29, 30, 31, 32, 93, 33, 34, 35, 36, 37, 38, 39, 40, 41, 42, 43, 44, 45, 46, 47, 48, 49, 50, 51, 52, 53, 54, 55, 56, 57, 58, 59, 60, 61, 62, 63, 64, 65, 66, 67, 94, 68, 69, 70, 71, 72, 73, 74, 75, 76, 77, 78, 79, 80, 81, 82, 83, 84, 85, 86, 87, 88, 89, 90] (by decide) rfl) hS hl
theorem dL_law_255 : decode cL_law 255 = .ok (.aload_n 1, 1) := by decide +kernel
theorem dL_law_256 : decode cL_law 256 = .ok (.aload_n 0, 1) := by decide +kernel
theorem dL_law_257 : decode cL_law 257 = .ok (.iload_n 3, 1) := by decide +kernel
theorem dL_law_258 : decode cL_law 258 = .ok (.iconst 1, 1) := by decide +kernel
theorem dL_law_259 : decode cL_law 259 = .ok (.iadd, 1) := by decide +kernel
theorem dL_law_260 : decode cL_law 260 = .ok (.iaload, 1) := by decide +kernel
theorem dL_law_261 : decode cL_law 261 = .ok (.aload_n 0, 1) := by decide +kernel
theorem dL_law_262 : decode cL_law 262 = .ok (.iload_n 3, 1) := by decide +kernel
theorem dL_law_263 : decode cL_law 263 = .ok (.iconst 2, 1) := by decide +kernel
theorem dL_law_264 : decode cL_law 264 = .ok (.iadd, 1) := by decide +kernel
theorem dL_law_265 : decode cL_law 265 = .ok (.iaload, 1) := by decide +kernel
theorem dL_law_266 : decode cL_law 266 = .ok (.invokevirtual 18, 3) := by decide +kernel
theorem dL_law_269 : decode cL_law 269 = .ok (.pop, 1) := by decide +kernel
theorem dL_law_270 : decode cL_law 270 = .ok (.aload_n 2, 1) := by decide +kernel
theorem dL_law_271 : decode cL_law 271 = .ok (.aload_n 0, 1) := by decide +kernel
theorem dL_law_272 : decode cL_law 272 = .ok (.iload_n 3, 1) := by decide +kernel
theorem dL_law_273 : decode cL_law 273 = .ok (.iconst 1, 1) := by decide +kernel
theorem dL_law_274 : decode cL_law 274 = .ok (.iadd, 1) := by decide +kernel
theorem dL_law_275 : decode cL_law 275 = .ok (.iaload, 1) := by decide +kernel
theorem dL_law_276 : decode cL_law 276 = .ok (.aload_n 0, 1) := by decide +kernel
theorem dL_law_277 : decode cL_law 277 = .ok (.iload_n 3, 1) := by decide +kernel
theorem dL_law_278 : decode cL_law 278 = .ok (.iconst 2, 1) := by decide +kernel
theorem dL_law_279 : decode cL_law 279 = .ok (.iadd, 1) := by decide +kernel
theorem dL_law_280 : decode cL_law 280 = .ok (.iaload, 1) := by decide +kernel
theorem dL_law_281 : decode cL_law 281 = .ok (.invokevirtual 22, 3) := by decide +kernel
theorem dL_law_284 : decode cL_law 284 = .ok (.pop, 1) := by decide +kernel
theorem dL_law_285 : decode cL_law 285 = .ok (.goto 1582, 3) := by decide +kernel
set_option maxRecDepth 40000 in
theorem lg_X12_odds : GoodIn lw_tbl (wsV RL 18 RX12 yX12_odds wsX12_odds) := goodIn_app (gl_cons ⟨lwt_1 _ (List.mem_of_getElem? (i := 104) (by decide +kernel)), by decide +kernel⟩ (gl_cons ⟨lwt_1 _ (List.mem_of_getElem? (i := 105) (by decide +kernel)), by decide +kernel⟩ (gl_cons ⟨lwt_1 _ (List.mem_of_getElem? (i := 106) (by decide +kernel)), by decide +kernel⟩ (gl_cons ⟨lwt_0 _ (List.mem_of_getElem? (i := 1) (by decide +kernel)), by decide +kernel⟩ gl_nil)))) lgg_X12_odds
set_option maxRecDepth 40000 in
theorem lg_X13_odds : GoodIn lw_tbl (wsV RL 22 RX13 yX13_odds wsX13_odds) := goodIn_app (gl_cons ⟨lwt_4 _ (List.mem_of_getElem? (i := 116) (by decide +kernel)), by decide +kernel⟩ (gl_cons ⟨lwt_4 _ (List.mem_of_getElem? (i := 117) (by decide +kernel)), by decide +kernel⟩ (gl_cons ⟨lwt_4 _ (List.mem_of_getElem? (i := 118) (by decide +kernel)), by decide +kernel⟩ (gl_cons ⟨lwt_0 _ (List.mem_of_getElem? (i := 11) (by decide +kernel)), by decide +kernel⟩ gl_nil)))) lgg_X13_odds
set_option maxHeartbeats 8000000 in
set_option maxRecDepth 100000 in
theorem law_c1 {p : Program} {e : Env} {s : State} {m : MethodId} {below : List Frame} {meth : Method} {c : Code} {l : Launch} {b L : Nat} {xs : Nat → Int32} (hL : L ≤ 3584) (C0 : lw_At p s m meth c b L xs) {D : va_G} {T : Nat → ClassId} {ad sa av : Nat → Nat} {ta : Nat} {A : Nat → Prop} (hA : ∀ q : Nat, s.heap.size ≤ q → A q) (hAf : ∀ q : Nat, A q → s.heap.size ≤ q) (hbA : ¬ A b) (hE0 : ekK D T s) (hV0 : evK ad sa av ta A s s.heap) {q1 q2 : Nat} {u v : Nat → Nat} {ii : Int32} (hii : 0 ≤ ii.toInt ∧ ii.toInt + 7 ≤ L) (K : lwK p l e s m below meth c b D T sa A q1 q2 u v ii) (c1 : Nat → Int32) (c2 : Nat → Nat → Int32) (c3 : Nat → Nat → Int64) (c4 : Nat → Nat → UInt32) (c5 : Nat → Nat → UInt64) (q : Nat → Int32) (vl wl : Int64) (rf : Nat → Nat → Int32) (rl : Nat → Nat → Int64) (rd : Nat → UInt64) {ls : Array Slot} {H : Heap} {locs : List Loc} {d0 : Drawn} (hd0 : s.drawn.sameBut d0 lw_cs) (hI : lwI c1 c2 q rf rl) (hP : va_P D vwCl (lwW T sa q1 q2 u v c1 c2 c3 c4 c5 q vl wl rf rl rd) H) (hD : va_D A (lwW T sa q1 q2 u v c1 c2 c3 c4 c5 q vl wl rf rl rd)) (hS : va_S A s.heap H locs) (hl : lv_has ls 4 [(3, .int ii), (2, .ref q2), (1, .ref q1), (0, .ref b)]) : W p l e room_1 (s.setDrawn d0) m #[Value.ref b] below meth c H locs 95 6031 (lw_Z below #[Value.ref b] s) (F0 m 255 ls []) := by
  obtain ⟨hx, hb, hr, hml, hown0, hts0, hX, hbl, hlocks, hgv⟩ := id C0
  have hown0 : s.vm.findClass RL = some m.cls := hown0
  have hts := dr_words hts0 d0
  have hE : ekK D T (s.setDrawn d0) := ekK.same (u := s) rfl hE0
  have hown : (s.setDrawn d0).vm.findClass RL = some m.cls := hown0
  have hV : evK ad sa av ta A (s.setDrawn d0) (s.setDrawn d0).heap := evK.same (u := s) rfl hV0
  obtain ⟨hA1, hok, hokk, hA2, hokR, hB, hZ, hbg, hsz, hhd, hKb⟩ := hI
  have hA1 : (0 ≤ (((c1 1) : Int32)).toInt ∧ (((c1 1) : Int32)).toInt ≤ 24) ∧ (0 ≤ (((c1 2) : Int32)).toInt ∧ (((c1 2) : Int32)).toInt ≤ 24) ∧ (0 ≤ (((c2 16 0) : Int32)).toInt ∧ (((c2 16 0) : Int32)).toInt ≤ 12) ∧ (0 ≤ (((c2 16 1) : Int32)).toInt ∧ (((c2 16 1) : Int32)).toInt ≤ 12) ∧ (0 ≤ (((c2 16 2) : Int32)).toInt ∧ (((c2 16 2) : Int32)).toInt ≤ 12) ∧ (0 ≤ (((c2 17 0) : Int32)).toInt ∧ (((c2 17 0) : Int32)).toInt ≤ 12) ∧ (0 ≤ (((c2 17 1) : Int32)).toInt ∧ (((c2 17 1) : Int32)).toInt ≤ 12) ∧ (0 ≤ (((c2 17 2) : Int32)).toInt ∧ (((c2 17 2) : Int32)).toInt ≤ 12) ∧ (0 ≤ (((c1 7) : Int32)).toInt ∧ (((c1 7) : Int32)).toInt ≤ 120) ∧ ((-1 ≤ (((c2 28 0) : Int32)).toInt ∧ (((c2 28 0) : Int32)).toInt ≤ 3) ∧ (0 ≤ (((c2 29 0) : Int32)).toInt ∧ (((c2 29 0) : Int32)).toInt ≤ 30)) ∧ ((-1 ≤ (((c2 28 1) : Int32)).toInt ∧ (((c2 28 1) : Int32)).toInt ≤ 3) ∧ (0 ≤ (((c2 29 1) : Int32)).toInt ∧ (((c2 29 1) : Int32)).toInt ≤ 30)) ∧ ((-1 ≤ (((c2 28 2) : Int32)).toInt ∧ (((c2 28 2) : Int32)).toInt ≤ 3) ∧ (0 ≤ (((c2 29 2) : Int32)).toInt ∧ (((c2 29 2) : Int32)).toInt ≤ 30)) ∧ ((-1 ≤ (((c2 28 3) : Int32)).toInt ∧ (((c2 28 3) : Int32)).toInt ≤ 3) ∧ (0 ≤ (((c2 29 3) : Int32)).toInt ∧ (((c2 29 3) : Int32)).toInt ≤ 30)) := hA1
  have hok : okC (c2 2) (c2 4) (c2 5) (c2 6) := hok
  have hokk : okC (c2 9) (c2 11) (c2 12) (c2 13) := hokk
  have hA2 : (0 ≤ (((q 7) : Int32)).toInt ∧ (((q 7) : Int32)).toInt ≤ 24) ∧ ((1 ≤ (((q 4) : Int32)).toInt ∧ (((q 4) : Int32)).toInt ≤ 9) ∧ (1 ≤ (((q 6) : Int32)).toInt ∧ (((q 6) : Int32)).toInt ≤ 9)) ∧ (0 ≤ (((q 26) : Int32)).toInt ∧ (((q 26) : Int32)).toInt ≤ 120) := hA2
  have hokR : okR (rf 8) (rf 10) (rf 11) := hokR
  have hB : isB (q 14) := hB
  have hZ : ∀ j : Nat, isB ((rf 22) j) := hZ
  have hbg : ∀ k : Nat, k < 3 → 0 ≤ ((rf 13) k).toInt ∧ ((rf 13) k).toInt ≤ 12 := hbg
  have hsz : ∀ k : Nat, k < 4 → 0 ≤ ((rf 35) k).toInt ∧ ((rf 35) k).toInt ≤ 30 := hsz
  have hhd : ∀ k : Nat, k < 4 → ((rf 38) k).toInt = 2 → 1 ≤ ((rl 40) k).toInt := hhd
  have hKb : ¬ ((q 41) : Int32).toInt = 0 → okK (rf 42) := hKb
  have hi_1 : (ii + 1).toInt = ii.toInt + 1 := by rw [fb_addI (by rw [ti_1]; omega) (by rw [ti_1]; omega), ti_1]
  have hi_2 : (ii + 2).toInt = ii.toInt + 2 := by rw [fb_addI (by rw [ti_2]; omega) (by rw [ti_2]; omega), ti_2]
  have hi_3 : (ii + 3).toInt = ii.toInt + 3 := by rw [fb_addI (by rw [ti_3]; omega) (by rw [ti_3]; omega), ti_3]
  have hi_4 : (ii + 4).toInt = ii.toInt + 4 := by rw [fb_addI (by rw [ti_4]; omega) (by rw [ti_4]; omega), ti_4]
  have hi_5 : (ii + 5).toInt = ii.toInt + 5 := by rw [fb_addI (by rw [ti_5]; omega) (by rw [ti_5]; omega), ti_5]
  have hi_6 : (ii + 6).toInt = ii.toInt + 6 := by rw [fb_addI (by rw [ti_6]; omega) (by rw [ti_6]; omega), ti_6]
  refine lv_aload_n hx hb dL_law_255 rfl (lv_at hl 2 rfl) ?_
  refine lv_aload_n hx hb dL_law_256 rfl (lv_at hl 3 rfl) ?_
  refine lv_iload_n hx hb dL_law_257 rfl (lv_at hl 0 rfl) ?_
  refine lv_iconst (v := 1) hx hb dL_law_258 (by decide) ?_
  refine lv_iadd hx hb dL_law_259 ?_
  refine va_sld hx hb hX hbl hbA hS (by rw [vp_in_iff, hi_1]; omega) dL_law_260 ?_
  refine lv_topi (fun z_1 ez_1 => ?_)
  refine lv_aload_n hx hb dL_law_261 rfl (lv_at hl 3 rfl) ?_
  refine lv_iload_n hx hb dL_law_262 rfl (lv_at hl 0 rfl) ?_
  refine lv_iconst (v := 2) hx hb dL_law_263 (by decide) ?_
  refine lv_iadd hx hb dL_law_264 ?_
  refine va_sld hx hb hX hbl hbA hS (by rw [vp_in_iff, hi_2]; omega) dL_law_265 ?_
  refine lv_topi (fun z_2 ez_2 => ?_)
  have hFc := va_free (wc := [(q1, .inr (9, [.ref (u 0), .ref (u 1), .int (c1 0), .ref (u 2), .ref (u 3), .ref (u 11), .ref (u 34), .ref (u 38), .ref (u 40), .ref (u 44), .ref (u 65)])), ((u 2), .inr (5, [.int (c2 0 0), .int (c2 0 1), .int (c2 0 2), .int (c2 0 3), .int (c2 0 4), .int (c2 0 5), .int (c2 0 6)])), ((u 34), .inr (8, [.ref (u 2), .ref (u 3), .ref (u 35), .ref (u 36), .ref (u 37), .int (c1 3)]))]) hD hS hA [0, 2, 35] rfl
  refine va_calli (va_runV (As := [.int z_1, .int z_2]) (rest := []) ⟨hx, hb, hml, hown, hts⟩ (c_X12_odds l D T _ q1 (u 2) (u 34) [.ref (u 0), .ref (u 1), .int (c1 0), .ref (u 2), .ref (u 3), .ref (u 11), .ref (u 34), .ref (u 38), .ref (u 40), .ref (u 44), .ref (u 65)] (fun k => [(c2 0 0), (c2 0 1), (c2 0 2), (c2 0 3), (c2 0 4), (c2 0 5), (c2 0 6)].getD k 0) (.ref (u 2)) (.ref (u 3)) (.ref (u 35)) (.ref (u 36)) (.ref (u 37)) (c1 3) z_1 z_2 rfl rfl) (cwV 2 hts lg_X12_odds rfl rfl rfl (by decide +kernel) ⟨Nat.le_of_ble_eq_true rfl, Nat.le_of_ble_eq_true rfl⟩) (pW_V (ci := 9) (q0 := 0) hP hE hD rfl rfl [0, 2, 35] (by decide) rfl rfl) rfl rfl hl.1 rfl (lv_room (Nat.le_of_ble_eq_true rfl)) dL_law_266 ⟨Nat.le_of_ble_eq_true rfl, Nat.le_of_ble_eq_true rfl⟩) hS (fun q _ h => hFc q h) hFc (fun r_3 u_4 t H1 locs ht hvm hr_3 hB hz1 hk1 hS => ?_)
  obtain ⟨hP1, hD1⟩ := hB
  rw [ht] at hP1
  obtain ⟨hP, hD⟩ := va_join (wr := ([1, 3, 4, 5, 6, 7, 8, 9, 10, 11, 12, 13, 14, 15, 16, 17, 18, 19, 20, 21, 22, 23, 24, 25, 26, 27, 28, 29, 30, 31, 32, 33, 34, 36, 37, 38, 39, 40, 41, 42, 43, 44, 45, 46, 47, 48, 49, 50, 51, 52, 53, 54, 55, 56, 57, 58, 59, 60, 61, 62, 63, 64, 65, 66, 67, 68, 69, 70, 71, 72, 73, 74, 75, 76, 77, 78, 79, 80, 81, 82, 83, 84, 85, 86, 87, 88, 89, 90, 91, 92, 93, 94].filterMap (fun i => (lwW T sa q1 q2 u v c1 c2 c3 c4 c5 q vl wl rf rl rd)[i]?))) (w1 := [(q1, .inr (9, [.ref (u 0), .ref (u 1), .int (c1 0), .ref (u 2), .ref (u 3), .ref (u 11), .ref (u 34), .ref (u 38), .ref (u 40), .ref (u 44), .ref (u 65)])), ((u 2), .inr (5, [.int (u_4 0), .int (u_4 1), .int (u_4 2), .int (u_4 3), .int (u_4 4), .int (u_4 5), .int (u_4 6)])), ((u 34), .inr (8, [.ref (u 2), .ref (u 3), .ref (u 35), .ref (u 36), .ref (u 37), .int (u_4 7)]))]) hP hD [0, 2, 35] [1, 3, 4, 5, 6, 7, 8, 9, 10, 11, 12, 13, 14, 15, 16, 17, 18, 19, 20, 21, 22, 23, 24, 25, 26, 27, 28, 29, 30, 31, 32, 33, 34, 36, 37, 38, 39, 40, 41, 42, 43, 44, 45, 46, 47, 48, 49, 50, 51, 52, 53, 54, 55, 56, 57, 58, 59, 60, 61, 62, 63, 64, 65, 66, 67, 68, 69, 70, 71, 72, 73, 74, 75, 76, 77, 78, 79, 80, 81, 82, 83, 84, 85, 86, 87, 88, 89, 90, 91, 92, 93, 94] rfl rfl (by decide) (by decide) hk1 hFc hP1 hD1
  clear hP1 hD1 hFc
  generalize H1 = H at hP hS ⊢
  refine lv_pop hx hb dL_law_269 rfl ?_
  refine lv_aload_n hx hb dL_law_270 rfl (lv_at hl 1 rfl) ?_
  refine lv_aload_n hx hb dL_law_271 rfl (lv_at hl 3 rfl) ?_
  refine lv_iload_n hx hb dL_law_272 rfl (lv_at hl 0 rfl) ?_
  refine lv_iconst (v := 1) hx hb dL_law_273 (by decide) ?_
  refine lv_iadd hx hb dL_law_274 ?_
  refine va_sld hx hb hX hbl hbA hS (by rw [vp_in_iff, hi_1]; omega) dL_law_275 ?_
  refine lv_topi (fun z_5 ez_5 => ?_)
  have hsz_5 : z_1 = z_5 := ez_1.trans ez_5.symm
  subst hsz_5
  refine lv_aload_n hx hb dL_law_276 rfl (lv_at hl 3 rfl) ?_
  refine lv_iload_n hx hb dL_law_277 rfl (lv_at hl 0 rfl) ?_
  refine lv_iconst (v := 2) hx hb dL_law_278 (by decide) ?_
  refine lv_iadd hx hb dL_law_279 ?_
  refine va_sld hx hb hX hbl hbA hS (by rw [vp_in_iff, hi_2]; omega) dL_law_280 ?_
  refine lv_topi (fun z_6 ez_6 => ?_)
  have hsz_6 : z_2 = z_6 := ez_2.trans ez_6.symm
  subst hsz_6
  have hFc := va_free (wc := [(q2, .inr (10, [.int (q 0), .int (q 1), .int (q 2), .int (q 3), .int (q 4), .int (q 5), .int (q 6), .int (q 7), .ref (v 8), .ref (v 9), .ref (v 10), .ref (v 11), .ref (v 12), .ref (v 13), .int (q 14), .long vl, .long wl, .ref (v 17), .ref (v 18), .ref (v 19), .ref (v 20), .ref (v 21), .ref (v 22), .ref (v 23), .int (q 24), .ref (v 25), .int (q 26), .ref (v 27), .int (q 28), .int (q 29), .int (q 30), .int (q 31), .int (q 32), .int (q 33), .ref (v 34), .ref (v 35), .ref (v 36), .ref (v 37), .ref (v 38), .ref (v 39), .ref (v 40), .int (q 41), .ref (v 42), .int (q 43), .int (q 44)]))]) hD hS hA [68] rfl
  refine va_calli (va_runV (As := [.int z_1, .int z_2]) (rest := []) ⟨hx, hb, hml, hown, hts⟩ (c_X13_odds l D T _ q2 q vl wl v z_1 z_2 (by omega)) (cwV 2 hts lg_X13_odds rfl rfl rfl (by decide +kernel) ⟨Nat.le_of_ble_eq_true rfl, Nat.le_of_ble_eq_true rfl⟩) (pW_V (ci := 10) (q0 := 68) hP hE hD rfl rfl [68] (by decide) rfl rfl) rfl rfl hl.1 rfl (lv_room (Nat.le_of_ble_eq_true rfl)) dL_law_281 ⟨Nat.le_of_ble_eq_true rfl, Nat.le_of_ble_eq_true rfl⟩) hS (fun q _ h => hFc q h) hFc (fun r_7 u_8 t H1 locs ht hvm hr_7 hB hz1 hk1 hS => ?_)
  obtain ⟨n_9, n_10⟩ := u_8
  obtain ⟨hi0_r_7, hi1_r_7⟩ := hr_7
  have hj0_r_7 : r_7 = sp_odds z_1 z_2 := hi0_r_7
  have hj1_r_7 : (1 ≤ n_10.toInt ∧ n_10.toInt ≤ 9) ∧ 1 ≤ (q 6).toInt ∧ (q 6).toInt ≤ 9 := hi1_r_7
  obtain ⟨hP1, hD1⟩ := hB
  rw [ht] at hP1
  obtain ⟨hP, hD⟩ := va_join (wr := ([0, 1, 2, 3, 4, 5, 6, 7, 8, 9, 10, 11, 12, 13, 14, 15, 16, 17, 18, 19, 20, 21, 22, 23, 24, 25, 26, 27, 28, 29, 30, 31, 32, 33, 34, 35, 36, 37, 38, 39, 40, 41, 42, 43, 44, 45, 46, 47, 48, 49, 50, 51, 52, 53, 54, 55, 56, 57, 58, 59, 60, 61, 62, 63, 64, 65, 66, 67, 69, 70, 71, 72, 73, 74, 75, 76, 77, 78, 79, 80, 81, 82, 83, 84, 85, 86, 87, 88, 89, 90, 91, 92, 93, 94].filterMap (fun i => (([1, 3, 4, 5, 6, 7, 8, 9, 10, 11, 12, 13, 14, 15, 16, 17, 18, 19, 20, 21, 22, 23, 24, 25, 26, 27, 28, 29, 30, 31, 32, 33, 34, 36, 37, 38, 39, 40, 41, 42, 43, 44, 45, 46, 47, 48, 49, 50, 51, 52, 53, 54, 55, 56, 57, 58, 59, 60, 61, 62, 63, 64, 65, 66, 67, 68, 69, 70, 71, 72, 73, 74, 75, 76, 77, 78, 79, 80, 81, 82, 83, 84, 85, 86, 87, 88, 89, 90, 91, 92, 93, 94].filterMap (fun i => (lwW T sa q1 q2 u v c1 c2 c3 c4 c5 q vl wl rf rl rd)[i]?)) ++ [(q1, .inr (9, [.ref (u 0), .ref (u 1), .int (c1 0), .ref (u 2), .ref (u 3), .ref (u 11), .ref (u 34), .ref (u 38), .ref (u 40), .ref (u 44), .ref (u 65)])), ((u 2), .inr (5, [.int (u_4 0), .int (u_4 1), .int (u_4 2), .int (u_4 3), .int (u_4 4), .int (u_4 5), .int (u_4 6)])), ((u 34), .inr (8, [.ref (u 2), .ref (u 3), .ref (u 35), .ref (u 36), .ref (u 37), .int (u_4 7)]))])[i]?))) (w1 := [(q2, .inr (10, [.int (q 0), .int (q 1), .int (q 2), .int n_9, .int n_10, .int (q 5), .int (q 6), .int (q 7), .ref (v 8), .ref (v 9), .ref (v 10), .ref (v 11), .ref (v 12), .ref (v 13), .int (q 14), .long vl, .long wl, .ref (v 17), .ref (v 18), .ref (v 19), .ref (v 20), .ref (v 21), .ref (v 22), .ref (v 23), .int (q 24), .ref (v 25), .int (q 26), .ref (v 27), .int (q 28), .int (q 29), .int (q 30), .int (q 31), .int (q 32), .int (q 33), .ref (v 34), .ref (v 35), .ref (v 36), .ref (v 37), .ref (v 38), .ref (v 39), .ref (v 40), .int (q 41), .ref (v 42), .int (q 43), .int (q 44)]))]) hP hD [68] [0, 1, 2, 3, 4, 5, 6, 7, 8, 9, 10, 11, 12, 13, 14, 15, 16, 17, 18, 19, 20, 21, 22, 23, 24, 25, 26, 27, 28, 29, 30, 31, 32, 33, 34, 35, 36, 37, 38, 39, 40, 41, 42, 43, 44, 45, 46, 47, 48, 49, 50, 51, 52, 53, 54, 55, 56, 57, 58, 59, 60, 61, 62, 63, 64, 65, 66, 67, 69, 70, 71, 72, 73, 74, 75, 76, 77, 78, 79, 80, 81, 82, 83, 84, 85, 86, 87, 88, 89, 90, 91, 92, 93, 94] rfl rfl (by decide) (by decide) hk1 hFc hP1 hD1
  clear hP1 hD1 hFc
  generalize H1 = H at hP hS ⊢
  refine lv_pop hx hb dL_law_284 rfl ?_
  refine lv_goto (tgt := 1867) hx hb dL_law_285 (by decide) ?_
  exact K (fun k => [(c1 0), (c1 1), (c1 2), (u_4 7), (c1 4), (c1 5), (c1 6), (c1 7), (c1 8), (c1 9), (c1 10)].getD k 0) (fun k => [(fun k => [(u_4 0), (u_4 1), (u_4 2), (u_4 3), (u_4 4), (u_4 5), (u_4 6)].getD k 0), (c2 1), (c2 2), (c2 3), (c2 4), (c2 5), (c2 6), (c2 7), (c2 8), (c2 9), (c2 10), (c2 11), (c2 12), (c2 13), (c2 14), (c2 15), (c2 16), (c2 17), (c2 18), (c2 19), (c2 20), (c2 21), (c2 22), (c2 23), (c2 24), (c2 25), (c2 26), (c2 27), (c2 28), (c2 29), (c2 30), (c2 31), (c2 32), (c2 33), (c2 34), (c2 35)].getD k (fun _ => 0)) c3 c4 c5 (fun k => [(q 0), (q 1), (q 2), n_9, n_10, (q 5), (q 6), (q 7), 0, 0, 0, 0, 0, 0, (q 14), 0, 0, 0, 0, 0, 0, 0, 0, 0, (q 24), 0, (q 26), 0, (q 28), (q 29), (q 30), (q 31), (q 32), (q 33), 0, 0, 0, 0, 0, 0, 0, (q 41), 0, (q 43), (q 44)].getD k 0) vl wl rf rl rd ls H locs _ hd0 ⟨(show (0 ≤ (((c1 1) : Int32)).toInt ∧ (((c1 1) : Int32)).toInt ≤ 24) ∧ (0 ≤ (((c1 2) : Int32)).toInt ∧ (((c1 2) : Int32)).toInt ≤ 24) ∧ (0 ≤ (((c2 16 0) : Int32)).toInt ∧ (((c2 16 0) : Int32)).toInt ≤ 12) ∧ (0 ≤ (((c2 16 1) : Int32)).toInt ∧ (((c2 16 1) : Int32)).toInt ≤ 12) ∧ (0 ≤ (((c2 16 2) : Int32)).toInt ∧ (((c2 16 2) : Int32)).toInt ≤ 12) ∧ (0 ≤ (((c2 17 0) : Int32)).toInt ∧ (((c2 17 0) : Int32)).toInt ≤ 12) ∧ (0 ≤ (((c2 17 1) : Int32)).toInt ∧ (((c2 17 1) : Int32)).toInt ≤ 12) ∧ (0 ≤ (((c2 17 2) : Int32)).toInt ∧ (((c2 17 2) : Int32)).toInt ≤ 12) ∧ (0 ≤ (((c1 7) : Int32)).toInt ∧ (((c1 7) : Int32)).toInt ≤ 120) ∧ ((-1 ≤ (((c2 28 0) : Int32)).toInt ∧ (((c2 28 0) : Int32)).toInt ≤ 3) ∧ (0 ≤ (((c2 29 0) : Int32)).toInt ∧ (((c2 29 0) : Int32)).toInt ≤ 30)) ∧ ((-1 ≤ (((c2 28 1) : Int32)).toInt ∧ (((c2 28 1) : Int32)).toInt ≤ 3) ∧ (0 ≤ (((c2 29 1) : Int32)).toInt ∧ (((c2 29 1) : Int32)).toInt ≤ 30)) ∧ ((-1 ≤ (((c2 28 2) : Int32)).toInt ∧ (((c2 28 2) : Int32)).toInt ≤ 3) ∧ (0 ≤ (((c2 29 2) : Int32)).toInt ∧ (((c2 29 2) : Int32)).toInt ≤ 30)) ∧ ((-1 ≤ (((c2 28 3) : Int32)).toInt ∧ (((c2 28 3) : Int32)).toInt ≤ 3) ∧ (0 ≤ (((c2 29 3) : Int32)).toInt ∧ (((c2 29 3) : Int32)).toInt ≤ 30)) from (by (try simp only [ti_0, ti_1, ti_n1]); omega)), (show okC (c2 2) (c2 4) (c2 5) (c2 6) from (by assumption)), (show okC (c2 9) (c2 11) (c2 12) (c2 13) from (by assumption)), (show (0 ≤ (((q 7) : Int32)).toInt ∧ (((q 7) : Int32)).toInt ≤ 24) ∧ ((1 ≤ ((n_10 : Int32)).toInt ∧ ((n_10 : Int32)).toInt ≤ 9) ∧ (1 ≤ (((q 6) : Int32)).toInt ∧ (((q 6) : Int32)).toInt ≤ 9)) ∧ (0 ≤ (((q 26) : Int32)).toInt ∧ (((q 26) : Int32)).toInt ≤ 120) from (by (try simp only [ti_0, ti_1, ti_n1]); omega)), (show okR (rf 8) (rf 10) (rf 11) from (by assumption)), (show isB (q 14) from (by first | assumption | exact isB0 | exact isB1)), (show ∀ j : Nat, isB ((rf 22) j) from (by assumption)), (show ∀ k : Nat, k < 3 → 0 ≤ ((rf 13) k).toInt ∧ ((rf 13) k).toInt ≤ 12 from (by assumption)), (show ∀ k : Nat, k < 4 → 0 ≤ ((rf 35) k).toInt ∧ ((rf 35) k).toInt ≤ 30 from (by assumption)), (show ∀ k : Nat, k < 4 → ((rf 38) k).toInt = 2 → 1 ≤ ((rl 40) k).toInt from (by assumption)), (show ¬ ((q 41) : Int32).toInt = 0 → okK (rf 42) from (by first | assumption | exact (fun _ => by assumption)))⟩ (show va_P D vwCl (lwW T sa q1 q2 u v (fun k => [(c1 0), (c1 1), (c1 2), (u_4 7), (c1 4), (c1 5), (c1 6), (c1 7), (c1 8), (c1 9), (c1 10)].getD k 0) (fun k => [(fun k => [(u_4 0), (u_4 1), (u_4 2), (u_4 3), (u_4 4), (u_4 5), (u_4 6)].getD k 0), (c2 1), (c2 2), (c2 3), (c2 4), (c2 5), (c2 6), (c2 7), (c2 8), (c2 9), (c2 10), (c2 11), (c2 12), (c2 13), (c2 14), (c2 15), (c2 16), (c2 17), (c2 18), (c2 19), (c2 20), (c2 21), (c2 22), (c2 23), (c2 24), (c2 25), (c2 26), (c2 27), (c2 28), (c2 29), (c2 30), (c2 31), (c2 32), (c2 33), (c2 34), (c2 35)].getD k (fun _ => 0)) c3 c4 c5 (fun k => [(q 0), (q 1), (q 2), n_9, n_10, (q 5), (q 6), (q 7), 0, 0, 0, 0, 0, 0, (q 14), 0, 0, 0, 0, 0, 0, 0, 0, 0, (q 24), 0, (q 26), 0, (q 28), (q 29), (q 30), (q 31), (q 32), (q 33), 0, 0, 0, 0, 0, 0, 0, (q 41), 0, (q 43), (q 44)].getD k 0) vl wl rf rl rd) H from hP.sub [91, 0, 92, 1, 2, 3, 4, 5, 6, 7, 8, 9, 10, 11, 12, 13, 14, 15, 16, 17, 18, 19, 20, 21, 22, 23, 24, 25, 26, 27, 28, 29, 30, 31, 32, 93, 33, 34, 35, 36, 37, 38, 39, 40, 41, 42, 43, 44, 45, 46, 47, 48, 49, 50, 51, 52, 53, 54, 55, 56, 57, 58, 59, 60, 61, 62, 63, 64, 65, 66, 67, 94, 68, 69, 70, 71, 72, 73, 74, 75, 76, 77, 78, 79, 80, 81, 82, 83, 84, 85, 86, 87, 88, 89, 90] rfl) (show va_D A (lwW T sa q1 q2 u v (fun k => [(c1 0), (c1 1), (c1 2), (u_4 7), (c1 4), (c1 5), (c1 6), (c1 7), (c1 8), (c1 9), (c1 10)].getD k 0) (fun k => [(fun k => [(u_4 0), (u_4 1), (u_4 2), (u_4 3), (u_4 4), (u_4 5), (u_4 6)].getD k 0), (c2 1), (c2 2), (c2 3), (c2 4), (c2 5), (c2 6), (c2 7), (c2 8), (c2 9), (c2 10), (c2 11), (c2 12), (c2 13), (c2 14), (c2 15), (c2 16), (c2 17), (c2 18), (c2 19), (c2 20), (c2 21), (c2 22), (c2 23), (c2 24), (c2 25), (c2 26), (c2 27), (c2 28), (c2 29), (c2 30), (c2 31), (c2 32), (c2 33), (c2 34), (c2 35)].getD k (fun _ => 0)) c3 c4 c5 (fun k => [(q 0), (q 1), (q 2), n_9, n_10, (q 5), (q 6), (q 7), 0, 0, 0, 0, 0, 0, (q 14), 0, 0, 0, 0, 0, 0, 0, 0, 0, (q 24), 0, (q 26), 0, (q 28), (q 29), (q 30), (q 31), (q 32), (q 33), 0, 0, 0, 0, 0, 0, 0, (q 41), 0, (q 43), (q 44)].getD k 0) vl wl rf rl rd) from hD.sub [91, 0, 92, 1, 2, 3, 4, 5, 6, 7, 8, 9, 10, 11, 12, 13, 14, 15, 16, 17, 18, 19, 20, 21, 22, 23, 24, 25, 26, 27, 28, 29, 30, 31, 32, 93, 33, 34, 35, 36, 37, 38, 39, 40, 41, 42, 43, 44, 45, 46, 47, 48, 49, 50, 51, 52, 53, 54, 55, 56, 57, 58, 59, 60, 61, 62, 63, 64, 65, 66, 67, 94, 68, 69, 70, 71, 72, 73, 74, 75, 76, 77, 78, 79, 80, 81, 82, 83, 84, 85, 86, 87, 88, 89, 90] (by decide) rfl) hS hl
theorem dL_law_288 : decode cL_law 288 = .ok (.aload_n 1, 1) := by decide +kernel
theorem dL_law_289 : decode cL_law 289 = .ok (.aload_n 0, 1) := by decide +kernel
theorem dL_law_290 : decode cL_law 290 = .ok (.iload_n 3, 1) := by decide +kernel
theorem dL_law_291 : decode cL_law 291 = .ok (.iconst 1, 1) := by decide +kernel
theorem dL_law_292 : decode cL_law 292 = .ok (.iadd, 1) := by decide +kernel
theorem dL_law_293 : decode cL_law 293 = .ok (.iaload, 1) := by decide +kernel
theorem dL_law_294 : decode cL_law 294 = .ok (.aload_n 0, 1) := by decide +kernel
theorem dL_law_295 : decode cL_law 295 = .ok (.iload_n 3, 1) := by decide +kernel
theorem dL_law_296 : decode cL_law 296 = .ok (.iconst 2, 1) := by decide +kernel
theorem dL_law_297 : decode cL_law 297 = .ok (.iadd, 1) := by decide +kernel
theorem dL_law_298 : decode cL_law 298 = .ok (.iaload, 1) := by decide +kernel
theorem dL_law_299 : decode cL_law 299 = .ok (.invokevirtual 23, 3) := by decide +kernel
theorem dL_law_302 : decode cL_law 302 = .ok (.pop, 1) := by decide +kernel
theorem dL_law_303 : decode cL_law 303 = .ok (.aload_n 2, 1) := by decide +kernel
theorem dL_law_304 : decode cL_law 304 = .ok (.aload_n 0, 1) := by decide +kernel
theorem dL_law_305 : decode cL_law 305 = .ok (.iload_n 3, 1) := by decide +kernel
theorem dL_law_306 : decode cL_law 306 = .ok (.iconst 1, 1) := by decide +kernel
theorem dL_law_307 : decode cL_law 307 = .ok (.iadd, 1) := by decide +kernel
theorem dL_law_308 : decode cL_law 308 = .ok (.iaload, 1) := by decide +kernel
theorem dL_law_309 : decode cL_law 309 = .ok (.aload_n 0, 1) := by decide +kernel
theorem dL_law_310 : decode cL_law 310 = .ok (.iload_n 3, 1) := by decide +kernel
theorem dL_law_311 : decode cL_law 311 = .ok (.iconst 2, 1) := by decide +kernel
theorem dL_law_312 : decode cL_law 312 = .ok (.iadd, 1) := by decide +kernel
theorem dL_law_313 : decode cL_law 313 = .ok (.iaload, 1) := by decide +kernel
theorem dL_law_314 : decode cL_law 314 = .ok (.invokevirtual 26, 3) := by decide +kernel
theorem dL_law_317 : decode cL_law 317 = .ok (.pop, 1) := by decide +kernel
theorem dL_law_318 : decode cL_law 318 = .ok (.goto 1549, 3) := by decide +kernel
set_option maxRecDepth 40000 in
theorem lg_X12_wait : GoodIn lw_tbl (wsV RL 23 RX12 yX12_wait wsX12_wait) := goodIn_app (gl_cons ⟨lwt_1 _ (List.mem_of_getElem? (i := 108) (by decide +kernel)), by decide +kernel⟩ (gl_cons ⟨lwt_1 _ (List.mem_of_getElem? (i := 109) (by decide +kernel)), by decide +kernel⟩ (gl_cons ⟨lwt_1 _ (List.mem_of_getElem? (i := 110) (by decide +kernel)), by decide +kernel⟩ (gl_cons ⟨lwt_0 _ (List.mem_of_getElem? (i := 1) (by decide +kernel)), by decide +kernel⟩ gl_nil)))) lgg_X12_wait
set_option maxRecDepth 40000 in
theorem lg_X13_wait : GoodIn lw_tbl (wsV RL 26 RX13 yX13_wait wsX13_wait) := goodIn_app (gl_cons ⟨lwt_4 _ (List.mem_of_getElem? (i := 121) (by decide +kernel)), by decide +kernel⟩ (gl_cons ⟨lwt_4 _ (List.mem_of_getElem? (i := 122) (by decide +kernel)), by decide +kernel⟩ (gl_cons ⟨lwt_4 _ (List.mem_of_getElem? (i := 123) (by decide +kernel)), by decide +kernel⟩ (gl_cons ⟨lwt_0 _ (List.mem_of_getElem? (i := 11) (by decide +kernel)), by decide +kernel⟩ gl_nil)))) lgg_X13_wait
set_option maxHeartbeats 8000000 in
set_option maxRecDepth 100000 in
theorem law_c2 {p : Program} {e : Env} {s : State} {m : MethodId} {below : List Frame} {meth : Method} {c : Code} {l : Launch} {b L : Nat} {xs : Nat → Int32} (hL : L ≤ 3584) (C0 : lw_At p s m meth c b L xs) {D : va_G} {T : Nat → ClassId} {ad sa av : Nat → Nat} {ta : Nat} {A : Nat → Prop} (hA : ∀ q : Nat, s.heap.size ≤ q → A q) (hAf : ∀ q : Nat, A q → s.heap.size ≤ q) (hbA : ¬ A b) (hE0 : ekK D T s) (hV0 : evK ad sa av ta A s s.heap) {q1 q2 : Nat} {u v : Nat → Nat} {ii : Int32} (hii : 0 ≤ ii.toInt ∧ ii.toInt + 7 ≤ L) (K : lwK p l e s m below meth c b D T sa A q1 q2 u v ii) (c1 : Nat → Int32) (c2 : Nat → Nat → Int32) (c3 : Nat → Nat → Int64) (c4 : Nat → Nat → UInt32) (c5 : Nat → Nat → UInt64) (q : Nat → Int32) (vl wl : Int64) (rf : Nat → Nat → Int32) (rl : Nat → Nat → Int64) (rd : Nat → UInt64) {ls : Array Slot} {H : Heap} {locs : List Loc} {d0 : Drawn} (hd0 : s.drawn.sameBut d0 lw_cs) (hI : lwI c1 c2 q rf rl) (hP : va_P D vwCl (lwW T sa q1 q2 u v c1 c2 c3 c4 c5 q vl wl rf rl rd) H) (hD : va_D A (lwW T sa q1 q2 u v c1 c2 c3 c4 c5 q vl wl rf rl rd)) (hS : va_S A s.heap H locs) (hl : lv_has ls 4 [(3, .int ii), (2, .ref q2), (1, .ref q1), (0, .ref b)]) : W p l e room_1 (s.setDrawn d0) m #[Value.ref b] below meth c H locs 95 6031 (lw_Z below #[Value.ref b] s) (F0 m 288 ls []) := by
  obtain ⟨hx, hb, hr, hml, hown0, hts0, hX, hbl, hlocks, hgv⟩ := id C0
  have hown0 : s.vm.findClass RL = some m.cls := hown0
  have hts := dr_words hts0 d0
  have hE : ekK D T (s.setDrawn d0) := ekK.same (u := s) rfl hE0
  have hown : (s.setDrawn d0).vm.findClass RL = some m.cls := hown0
  have hV : evK ad sa av ta A (s.setDrawn d0) (s.setDrawn d0).heap := evK.same (u := s) rfl hV0
  obtain ⟨hA1, hok, hokk, hA2, hokR, hB, hZ, hbg, hsz, hhd, hKb⟩ := hI
  have hA1 : (0 ≤ (((c1 1) : Int32)).toInt ∧ (((c1 1) : Int32)).toInt ≤ 24) ∧ (0 ≤ (((c1 2) : Int32)).toInt ∧ (((c1 2) : Int32)).toInt ≤ 24) ∧ (0 ≤ (((c2 16 0) : Int32)).toInt ∧ (((c2 16 0) : Int32)).toInt ≤ 12) ∧ (0 ≤ (((c2 16 1) : Int32)).toInt ∧ (((c2 16 1) : Int32)).toInt ≤ 12) ∧ (0 ≤ (((c2 16 2) : Int32)).toInt ∧ (((c2 16 2) : Int32)).toInt ≤ 12) ∧ (0 ≤ (((c2 17 0) : Int32)).toInt ∧ (((c2 17 0) : Int32)).toInt ≤ 12) ∧ (0 ≤ (((c2 17 1) : Int32)).toInt ∧ (((c2 17 1) : Int32)).toInt ≤ 12) ∧ (0 ≤ (((c2 17 2) : Int32)).toInt ∧ (((c2 17 2) : Int32)).toInt ≤ 12) ∧ (0 ≤ (((c1 7) : Int32)).toInt ∧ (((c1 7) : Int32)).toInt ≤ 120) ∧ ((-1 ≤ (((c2 28 0) : Int32)).toInt ∧ (((c2 28 0) : Int32)).toInt ≤ 3) ∧ (0 ≤ (((c2 29 0) : Int32)).toInt ∧ (((c2 29 0) : Int32)).toInt ≤ 30)) ∧ ((-1 ≤ (((c2 28 1) : Int32)).toInt ∧ (((c2 28 1) : Int32)).toInt ≤ 3) ∧ (0 ≤ (((c2 29 1) : Int32)).toInt ∧ (((c2 29 1) : Int32)).toInt ≤ 30)) ∧ ((-1 ≤ (((c2 28 2) : Int32)).toInt ∧ (((c2 28 2) : Int32)).toInt ≤ 3) ∧ (0 ≤ (((c2 29 2) : Int32)).toInt ∧ (((c2 29 2) : Int32)).toInt ≤ 30)) ∧ ((-1 ≤ (((c2 28 3) : Int32)).toInt ∧ (((c2 28 3) : Int32)).toInt ≤ 3) ∧ (0 ≤ (((c2 29 3) : Int32)).toInt ∧ (((c2 29 3) : Int32)).toInt ≤ 30)) := hA1
  have hok : okC (c2 2) (c2 4) (c2 5) (c2 6) := hok
  have hokk : okC (c2 9) (c2 11) (c2 12) (c2 13) := hokk
  have hA2 : (0 ≤ (((q 7) : Int32)).toInt ∧ (((q 7) : Int32)).toInt ≤ 24) ∧ ((1 ≤ (((q 4) : Int32)).toInt ∧ (((q 4) : Int32)).toInt ≤ 9) ∧ (1 ≤ (((q 6) : Int32)).toInt ∧ (((q 6) : Int32)).toInt ≤ 9)) ∧ (0 ≤ (((q 26) : Int32)).toInt ∧ (((q 26) : Int32)).toInt ≤ 120) := hA2
  have hokR : okR (rf 8) (rf 10) (rf 11) := hokR
  have hB : isB (q 14) := hB
  have hZ : ∀ j : Nat, isB ((rf 22) j) := hZ
  have hbg : ∀ k : Nat, k < 3 → 0 ≤ ((rf 13) k).toInt ∧ ((rf 13) k).toInt ≤ 12 := hbg
  have hsz : ∀ k : Nat, k < 4 → 0 ≤ ((rf 35) k).toInt ∧ ((rf 35) k).toInt ≤ 30 := hsz
  have hhd : ∀ k : Nat, k < 4 → ((rf 38) k).toInt = 2 → 1 ≤ ((rl 40) k).toInt := hhd
  have hKb : ¬ ((q 41) : Int32).toInt = 0 → okK (rf 42) := hKb
  have hi_1 : (ii + 1).toInt = ii.toInt + 1 := by rw [fb_addI (by rw [ti_1]; omega) (by rw [ti_1]; omega), ti_1]
  have hi_2 : (ii + 2).toInt = ii.toInt + 2 := by rw [fb_addI (by rw [ti_2]; omega) (by rw [ti_2]; omega), ti_2]
  have hi_3 : (ii + 3).toInt = ii.toInt + 3 := by rw [fb_addI (by rw [ti_3]; omega) (by rw [ti_3]; omega), ti_3]
  have hi_4 : (ii + 4).toInt = ii.toInt + 4 := by rw [fb_addI (by rw [ti_4]; omega) (by rw [ti_4]; omega), ti_4]
  have hi_5 : (ii + 5).toInt = ii.toInt + 5 := by rw [fb_addI (by rw [ti_5]; omega) (by rw [ti_5]; omega), ti_5]
  have hi_6 : (ii + 6).toInt = ii.toInt + 6 := by rw [fb_addI (by rw [ti_6]; omega) (by rw [ti_6]; omega), ti_6]
  refine lv_aload_n hx hb dL_law_288 rfl (lv_at hl 2 rfl) ?_
  refine lv_aload_n hx hb dL_law_289 rfl (lv_at hl 3 rfl) ?_
  refine lv_iload_n hx hb dL_law_290 rfl (lv_at hl 0 rfl) ?_
  refine lv_iconst (v := 1) hx hb dL_law_291 (by decide) ?_
  refine lv_iadd hx hb dL_law_292 ?_
  refine va_sld hx hb hX hbl hbA hS (by rw [vp_in_iff, hi_1]; omega) dL_law_293 ?_
  refine lv_topi (fun z_1 ez_1 => ?_)
  refine lv_aload_n hx hb dL_law_294 rfl (lv_at hl 3 rfl) ?_
  refine lv_iload_n hx hb dL_law_295 rfl (lv_at hl 0 rfl) ?_
  refine lv_iconst (v := 2) hx hb dL_law_296 (by decide) ?_
  refine lv_iadd hx hb dL_law_297 ?_
  refine va_sld hx hb hX hbl hbA hS (by rw [vp_in_iff, hi_2]; omega) dL_law_298 ?_
  refine lv_topi (fun z_2 ez_2 => ?_)
  have hFc := va_free (wc := [(q1, .inr (9, [.ref (u 0), .ref (u 1), .int (c1 0), .ref (u 2), .ref (u 3), .ref (u 11), .ref (u 34), .ref (u 38), .ref (u 40), .ref (u 44), .ref (u 65)])), ((u 2), .inr (5, [.int (c2 0 0), .int (c2 0 1), .int (c2 0 2), .int (c2 0 3), .int (c2 0 4), .int (c2 0 5), .int (c2 0 6)])), ((u 34), .inr (8, [.ref (u 2), .ref (u 3), .ref (u 35), .ref (u 36), .ref (u 37), .int (c1 3)]))]) hD hS hA [0, 2, 35] rfl
  refine va_calli (va_runV (As := [.int z_1, .int z_2]) (rest := []) ⟨hx, hb, hml, hown, hts⟩ (c_X12_wait l D T _ q1 (u 2) (u 34) [.ref (u 0), .ref (u 1), .int (c1 0), .ref (u 2), .ref (u 3), .ref (u 11), .ref (u 34), .ref (u 38), .ref (u 40), .ref (u 44), .ref (u 65)] (fun k => [(c2 0 0), (c2 0 1), (c2 0 2), (c2 0 3), (c2 0 4), (c2 0 5), (c2 0 6)].getD k 0) (.ref (u 2)) (.ref (u 3)) (.ref (u 35)) (.ref (u 36)) (.ref (u 37)) (c1 3) z_1 z_2 rfl rfl) (cwV 2 hts lg_X12_wait rfl rfl rfl (by decide +kernel) ⟨Nat.le_of_ble_eq_true rfl, Nat.le_of_ble_eq_true rfl⟩) (pW_V (ci := 9) (q0 := 0) hP hE hD rfl rfl [0, 2, 35] (by decide) rfl rfl) rfl rfl hl.1 rfl (lv_room (Nat.le_of_ble_eq_true rfl)) dL_law_299 ⟨Nat.le_of_ble_eq_true rfl, Nat.le_of_ble_eq_true rfl⟩) hS (fun q _ h => hFc q h) hFc (fun r_3 u_4 t H1 locs ht hvm hr_3 hB hz1 hk1 hS => ?_)
  obtain ⟨hP1, hD1⟩ := hB
  rw [ht] at hP1
  obtain ⟨hP, hD⟩ := va_join (wr := ([1, 3, 4, 5, 6, 7, 8, 9, 10, 11, 12, 13, 14, 15, 16, 17, 18, 19, 20, 21, 22, 23, 24, 25, 26, 27, 28, 29, 30, 31, 32, 33, 34, 36, 37, 38, 39, 40, 41, 42, 43, 44, 45, 46, 47, 48, 49, 50, 51, 52, 53, 54, 55, 56, 57, 58, 59, 60, 61, 62, 63, 64, 65, 66, 67, 68, 69, 70, 71, 72, 73, 74, 75, 76, 77, 78, 79, 80, 81, 82, 83, 84, 85, 86, 87, 88, 89, 90, 91, 92, 93, 94].filterMap (fun i => (lwW T sa q1 q2 u v c1 c2 c3 c4 c5 q vl wl rf rl rd)[i]?))) (w1 := [(q1, .inr (9, [.ref (u 0), .ref (u 1), .int (c1 0), .ref (u 2), .ref (u 3), .ref (u 11), .ref (u 34), .ref (u 38), .ref (u 40), .ref (u 44), .ref (u 65)])), ((u 2), .inr (5, [.int (u_4 0), .int (u_4 1), .int (u_4 2), .int (u_4 3), .int (u_4 4), .int (u_4 5), .int (u_4 6)])), ((u 34), .inr (8, [.ref (u 2), .ref (u 3), .ref (u 35), .ref (u 36), .ref (u 37), .int (u_4 7)]))]) hP hD [0, 2, 35] [1, 3, 4, 5, 6, 7, 8, 9, 10, 11, 12, 13, 14, 15, 16, 17, 18, 19, 20, 21, 22, 23, 24, 25, 26, 27, 28, 29, 30, 31, 32, 33, 34, 36, 37, 38, 39, 40, 41, 42, 43, 44, 45, 46, 47, 48, 49, 50, 51, 52, 53, 54, 55, 56, 57, 58, 59, 60, 61, 62, 63, 64, 65, 66, 67, 68, 69, 70, 71, 72, 73, 74, 75, 76, 77, 78, 79, 80, 81, 82, 83, 84, 85, 86, 87, 88, 89, 90, 91, 92, 93, 94] rfl rfl (by decide) (by decide) hk1 hFc hP1 hD1
  clear hP1 hD1 hFc
  generalize H1 = H at hP hS ⊢
  refine lv_pop hx hb dL_law_302 rfl ?_
  refine lv_aload_n hx hb dL_law_303 rfl (lv_at hl 1 rfl) ?_
  refine lv_aload_n hx hb dL_law_304 rfl (lv_at hl 3 rfl) ?_
  refine lv_iload_n hx hb dL_law_305 rfl (lv_at hl 0 rfl) ?_
  refine lv_iconst (v := 1) hx hb dL_law_306 (by decide) ?_
  refine lv_iadd hx hb dL_law_307 ?_
  refine va_sld hx hb hX hbl hbA hS (by rw [vp_in_iff, hi_1]; omega) dL_law_308 ?_
  refine lv_topi (fun z_5 ez_5 => ?_)
  have hsz_5 : z_1 = z_5 := ez_1.trans ez_5.symm
  subst hsz_5
  refine lv_aload_n hx hb dL_law_309 rfl (lv_at hl 3 rfl) ?_
  refine lv_iload_n hx hb dL_law_310 rfl (lv_at hl 0 rfl) ?_
  refine lv_iconst (v := 2) hx hb dL_law_311 (by decide) ?_
  refine lv_iadd hx hb dL_law_312 ?_
  refine va_sld hx hb hX hbl hbA hS (by rw [vp_in_iff, hi_2]; omega) dL_law_313 ?_
  refine lv_topi (fun z_6 ez_6 => ?_)
  have hsz_6 : z_2 = z_6 := ez_2.trans ez_6.symm
  subst hsz_6
  have hFc := va_free (wc := [(q2, .inr (10, [.int (q 0), .int (q 1), .int (q 2), .int (q 3), .int (q 4), .int (q 5), .int (q 6), .int (q 7), .ref (v 8), .ref (v 9), .ref (v 10), .ref (v 11), .ref (v 12), .ref (v 13), .int (q 14), .long vl, .long wl, .ref (v 17), .ref (v 18), .ref (v 19), .ref (v 20), .ref (v 21), .ref (v 22), .ref (v 23), .int (q 24), .ref (v 25), .int (q 26), .ref (v 27), .int (q 28), .int (q 29), .int (q 30), .int (q 31), .int (q 32), .int (q 33), .ref (v 34), .ref (v 35), .ref (v 36), .ref (v 37), .ref (v 38), .ref (v 39), .ref (v 40), .int (q 41), .ref (v 42), .int (q 43), .int (q 44)]))]) hD hS hA [68] rfl
  refine va_calli (va_runV (As := [.int z_1, .int z_2]) (rest := []) ⟨hx, hb, hml, hown, hts⟩ (c_X13_wait l D T _ q2 q vl wl v z_1 z_2 (by omega)) (cwV 2 hts lg_X13_wait rfl rfl rfl (by decide +kernel) ⟨Nat.le_of_ble_eq_true rfl, Nat.le_of_ble_eq_true rfl⟩) (pW_V (ci := 10) (q0 := 68) hP hE hD rfl rfl [68] (by decide) rfl rfl) rfl rfl hl.1 rfl (lv_room (Nat.le_of_ble_eq_true rfl)) dL_law_314 ⟨Nat.le_of_ble_eq_true rfl, Nat.le_of_ble_eq_true rfl⟩) hS (fun q _ h => hFc q h) hFc (fun r_7 u_8 t H1 locs ht hvm hr_7 hB hz1 hk1 hS => ?_)
  obtain ⟨n_9, n_10⟩ := u_8
  obtain ⟨hi0_r_7, hi1_r_7⟩ := hr_7
  have hj0_r_7 : r_7 = sp_wait z_1 z_2 := hi0_r_7
  have hj1_r_7 : (1 ≤ (q 4).toInt ∧ (q 4).toInt ≤ 9) ∧ 1 ≤ n_10.toInt ∧ n_10.toInt ≤ 9 := hi1_r_7
  obtain ⟨hP1, hD1⟩ := hB
  rw [ht] at hP1
  obtain ⟨hP, hD⟩ := va_join (wr := ([0, 1, 2, 3, 4, 5, 6, 7, 8, 9, 10, 11, 12, 13, 14, 15, 16, 17, 18, 19, 20, 21, 22, 23, 24, 25, 26, 27, 28, 29, 30, 31, 32, 33, 34, 35, 36, 37, 38, 39, 40, 41, 42, 43, 44, 45, 46, 47, 48, 49, 50, 51, 52, 53, 54, 55, 56, 57, 58, 59, 60, 61, 62, 63, 64, 65, 66, 67, 69, 70, 71, 72, 73, 74, 75, 76, 77, 78, 79, 80, 81, 82, 83, 84, 85, 86, 87, 88, 89, 90, 91, 92, 93, 94].filterMap (fun i => (([1, 3, 4, 5, 6, 7, 8, 9, 10, 11, 12, 13, 14, 15, 16, 17, 18, 19, 20, 21, 22, 23, 24, 25, 26, 27, 28, 29, 30, 31, 32, 33, 34, 36, 37, 38, 39, 40, 41, 42, 43, 44, 45, 46, 47, 48, 49, 50, 51, 52, 53, 54, 55, 56, 57, 58, 59, 60, 61, 62, 63, 64, 65, 66, 67, 68, 69, 70, 71, 72, 73, 74, 75, 76, 77, 78, 79, 80, 81, 82, 83, 84, 85, 86, 87, 88, 89, 90, 91, 92, 93, 94].filterMap (fun i => (lwW T sa q1 q2 u v c1 c2 c3 c4 c5 q vl wl rf rl rd)[i]?)) ++ [(q1, .inr (9, [.ref (u 0), .ref (u 1), .int (c1 0), .ref (u 2), .ref (u 3), .ref (u 11), .ref (u 34), .ref (u 38), .ref (u 40), .ref (u 44), .ref (u 65)])), ((u 2), .inr (5, [.int (u_4 0), .int (u_4 1), .int (u_4 2), .int (u_4 3), .int (u_4 4), .int (u_4 5), .int (u_4 6)])), ((u 34), .inr (8, [.ref (u 2), .ref (u 3), .ref (u 35), .ref (u 36), .ref (u 37), .int (u_4 7)]))])[i]?))) (w1 := [(q2, .inr (10, [.int (q 0), .int (q 1), .int (q 2), .int (q 3), .int (q 4), .int n_9, .int n_10, .int (q 7), .ref (v 8), .ref (v 9), .ref (v 10), .ref (v 11), .ref (v 12), .ref (v 13), .int (q 14), .long vl, .long wl, .ref (v 17), .ref (v 18), .ref (v 19), .ref (v 20), .ref (v 21), .ref (v 22), .ref (v 23), .int (q 24), .ref (v 25), .int (q 26), .ref (v 27), .int (q 28), .int (q 29), .int (q 30), .int (q 31), .int (q 32), .int (q 33), .ref (v 34), .ref (v 35), .ref (v 36), .ref (v 37), .ref (v 38), .ref (v 39), .ref (v 40), .int (q 41), .ref (v 42), .int (q 43), .int (q 44)]))]) hP hD [68] [0, 1, 2, 3, 4, 5, 6, 7, 8, 9, 10, 11, 12, 13, 14, 15, 16, 17, 18, 19, 20, 21, 22, 23, 24, 25, 26, 27, 28, 29, 30, 31, 32, 33, 34, 35, 36, 37, 38, 39, 40, 41, 42, 43, 44, 45, 46, 47, 48, 49, 50, 51, 52, 53, 54, 55, 56, 57, 58, 59, 60, 61, 62, 63, 64, 65, 66, 67, 69, 70, 71, 72, 73, 74, 75, 76, 77, 78, 79, 80, 81, 82, 83, 84, 85, 86, 87, 88, 89, 90, 91, 92, 93, 94] rfl rfl (by decide) (by decide) hk1 hFc hP1 hD1
  clear hP1 hD1 hFc
  generalize H1 = H at hP hS ⊢
  refine lv_pop hx hb dL_law_317 rfl ?_
  refine lv_goto (tgt := 1867) hx hb dL_law_318 (by decide) ?_
  exact K (fun k => [(c1 0), (c1 1), (c1 2), (u_4 7), (c1 4), (c1 5), (c1 6), (c1 7), (c1 8), (c1 9), (c1 10)].getD k 0) (fun k => [(fun k => [(u_4 0), (u_4 1), (u_4 2), (u_4 3), (u_4 4), (u_4 5), (u_4 6)].getD k 0), (c2 1), (c2 2), (c2 3), (c2 4), (c2 5), (c2 6), (c2 7), (c2 8), (c2 9), (c2 10), (c2 11), (c2 12), (c2 13), (c2 14), (c2 15), (c2 16), (c2 17), (c2 18), (c2 19), (c2 20), (c2 21), (c2 22), (c2 23), (c2 24), (c2 25), (c2 26), (c2 27), (c2 28), (c2 29), (c2 30), (c2 31), (c2 32), (c2 33), (c2 34), (c2 35)].getD k (fun _ => 0)) c3 c4 c5 (fun k => [(q 0), (q 1), (q 2), (q 3), (q 4), n_9, n_10, (q 7), 0, 0, 0, 0, 0, 0, (q 14), 0, 0, 0, 0, 0, 0, 0, 0, 0, (q 24), 0, (q 26), 0, (q 28), (q 29), (q 30), (q 31), (q 32), (q 33), 0, 0, 0, 0, 0, 0, 0, (q 41), 0, (q 43), (q 44)].getD k 0) vl wl rf rl rd ls H locs _ hd0 ⟨(show (0 ≤ (((c1 1) : Int32)).toInt ∧ (((c1 1) : Int32)).toInt ≤ 24) ∧ (0 ≤ (((c1 2) : Int32)).toInt ∧ (((c1 2) : Int32)).toInt ≤ 24) ∧ (0 ≤ (((c2 16 0) : Int32)).toInt ∧ (((c2 16 0) : Int32)).toInt ≤ 12) ∧ (0 ≤ (((c2 16 1) : Int32)).toInt ∧ (((c2 16 1) : Int32)).toInt ≤ 12) ∧ (0 ≤ (((c2 16 2) : Int32)).toInt ∧ (((c2 16 2) : Int32)).toInt ≤ 12) ∧ (0 ≤ (((c2 17 0) : Int32)).toInt ∧ (((c2 17 0) : Int32)).toInt ≤ 12) ∧ (0 ≤ (((c2 17 1) : Int32)).toInt ∧ (((c2 17 1) : Int32)).toInt ≤ 12) ∧ (0 ≤ (((c2 17 2) : Int32)).toInt ∧ (((c2 17 2) : Int32)).toInt ≤ 12) ∧ (0 ≤ (((c1 7) : Int32)).toInt ∧ (((c1 7) : Int32)).toInt ≤ 120) ∧ ((-1 ≤ (((c2 28 0) : Int32)).toInt ∧ (((c2 28 0) : Int32)).toInt ≤ 3) ∧ (0 ≤ (((c2 29 0) : Int32)).toInt ∧ (((c2 29 0) : Int32)).toInt ≤ 30)) ∧ ((-1 ≤ (((c2 28 1) : Int32)).toInt ∧ (((c2 28 1) : Int32)).toInt ≤ 3) ∧ (0 ≤ (((c2 29 1) : Int32)).toInt ∧ (((c2 29 1) : Int32)).toInt ≤ 30)) ∧ ((-1 ≤ (((c2 28 2) : Int32)).toInt ∧ (((c2 28 2) : Int32)).toInt ≤ 3) ∧ (0 ≤ (((c2 29 2) : Int32)).toInt ∧ (((c2 29 2) : Int32)).toInt ≤ 30)) ∧ ((-1 ≤ (((c2 28 3) : Int32)).toInt ∧ (((c2 28 3) : Int32)).toInt ≤ 3) ∧ (0 ≤ (((c2 29 3) : Int32)).toInt ∧ (((c2 29 3) : Int32)).toInt ≤ 30)) from (by (try simp only [ti_0, ti_1, ti_n1]); omega)), (show okC (c2 2) (c2 4) (c2 5) (c2 6) from (by assumption)), (show okC (c2 9) (c2 11) (c2 12) (c2 13) from (by assumption)), (show (0 ≤ (((q 7) : Int32)).toInt ∧ (((q 7) : Int32)).toInt ≤ 24) ∧ ((1 ≤ (((q 4) : Int32)).toInt ∧ (((q 4) : Int32)).toInt ≤ 9) ∧ (1 ≤ ((n_10 : Int32)).toInt ∧ ((n_10 : Int32)).toInt ≤ 9)) ∧ (0 ≤ (((q 26) : Int32)).toInt ∧ (((q 26) : Int32)).toInt ≤ 120) from (by (try simp only [ti_0, ti_1, ti_n1]); omega)), (show okR (rf 8) (rf 10) (rf 11) from (by assumption)), (show isB (q 14) from (by first | assumption | exact isB0 | exact isB1)), (show ∀ j : Nat, isB ((rf 22) j) from (by assumption)), (show ∀ k : Nat, k < 3 → 0 ≤ ((rf 13) k).toInt ∧ ((rf 13) k).toInt ≤ 12 from (by assumption)), (show ∀ k : Nat, k < 4 → 0 ≤ ((rf 35) k).toInt ∧ ((rf 35) k).toInt ≤ 30 from (by assumption)), (show ∀ k : Nat, k < 4 → ((rf 38) k).toInt = 2 → 1 ≤ ((rl 40) k).toInt from (by assumption)), (show ¬ ((q 41) : Int32).toInt = 0 → okK (rf 42) from (by first | assumption | exact (fun _ => by assumption)))⟩ (show va_P D vwCl (lwW T sa q1 q2 u v (fun k => [(c1 0), (c1 1), (c1 2), (u_4 7), (c1 4), (c1 5), (c1 6), (c1 7), (c1 8), (c1 9), (c1 10)].getD k 0) (fun k => [(fun k => [(u_4 0), (u_4 1), (u_4 2), (u_4 3), (u_4 4), (u_4 5), (u_4 6)].getD k 0), (c2 1), (c2 2), (c2 3), (c2 4), (c2 5), (c2 6), (c2 7), (c2 8), (c2 9), (c2 10), (c2 11), (c2 12), (c2 13), (c2 14), (c2 15), (c2 16), (c2 17), (c2 18), (c2 19), (c2 20), (c2 21), (c2 22), (c2 23), (c2 24), (c2 25), (c2 26), (c2 27), (c2 28), (c2 29), (c2 30), (c2 31), (c2 32), (c2 33), (c2 34), (c2 35)].getD k (fun _ => 0)) c3 c4 c5 (fun k => [(q 0), (q 1), (q 2), (q 3), (q 4), n_9, n_10, (q 7), 0, 0, 0, 0, 0, 0, (q 14), 0, 0, 0, 0, 0, 0, 0, 0, 0, (q 24), 0, (q 26), 0, (q 28), (q 29), (q 30), (q 31), (q 32), (q 33), 0, 0, 0, 0, 0, 0, 0, (q 41), 0, (q 43), (q 44)].getD k 0) vl wl rf rl rd) H from hP.sub [91, 0, 92, 1, 2, 3, 4, 5, 6, 7, 8, 9, 10, 11, 12, 13, 14, 15, 16, 17, 18, 19, 20, 21, 22, 23, 24, 25, 26, 27, 28, 29, 30, 31, 32, 93, 33, 34, 35, 36, 37, 38, 39, 40, 41, 42, 43, 44, 45, 46, 47, 48, 49, 50, 51, 52, 53, 54, 55, 56, 57, 58, 59, 60, 61, 62, 63, 64, 65, 66, 67, 94, 68, 69, 70, 71, 72, 73, 74, 75, 76, 77, 78, 79, 80, 81, 82, 83, 84, 85, 86, 87, 88, 89, 90] rfl) (show va_D A (lwW T sa q1 q2 u v (fun k => [(c1 0), (c1 1), (c1 2), (u_4 7), (c1 4), (c1 5), (c1 6), (c1 7), (c1 8), (c1 9), (c1 10)].getD k 0) (fun k => [(fun k => [(u_4 0), (u_4 1), (u_4 2), (u_4 3), (u_4 4), (u_4 5), (u_4 6)].getD k 0), (c2 1), (c2 2), (c2 3), (c2 4), (c2 5), (c2 6), (c2 7), (c2 8), (c2 9), (c2 10), (c2 11), (c2 12), (c2 13), (c2 14), (c2 15), (c2 16), (c2 17), (c2 18), (c2 19), (c2 20), (c2 21), (c2 22), (c2 23), (c2 24), (c2 25), (c2 26), (c2 27), (c2 28), (c2 29), (c2 30), (c2 31), (c2 32), (c2 33), (c2 34), (c2 35)].getD k (fun _ => 0)) c3 c4 c5 (fun k => [(q 0), (q 1), (q 2), (q 3), (q 4), n_9, n_10, (q 7), 0, 0, 0, 0, 0, 0, (q 14), 0, 0, 0, 0, 0, 0, 0, 0, 0, (q 24), 0, (q 26), 0, (q 28), (q 29), (q 30), (q 31), (q 32), (q 33), 0, 0, 0, 0, 0, 0, 0, (q 41), 0, (q 43), (q 44)].getD k 0) vl wl rf rl rd) from hD.sub [91, 0, 92, 1, 2, 3, 4, 5, 6, 7, 8, 9, 10, 11, 12, 13, 14, 15, 16, 17, 18, 19, 20, 21, 22, 23, 24, 25, 26, 27, 28, 29, 30, 31, 32, 93, 33, 34, 35, 36, 37, 38, 39, 40, 41, 42, 43, 44, 45, 46, 47, 48, 49, 50, 51, 52, 53, 54, 55, 56, 57, 58, 59, 60, 61, 62, 63, 64, 65, 66, 67, 94, 68, 69, 70, 71, 72, 73, 74, 75, 76, 77, 78, 79, 80, 81, 82, 83, 84, 85, 86, 87, 88, 89, 90] (by decide) rfl) hS hl
