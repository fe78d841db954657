theorem dL_law_212 : decode cL_law 212 = .ok (.aload_n 1, 1) := by decide +kernel
theorem dL_law_213 : decode cL_law 213 = .ok (.aload_n 0, 1) := by decide +kernel
theorem dL_law_214 : decode cL_law 214 = .ok (.iload_n 3, 1) := by decide +kernel
theorem dL_law_215 : decode cL_law 215 = .ok (.iconst 1, 1) := by decide +kernel
theorem dL_law_216 : decode cL_law 216 = .ok (.iadd, 1) := by decide +kernel
theorem dL_law_217 : decode cL_law 217 = .ok (.iaload, 1) := by decide +kernel
theorem dL_law_218 : decode cL_law 218 = .ok (.aload_n 0, 1) := by decide +kernel
theorem dL_law_219 : decode cL_law 219 = .ok (.iload_n 3, 1) := by decide +kernel
theorem dL_law_220 : decode cL_law 220 = .ok (.iconst 2, 1) := by decide +kernel
theorem dL_law_221 : decode cL_law 221 = .ok (.iadd, 1) := by decide +kernel
theorem dL_law_222 : decode cL_law 222 = .ok (.iaload, 1) := by decide +kernel
theorem dL_law_223 : decode cL_law 223 = .ok (.aload_n 0, 1) := by decide +kernel
theorem dL_law_224 : decode cL_law 224 = .ok (.iload_n 3, 1) := by decide +kernel
theorem dL_law_225 : decode cL_law 225 = .ok (.iconst 3, 1) := by decide +kernel
theorem dL_law_226 : decode cL_law 226 = .ok (.iadd, 1) := by decide +kernel
theorem dL_law_227 : decode cL_law 227 = .ok (.iaload, 1) := by decide +kernel
theorem dL_law_228 : decode cL_law 228 = .ok (.invokevirtual 13, 3) := by decide +kernel
theorem dL_law_231 : decode cL_law 231 = .ok (.pop, 1) := by decide +kernel
theorem dL_law_232 : decode cL_law 232 = .ok (.aload_n 2, 1) := by decide +kernel
theorem dL_law_233 : decode cL_law 233 = .ok (.aload_n 0, 1) := by decide +kernel
theorem dL_law_234 : decode cL_law 234 = .ok (.iload_n 3, 1) := by decide +kernel
theorem dL_law_235 : decode cL_law 235 = .ok (.iconst 1, 1) := by decide +kernel
theorem dL_law_236 : decode cL_law 236 = .ok (.iadd, 1) := by decide +kernel
theorem dL_law_237 : decode cL_law 237 = .ok (.iaload, 1) := by decide +kernel
theorem dL_law_238 : decode cL_law 238 = .ok (.aload_n 0, 1) := by decide +kernel
theorem dL_law_239 : decode cL_law 239 = .ok (.iload_n 3, 1) := by decide +kernel
theorem dL_law_240 : decode cL_law 240 = .ok (.iconst 2, 1) := by decide +kernel
theorem dL_law_241 : decode cL_law 241 = .ok (.iadd, 1) := by decide +kernel
theorem dL_law_242 : decode cL_law 242 = .ok (.iaload, 1) := by decide +kernel
theorem dL_law_243 : decode cL_law 243 = .ok (.aload_n 0, 1) := by decide +kernel
theorem dL_law_244 : decode cL_law 244 = .ok (.iload_n 3, 1) := by decide +kernel
theorem dL_law_245 : decode cL_law 245 = .ok (.iconst 3, 1) := by decide +kernel
theorem dL_law_246 : decode cL_law 246 = .ok (.iadd, 1) := by decide +kernel
theorem dL_law_247 : decode cL_law 247 = .ok (.iaload, 1) := by decide +kernel
theorem dL_law_248 : decode cL_law 248 = .ok (.invokevirtual 17, 3) := by decide +kernel
theorem dL_law_251 : decode cL_law 251 = .ok (.pop, 1) := by decide +kernel
theorem dL_law_252 : decode cL_law 252 = .ok (.goto 1616, 3) := by decide +kernel
theorem hv_X12_start : yX12_start.cls = RX12 ∧ yX12_start.cls ≠ "java/lang/invoke/MethodHandle" ∧ yX12_start.cls ≠ "java/lang/invoke/VarHandle" ∧ (parseMethodDescriptor yX12_start.desc).map (fun d => d.parameters.length) = some 3 := by decide +kernel
theorem hv_X13_start : yX13_start.cls = RX13 ∧ yX13_start.cls ≠ "java/lang/invoke/MethodHandle" ∧ yX13_start.cls ≠ "java/lang/invoke/VarHandle" ∧ (parseMethodDescriptor yX13_start.desc).map (fun d => d.parameters.length) = some 3 := by decide +kernel
set_option maxRecDepth 40000 in
theorem lg_X12_start : GoodIn lw_tbl (wsV RL 13 RX12 yX12_start wsX12_start) := goodIn_app (gl_cons ⟨lwt_1 _ (List.mem_of_getElem? (i := 93) rfl), by decide +kernel⟩ (gl_cons ⟨lwt_1 _ (List.mem_of_getElem? (i := 94) rfl), by decide +kernel⟩ (gl_cons ⟨lwt_1 _ (List.mem_of_getElem? (i := 95) rfl), by decide +kernel⟩ (gl_cons ⟨lwt_0 _ (List.mem_of_getElem? (i := 1) rfl), by decide +kernel⟩ gl_nil)))) lgg_X12_start
set_option maxRecDepth 40000 in
theorem lg_X13_start : GoodIn lw_tbl (wsV RL 17 RX13 yX13_start wsX13_start) := goodIn_app (gl_cons ⟨lwt_4 _ (List.mem_of_getElem? (i := 106) rfl), by decide +kernel⟩ (gl_cons ⟨lwt_4 _ (List.mem_of_getElem? (i := 107) rfl), by decide +kernel⟩ (gl_cons ⟨lwt_4 _ (List.mem_of_getElem? (i := 108) rfl), by decide +kernel⟩ (gl_cons ⟨lwt_0 _ (List.mem_of_getElem? (i := 11) rfl), by decide +kernel⟩ gl_nil)))) lgg_X13_start
set_option maxHeartbeats 300000 in
set_option maxRecDepth 100000 in
theorem law_c0 {p : Program} {e : Env} {s : State} {m : MethodId} {below : List Frame} {meth : Method} {c : Code} {l : Launch} {b L : Nat} {xs : Nat → Int32} (hL : L ≤ 3584) (C0 : lw_At p s m meth c b L xs) {D : va_G} {T : Nat → ClassId} {ad sa av : Nat → Nat} {ta : Nat} {A : Nat → Prop} (hA : ∀ q : Nat, s.heap.size ≤ q → A q) (hAf : ∀ q : Nat, A q → s.heap.size ≤ q) (hbA : ¬ A b) (hE0 : ekK D T s) (hV0 : evK ad sa av ta A s s.heap) {q1 q2 : Nat} {u v : Nat → Nat} {ii : Int32} (hii : 0 ≤ ii.toInt ∧ ii.toInt + 7 ≤ L) (K : lwK p l e s m below meth c b D T sa A q1 q2 u v ii) (c1 : Nat → Int32) (c2 : Nat → Nat → Int32) (c3 : Nat → Nat → Int64) (c4 : Nat → Nat → UInt32) (c5 : Nat → Nat → UInt64) (q : Nat → Int32) (vl wl : Int64) (rf : Nat → Nat → Int32) (rl : Nat → Nat → Int64) (rd : Nat → UInt64) {ls : Array Slot} {H : Heap} {locs : List Loc} {d0 : Drawn} (hd0 : s.drawn.sameBut d0 lw_cs) (hI : lwI c1 c2 c3 q rf rl) (hAg : (c1 3).toInt ≤ ii.toInt + 1) (hP : va_P D vwCl (lwW T sa q1 q2 u v c1 c2 c3 c4 c5 q vl wl rf rl rd) H) (hD : va_D A (lwW T sa q1 q2 u v c1 c2 c3 c4 c5 q vl wl rf rl rd)) (hS : va_S A s.heap H locs) (hl : lv_has ls 4 [(3, .int ii), (2, .ref q2), (1, .ref q1), (0, .ref b)]) : W p l e room_1 (s.setDrawn d0) m #[Value.ref b] below meth c H locs 95 6031 (lw_Z below #[Value.ref b] s) (F0 m 212 ls []) := by
  obtain ⟨hx, hb, hr, hml, hown0, hts0, hX0, hbl, hlocks, hgv⟩ := id C0
  have hX : va_X b L xs (s.setDrawn d0) s.heap := hX0
  have hown0 : s.vm.findClass RL = some m.cls := hown0
  have hts := dr_words hts0 d0
  have hE : ekK D T (s.setDrawn d0) := ekK.same (u := s) rfl hE0
  have hown : (s.setDrawn d0).vm.findClass RL = some m.cls := hown0
  have hV : evK ad sa av ta A (s.setDrawn d0) (s.setDrawn d0).heap := evK.same (u := s) rfl hV0
  obtain ⟨hA1, hok, hokk, hA2, hokR, hB, hZ, hbg, hsz, hhd, hKb, hLa, hIm, hKl, hTa, hSh, hRF, hRC, hRB, hRH, hTf, hRK, hme, hmm, hgB, hHl⟩ := hI
  have hA1 : (0 ≤ (((c1 1) : Int32)).toInt ∧ (((c1 1) : Int32)).toInt ≤ 24) ∧ (0 ≤ (((c1 2) : Int32)).toInt ∧ (((c1 2) : Int32)).toInt ≤ 24) ∧ (0 ≤ (((c2 16 0) : Int32)).toInt ∧ (((c2 16 0) : Int32)).toInt ≤ 12) ∧ (0 ≤ (((c2 16 1) : Int32)).toInt ∧ (((c2 16 1) : Int32)).toInt ≤ 12) ∧ (0 ≤ (((c2 16 2) : Int32)).toInt ∧ (((c2 16 2) : Int32)).toInt ≤ 12) ∧ (0 ≤ (((c2 17 0) : Int32)).toInt ∧ (((c2 17 0) : Int32)).toInt ≤ 12) ∧ (0 ≤ (((c2 17 1) : Int32)).toInt ∧ (((c2 17 1) : Int32)).toInt ≤ 12) ∧ (0 ≤ (((c2 17 2) : Int32)).toInt ∧ (((c2 17 2) : Int32)).toInt ≤ 12) ∧ (0 ≤ (((c1 7) : Int32)).toInt ∧ (((c1 7) : Int32)).toInt ≤ 120) ∧ ((-1 ≤ (((c2 28 0) : Int32)).toInt ∧ (((c2 28 0) : Int32)).toInt ≤ 3) ∧ (0 ≤ (((c2 29 0) : Int32)).toInt ∧ (((c2 29 0) : Int32)).toInt ≤ 30)) ∧ ((-1 ≤ (((c2 28 1) : Int32)).toInt ∧ (((c2 28 1) : Int32)).toInt ≤ 3) ∧ (0 ≤ (((c2 29 1) : Int32)).toInt ∧ (((c2 29 1) : Int32)).toInt ≤ 30)) ∧ ((-1 ≤ (((c2 28 2) : Int32)).toInt ∧ (((c2 28 2) : Int32)).toInt ≤ 3) ∧ (0 ≤ (((c2 29 2) : Int32)).toInt ∧ (((c2 29 2) : Int32)).toInt ≤ 30)) ∧ ((-1 ≤ (((c2 28 3) : Int32)).toInt ∧ (((c2 28 3) : Int32)).toInt ≤ 3) ∧ (0 ≤ (((c2 29 3) : Int32)).toInt ∧ (((c2 29 3) : Int32)).toInt ≤ 30)) := hA1
  have hok : okC (c2 2) (c2 4) (c2 5) (c2 6) := hok
  have hokk : okC (c2 9) (c2 11) (c2 12) (c2 13) := hokk
  have hA2 : (0 ≤ (((q 7) : Int32)).toInt ∧ (((q 7) : Int32)).toInt ≤ 24) ∧ ((1 ≤ (((q 4) : Int32)).toInt ∧ (((q 4) : Int32)).toInt ≤ 9) ∧ (1 ≤ (((q 6) : Int32)).toInt ∧ (((q 6) : Int32)).toInt ≤ 9)) ∧ (0 ≤ (((q 26) : Int32)).toInt ∧ (((q 26) : Int32)).toInt ≤ 120) := hA2
  have hokR : okR (rf 8) (rf 10) (rf 11) := hokR
  have hB : isB (q 14) := hB
  have hZ : ∀ j : Nat, isB ((rf 22) j) := hZ
  have hbg : ∀ k : Nat, k < 3 → 0 ≤ ((rf 13) k).toInt ∧ ((rf 13) k).toInt ≤ 12 := hbg
  have hsz : ∀ k : Nat, k < 4 → 0 ≤ ((rf 35) k).toInt ∧ ((rf 35) k).toInt ≤ 30 := hsz
  have hhd : ∀ k : Nat, k < 4 → ((rf 38) k).toInt = 2 → 1 ≤ ((rl 40) k).toInt := hhd
  have hKb : ¬ ((q 41) : Int32).toInt = 0 → okK (rf 42) := hKb
  have hLa : ((c2 0 0) : Int32) = (q 0) ∧ ((c2 0 1) : Int32) = (q 1) ∧ ((c2 0 2) : Int32) = (q 2) ∧ ((c2 0 3) : Int32) = (q 3) ∧ ((c2 0 4) : Int32) = (q 4) ∧ ((c2 0 5) : Int32) = (q 5) ∧ ((c2 0 6) : Int32) = (q 6) := hLa
  have hIm : ((c1 0) : Int32) = (q 41) := hIm
  have hKl : ¬ ((q 41) : Int32).toInt = 0 → ((c2 1 0) : Int32) = (rf 42) 0 ∧ ((c2 1 1) : Int32) = (rf 42) 1 ∧ ((c2 1 2) : Int32) = (rf 42) 2 ∧ ((c2 1 3) : Int32) = (rf 42) 3 ∧ ((c2 1 4) : Int32) = (rf 42) 4 ∧ ((c2 1 5) : Int32) = (rf 42) 5 ∧ ((c2 1 6) : Int32) = (rf 42) 6 := hKl
  have hTa : ((c1 7) : Int32) = (q 26) := hTa
  have hSh : ∀ k : Nat, k < 4 → ((c2 28) k).toInt = ((rf 34) k).toInt ∧ (0 ≤ ((c2 28) k).toInt → ((c2 29) k).toInt = ((rf 35) k).toInt) := hSh
  have hRF : rlF (c2 34) (c3 7) (c3 8) (rl 39) (rl 40) := hRF
  have hRC : rlC (c1 1) (c2 2) (c2 3) (c2 4) (c2 5) (rfA (q 7) (rf 8) (rf 9) (rf 10) (rf 11)) := hRC
  have hRB : rlB (c2 16) (fun k => [(c2 18), (c2 19), (c2 20)].getD k (c2 18)) (rf 13) (rf 12) := hRB
  have hRH : rlH (c2 34) (c2 35) (rf 38) (rl 39) := hRH
  have hTf : (c2 25) = (rf 25) := hTf
  have hRK : ¬ ((q 41) : Int32).toInt = 0 → rlK (c1 2) (c2 9) (c2 10) (c2 11) (c2 12) (c2 17) (fun k => [(c2 21), (c2 22), (c2 23)].getD k (c2 21)) (rf 42) := hRK
  have hme : ∀ j : Nat, (j : Int) < ((c1 1) : Int32).toInt → mesP (c2 2) (c2 3) (c2 4) (c2 5) (c2 6) (c2 7) (c2 8) j := hme
  have hmm : memW (VALW (fun k => [(c2 0 0), (c2 0 1), (c2 0 2), (c2 0 3), (c2 0 4), (c2 0 5), (c2 0 6)].getD k 0) (c2 2) (c2 3) (c2 4) (c2 5) (c2 6)) ((c1 1) : Int32) ((c1 3) : Int32) (c3 0) (c3 1) (c2 24) := hmm
  have hgB : ∀ j : Nat, j < 672 → ((c2 24) j).toInt ≤ ((c1 3) : Int32).toInt := hgB
  have hHl : ∀ k : Nat, k < 4 → ((rf 38) k).toInt = 2 → lowW ((rl 39) k, (rl 40) k) := hHl
  have hok0 := hok
  have hme0 := hme
  have hlq : (1 ≤ ((c2 0 4) : Int32).toInt ∧ ((c2 0 4) : Int32).toInt ≤ 9) ∧ 1 ≤ ((c2 0 6) : Int32).toInt ∧ ((c2 0 6) : Int32).toInt ≤ 9 := by rw [hLa.2.2.2.2.1, hLa.2.2.2.2.2.2]; exact hA2.2.1
  have hag5 : (c1 3).toInt ≤ 5000 := by omega
  have hi_1 : (ii + 1).toInt = ii.toInt + 1 := by rw [fb_addI (by rw [ti_1]; omega) (by rw [ti_1]; omega), ti_1]
  have hi_2 : (ii + 2).toInt = ii.toInt + 2 := by rw [fb_addI (by rw [ti_2]; omega) (by rw [ti_2]; omega), ti_2]
  have hi_3 : (ii + 3).toInt = ii.toInt + 3 := by rw [fb_addI (by rw [ti_3]; omega) (by rw [ti_3]; omega), ti_3]
  have hi_4 : (ii + 4).toInt = ii.toInt + 4 := by rw [fb_addI (by rw [ti_4]; omega) (by rw [ti_4]; omega), ti_4]
  have hi_5 : (ii + 5).toInt = ii.toInt + 5 := by rw [fb_addI (by rw [ti_5]; omega) (by rw [ti_5]; omega), ti_5]
  have hi_6 : (ii + 6).toInt = ii.toInt + 6 := by rw [fb_addI (by rw [ti_6]; omega) (by rw [ti_6]; omega), ti_6]
  refine lv_aload_n hx hb dL_law_212 rfl (lv_at hl 2 rfl) ?_
  refine lv_aload_n hx hb dL_law_213 rfl (lv_at hl 3 rfl) ?_
  refine lv_iload_n hx hb dL_law_214 rfl (lv_at hl 0 rfl) ?_
  refine lv_iconst (v := 1) hx hb dL_law_215 (by decide +kernel) ?_
  refine lv_iadd hx hb dL_law_216 ?_
  refine va_sld hx hb hX hbl hbA hS (by rw [vp_in_iff, hi_1]; omega) dL_law_217 ?_
  refine lv_topi (fun z_1 ez_1 => ?_)
  refine lv_aload_n hx hb dL_law_218 rfl (lv_at hl 3 rfl) ?_
  refine lv_iload_n hx hb dL_law_219 rfl (lv_at hl 0 rfl) ?_
  refine lv_iconst (v := 2) hx hb dL_law_220 (by decide +kernel) ?_
  refine lv_iadd hx hb dL_law_221 ?_
  refine va_sld hx hb hX hbl hbA hS (by rw [vp_in_iff, hi_2]; omega) dL_law_222 ?_
  refine lv_topi (fun z_2 ez_2 => ?_)
  refine lv_aload_n hx hb dL_law_223 rfl (lv_at hl 3 rfl) ?_
  refine lv_iload_n hx hb dL_law_224 rfl (lv_at hl 0 rfl) ?_
  refine lv_iconst (v := 3) hx hb dL_law_225 (by decide +kernel) ?_
  sorry
