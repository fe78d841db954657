theorem dL_law_1838 : decode cL_law 1838 = .ok (.aload_n 1, 1) := by decide +kernel
theorem dL_law_1839 : decode cL_law 1839 = .ok (.invokevirtual 183, 3) := by decide +kernel
theorem dL_law_1842 : decode cL_law 1842 = .ok (.aload_n 2, 1) := by decide +kernel
theorem dL_law_1843 : decode cL_law 1843 = .ok (.invokevirtual 186, 3) := by decide +kernel
theorem dL_law_1846 : decode cL_law 1846 = .ok (.if_icmp .eq 28, 3) := by decide +kernel
set_option maxRecDepth 40000 in
theorem lg_X12_back : GoodIn lw_tbl (wsV RL 183 RX12 yX12_back wsX12_back) := goodIn_app (gl_cons ⟨lwt_3 _ (List.mem_of_getElem? (i := 170) (by decide +kernel)), by decide +kernel⟩ (gl_cons ⟨lwt_3 _ (List.mem_of_getElem? (i := 171) (by decide +kernel)), by decide +kernel⟩ (gl_cons ⟨lwt_3 _ (List.mem_of_getElem? (i := 172) (by decide +kernel)), by decide +kernel⟩ (gl_cons ⟨lwt_0 _ (List.mem_of_getElem? (i := 1) (by decide +kernel)), by decide +kernel⟩ gl_nil)))) lgg_X12_back
set_option maxRecDepth 40000 in
theorem lg_X13_back : GoodIn lw_tbl (wsV RL 186 RX13 yX13_back wsX13_back) := goodIn_app (gl_cons ⟨lwt_6 _ (List.mem_of_getElem? (i := 26) (by decide +kernel)), by decide +kernel⟩ (gl_cons ⟨lwt_6 _ (List.mem_of_getElem? (i := 27) (by decide +kernel)), by decide +kernel⟩ (gl_cons ⟨lwt_6 _ (List.mem_of_getElem? (i := 28) (by decide +kernel)), by decide +kernel⟩ (gl_cons ⟨lwt_0 _ (List.mem_of_getElem? (i := 11) (by decide +kernel)), by decide +kernel⟩ gl_nil)))) lgg_X13_back
set_option maxHeartbeats 4000000 in
set_option maxRecDepth 100000 in
theorem law_c39 {p : Program} {e : Env} {s : State} {m : MethodId} {below : List Frame} {meth : Method} {c : Code} {l : Launch} {b : Nat} {xs : Nat → Int32} (C0 : lw_At p s m meth c b 7 xs) {D : va_G} {T : Nat → ClassId} {ad sa av : Nat → Nat} {ta : Nat} {A : Nat → Prop} (hA : ∀ q : Nat, s.heap.size ≤ q → A q) (hAf : ∀ q : Nat, A q → s.heap.size ≤ q) (hbA : ¬ A b) (hE : ekK D T s) (hV : evK ad sa av ta A s s.heap) {q1 q2 : Nat} {u v : Nat → Nat} {H : Heap} {locs : List Loc} (hP : va_P D vwCl (lwW T sa q1 q2 u v) H) (hD : va_D A (lwW T sa q1 q2 u v)) (hS : va_S A s.heap H locs) {ls : Array Slot} (hl : lv_has ls 4 [(3, .int 0), (2, .ref q2), (1, .ref q1), (0, .ref b)]) : W p l e room_1 s m #[Value.ref b] below meth c H locs 95 6031 (lw_Z below #[Value.ref b] s) (F0 m 1838 ls []) := by
  obtain ⟨hx, hb, hr, hml, hown, hts, hX, hbl, hlocks, hgv⟩ := id C0
  have hown : s.vm.findClass RL = some m.cls := hown
  have hP : va_P D vwCl [(q1, .inr (9, [.ref (u 0), .ref (u 1), .int 0, .ref (u 2), .ref (u 3), .ref (u 11), .ref (u 34), .ref (u 38), .ref (u 39), .ref (u 43), .ref (u 64)])), (q2, .inr (10, [.int 0, .int 1, .int 1, .int 1, .int 2, .int 1, .int 1, .int 0, .ref (v 8), .ref (v 9), .ref (v 10), .ref (v 11), .ref (v 12), .ref (v 13), .int 0, .long 0, .long 0, .ref (v 17), .ref (v 18), .ref (v 19), .ref (v 20), .ref (v 21), .ref (v 22), .ref (v 23), .int 0, .ref (v 25), .int 0, .ref (v 27), .int 0, .int 0, .int 0, .int 0, .int 0, .int 0, .ref (v 34), .ref (v 35), .ref (v 36), .ref (v 37), .ref (v 38), .ref (v 39), .ref (v 40), .int 0, .ref (v 42), .int 0, .int 0]))] H := hP.sub [0, 66] rfl
  have hD : va_D A [(q1, .inr (9, [.ref (u 0), .ref (u 1), .int 0, .ref (u 2), .ref (u 3), .ref (u 11), .ref (u 34), .ref (u 38), .ref (u 39), .ref (u 43), .ref (u 64)])), (q2, .inr (10, [.int 0, .int 1, .int 1, .int 1, .int 2, .int 1, .int 1, .int 0, .ref (v 8), .ref (v 9), .ref (v 10), .ref (v 11), .ref (v 12), .ref (v 13), .int 0, .long 0, .long 0, .ref (v 17), .ref (v 18), .ref (v 19), .ref (v 20), .ref (v 21), .ref (v 22), .ref (v 23), .int 0, .ref (v 25), .int 0, .ref (v 27), .int 0, .int 0, .int 0, .int 0, .int 0, .int 0, .ref (v 34), .ref (v 35), .ref (v 36), .ref (v 37), .ref (v 38), .ref (v 39), .ref (v 40), .int 0, .ref (v 42), .int 0, .int 0]))] := hD.sub [0, 66] (by decide) rfl
  refine lv_aload_n hx hb dL_law_1838 rfl (lv_at hl 2 rfl) ?_
  refine vp_callSi (W.runV (As := []) (rest := []) ⟨hx, hb, hml, hown, hts⟩ (f_X12_back l D T q1 [.ref (u 0), .ref (u 1), .int 0, .ref (u 2), .ref (u 3), .ref (u 11), .ref (u 34), .ref (u 38), .ref (u 39), .ref (u 43), .ref (u 64)] rfl) (cwV 0 hts lg_X12_back rfl rfl rfl (by decide +kernel) ⟨Nat.le_of_ble_eq_true rfl, Nat.le_of_ble_eq_true rfl⟩) (pR_V (ci := 9) (q0 := 0) hP hE rfl rfl [0] rfl) rfl rfl hl.1 rfl (lv_room (Nat.le_of_ble_eq_true rfl)) dL_law_1839 ⟨Nat.le_of_ble_eq_true rfl, Nat.le_of_ble_eq_true rfl⟩) (fun r_1 hr_1 => ?_)
  obtain rfl : r_1 = (-3) := hr_1
  refine lv_aload_n hx hb dL_law_1842 rfl (lv_at hl 1 rfl) ?_
  refine vp_callSi (W.runV (As := []) (rest := [.int (-3)]) ⟨hx, hb, hml, hown, hts⟩ (f_X13_back l D T q2 [.int 0, .int 1, .int 1, .int 1, .int 2, .int 1, .int 1, .int 0, .ref (v 8), .ref (v 9), .ref (v 10), .ref (v 11), .ref (v 12), .ref (v 13), .int 0, .long 0, .long 0, .ref (v 17), .ref (v 18), .ref (v 19), .ref (v 20), .ref (v 21), .ref (v 22), .ref (v 23), .int 0, .ref (v 25), .int 0, .ref (v 27), .int 0, .int 0, .int 0, .int 0, .int 0, .int 0, .ref (v 34), .ref (v 35), .ref (v 36), .ref (v 37), .ref (v 38), .ref (v 39), .ref (v 40), .int 0, .ref (v 42), .int 0, .int 0] rfl) (cwV 0 hts lg_X13_back rfl rfl rfl (by decide +kernel) ⟨Nat.le_of_ble_eq_true rfl, Nat.le_of_ble_eq_true rfl⟩) (pR_V (ci := 10) (q0 := 1) hP hE rfl rfl [1] rfl) rfl rfl hl.1 rfl (lv_room (Nat.le_of_ble_eq_true rfl)) dL_law_1843 ⟨Nat.le_of_ble_eq_true rfl, Nat.le_of_ble_eq_true rfl⟩) (fun r_2 hr_2 => ?_)
  obtain rfl : r_2 = (-3) := hr_2
  refine lv_icmp_eq (tgt := 1874) hx hb dL_law_1846 (by decide) (fun _ => ?_) (fun c9 => absurd c9 (by decide))
  exact law_tail C0 hAf hbA hS hl
theorem dL_law_1851 : decode cL_law 1851 = .ok (.aload_n 1, 1) := by decide +kernel
theorem dL_law_1852 : decode cL_law 1852 = .ok (.aload_n 0, 1) := by decide +kernel
theorem dL_law_1853 : decode cL_law 1853 = .ok (.iload_n 3, 1) := by decide +kernel
theorem dL_law_1854 : decode cL_law 1854 = .ok (.iconst 1, 1) := by decide +kernel
theorem dL_law_1855 : decode cL_law 1855 = .ok (.iadd, 1) := by decide +kernel
theorem dL_law_1856 : decode cL_law 1856 = .ok (.iaload, 1) := by decide +kernel
theorem dL_law_1857 : decode cL_law 1857 = .ok (.invokevirtual 187, 3) := by decide +kernel
theorem dL_law_1860 : decode cL_law 1860 = .ok (.aload_n 2, 1) := by decide +kernel
theorem dL_law_1861 : decode cL_law 1861 = .ok (.aload_n 0, 1) := by decide +kernel
theorem dL_law_1862 : decode cL_law 1862 = .ok (.iload_n 3, 1) := by decide +kernel
theorem dL_law_1863 : decode cL_law 1863 = .ok (.iconst 1, 1) := by decide +kernel
theorem dL_law_1864 : decode cL_law 1864 = .ok (.iadd, 1) := by decide +kernel
theorem dL_law_1865 : decode cL_law 1865 = .ok (.iaload, 1) := by decide +kernel
theorem dL_law_1866 : decode cL_law 1866 = .ok (.invokevirtual 190, 3) := by decide +kernel
theorem dL_law_1869 : decode cL_law 1869 = .ok (.if_icmp .eq 5, 3) := by decide +kernel
set_option maxRecDepth 40000 in
theorem lg_X12_count : GoodIn lw_tbl (wsV RL 187 RX12 yX12_count wsX12_count) := goodIn_app (gl_cons ⟨lwt_3 _ (List.mem_of_getElem? (i := 174) (by decide +kernel)), by decide +kernel⟩ (gl_cons ⟨lwt_3 _ (List.mem_of_getElem? (i := 175) (by decide +kernel)), by decide +kernel⟩ (gl_cons ⟨lwt_3 _ (List.mem_of_getElem? (i := 176) (by decide +kernel)), by decide +kernel⟩ (gl_cons ⟨lwt_0 _ (List.mem_of_getElem? (i := 1) (by decide +kernel)), by decide +kernel⟩ gl_nil)))) lgg_X12_count
set_option maxRecDepth 40000 in
theorem lg_X13_count : GoodIn lw_tbl (wsV RL 190 RX13 yX13_count wsX13_count) := goodIn_app (gl_cons ⟨lwt_6 _ (List.mem_of_getElem? (i := 30) (by decide +kernel)), by decide +kernel⟩ (gl_cons ⟨lwt_6 _ (List.mem_of_getElem? (i := 31) (by decide +kernel)), by decide +kernel⟩ (gl_cons ⟨lwt_6 _ (List.mem_of_getElem? (i := 32) (by decide +kernel)), by decide +kernel⟩ (gl_cons ⟨lwt_0 _ (List.mem_of_getElem? (i := 11) (by decide +kernel)), by decide +kernel⟩ gl_nil)))) lgg_X13_count
set_option maxHeartbeats 4000000 in
set_option maxRecDepth 100000 in
theorem law_c40 {p : Program} {e : Env} {s : State} {m : MethodId} {below : List Frame} {meth : Method} {c : Code} {l : Launch} {b : Nat} {xs : Nat → Int32} (C0 : lw_At p s m meth c b 7 xs) {D : va_G} {T : Nat → ClassId} {ad sa av : Nat → Nat} {ta : Nat} {A : Nat → Prop} (hA : ∀ q : Nat, s.heap.size ≤ q → A q) (hAf : ∀ q : Nat, A q → s.heap.size ≤ q) (hbA : ¬ A b) (hE : ekK D T s) (hV : evK ad sa av ta A s s.heap) {q1 q2 : Nat} {u v : Nat → Nat} {H : Heap} {locs : List Loc} (hP : va_P D vwCl (lwW T sa q1 q2 u v) H) (hD : va_D A (lwW T sa q1 q2 u v)) (hS : va_S A s.heap H locs) {ls : Array Slot} (hl : lv_has ls 4 [(3, .int 0), (2, .ref q2), (1, .ref q1), (0, .ref b)]) : W p l e room_1 s m #[Value.ref b] below meth c H locs 95 6031 (lw_Z below #[Value.ref b] s) (F0 m 1851 ls []) := by
  obtain ⟨hx, hb, hr, hml, hown, hts, hX, hbl, hlocks, hgv⟩ := id C0
  have hown : s.vm.findClass RL = some m.cls := hown
  have hP : va_P D vwCl [(q1, .inr (9, [.ref (u 0), .ref (u 1), .int 0, .ref (u 2), .ref (u 3), .ref (u 11), .ref (u 34), .ref (u 38), .ref (u 39), .ref (u 43), .ref (u 64)])), ((u 2), .inr (5, [.int 0, .int 1, .int 1, .int 1, .int 2, .int 1, .int 1])), ((u 3), .inr (1, [.int 0, .ref (u 4), .ref (u 5), .ref (u 6), .ref (u 7), .ref (u 8), .ref (u 9), .ref (u 10)])), ((u 11), .inl (T 5, 3, .inr (.inr (.inr (.inr (va_up (va_up (va_up (fun _ => none) 0 (some (u 12))) 1 (some (u 13))) 2 (some (u 14)))))))), ((u 12), .inr (0, [.int 0, .ref (u 15)])), ((u 13), .inr (0, [.int 0, .ref (u 16)])), ((u 14), .inr (0, [.int 0, .ref (u 17)])), (q2, .inr (10, [.int 0, .int 1, .int 1, .int 1, .int 2, .int 1, .int 1, .int 0, .ref (v 8), .ref (v 9), .ref (v 10), .ref (v 11), .ref (v 12), .ref (v 13), .int 0, .long 0, .long 0, .ref (v 17), .ref (v 18), .ref (v 19), .ref (v 20), .ref (v 21), .ref (v 22), .ref (v 23), .int 0, .ref (v 25), .int 0, .ref (v 27), .int 0, .int 0, .int 0, .int 0, .int 0, .int 0, .ref (v 34), .ref (v 35), .ref (v 36), .ref (v 37), .ref (v 38), .ref (v 39), .ref (v 40), .int 0, .ref (v 42), .int 0, .int 0])), ((v 13), .inl (T 0, 3, .inl (fun _ => 0)))] H := hP.sub [0, 2, 3, 11, 12, 13, 14, 66, 72] rfl
  have hD : va_D A [(q1, .inr (9, [.ref (u 0), .ref (u 1), .int 0, .ref (u 2), .ref (u 3), .ref (u 11), .ref (u 34), .ref (u 38), .ref (u 39), .ref (u 43), .ref (u 64)])), ((u 2), .inr (5, [.int 0, .int 1, .int 1, .int 1, .int 2, .int 1, .int 1])), ((u 3), .inr (1, [.int 0, .ref (u 4), .ref (u 5), .ref (u 6), .ref (u 7), .ref (u 8), .ref (u 9), .ref (u 10)])), ((u 11), .inl (T 5, 3, .inr (.inr (.inr (.inr (va_up (va_up (va_up (fun _ => none) 0 (some (u 12))) 1 (some (u 13))) 2 (some (u 14)))))))), ((u 12), .inr (0, [.int 0, .ref (u 15)])), ((u 13), .inr (0, [.int 0, .ref (u 16)])), ((u 14), .inr (0, [.int 0, .ref (u 17)])), (q2, .inr (10, [.int 0, .int 1, .int 1, .int 1, .int 2, .int 1, .int 1, .int 0, .ref (v 8), .ref (v 9), .ref (v 10), .ref (v 11), .ref (v 12), .ref (v 13), .int 0, .long 0, .long 0, .ref (v 17), .ref (v 18), .ref (v 19), .ref (v 20), .ref (v 21), .ref (v 22), .ref (v 23), .int 0, .ref (v 25), .int 0, .ref (v 27), .int 0, .int 0, .int 0, .int 0, .int 0, .int 0, .ref (v 34), .ref (v 35), .ref (v 36), .ref (v 37), .ref (v 38), .ref (v 39), .ref (v 40), .int 0, .ref (v 42), .int 0, .int 0])), ((v 13), .inl (T 0, 3, .inl (fun _ => 0)))] := hD.sub [0, 2, 3, 11, 12, 13, 14, 66, 72] (by decide) rfl
  refine lv_aload_n hx hb dL_law_1851 rfl (lv_at hl 2 rfl) ?_
  refine lv_aload_n hx hb dL_law_1852 rfl (lv_at hl 3 rfl) ?_
  refine lv_iload_n hx hb dL_law_1853 rfl (lv_at hl 0 rfl) ?_
  refine lv_iconst (v := 1) hx hb dL_law_1854 (by decide) ?_
  refine lv_iadd hx hb dL_law_1855 ?_
  refine lv_topi (fun z_1 ez_1 => ?_)
  obtain rfl : z_1 = 1 := ez_1.trans (by decide)
  refine va_sld hx hb hX hbl hbA hS (by unfold vp_in; decide) dL_law_1856 ?_
  refine W.eq (g2 := F0 m 1857 ls [.int (xs 1), .ref q1]) rfl ?_
  refine vp_callSi (W.runV (As := [.int (xs 1)]) (rest := []) ⟨hx, hb, hml, hown, hts⟩ (f_X12_count l D T q1 [.ref (u 0), .ref (u 1), .int 0, .ref (u 2), .ref (u 3), .ref (u 11), .ref (u 34), .ref (u 38), .ref (u 39), .ref (u 43), .ref (u 64)] (u 2) [.int 0, .int 1, .int 1, .int 1, .int 2, .int 1, .int 1] (u 3) [.int 0, .ref (u 4), .ref (u 5), .ref (u 6), .ref (u 7), .ref (u 8), .ref (u 9), .ref (u 10)] (u 11) (va_up (va_up (va_up (fun _ => none) 0 (some (u 12))) 1 (some (u 13))) 2 (some (u 14))) (u 12) [.int 0, .ref (u 15)] (u 13) [.int 0, .ref (u 16)] (u 14) [.int 0, .ref (u 17)] (xs 1) rfl rfl rfl rfl rfl rfl rfl rfl rfl rfl rfl) (cwV 1 hts lg_X12_count rfl rfl rfl (by decide +kernel) ⟨Nat.le_of_ble_eq_true rfl, Nat.le_of_ble_eq_true rfl⟩) (pR_V (ci := 9) (q0 := 0) hP hE rfl rfl [0, 1, 2, 3, 4, 5, 6] rfl) rfl rfl hl.1 rfl (lv_room (Nat.le_of_ble_eq_true rfl)) dL_law_1857 ⟨Nat.le_of_ble_eq_true rfl, Nat.le_of_ble_eq_true rfl⟩) (fun r_2 hr_2 => ?_)
  obtain rfl : (sp_count (xs 1)) = r_2 := (hr_2).symm
  refine lv_aload_n hx hb dL_law_1860 rfl (lv_at hl 1 rfl) ?_
  refine lv_aload_n hx hb dL_law_1861 rfl (lv_at hl 3 rfl) ?_
  refine lv_iload_n hx hb dL_law_1862 rfl (lv_at hl 0 rfl) ?_
  refine lv_iconst (v := 1) hx hb dL_law_1863 (by decide) ?_
  refine lv_iadd hx hb dL_law_1864 ?_
  refine lv_topi (fun z_3 ez_3 => ?_)
  obtain rfl : z_3 = 1 := ez_3.trans (by decide)
  refine va_sld hx hb hX hbl hbA hS (by unfold vp_in; decide) dL_law_1865 ?_
  refine W.eq (g2 := F0 m 1866 ls [.int (xs 1), .ref q2, .int (sp_count (xs 1))]) rfl ?_
  refine vp_callSi (W.runV (As := [.int (xs 1)]) (rest := [.int (sp_count (xs 1))]) ⟨hx, hb, hml, hown, hts⟩ (f_X13_count l D T q2 [.int 0, .int 1, .int 1, .int 1, .int 2, .int 1, .int 1, .int 0, .ref (v 8), .ref (v 9), .ref (v 10), .ref (v 11), .ref (v 12), .ref (v 13), .int 0, .long 0, .long 0, .ref (v 17), .ref (v 18), .ref (v 19), .ref (v 20), .ref (v 21), .ref (v 22), .ref (v 23), .int 0, .ref (v 25), .int 0, .ref (v 27), .int 0, .int 0, .int 0, .int 0, .int 0, .int 0, .ref (v 34), .ref (v 35), .ref (v 36), .ref (v 37), .ref (v 38), .ref (v 39), .ref (v 40), .int 0, .ref (v 42), .int 0, .int 0] (v 13) (fun _ => 0) (xs 1) rfl rfl rfl rfl rfl rfl) (cwV 1 hts lg_X13_count rfl rfl rfl (by decide +kernel) ⟨Nat.le_of_ble_eq_true rfl, Nat.le_of_ble_eq_true rfl⟩) (pR_V (ci := 10) (q0 := 7) hP hE rfl rfl [7, 8] rfl) rfl rfl hl.1 rfl (lv_room (Nat.le_of_ble_eq_true rfl)) dL_law_1866 ⟨Nat.le_of_ble_eq_true rfl, Nat.le_of_ble_eq_true rfl⟩) (fun r_4 hr_4 => ?_)
  obtain rfl : (sp_count (xs 1)) = r_4 := (hr_4).symm
  refine lv_icmp_eq (tgt := 1874) hx hb dL_law_1869 (by decide) (fun _ => ?_) (fun c9 => absurd rfl c9)
  exact law_tail C0 hAf hbA hS hl
