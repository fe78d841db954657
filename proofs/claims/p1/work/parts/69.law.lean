theorem dL_law_1169 : decode cL_law 1169 = .ok (.aload_n 1, 1) := by decide +kernel
theorem dL_law_1170 : decode cL_law 1170 = .ok (.aload_n 0, 1) := by decide +kernel
theorem dL_law_1171 : decode cL_law 1171 = .ok (.iload_n 3, 1) := by decide +kernel
theorem dL_law_1172 : decode cL_law 1172 = .ok (.iconst 1, 1) := by decide +kernel
theorem dL_law_1173 : decode cL_law 1173 = .ok (.iadd, 1) := by decide +kernel
theorem dL_law_1174 : decode cL_law 1174 = .ok (.iaload, 1) := by decide +kernel
theorem dL_law_1175 : decode cL_law 1175 = .ok (.invokevirtual 115, 3) := by decide +kernel
theorem dL_law_1178 : decode cL_law 1178 = .ok (.aload_n 2, 1) := by decide +kernel
theorem dL_law_1179 : decode cL_law 1179 = .ok (.aload_n 0, 1) := by decide +kernel
theorem dL_law_1180 : decode cL_law 1180 = .ok (.iload_n 3, 1) := by decide +kernel
theorem dL_law_1181 : decode cL_law 1181 = .ok (.iconst 1, 1) := by decide +kernel
theorem dL_law_1182 : decode cL_law 1182 = .ok (.iadd, 1) := by decide +kernel
theorem dL_law_1183 : decode cL_law 1183 = .ok (.iaload, 1) := by decide +kernel
theorem dL_law_1184 : decode cL_law 1184 = .ok (.invokevirtual 119, 3) := by decide +kernel
theorem dL_law_1187 : decode cL_law 1187 = .ok (.if_icmp .eq 687, 3) := by decide +kernel
set_option maxRecDepth 40000 in
theorem lg_X12_take : GoodIn lw_tbl (wsV RL 115 RX12 yX12_take wsX12_take) := goodIn_app (gl_cons ⟨lwt_3 _ (List.mem_of_getElem? (i := 35) (by decide +kernel)), by decide +kernel⟩ (gl_cons ⟨lwt_3 _ (List.mem_of_getElem? (i := 36) (by decide +kernel)), by decide +kernel⟩ (gl_cons ⟨lwt_3 _ (List.mem_of_getElem? (i := 37) (by decide +kernel)), by decide +kernel⟩ (gl_cons ⟨lwt_0 _ (List.mem_of_getElem? (i := 1) (by decide +kernel)), by decide +kernel⟩ gl_nil)))) lgg_X12_take
set_option maxRecDepth 40000 in
theorem lg_X13_take : GoodIn lw_tbl (wsV RL 119 RX13 yX13_take wsX13_take) := goodIn_app (gl_cons ⟨lwt_5 _ (List.mem_of_getElem? (i := 188) (by decide +kernel)), by decide +kernel⟩ (gl_cons ⟨lwt_5 _ (List.mem_of_getElem? (i := 189) (by decide +kernel)), by decide +kernel⟩ (gl_cons ⟨lwt_5 _ (List.mem_of_getElem? (i := 190) (by decide +kernel)), by decide +kernel⟩ (gl_cons ⟨lwt_0 _ (List.mem_of_getElem? (i := 11) (by decide +kernel)), by decide +kernel⟩ gl_nil)))) lgg_X13_take
set_option maxHeartbeats 4000000 in
set_option maxRecDepth 100000 in
theorem law_c24 {p : Program} {e : Env} {s : State} {m : MethodId} {below : List Frame} {meth : Method} {c : Code} {l : Launch} {b : Nat} {xs : Nat → Int32} (C0 : lw_At p s m meth c b 7 xs) {D : va_G} {T : Nat → ClassId} {ad sa av : Nat → Nat} {ta : Nat} {A : Nat → Prop} (hA : ∀ q : Nat, s.heap.size ≤ q → A q) (hAf : ∀ q : Nat, A q → s.heap.size ≤ q) (hbA : ¬ A b) (hE : ekK D T s) (hV : evK ad sa av ta A s s.heap) {q1 q2 : Nat} {u v : Nat → Nat} {H : Heap} {locs : List Loc} (hP : va_P D vwCl (lwW T sa q1 q2 u v) H) (hD : va_D A (lwW T sa q1 q2 u v)) (hS : va_S A s.heap H locs) {ls : Array Slot} (hl : lv_has ls 4 [(3, .int 0), (2, .ref q2), (1, .ref q1), (0, .ref b)]) : W p l e room_1 s m #[Value.ref b] below meth c H locs 95 6031 (lw_Z below #[Value.ref b] s) (F0 m 1169 ls []) := by
  obtain ⟨hx, hb, hr, hml, hown, hts, hX, hbl, hlocks, hgv⟩ := id C0
  have hown : s.vm.findClass RL = some m.cls := hown
  have hP : va_P D vwCl [(q1, .inr (9, [.ref (u 0), .ref (u 1), .int 0, .ref (u 2), .ref (u 3), .ref (u 11), .ref (u 34), .ref (u 38), .ref (u 39), .ref (u 43), .ref (u 64)])), ((u 11), .inl (T 5, 3, .inr (.inr (.inr (.inr (va_up (va_up (va_up (fun _ => none) 0 (some (u 12))) 1 (some (u 13))) 2 (some (u 14)))))))), ((u 12), .inr (0, [.int 0, .ref (u 15)])), ((u 13), .inr (0, [.int 0, .ref (u 16)])), ((u 14), .inr (0, [.int 0, .ref (u 17)])), (q2, .inr (10, [.int 0, .int 1, .int 1, .int 1, .int 2, .int 1, .int 1, .int 0, .ref (v 8), .ref (v 9), .ref (v 10), .ref (v 11), .ref (v 12), .ref (v 13), .int 0, .long 0, .long 0, .ref (v 17), .ref (v 18), .ref (v 19), .ref (v 20), .ref (v 21), .ref (v 22), .ref (v 23), .int 0, .ref (v 25), .int 0, .ref (v 27), .int 0, .int 0, .int 0, .int 0, .int 0, .int 0, .ref (v 34), .ref (v 35), .ref (v 36), .ref (v 37), .ref (v 38), .ref (v 39), .ref (v 40), .int 0, .ref (v 42), .int 0, .int 0])), ((v 12), .inl (T 0, 36, .inl (fun _ => 0))), ((v 13), .inl (T 0, 3, .inl (fun _ => 0)))] H := hP.sub [0, 11, 12, 13, 14, 66, 71, 72] rfl
  have hD : va_D A [(q1, .inr (9, [.ref (u 0), .ref (u 1), .int 0, .ref (u 2), .ref (u 3), .ref (u 11), .ref (u 34), .ref (u 38), .ref (u 39), .ref (u 43), .ref (u 64)])), ((u 11), .inl (T 5, 3, .inr (.inr (.inr (.inr (va_up (va_up (va_up (fun _ => none) 0 (some (u 12))) 1 (some (u 13))) 2 (some (u 14)))))))), ((u 12), .inr (0, [.int 0, .ref (u 15)])), ((u 13), .inr (0, [.int 0, .ref (u 16)])), ((u 14), .inr (0, [.int 0, .ref (u 17)])), (q2, .inr (10, [.int 0, .int 1, .int 1, .int 1, .int 2, .int 1, .int 1, .int 0, .ref (v 8), .ref (v 9), .ref (v 10), .ref (v 11), .ref (v 12), .ref (v 13), .int 0, .long 0, .long 0, .ref (v 17), .ref (v 18), .ref (v 19), .ref (v 20), .ref (v 21), .ref (v 22), .ref (v 23), .int 0, .ref (v 25), .int 0, .ref (v 27), .int 0, .int 0, .int 0, .int 0, .int 0, .int 0, .ref (v 34), .ref (v 35), .ref (v 36), .ref (v 37), .ref (v 38), .ref (v 39), .ref (v 40), .int 0, .ref (v 42), .int 0, .int 0])), ((v 12), .inl (T 0, 36, .inl (fun _ => 0))), ((v 13), .inl (T 0, 3, .inl (fun _ => 0)))] := hD.sub [0, 11, 12, 13, 14, 66, 71, 72] (by decide) rfl
  refine lv_aload_n hx hb dL_law_1169 rfl (lv_at hl 2 rfl) ?_
  refine lv_aload_n hx hb dL_law_1170 rfl (lv_at hl 3 rfl) ?_
  refine lv_iload_n hx hb dL_law_1171 rfl (lv_at hl 0 rfl) ?_
  refine lv_iconst (v := 1) hx hb dL_law_1172 (by decide) ?_
  refine lv_iadd hx hb dL_law_1173 ?_
  refine lv_topi (fun z_1 ez_1 => ?_)
  obtain rfl : z_1 = 1 := ez_1.trans (by decide)
  refine va_sld hx hb hX hbl hbA hS (by unfold vp_in; decide) dL_law_1174 ?_
  refine W.eq (g2 := F0 m 1175 ls [.int (xs 1), .ref q1]) rfl ?_
  refine vp_callSi (W.runV (As := [.int (xs 1)]) (rest := []) ⟨hx, hb, hml, hown, hts⟩ (f_X12_take l D T q1 [.ref (u 0), .ref (u 1), .int 0, .ref (u 2), .ref (u 3), .ref (u 11), .ref (u 34), .ref (u 38), .ref (u 39), .ref (u 43), .ref (u 64)] (u 11) (va_up (va_up (va_up (fun _ => none) 0 (some (u 12))) 1 (some (u 13))) 2 (some (u 14))) (u 12) [.int 0, .ref (u 15)] (u 13) [.int 0, .ref (u 16)] (u 14) [.int 0, .ref (u 17)] (xs 1) rfl rfl rfl rfl rfl rfl rfl) (cwV 1 hts lg_X12_take rfl rfl rfl (by decide +kernel) ⟨Nat.le_of_ble_eq_true rfl, Nat.le_of_ble_eq_true rfl⟩) (pR_V (ci := 9) (q0 := 0) hP hE rfl rfl [0, 1, 2, 3, 4] rfl) rfl rfl hl.1 rfl (lv_room (Nat.le_of_ble_eq_true rfl)) dL_law_1175 ⟨Nat.le_of_ble_eq_true rfl, Nat.le_of_ble_eq_true rfl⟩) (fun r_2 hr_2 => ?_)
  obtain rfl : (sp_take (xs 1)) = r_2 := (hr_2).symm
  refine lv_aload_n hx hb dL_law_1178 rfl (lv_at hl 1 rfl) ?_
  refine lv_aload_n hx hb dL_law_1179 rfl (lv_at hl 3 rfl) ?_
  refine lv_iload_n hx hb dL_law_1180 rfl (lv_at hl 0 rfl) ?_
  refine lv_iconst (v := 1) hx hb dL_law_1181 (by decide) ?_
  refine lv_iadd hx hb dL_law_1182 ?_
  refine lv_topi (fun z_3 ez_3 => ?_)
  obtain rfl : z_3 = 1 := ez_3.trans (by decide)
  refine va_sld hx hb hX hbl hbA hS (by unfold vp_in; decide) dL_law_1183 ?_
  refine W.eq (g2 := F0 m 1184 ls [.int (xs 1), .ref q2, .int (sp_take (xs 1))]) rfl ?_
  refine vp_callSi (W.runV (As := [.int (xs 1)]) (rest := [.int (sp_take (xs 1))]) ⟨hx, hb, hml, hown, hts⟩ (f_X13_take l D T q2 [.int 0, .int 1, .int 1, .int 1, .int 2, .int 1, .int 1, .int 0, .ref (v 8), .ref (v 9), .ref (v 10), .ref (v 11), .ref (v 12), .ref (v 13), .int 0, .long 0, .long 0, .ref (v 17), .ref (v 18), .ref (v 19), .ref (v 20), .ref (v 21), .ref (v 22), .ref (v 23), .int 0, .ref (v 25), .int 0, .ref (v 27), .int 0, .int 0, .int 0, .int 0, .int 0, .int 0, .ref (v 34), .ref (v 35), .ref (v 36), .ref (v 37), .ref (v 38), .ref (v 39), .ref (v 40), .int 0, .ref (v 42), .int 0, .int 0] (v 12) (fun _ => 0) (v 13) (fun _ => 0) (xs 1) rfl rfl rfl rfl rfl rfl) (cwV 1 hts lg_X13_take rfl rfl rfl (by decide +kernel) ⟨Nat.le_of_ble_eq_true rfl, Nat.le_of_ble_eq_true rfl⟩) (pR_V (ci := 10) (q0 := 5) hP hE rfl rfl [5, 6, 7] rfl) rfl rfl hl.1 rfl (lv_room (Nat.le_of_ble_eq_true rfl)) dL_law_1184 ⟨Nat.le_of_ble_eq_true rfl, Nat.le_of_ble_eq_true rfl⟩) (fun r_4 hr_4 => ?_)
  obtain rfl : (sp_take (xs 1)) = r_4 := (hr_4).symm
  refine lv_icmp_eq (tgt := 1874) hx hb dL_law_1187 (by decide) (fun _ => ?_) (fun c9 => absurd rfl c9)
  exact law_tail C0 hAf hbA hS hl
theorem dL_law_1192 : decode cL_law 1192 = .ok (.aload_n 1, 1) := by decide +kernel
theorem dL_law_1193 : decode cL_law 1193 = .ok (.aload_n 0, 1) := by decide +kernel
theorem dL_law_1194 : decode cL_law 1194 = .ok (.iload_n 3, 1) := by decide +kernel
theorem dL_law_1195 : decode cL_law 1195 = .ok (.iconst 1, 1) := by decide +kernel
theorem dL_law_1196 : decode cL_law 1196 = .ok (.iadd, 1) := by decide +kernel
theorem dL_law_1197 : decode cL_law 1197 = .ok (.iaload, 1) := by decide +kernel
theorem dL_law_1198 : decode cL_law 1198 = .ok (.aload_n 0, 1) := by decide +kernel
theorem dL_law_1199 : decode cL_law 1199 = .ok (.iload_n 3, 1) := by decide +kernel
theorem dL_law_1200 : decode cL_law 1200 = .ok (.iconst 2, 1) := by decide +kernel
theorem dL_law_1201 : decode cL_law 1201 = .ok (.iadd, 1) := by decide +kernel
theorem dL_law_1202 : decode cL_law 1202 = .ok (.iaload, 1) := by decide +kernel
theorem dL_law_1203 : decode cL_law 1203 = .ok (.invokevirtual 120, 3) := by decide +kernel
theorem dL_law_1206 : decode cL_law 1206 = .ok (.aload_n 2, 1) := by decide +kernel
theorem dL_law_1207 : decode cL_law 1207 = .ok (.aload_n 0, 1) := by decide +kernel
theorem dL_law_1208 : decode cL_law 1208 = .ok (.iload_n 3, 1) := by decide +kernel
theorem dL_law_1209 : decode cL_law 1209 = .ok (.iconst 1, 1) := by decide +kernel
theorem dL_law_1210 : decode cL_law 1210 = .ok (.iadd, 1) := by decide +kernel
theorem dL_law_1211 : decode cL_law 1211 = .ok (.iaload, 1) := by decide +kernel
theorem dL_law_1212 : decode cL_law 1212 = .ok (.aload_n 0, 1) := by decide +kernel
theorem dL_law_1213 : decode cL_law 1213 = .ok (.iload_n 3, 1) := by decide +kernel
theorem dL_law_1214 : decode cL_law 1214 = .ok (.iconst 2, 1) := by decide +kernel
theorem dL_law_1215 : decode cL_law 1215 = .ok (.iadd, 1) := by decide +kernel
theorem dL_law_1216 : decode cL_law 1216 = .ok (.iaload, 1) := by decide +kernel
theorem dL_law_1217 : decode cL_law 1217 = .ok (.invokevirtual 123, 3) := by decide +kernel
theorem dL_law_1220 : decode cL_law 1220 = .ok (.if_icmp .eq 654, 3) := by decide +kernel
set_option maxRecDepth 40000 in
theorem lg_X12_bagOf : GoodIn lw_tbl (wsV RL 120 RX12 yX12_bagOf wsX12_bagOf) := goodIn_app (gl_cons ⟨lwt_3 _ (List.mem_of_getElem? (i := 39) (by decide +kernel)), by decide +kernel⟩ (gl_cons ⟨lwt_3 _ (List.mem_of_getElem? (i := 40) (by decide +kernel)), by decide +kernel⟩ (gl_cons ⟨lwt_3 _ (List.mem_of_getElem? (i := 41) (by decide +kernel)), by decide +kernel⟩ (gl_cons ⟨lwt_0 _ (List.mem_of_getElem? (i := 1) (by decide +kernel)), by decide +kernel⟩ gl_nil)))) lgg_X12_bagOf
set_option maxRecDepth 40000 in
theorem lg_X13_bagOf : GoodIn lw_tbl (wsV RL 123 RX13 yX13_bagOf wsX13_bagOf) := goodIn_app (gl_cons ⟨lwt_5 _ (List.mem_of_getElem? (i := 192) (by decide +kernel)), by decide +kernel⟩ (gl_cons ⟨lwt_5 _ (List.mem_of_getElem? (i := 193) (by decide +kernel)), by decide +kernel⟩ (gl_cons ⟨lwt_5 _ (List.mem_of_getElem? (i := 194) (by decide +kernel)), by decide +kernel⟩ (gl_cons ⟨lwt_0 _ (List.mem_of_getElem? (i := 11) (by decide +kernel)), by decide +kernel⟩ gl_nil)))) lgg_X13_bagOf
set_option maxHeartbeats 4000000 in
set_option maxRecDepth 100000 in
theorem law_c25 {p : Program} {e : Env} {s : State} {m : MethodId} {below : List Frame} {meth : Method} {c : Code} {l : Launch} {b : Nat} {xs : Nat → Int32} (C0 : lw_At p s m meth c b 7 xs) {D : va_G} {T : Nat → ClassId} {ad sa av : Nat → Nat} {ta : Nat} {A : Nat → Prop} (hA : ∀ q : Nat, s.heap.size ≤ q → A q) (hAf : ∀ q : Nat, A q → s.heap.size ≤ q) (hbA : ¬ A b) (hE : ekK D T s) (hV : evK ad sa av ta A s s.heap) {q1 q2 : Nat} {u v : Nat → Nat} {H : Heap} {locs : List Loc} (hP : va_P D vwCl (lwW T sa q1 q2 u v) H) (hD : va_D A (lwW T sa q1 q2 u v)) (hS : va_S A s.heap H locs) {ls : Array Slot} (hl : lv_has ls 4 [(3, .int 0), (2, .ref q2), (1, .ref q1), (0, .ref b)]) : W p l e room_1 s m #[Value.ref b] below meth c H locs 95 6031 (lw_Z below #[Value.ref b] s) (F0 m 1192 ls []) := by
  obtain ⟨hx, hb, hr, hml, hown, hts, hX, hbl, hlocks, hgv⟩ := id C0
  have hown : s.vm.findClass RL = some m.cls := hown
  have hP : va_P D vwCl [(q1, .inr (9, [.ref (u 0), .ref (u 1), .int 0, .ref (u 2), .ref (u 3), .ref (u 11), .ref (u 34), .ref (u 38), .ref (u 39), .ref (u 43), .ref (u 64)])), ((u 11), .inl (T 5, 3, .inr (.inr (.inr (.inr (va_up (va_up (va_up (fun _ => none) 0 (some (u 12))) 1 (some (u 13))) 2 (some (u 14)))))))), ((u 12), .inr (0, [.int 0, .ref (u 15)])), ((u 13), .inr (0, [.int 0, .ref (u 16)])), ((u 14), .inr (0, [.int 0, .ref (u 17)])), (q2, .inr (10, [.int 0, .int 1, .int 1, .int 1, .int 2, .int 1, .int 1, .int 0, .ref (v 8), .ref (v 9), .ref (v 10), .ref (v 11), .ref (v 12), .ref (v 13), .int 0, .long 0, .long 0, .ref (v 17), .ref (v 18), .ref (v 19), .ref (v 20), .ref (v 21), .ref (v 22), .ref (v 23), .int 0, .ref (v 25), .int 0, .ref (v 27), .int 0, .int 0, .int 0, .int 0, .int 0, .int 0, .ref (v 34), .ref (v 35), .ref (v 36), .ref (v 37), .ref (v 38), .ref (v 39), .ref (v 40), .int 0, .ref (v 42), .int 0, .int 0])), ((v 12), .inl (T 0, 36, .inl (fun _ => 0))), ((v 13), .inl (T 0, 3, .inl (fun _ => 0)))] H := hP.sub [0, 11, 12, 13, 14, 66, 71, 72] rfl
  have hD : va_D A [(q1, .inr (9, [.ref (u 0), .ref (u 1), .int 0, .ref (u 2), .ref (u 3), .ref (u 11), .ref (u 34), .ref (u 38), .ref (u 39), .ref (u 43), .ref (u 64)])), ((u 11), .inl (T 5, 3, .inr (.inr (.inr (.inr (va_up (va_up (va_up (fun _ => none) 0 (some (u 12))) 1 (some (u 13))) 2 (some (u 14)))))))), ((u 12), .inr (0, [.int 0, .ref (u 15)])), ((u 13), .inr (0, [.int 0, .ref (u 16)])), ((u 14), .inr (0, [.int 0, .ref (u 17)])), (q2, .inr (10, [.int 0, .int 1, .int 1, .int 1, .int 2, .int 1, .int 1, .int 0, .ref (v 8), .ref (v 9), .ref (v 10), .ref (v 11), .ref (v 12), .ref (v 13), .int 0, .long 0, .long 0, .ref (v 17), .ref (v 18), .ref (v 19), .ref (v 20), .ref (v 21), .ref (v 22), .ref (v 23), .int 0, .ref (v 25), .int 0, .ref (v 27), .int 0, .int 0, .int 0, .int 0, .int 0, .int 0, .ref (v 34), .ref (v 35), .ref (v 36), .ref (v 37), .ref (v 38), .ref (v 39), .ref (v 40), .int 0, .ref (v 42), .int 0, .int 0])), ((v 12), .inl (T 0, 36, .inl (fun _ => 0))), ((v 13), .inl (T 0, 3, .inl (fun _ => 0)))] := hD.sub [0, 11, 12, 13, 14, 66, 71, 72] (by decide) rfl
  refine lv_aload_n hx hb dL_law_1192 rfl (lv_at hl 2 rfl) ?_
  refine lv_aload_n hx hb dL_law_1193 rfl (lv_at hl 3 rfl) ?_
  refine lv_iload_n hx hb dL_law_1194 rfl (lv_at hl 0 rfl) ?_
  refine lv_iconst (v := 1) hx hb dL_law_1195 (by decide) ?_
  refine lv_iadd hx hb dL_law_1196 ?_
  refine lv_topi (fun z_1 ez_1 => ?_)
  obtain rfl : z_1 = 1 := ez_1.trans (by decide)
  refine va_sld hx hb hX hbl hbA hS (by unfold vp_in; decide) dL_law_1197 ?_
  refine W.eq (g2 := F0 m 1198 ls [.int (xs 1), .ref q1]) rfl ?_
  refine lv_aload_n hx hb dL_law_1198 rfl (lv_at hl 3 rfl) ?_
  refine lv_iload_n hx hb dL_law_1199 rfl (lv_at hl 0 rfl) ?_
  refine lv_iconst (v := 2) hx hb dL_law_1200 (by decide) ?_
  refine lv_iadd hx hb dL_law_1201 ?_
  refine lv_topi (fun z_2 ez_2 => ?_)
  obtain rfl : z_2 = 2 := ez_2.trans (by decide)
  refine va_sld hx hb hX hbl hbA hS (by unfold vp_in; decide) dL_law_1202 ?_
  refine W.eq (g2 := F0 m 1203 ls [.int (xs 2), .int (xs 1), .ref q1]) rfl ?_
  refine vp_callSi (W.runV (As := [.int (xs 1), .int (xs 2)]) (rest := []) ⟨hx, hb, hml, hown, hts⟩ (f_X12_bagOf l D T q1 [.ref (u 0), .ref (u 1), .int 0, .ref (u 2), .ref (u 3), .ref (u 11), .ref (u 34), .ref (u 38), .ref (u 39), .ref (u 43), .ref (u 64)] (u 11) (va_up (va_up (va_up (fun _ => none) 0 (some (u 12))) 1 (some (u 13))) 2 (some (u 14))) (u 12) [.int 0, .ref (u 15)] (u 13) [.int 0, .ref (u 16)] (u 14) [.int 0, .ref (u 17)] (xs 1) (xs 2) rfl rfl rfl rfl rfl rfl rfl) (cwV 2 hts lg_X12_bagOf rfl rfl rfl (by decide +kernel) ⟨Nat.le_of_ble_eq_true rfl, Nat.le_of_ble_eq_true rfl⟩) (pR_V (ci := 9) (q0 := 0) hP hE rfl rfl [0, 1, 2, 3, 4] rfl) rfl rfl hl.1 rfl (lv_room (Nat.le_of_ble_eq_true rfl)) dL_law_1203 ⟨Nat.le_of_ble_eq_true rfl, Nat.le_of_ble_eq_true rfl⟩) (fun r_3 hr_3 => ?_)
  obtain rfl : (sp_bagOf (xs 1)) = r_3 := (hr_3).symm
  refine lv_aload_n hx hb dL_law_1206 rfl (lv_at hl 1 rfl) ?_
  refine lv_aload_n hx hb dL_law_1207 rfl (lv_at hl 3 rfl) ?_
  refine lv_iload_n hx hb dL_law_1208 rfl (lv_at hl 0 rfl) ?_
  refine lv_iconst (v := 1) hx hb dL_law_1209 (by decide) ?_
  refine lv_iadd hx hb dL_law_1210 ?_
  refine lv_topi (fun z_4 ez_4 => ?_)
  obtain rfl : z_4 = 1 := ez_4.trans (by decide)
  refine va_sld hx hb hX hbl hbA hS (by unfold vp_in; decide) dL_law_1211 ?_
  refine W.eq (g2 := F0 m 1212 ls [.int (xs 1), .ref q2, .int (sp_bagOf (xs 1))]) rfl ?_
  refine lv_aload_n hx hb dL_law_1212 rfl (lv_at hl 3 rfl) ?_
  refine lv_iload_n hx hb dL_law_1213 rfl (lv_at hl 0 rfl) ?_
  refine lv_iconst (v := 2) hx hb dL_law_1214 (by decide) ?_
  refine lv_iadd hx hb dL_law_1215 ?_
  refine lv_topi (fun z_5 ez_5 => ?_)
  obtain rfl : z_5 = 2 := ez_5.trans (by decide)
  refine va_sld hx hb hX hbl hbA hS (by unfold vp_in; decide) dL_law_1216 ?_
  refine W.eq (g2 := F0 m 1217 ls [.int (xs 2), .int (xs 1), .ref q2, .int (sp_bagOf (xs 1))]) rfl ?_
  refine vp_callSi (W.runV (As := [.int (xs 1), .int (xs 2)]) (rest := [.int (sp_bagOf (xs 1))]) ⟨hx, hb, hml, hown, hts⟩ (f_X13_bagOf l D T q2 [.int 0, .int 1, .int 1, .int 1, .int 2, .int 1, .int 1, .int 0, .ref (v 8), .ref (v 9), .ref (v 10), .ref (v 11), .ref (v 12), .ref (v 13), .int 0, .long 0, .long 0, .ref (v 17), .ref (v 18), .ref (v 19), .ref (v 20), .ref (v 21), .ref (v 22), .ref (v 23), .int 0, .ref (v 25), .int 0, .ref (v 27), .int 0, .int 0, .int 0, .int 0, .int 0, .int 0, .ref (v 34), .ref (v 35), .ref (v 36), .ref (v 37), .ref (v 38), .ref (v 39), .ref (v 40), .int 0, .ref (v 42), .int 0, .int 0] (v 12) (fun _ => 0) (v 13) (fun _ => 0) (xs 1) (xs 2) rfl rfl rfl rfl rfl rfl) (cwV 2 hts lg_X13_bagOf rfl rfl rfl (by decide +kernel) ⟨Nat.le_of_ble_eq_true rfl, Nat.le_of_ble_eq_true rfl⟩) (pR_V (ci := 10) (q0 := 5) hP hE rfl rfl [5, 6, 7] rfl) rfl rfl hl.1 rfl (lv_room (Nat.le_of_ble_eq_true rfl)) dL_law_1217 ⟨Nat.le_of_ble_eq_true rfl, Nat.le_of_ble_eq_true rfl⟩) (fun r_6 hr_6 => ?_)
  obtain rfl : (sp_bagOf (xs 1)) = r_6 := (hr_6).symm
  refine lv_icmp_eq (tgt := 1874) hx hb dL_law_1220 (by decide) (fun _ => ?_) (fun c9 => absurd rfl c9)
  exact law_tail C0 hAf hbA hS hl
theorem dL_law_1225 : decode cL_law 1225 = .ok (.aload_n 1, 1) := by decide +kernel
theorem dL_law_1226 : decode cL_law 1226 = .ok (.aload_n 0, 1) := by decide +kernel
theorem dL_law_1227 : decode cL_law 1227 = .ok (.iload_n 3, 1) := by decide +kernel
theorem dL_law_1228 : decode cL_law 1228 = .ok (.iconst 1, 1) := by decide +kernel
theorem dL_law_1229 : decode cL_law 1229 = .ok (.iadd, 1) := by decide +kernel
theorem dL_law_1230 : decode cL_law 1230 = .ok (.iaload, 1) := by decide +kernel
theorem dL_law_1231 : decode cL_law 1231 = .ok (.aload_n 0, 1) := by decide +kernel
theorem dL_law_1232 : decode cL_law 1232 = .ok (.iload_n 3, 1) := by decide +kernel
theorem dL_law_1233 : decode cL_law 1233 = .ok (.iconst 2, 1) := by decide +kernel
theorem dL_law_1234 : decode cL_law 1234 = .ok (.iadd, 1) := by decide +kernel
theorem dL_law_1235 : decode cL_law 1235 = .ok (.iaload, 1) := by decide +kernel
theorem dL_law_1236 : decode cL_law 1236 = .ok (.aload_n 0, 1) := by decide +kernel
theorem dL_law_1237 : decode cL_law 1237 = .ok (.iload_n 3, 1) := by decide +kernel
theorem dL_law_1238 : decode cL_law 1238 = .ok (.iconst 3, 1) := by decide +kernel
theorem dL_law_1239 : decode cL_law 1239 = .ok (.iadd, 1) := by decide +kernel
theorem dL_law_1240 : decode cL_law 1240 = .ok (.iaload, 1) := by decide +kernel
theorem dL_law_1241 : decode cL_law 1241 = .ok (.invokevirtual 124, 3) := by decide +kernel
theorem dL_law_1244 : decode cL_law 1244 = .ok (.aload_n 2, 1) := by decide +kernel
theorem dL_law_1245 : decode cL_law 1245 = .ok (.aload_n 0, 1) := by decide +kernel
theorem dL_law_1246 : decode cL_law 1246 = .ok (.iload_n 3, 1) := by decide +kernel
theorem dL_law_1247 : decode cL_law 1247 = .ok (.iconst 1, 1) := by decide +kernel
theorem dL_law_1248 : decode cL_law 1248 = .ok (.iadd, 1) := by decide +kernel
theorem dL_law_1249 : decode cL_law 1249 = .ok (.iaload, 1) := by decide +kernel
theorem dL_law_1250 : decode cL_law 1250 = .ok (.aload_n 0, 1) := by decide +kernel
theorem dL_law_1251 : decode cL_law 1251 = .ok (.iload_n 3, 1) := by decide +kernel
theorem dL_law_1252 : decode cL_law 1252 = .ok (.iconst 2, 1) := by decide +kernel
theorem dL_law_1253 : decode cL_law 1253 = .ok (.iadd, 1) := by decide +kernel
theorem dL_law_1254 : decode cL_law 1254 = .ok (.iaload, 1) := by decide +kernel
theorem dL_law_1255 : decode cL_law 1255 = .ok (.aload_n 0, 1) := by decide +kernel
theorem dL_law_1256 : decode cL_law 1256 = .ok (.iload_n 3, 1) := by decide +kernel
theorem dL_law_1257 : decode cL_law 1257 = .ok (.iconst 3, 1) := by decide +kernel
theorem dL_law_1258 : decode cL_law 1258 = .ok (.iadd, 1) := by decide +kernel
theorem dL_law_1259 : decode cL_law 1259 = .ok (.iaload, 1) := by decide +kernel
theorem dL_law_1260 : decode cL_law 1260 = .ok (.invokevirtual 127, 3) := by decide +kernel
theorem dL_law_1263 : decode cL_law 1263 = .ok (.if_icmp .eq 611, 3) := by decide +kernel
set_option maxRecDepth 40000 in
theorem lg_X12_pour : GoodIn lw_tbl (wsV RL 124 RX12 yX12_pour wsX12_pour) := goodIn_app (gl_cons ⟨lwt_3 _ (List.mem_of_getElem? (i := 43) (by decide +kernel)), by decide +kernel⟩ (gl_cons ⟨lwt_3 _ (List.mem_of_getElem? (i := 44) (by decide +kernel)), by decide +kernel⟩ (gl_cons ⟨lwt_3 _ (List.mem_of_getElem? (i := 45) (by decide +kernel)), by decide +kernel⟩ (gl_cons ⟨lwt_0 _ (List.mem_of_getElem? (i := 1) (by decide +kernel)), by decide +kernel⟩ gl_nil)))) lgg_X12_pour
set_option maxRecDepth 40000 in
theorem lg_X13_pour : GoodIn lw_tbl (wsV RL 127 RX13 yX13_pour wsX13_pour) := goodIn_app (gl_cons ⟨lwt_5 _ (List.mem_of_getElem? (i := 196) (by decide +kernel)), by decide +kernel⟩ (gl_cons ⟨lwt_5 _ (List.mem_of_getElem? (i := 197) (by decide +kernel)), by decide +kernel⟩ (gl_cons ⟨lwt_5 _ (List.mem_of_getElem? (i := 198) (by decide +kernel)), by decide +kernel⟩ (gl_cons ⟨lwt_0 _ (List.mem_of_getElem? (i := 11) (by decide +kernel)), by decide +kernel⟩ gl_nil)))) lgg_X13_pour
set_option maxHeartbeats 4000000 in
set_option maxRecDepth 100000 in
theorem law_c26 {p : Program} {e : Env} {s : State} {m : MethodId} {below : List Frame} {meth : Method} {c : Code} {l : Launch} {b : Nat} {xs : Nat → Int32} (C0 : lw_At p s m meth c b 7 xs) {D : va_G} {T : Nat → ClassId} {ad sa av : Nat → Nat} {ta : Nat} {A : Nat → Prop} (hA : ∀ q : Nat, s.heap.size ≤ q → A q) (hAf : ∀ q : Nat, A q → s.heap.size ≤ q) (hbA : ¬ A b) (hE : ekK D T s) (hV : evK ad sa av ta A s s.heap) {q1 q2 : Nat} {u v : Nat → Nat} {H : Heap} {locs : List Loc} (hP : va_P D vwCl (lwW T sa q1 q2 u v) H) (hD : va_D A (lwW T sa q1 q2 u v)) (hS : va_S A s.heap H locs) {ls : Array Slot} (hl : lv_has ls 4 [(3, .int 0), (2, .ref q2), (1, .ref q1), (0, .ref b)]) : W p l e room_1 s m #[Value.ref b] below meth c H locs 95 6031 (lw_Z below #[Value.ref b] s) (F0 m 1225 ls []) := by
  obtain ⟨hx, hb, hr, hml, hown, hts, hX, hbl, hlocks, hgv⟩ := id C0
  have hown : s.vm.findClass RL = some m.cls := hown
  have hP : va_P D vwCl [(q1, .inr (9, [.ref (u 0), .ref (u 1), .int 0, .ref (u 2), .ref (u 3), .ref (u 11), .ref (u 34), .ref (u 38), .ref (u 39), .ref (u 43), .ref (u 64)])), ((u 11), .inl (T 5, 3, .inr (.inr (.inr (.inr (va_up (va_up (va_up (fun _ => none) 0 (some (u 12))) 1 (some (u 13))) 2 (some (u 14)))))))), ((u 12), .inr (0, [.int 0, .ref (u 15)])), ((u 13), .inr (0, [.int 0, .ref (u 16)])), ((u 14), .inr (0, [.int 0, .ref (u 17)])), (q2, .inr (10, [.int 0, .int 1, .int 1, .int 1, .int 2, .int 1, .int 1, .int 0, .ref (v 8), .ref (v 9), .ref (v 10), .ref (v 11), .ref (v 12), .ref (v 13), .int 0, .long 0, .long 0, .ref (v 17), .ref (v 18), .ref (v 19), .ref (v 20), .ref (v 21), .ref (v 22), .ref (v 23), .int 0, .ref (v 25), .int 0, .ref (v 27), .int 0, .int 0, .int 0, .int 0, .int 0, .int 0, .ref (v 34), .ref (v 35), .ref (v 36), .ref (v 37), .ref (v 38), .ref (v 39), .ref (v 40), .int 0, .ref (v 42), .int 0, .int 0])), ((v 12), .inl (T 0, 36, .inl (fun _ => 0))), ((v 13), .inl (T 0, 3, .inl (fun _ => 0)))] H := hP.sub [0, 11, 12, 13, 14, 66, 71, 72] rfl
  have hD : va_D A [(q1, .inr (9, [.ref (u 0), .ref (u 1), .int 0, .ref (u 2), .ref (u 3), .ref (u 11), .ref (u 34), .ref (u 38), .ref (u 39), .ref (u 43), .ref (u 64)])), ((u 11), .inl (T 5, 3, .inr (.inr (.inr (.inr (va_up (va_up (va_up (fun _ => none) 0 (some (u 12))) 1 (some (u 13))) 2 (some (u 14)))))))), ((u 12), .inr (0, [.int 0, .ref (u 15)])), ((u 13), .inr (0, [.int 0, .ref (u 16)])), ((u 14), .inr (0, [.int 0, .ref (u 17)])), (q2, .inr (10, [.int 0, .int 1, .int 1, .int 1, .int 2, .int 1, .int 1, .int 0, .ref (v 8), .ref (v 9), .ref (v 10), .ref (v 11), .ref (v 12), .ref (v 13), .int 0, .long 0, .long 0, .ref (v 17), .ref (v 18), .ref (v 19), .ref (v 20), .ref (v 21), .ref (v 22), .ref (v 23), .int 0, .ref (v 25), .int 0, .ref (v 27), .int 0, .int 0, .int 0, .int 0, .int 0, .int 0, .ref (v 34), .ref (v 35), .ref (v 36), .ref (v 37), .ref (v 38), .ref (v 39), .ref (v 40), .int 0, .ref (v 42), .int 0, .int 0])), ((v 12), .inl (T 0, 36, .inl (fun _ => 0))), ((v 13), .inl (T 0, 3, .inl (fun _ => 0)))] := hD.sub [0, 11, 12, 13, 14, 66, 71, 72] (by decide) rfl
  refine lv_aload_n hx hb dL_law_1225 rfl (lv_at hl 2 rfl) ?_
  refine lv_aload_n hx hb dL_law_1226 rfl (lv_at hl 3 rfl) ?_
  refine lv_iload_n hx hb dL_law_1227 rfl (lv_at hl 0 rfl) ?_
  refine lv_iconst (v := 1) hx hb dL_law_1228 (by decide) ?_
  refine lv_iadd hx hb dL_law_1229 ?_
  refine lv_topi (fun z_1 ez_1 => ?_)
  obtain rfl : z_1 = 1 := ez_1.trans (by decide)
  refine va_sld hx hb hX hbl hbA hS (by unfold vp_in; decide) dL_law_1230 ?_
  refine W.eq (g2 := F0 m 1231 ls [.int (xs 1), .ref q1]) rfl ?_
  refine lv_aload_n hx hb dL_law_1231 rfl (lv_at hl 3 rfl) ?_
  refine lv_iload_n hx hb dL_law_1232 rfl (lv_at hl 0 rfl) ?_
  refine lv_iconst (v := 2) hx hb dL_law_1233 (by decide) ?_
  refine lv_iadd hx hb dL_law_1234 ?_
  refine lv_topi (fun z_2 ez_2 => ?_)
  obtain rfl : z_2 = 2 := ez_2.trans (by decide)
  refine va_sld hx hb hX hbl hbA hS (by unfold vp_in; decide) dL_law_1235 ?_
  refine W.eq (g2 := F0 m 1236 ls [.int (xs 2), .int (xs 1), .ref q1]) rfl ?_
  refine lv_aload_n hx hb dL_law_1236 rfl (lv_at hl 3 rfl) ?_
  refine lv_iload_n hx hb dL_law_1237 rfl (lv_at hl 0 rfl) ?_
  refine lv_iconst (v := 3) hx hb dL_law_1238 (by decide) ?_
  refine lv_iadd hx hb dL_law_1239 ?_
  refine lv_topi (fun z_3 ez_3 => ?_)
  obtain rfl : z_3 = 3 := ez_3.trans (by decide)
  refine va_sld hx hb hX hbl hbA hS (by unfold vp_in; decide) dL_law_1240 ?_
  refine W.eq (g2 := F0 m 1241 ls [.int (xs 3), .int (xs 2), .int (xs 1), .ref q1]) rfl ?_
  have hFc := va_free (wc := [(q1, .inr (9, [.ref (u 0), .ref (u 1), .int 0, .ref (u 2), .ref (u 3), .ref (u 11), .ref (u 34), .ref (u 38), .ref (u 39), .ref (u 43), .ref (u 64)])), ((u 11), .inl (T 5, 3, .inr (.inr (.inr (.inr (va_up (va_up (va_up (fun _ => none) 0 (some (u 12))) 1 (some (u 13))) 2 (some (u 14)))))))), ((u 12), .inr (0, [.int 0, .ref (u 15)])), ((u 13), .inr (0, [.int 0, .ref (u 16)])), ((u 14), .inr (0, [.int 0, .ref (u 17)]))]) hD hS hA [0, 1, 2, 3, 4] rfl
  refine va_calli (va_runV (As := [.int (xs 1), .int (xs 2), .int (xs 3)]) (rest := []) ⟨hx, hb, hml, hown, hts⟩ (f_X12_pour l D T ad sa av ta _ q1 (u 11) [.ref (u 0), .ref (u 1), .int 0, .ref (u 2), .ref (u 3), .ref (u 11), .ref (u 34), .ref (u 38), .ref (u 39), .ref (u 43), .ref (u 64)] (u 12) (u 13) (u 14) (.ref (u 15)) (.ref (u 16)) (.ref (u 17)) (xs 1) (xs 2) (xs 3) rfl) (cwV 3 hts lg_X12_pour rfl rfl rfl (by decide +kernel) ⟨Nat.le_of_ble_eq_true rfl, Nat.le_of_ble_eq_true rfl⟩) (pWk_V (ci := 9) (q0 := 0) hP hE hD hV hS hFc rfl rfl [0, 1, 2, 3, 4] (by decide) rfl rfl) rfl rfl hl.1 rfl (lv_room (Nat.le_of_ble_eq_true rfl)) dL_law_1241 ⟨Nat.le_of_ble_eq_true rfl, Nat.le_of_ble_eq_true rfl⟩) hS (fun q _ h => hFc q h) hFc (fun r_4 u_5 t H1 locs ht hvm hr_4 hB hz1 hk1 hS => ?_)
  obtain ⟨hP1, hD1⟩ := hB
  rw [ht] at hP1
  obtain ⟨hP, hD⟩ := va_join (wr := [(q2, .inr (10, [.int 0, .int 1, .int 1, .int 1, .int 2, .int 1, .int 1, .int 0, .ref (v 8), .ref (v 9), .ref (v 10), .ref (v 11), .ref (v 12), .ref (v 13), .int 0, .long 0, .long 0, .ref (v 17), .ref (v 18), .ref (v 19), .ref (v 20), .ref (v 21), .ref (v 22), .ref (v 23), .int 0, .ref (v 25), .int 0, .ref (v 27), .int 0, .int 0, .int 0, .int 0, .int 0, .int 0, .ref (v 34), .ref (v 35), .ref (v 36), .ref (v 37), .ref (v 38), .ref (v 39), .ref (v 40), .int 0, .ref (v 42), .int 0, .int 0])), ((v 12), .inl (T 0, 36, .inl (fun _ => 0))), ((v 13), .inl (T 0, 3, .inl (fun _ => 0)))]) (w1 := []) hP hD [0, 1, 2, 3, 4] [5, 6, 7] rfl rfl (by decide) (by decide) hk1 hFc hP1 hD1
  clear hP1 hD1 hFc
  generalize H1 = H at hP hS ⊢
  have hP : va_P D vwCl [(q2, .inr (10, [.int 0, .int 1, .int 1, .int 1, .int 2, .int 1, .int 1, .int 0, .ref (v 8), .ref (v 9), .ref (v 10), .ref (v 11), .ref (v 12), .ref (v 13), .int 0, .long 0, .long 0, .ref (v 17), .ref (v 18), .ref (v 19), .ref (v 20), .ref (v 21), .ref (v 22), .ref (v 23), .int 0, .ref (v 25), .int 0, .ref (v 27), .int 0, .int 0, .int 0, .int 0, .int 0, .int 0, .ref (v 34), .ref (v 35), .ref (v 36), .ref (v 37), .ref (v 38), .ref (v 39), .ref (v 40), .int 0, .ref (v 42), .int 0, .int 0])), ((v 12), .inl (T 0, 36, .inl (fun _ => 0))), ((v 13), .inl (T 0, 3, .inl (fun _ => 0)))] H := hP
  have hD : va_D A [(q2, .inr (10, [.int 0, .int 1, .int 1, .int 1, .int 2, .int 1, .int 1, .int 0, .ref (v 8), .ref (v 9), .ref (v 10), .ref (v 11), .ref (v 12), .ref (v 13), .int 0, .long 0, .long 0, .ref (v 17), .ref (v 18), .ref (v 19), .ref (v 20), .ref (v 21), .ref (v 22), .ref (v 23), .int 0, .ref (v 25), .int 0, .ref (v 27), .int 0, .int 0, .int 0, .int 0, .int 0, .int 0, .ref (v 34), .ref (v 35), .ref (v 36), .ref (v 37), .ref (v 38), .ref (v 39), .ref (v 40), .int 0, .ref (v 42), .int 0, .int 0])), ((v 12), .inl (T 0, 36, .inl (fun _ => 0))), ((v 13), .inl (T 0, 3, .inl (fun _ => 0)))] := hD
  obtain rfl : (sp_pour (xs 1) (xs 2) (xs 3)) = r_4 := (hr_4).symm
  refine lv_aload_n hx hb dL_law_1244 rfl (lv_at hl 1 rfl) ?_
  refine lv_aload_n hx hb dL_law_1245 rfl (lv_at hl 3 rfl) ?_
  refine lv_iload_n hx hb dL_law_1246 rfl (lv_at hl 0 rfl) ?_
  refine lv_iconst (v := 1) hx hb dL_law_1247 (by decide) ?_
  refine lv_iadd hx hb dL_law_1248 ?_
  refine lv_topi (fun z_6 ez_6 => ?_)
  obtain rfl : z_6 = 1 := ez_6.trans (by decide)
  refine va_sld hx hb hX hbl hbA hS (by unfold vp_in; decide) dL_law_1249 ?_
  refine W.eq (g2 := F0 m 1250 ls [.int (xs 1), .ref q2, .int (sp_pour (xs 1) (xs 2) (xs 3))]) rfl ?_
  refine lv_aload_n hx hb dL_law_1250 rfl (lv_at hl 3 rfl) ?_
  refine lv_iload_n hx hb dL_law_1251 rfl (lv_at hl 0 rfl) ?_
  refine lv_iconst (v := 2) hx hb dL_law_1252 (by decide) ?_
  refine lv_iadd hx hb dL_law_1253 ?_
  refine lv_topi (fun z_7 ez_7 => ?_)
  obtain rfl : z_7 = 2 := ez_7.trans (by decide)
  refine va_sld hx hb hX hbl hbA hS (by unfold vp_in; decide) dL_law_1254 ?_
  refine W.eq (g2 := F0 m 1255 ls [.int (xs 2), .int (xs 1), .ref q2, .int (sp_pour (xs 1) (xs 2) (xs 3))]) rfl ?_
  refine lv_aload_n hx hb dL_law_1255 rfl (lv_at hl 3 rfl) ?_
  refine lv_iload_n hx hb dL_law_1256 rfl (lv_at hl 0 rfl) ?_
  refine lv_iconst (v := 3) hx hb dL_law_1257 (by decide) ?_
  refine lv_iadd hx hb dL_law_1258 ?_
  refine lv_topi (fun z_8 ez_8 => ?_)
  obtain rfl : z_8 = 3 := ez_8.trans (by decide)
  refine va_sld hx hb hX hbl hbA hS (by unfold vp_in; decide) dL_law_1259 ?_
  refine W.eq (g2 := F0 m 1260 ls [.int (xs 3), .int (xs 2), .int (xs 1), .ref q2, .int (sp_pour (xs 1) (xs 2) (xs 3))]) rfl ?_
  have hFc := va_free (wc := [(q2, .inr (10, [.int 0, .int 1, .int 1, .int 1, .int 2, .int 1, .int 1, .int 0, .ref (v 8), .ref (v 9), .ref (v 10), .ref (v 11), .ref (v 12), .ref (v 13), .int 0, .long 0, .long 0, .ref (v 17), .ref (v 18), .ref (v 19), .ref (v 20), .ref (v 21), .ref (v 22), .ref (v 23), .int 0, .ref (v 25), .int 0, .ref (v 27), .int 0, .int 0, .int 0, .int 0, .int 0, .int 0, .ref (v 34), .ref (v 35), .ref (v 36), .ref (v 37), .ref (v 38), .ref (v 39), .ref (v 40), .int 0, .ref (v 42), .int 0, .int 0])), ((v 12), .inl (T 0, 36, .inl (fun _ => 0))), ((v 13), .inl (T 0, 3, .inl (fun _ => 0)))]) hD hS hA [0, 1, 2] rfl
  refine va_calli (va_runV (As := [.int (xs 1), .int (xs 2), .int (xs 3)]) (rest := [.int (sp_pour (xs 1) (xs 2) (xs 3))]) ⟨hx, hb, hml, hown, hts⟩ (f_X13_pour l D T _ q2 [.int 0, .int 1, .int 1, .int 1, .int 2, .int 1, .int 1, .int 0, .ref (v 8), .ref (v 9), .ref (v 10), .ref (v 11), .ref (v 12), .ref (v 13), .int 0, .long 0, .long 0, .ref (v 17), .ref (v 18), .ref (v 19), .ref (v 20), .ref (v 21), .ref (v 22), .ref (v 23), .int 0, .ref (v 25), .int 0, .ref (v 27), .int 0, .int 0, .int 0, .int 0, .int 0, .int 0, .ref (v 34), .ref (v 35), .ref (v 36), .ref (v 37), .ref (v 38), .ref (v 39), .ref (v 40), .int 0, .ref (v 42), .int 0, .int 0] (v 12) (fun _ => 0) (v 13) (fun _ => 0) (xs 1) (xs 2) (xs 3) rfl rfl rfl rfl rfl rfl rfl) (cwV 3 hts lg_X13_pour rfl rfl rfl (by decide +kernel) ⟨Nat.le_of_ble_eq_true rfl, Nat.le_of_ble_eq_true rfl⟩) (pW_V (ci := 10) (q0 := 0) hP hE hD rfl rfl [0, 1, 2] (by decide) rfl rfl) rfl rfl hl.1 rfl (lv_room (Nat.le_of_ble_eq_true rfl)) dL_law_1260 ⟨Nat.le_of_ble_eq_true rfl, Nat.le_of_ble_eq_true rfl⟩) hS (fun q _ h => hFc q h) hFc (fun r_9 u_10 t H1 locs ht hvm hr_9 hB hz1 hk1 hS => ?_)
  obtain ⟨hP1, hD1⟩ := hB
  rw [ht] at hP1
  obtain ⟨hP, hD⟩ := va_join (wr := []) (w1 := []) hP hD [0, 1, 2] [] rfl rfl (by decide) (by decide) hk1 hFc hP1 hD1
  clear hP1 hD1 hFc
  generalize H1 = H at hP hS ⊢
  have hP : va_P D vwCl [] H := hP
  have hD : va_D A [] := hD
  obtain rfl : (sp_pour (xs 1) (xs 2) (xs 3)) = r_9 := (hr_9).symm
  refine lv_icmp_eq (tgt := 1874) hx hb dL_law_1263 (by decide) (fun _ => ?_) (fun c9 => absurd rfl c9)
  exact law_tail C0 hAf hbA hS hl
