theorem dL_law_810 : decode cL_law 810 = .ok (.aload_n 1, 1) := by decide +kernel
theorem dL_law_811 : decode cL_law 811 = .ok (.aload_n 0, 1) := by decide +kernel
theorem dL_law_812 : decode cL_law 812 = .ok (.iload_n 3, 1) := by decide +kernel
theorem dL_law_813 : decode cL_law 813 = .ok (.iconst 1, 1) := by decide +kernel
theorem dL_law_814 : decode cL_law 814 = .ok (.iadd, 1) := by decide +kernel
theorem dL_law_815 : decode cL_law 815 = .ok (.iaload, 1) := by decide +kernel
theorem dL_law_816 : decode cL_law 816 = .ok (.aload_n 0, 1) := by decide +kernel
theorem dL_law_817 : decode cL_law 817 = .ok (.iload_n 3, 1) := by decide +kernel
theorem dL_law_818 : decode cL_law 818 = .ok (.iconst 2, 1) := by decide +kernel
theorem dL_law_819 : decode cL_law 819 = .ok (.iadd, 1) := by decide +kernel
theorem dL_law_820 : decode cL_law 820 = .ok (.iaload, 1) := by decide +kernel
theorem dL_law_821 : decode cL_law 821 = .ok (.invokevirtual 78, 3) := by decide +kernel
theorem dL_law_824 : decode cL_law 824 = .ok (.aload_n 2, 1) := by decide +kernel
theorem dL_law_825 : decode cL_law 825 = .ok (.aload_n 0, 1) := by decide +kernel
theorem dL_law_826 : decode cL_law 826 = .ok (.iload_n 3, 1) := by decide +kernel
theorem dL_law_827 : decode cL_law 827 = .ok (.iconst 1, 1) := by decide +kernel
theorem dL_law_828 : decode cL_law 828 = .ok (.iadd, 1) := by decide +kernel
theorem dL_law_829 : decode cL_law 829 = .ok (.iaload, 1) := by decide +kernel
theorem dL_law_830 : decode cL_law 830 = .ok (.aload_n 0, 1) := by decide +kernel
theorem dL_law_831 : decode cL_law 831 = .ok (.iload_n 3, 1) := by decide +kernel
theorem dL_law_832 : decode cL_law 832 = .ok (.iconst 2, 1) := by decide +kernel
theorem dL_law_833 : decode cL_law 833 = .ok (.iadd, 1) := by decide +kernel
theorem dL_law_834 : decode cL_law 834 = .ok (.iaload, 1) := by decide +kernel
theorem dL_law_835 : decode cL_law 835 = .ok (.invokevirtual 81, 3) := by decide +kernel
theorem dL_law_838 : decode cL_law 838 = .ok (.if_icmp .eq 1036, 3) := by decide +kernel
set_option maxRecDepth 40000 in
theorem lg_X12_unlike : GoodIn lw_tbl (wsV RL 78 RX12 yX12_unlike wsX12_unlike) := goodIn_app (gl_cons ⟨lwt_2 _ (List.mem_of_getElem? (i := 106) (by decide +kernel)), by decide +kernel⟩ (gl_cons ⟨lwt_2 _ (List.mem_of_getElem? (i := 107) (by decide +kernel)), by decide +kernel⟩ (gl_cons ⟨lwt_2 _ (List.mem_of_getElem? (i := 108) (by decide +kernel)), by decide +kernel⟩ (gl_cons ⟨lwt_0 _ (List.mem_of_getElem? (i := 1) (by decide +kernel)), by decide +kernel⟩ gl_nil)))) lgg_X12_unlike
set_option maxRecDepth 40000 in
theorem lg_X13_unlike : GoodIn lw_tbl (wsV RL 81 RX13 yX13_unlike wsX13_unlike) := goodIn_app (gl_cons ⟨lwt_5 _ (List.mem_of_getElem? (i := 78) (by decide +kernel)), by decide +kernel⟩ (gl_cons ⟨lwt_5 _ (List.mem_of_getElem? (i := 79) (by decide +kernel)), by decide +kernel⟩ (gl_cons ⟨lwt_5 _ (List.mem_of_getElem? (i := 80) (by decide +kernel)), by decide +kernel⟩ (gl_cons ⟨lwt_0 _ (List.mem_of_getElem? (i := 11) (by decide +kernel)), by decide +kernel⟩ gl_nil)))) lgg_X13_unlike
set_option maxHeartbeats 4000000 in
set_option maxRecDepth 100000 in
theorem law_c15 {p : Program} {e : Env} {s : State} {m : MethodId} {below : List Frame} {meth : Method} {c : Code} {l : Launch} {b : Nat} {xs : Nat → Int32} (C0 : lw_At p s m meth c b 7 xs) {D : va_G} {T : Nat → ClassId} {ad sa av : Nat → Nat} {ta : Nat} {A : Nat → Prop} (hA : ∀ q : Nat, s.heap.size ≤ q → A q) (hAf : ∀ q : Nat, A q → s.heap.size ≤ q) (hbA : ¬ A b) (hE : ekK D T s) (hV : evK ad sa av ta A s s.heap) {q1 q2 : Nat} {u v : Nat → Nat} {H : Heap} {locs : List Loc} (hP : va_P D vwCl (lwW T sa q1 q2 u v) H) (hD : va_D A (lwW T sa q1 q2 u v)) (hS : va_S A s.heap H locs) {ls : Array Slot} (hl : lv_has ls 4 [(3, .int 0), (2, .ref q2), (1, .ref q1), (0, .ref b)]) : W p l e room_1 s m #[Value.ref b] below meth c H locs 95 6031 (lw_Z below #[Value.ref b] s) (F0 m 810 ls []) := by
  obtain ⟨hx, hb, hr, hml, hown, hts, hX, hbl, hlocks, hgv⟩ := id C0
  have hown : s.vm.findClass RL = some m.cls := hown
  have hP : va_P D vwCl [(q1, .inr (9, [.ref (u 0), .ref (u 1), .int 0, .ref (u 2), .ref (u 3), .ref (u 11), .ref (u 34), .ref (u 38), .ref (u 39), .ref (u 43), .ref (u 64)])), ((u 3), .inr (1, [.int 0, .ref (u 4), .ref (u 5), .ref (u 6), .ref (u 7), .ref (u 8), .ref (u 9), .ref (u 10)])), (q2, .inr (10, [.int 0, .int 1, .int 1, .int 1, .int 2, .int 1, .int 1, .int 0, .ref (v 8), .ref (v 9), .ref (v 10), .ref (v 11), .ref (v 12), .ref (v 13), .int 0, .long 0, .long 0, .ref (v 17), .ref (v 18), .ref (v 19), .ref (v 20), .ref (v 21), .ref (v 22), .ref (v 23), .int 0, .ref (v 25), .int 0, .ref (v 27), .int 0, .int 0, .int 0, .int 0, .int 0, .int 0, .ref (v 34), .ref (v 35), .ref (v 36), .ref (v 37), .ref (v 38), .ref (v 39), .ref (v 40), .int 0, .ref (v 42), .int 0, .int 0]))] H := hP.sub [0, 3, 66] rfl
  have hD : va_D A [(q1, .inr (9, [.ref (u 0), .ref (u 1), .int 0, .ref (u 2), .ref (u 3), .ref (u 11), .ref (u 34), .ref (u 38), .ref (u 39), .ref (u 43), .ref (u 64)])), ((u 3), .inr (1, [.int 0, .ref (u 4), .ref (u 5), .ref (u 6), .ref (u 7), .ref (u 8), .ref (u 9), .ref (u 10)])), (q2, .inr (10, [.int 0, .int 1, .int 1, .int 1, .int 2, .int 1, .int 1, .int 0, .ref (v 8), .ref (v 9), .ref (v 10), .ref (v 11), .ref (v 12), .ref (v 13), .int 0, .long 0, .long 0, .ref (v 17), .ref (v 18), .ref (v 19), .ref (v 20), .ref (v 21), .ref (v 22), .ref (v 23), .int 0, .ref (v 25), .int 0, .ref (v 27), .int 0, .int 0, .int 0, .int 0, .int 0, .int 0, .ref (v 34), .ref (v 35), .ref (v 36), .ref (v 37), .ref (v 38), .ref (v 39), .ref (v 40), .int 0, .ref (v 42), .int 0, .int 0]))] := hD.sub [0, 3, 66] (by decide) rfl
  refine lv_aload_n hx hb dL_law_810 rfl (lv_at hl 2 rfl) ?_
  refine lv_aload_n hx hb dL_law_811 rfl (lv_at hl 3 rfl) ?_
  refine lv_iload_n hx hb dL_law_812 rfl (lv_at hl 0 rfl) ?_
  refine lv_iconst (v := 1) hx hb dL_law_813 (by decide) ?_
  refine lv_iadd hx hb dL_law_814 ?_
  refine lv_topi (fun z_1 ez_1 => ?_)
  obtain rfl : z_1 = 1 := ez_1.trans (by decide)
  refine va_sld hx hb hX hbl hbA hS (by unfold vp_in; decide) dL_law_815 ?_
  refine W.eq (g2 := F0 m 816 ls [.int (xs 1), .ref q1]) rfl ?_
  refine lv_aload_n hx hb dL_law_816 rfl (lv_at hl 3 rfl) ?_
  refine lv_iload_n hx hb dL_law_817 rfl (lv_at hl 0 rfl) ?_
  refine lv_iconst (v := 2) hx hb dL_law_818 (by decide) ?_
  refine lv_iadd hx hb dL_law_819 ?_
  refine lv_topi (fun z_2 ez_2 => ?_)
  obtain rfl : z_2 = 2 := ez_2.trans (by decide)
  refine va_sld hx hb hX hbl hbA hS (by unfold vp_in; decide) dL_law_820 ?_
  refine W.eq (g2 := F0 m 821 ls [.int (xs 2), .int (xs 1), .ref q1]) rfl ?_
  refine vp_callSi (W.runV (As := [.int (xs 1), .int (xs 2)]) (rest := []) ⟨hx, hb, hml, hown, hts⟩ (f_X12_unlike l D T q1 [.ref (u 0), .ref (u 1), .int 0, .ref (u 2), .ref (u 3), .ref (u 11), .ref (u 34), .ref (u 38), .ref (u 39), .ref (u 43), .ref (u 64)] (u 3) [.int 0, .ref (u 4), .ref (u 5), .ref (u 6), .ref (u 7), .ref (u 8), .ref (u 9), .ref (u 10)] (xs 1) (xs 2) rfl rfl) (cwV 2 hts lg_X12_unlike rfl rfl rfl (by decide +kernel) ⟨Nat.le_of_ble_eq_true rfl, Nat.le_of_ble_eq_true rfl⟩) (pR_V (ci := 9) (q0 := 0) hP hE rfl rfl [0, 1] rfl) rfl rfl hl.1 rfl (lv_room (Nat.le_of_ble_eq_true rfl)) dL_law_821 ⟨Nat.le_of_ble_eq_true rfl, Nat.le_of_ble_eq_true rfl⟩) (fun r_3 hr_3 => ?_)
  obtain rfl : r_3 = (-2) := hr_3
  refine lv_aload_n hx hb dL_law_824 rfl (lv_at hl 1 rfl) ?_
  refine lv_aload_n hx hb dL_law_825 rfl (lv_at hl 3 rfl) ?_
  refine lv_iload_n hx hb dL_law_826 rfl (lv_at hl 0 rfl) ?_
  refine lv_iconst (v := 1) hx hb dL_law_827 (by decide) ?_
  refine lv_iadd hx hb dL_law_828 ?_
  refine lv_topi (fun z_4 ez_4 => ?_)
  obtain rfl : z_4 = 1 := ez_4.trans (by decide)
  refine va_sld hx hb hX hbl hbA hS (by unfold vp_in; decide) dL_law_829 ?_
  refine W.eq (g2 := F0 m 830 ls [.int (xs 1), .ref q2, .int (-2)]) rfl ?_
  refine lv_aload_n hx hb dL_law_830 rfl (lv_at hl 3 rfl) ?_
  refine lv_iload_n hx hb dL_law_831 rfl (lv_at hl 0 rfl) ?_
  refine lv_iconst (v := 2) hx hb dL_law_832 (by decide) ?_
  refine lv_iadd hx hb dL_law_833 ?_
  refine lv_topi (fun z_5 ez_5 => ?_)
  obtain rfl : z_5 = 2 := ez_5.trans (by decide)
  refine va_sld hx hb hX hbl hbA hS (by unfold vp_in; decide) dL_law_834 ?_
  refine W.eq (g2 := F0 m 835 ls [.int (xs 2), .int (xs 1), .ref q2, .int (-2)]) rfl ?_
  refine vp_callSi (W.runV (As := [.int (xs 1), .int (xs 2)]) (rest := [.int (-2)]) ⟨hx, hb, hml, hown, hts⟩ (f_X13_unlike l D T q2 [.int 0, .int 1, .int 1, .int 1, .int 2, .int 1, .int 1, .int 0, .ref (v 8), .ref (v 9), .ref (v 10), .ref (v 11), .ref (v 12), .ref (v 13), .int 0, .long 0, .long 0, .ref (v 17), .ref (v 18), .ref (v 19), .ref (v 20), .ref (v 21), .ref (v 22), .ref (v 23), .int 0, .ref (v 25), .int 0, .ref (v 27), .int 0, .int 0, .int 0, .int 0, .int 0, .int 0, .ref (v 34), .ref (v 35), .ref (v 36), .ref (v 37), .ref (v 38), .ref (v 39), .ref (v 40), .int 0, .ref (v 42), .int 0, .int 0] (xs 1) (xs 2) rfl) (cwV 2 hts lg_X13_unlike rfl rfl rfl (by decide +kernel) ⟨Nat.le_of_ble_eq_true rfl, Nat.le_of_ble_eq_true rfl⟩) (pR_V (ci := 10) (q0 := 2) hP hE rfl rfl [2] rfl) rfl rfl hl.1 rfl (lv_room (Nat.le_of_ble_eq_true rfl)) dL_law_835 ⟨Nat.le_of_ble_eq_true rfl, Nat.le_of_ble_eq_true rfl⟩) (fun r_6 hr_6 => ?_)
  obtain rfl : r_6 = (-2) := hr_6
  refine lv_icmp_eq (tgt := 1874) hx hb dL_law_838 (by decide) (fun _ => ?_) (fun c9 => absurd c9 (by decide))
  exact law_tail C0 hAf hbA hS hl
theorem dL_law_843 : decode cL_law 843 = .ok (.aload_n 1, 1) := by decide +kernel
theorem dL_law_844 : decode cL_law 844 = .ok (.aload_n 0, 1) := by decide +kernel
theorem dL_law_845 : decode cL_law 845 = .ok (.iload_n 3, 1) := by decide +kernel
theorem dL_law_846 : decode cL_law 846 = .ok (.iconst 1, 1) := by decide +kernel
theorem dL_law_847 : decode cL_law 847 = .ok (.iadd, 1) := by decide +kernel
theorem dL_law_848 : decode cL_law 848 = .ok (.iaload, 1) := by decide +kernel
theorem dL_law_849 : decode cL_law 849 = .ok (.aload_n 0, 1) := by decide +kernel
theorem dL_law_850 : decode cL_law 850 = .ok (.iload_n 3, 1) := by decide +kernel
theorem dL_law_851 : decode cL_law 851 = .ok (.iconst 2, 1) := by decide +kernel
theorem dL_law_852 : decode cL_law 852 = .ok (.iadd, 1) := by decide +kernel
theorem dL_law_853 : decode cL_law 853 = .ok (.iaload, 1) := by decide +kernel
theorem dL_law_854 : decode cL_law 854 = .ok (.invokevirtual 82, 3) := by decide +kernel
theorem dL_law_857 : decode cL_law 857 = .ok (.aload_n 2, 1) := by decide +kernel
theorem dL_law_858 : decode cL_law 858 = .ok (.aload_n 0, 1) := by decide +kernel
theorem dL_law_859 : decode cL_law 859 = .ok (.iload_n 3, 1) := by decide +kernel
theorem dL_law_860 : decode cL_law 860 = .ok (.iconst 1, 1) := by decide +kernel
theorem dL_law_861 : decode cL_law 861 = .ok (.iadd, 1) := by decide +kernel
theorem dL_law_862 : decode cL_law 862 = .ok (.iaload, 1) := by decide +kernel
theorem dL_law_863 : decode cL_law 863 = .ok (.aload_n 0, 1) := by decide +kernel
theorem dL_law_864 : decode cL_law 864 = .ok (.iload_n 3, 1) := by decide +kernel
theorem dL_law_865 : decode cL_law 865 = .ok (.iconst 2, 1) := by decide +kernel
theorem dL_law_866 : decode cL_law 866 = .ok (.iadd, 1) := by decide +kernel
theorem dL_law_867 : decode cL_law 867 = .ok (.iaload, 1) := by decide +kernel
theorem dL_law_868 : decode cL_law 868 = .ok (.invokevirtual 85, 3) := by decide +kernel
theorem dL_law_871 : decode cL_law 871 = .ok (.if_icmp .eq 1003, 3) := by decide +kernel
set_option maxRecDepth 40000 in
theorem lg_X12_most : GoodIn lw_tbl (wsV RL 82 RX12 yX12_most wsX12_most) := goodIn_app (gl_cons ⟨lwt_2 _ (List.mem_of_getElem? (i := 110) (by decide +kernel)), by decide +kernel⟩ (gl_cons ⟨lwt_2 _ (List.mem_of_getElem? (i := 111) (by decide +kernel)), by decide +kernel⟩ (gl_cons ⟨lwt_2 _ (List.mem_of_getElem? (i := 112) (by decide +kernel)), by decide +kernel⟩ (gl_cons ⟨lwt_0 _ (List.mem_of_getElem? (i := 1) (by decide +kernel)), by decide +kernel⟩ gl_nil)))) lgg_X12_most
set_option maxRecDepth 40000 in
theorem lg_X13_most : GoodIn lw_tbl (wsV RL 85 RX13 yX13_most wsX13_most) := goodIn_app (gl_cons ⟨lwt_5 _ (List.mem_of_getElem? (i := 82) (by decide +kernel)), by decide +kernel⟩ (gl_cons ⟨lwt_5 _ (List.mem_of_getElem? (i := 83) (by decide +kernel)), by decide +kernel⟩ (gl_cons ⟨lwt_5 _ (List.mem_of_getElem? (i := 84) (by decide +kernel)), by decide +kernel⟩ (gl_cons ⟨lwt_0 _ (List.mem_of_getElem? (i := 11) (by decide +kernel)), by decide +kernel⟩ gl_nil)))) lgg_X13_most
set_option maxHeartbeats 4000000 in
set_option maxRecDepth 100000 in
theorem law_c16 {p : Program} {e : Env} {s : State} {m : MethodId} {below : List Frame} {meth : Method} {c : Code} {l : Launch} {b : Nat} {xs : Nat → Int32} (C0 : lw_At p s m meth c b 7 xs) {D : va_G} {T : Nat → ClassId} {ad sa av : Nat → Nat} {ta : Nat} {A : Nat → Prop} (hA : ∀ q : Nat, s.heap.size ≤ q → A q) (hAf : ∀ q : Nat, A q → s.heap.size ≤ q) (hbA : ¬ A b) (hE : ekK D T s) (hV : evK ad sa av ta A s s.heap) {q1 q2 : Nat} {u v : Nat → Nat} {H : Heap} {locs : List Loc} (hP : va_P D vwCl (lwW T sa q1 q2 u v) H) (hD : va_D A (lwW T sa q1 q2 u v)) (hS : va_S A s.heap H locs) {ls : Array Slot} (hl : lv_has ls 4 [(3, .int 0), (2, .ref q2), (1, .ref q1), (0, .ref b)]) : W p l e room_1 s m #[Value.ref b] below meth c H locs 95 6031 (lw_Z below #[Value.ref b] s) (F0 m 843 ls []) := by
  obtain ⟨hx, hb, hr, hml, hown, hts, hX, hbl, hlocks, hgv⟩ := id C0
  have hown : s.vm.findClass RL = some m.cls := hown
  have hP : va_P D vwCl [(q1, .inr (9, [.ref (u 0), .ref (u 1), .int 0, .ref (u 2), .ref (u 3), .ref (u 11), .ref (u 34), .ref (u 38), .ref (u 39), .ref (u 43), .ref (u 64)])), ((u 3), .inr (1, [.int 0, .ref (u 4), .ref (u 5), .ref (u 6), .ref (u 7), .ref (u 8), .ref (u 9), .ref (u 10)])), (q2, .inr (10, [.int 0, .int 1, .int 1, .int 1, .int 2, .int 1, .int 1, .int 0, .ref (v 8), .ref (v 9), .ref (v 10), .ref (v 11), .ref (v 12), .ref (v 13), .int 0, .long 0, .long 0, .ref (v 17), .ref (v 18), .ref (v 19), .ref (v 20), .ref (v 21), .ref (v 22), .ref (v 23), .int 0, .ref (v 25), .int 0, .ref (v 27), .int 0, .int 0, .int 0, .int 0, .int 0, .int 0, .ref (v 34), .ref (v 35), .ref (v 36), .ref (v 37), .ref (v 38), .ref (v 39), .ref (v 40), .int 0, .ref (v 42), .int 0, .int 0]))] H := hP.sub [0, 3, 66] rfl
  have hD : va_D A [(q1, .inr (9, [.ref (u 0), .ref (u 1), .int 0, .ref (u 2), .ref (u 3), .ref (u 11), .ref (u 34), .ref (u 38), .ref (u 39), .ref (u 43), .ref (u 64)])), ((u 3), .inr (1, [.int 0, .ref (u 4), .ref (u 5), .ref (u 6), .ref (u 7), .ref (u 8), .ref (u 9), .ref (u 10)])), (q2, .inr (10, [.int 0, .int 1, .int 1, .int 1, .int 2, .int 1, .int 1, .int 0, .ref (v 8), .ref (v 9), .ref (v 10), .ref (v 11), .ref (v 12), .ref (v 13), .int 0, .long 0, .long 0, .ref (v 17), .ref (v 18), .ref (v 19), .ref (v 20), .ref (v 21), .ref (v 22), .ref (v 23), .int 0, .ref (v 25), .int 0, .ref (v 27), .int 0, .int 0, .int 0, .int 0, .int 0, .int 0, .ref (v 34), .ref (v 35), .ref (v 36), .ref (v 37), .ref (v 38), .ref (v 39), .ref (v 40), .int 0, .ref (v 42), .int 0, .int 0]))] := hD.sub [0, 3, 66] (by decide) rfl
  refine lv_aload_n hx hb dL_law_843 rfl (lv_at hl 2 rfl) ?_
  refine lv_aload_n hx hb dL_law_844 rfl (lv_at hl 3 rfl) ?_
  refine lv_iload_n hx hb dL_law_845 rfl (lv_at hl 0 rfl) ?_
  refine lv_iconst (v := 1) hx hb dL_law_846 (by decide) ?_
  refine lv_iadd hx hb dL_law_847 ?_
  refine lv_topi (fun z_1 ez_1 => ?_)
  obtain rfl : z_1 = 1 := ez_1.trans (by decide)
  refine va_sld hx hb hX hbl hbA hS (by unfold vp_in; decide) dL_law_848 ?_
  refine W.eq (g2 := F0 m 849 ls [.int (xs 1), .ref q1]) rfl ?_
  refine lv_aload_n hx hb dL_law_849 rfl (lv_at hl 3 rfl) ?_
  refine lv_iload_n hx hb dL_law_850 rfl (lv_at hl 0 rfl) ?_
  refine lv_iconst (v := 2) hx hb dL_law_851 (by decide) ?_
  refine lv_iadd hx hb dL_law_852 ?_
  refine lv_topi (fun z_2 ez_2 => ?_)
  obtain rfl : z_2 = 2 := ez_2.trans (by decide)
  refine va_sld hx hb hX hbl hbA hS (by unfold vp_in; decide) dL_law_853 ?_
  refine W.eq (g2 := F0 m 854 ls [.int (xs 2), .int (xs 1), .ref q1]) rfl ?_
  refine vp_callSi (W.runV (As := [.int (xs 1), .int (xs 2)]) (rest := []) ⟨hx, hb, hml, hown, hts⟩ (f_X12_most l D T q1 [.ref (u 0), .ref (u 1), .int 0, .ref (u 2), .ref (u 3), .ref (u 11), .ref (u 34), .ref (u 38), .ref (u 39), .ref (u 43), .ref (u 64)] (u 3) [.int 0, .ref (u 4), .ref (u 5), .ref (u 6), .ref (u 7), .ref (u 8), .ref (u 9), .ref (u 10)] (xs 1) (xs 2) rfl rfl) (cwV 2 hts lg_X12_most rfl rfl rfl (by decide +kernel) ⟨Nat.le_of_ble_eq_true rfl, Nat.le_of_ble_eq_true rfl⟩) (pR_V (ci := 9) (q0 := 0) hP hE rfl rfl [0, 1] rfl) rfl rfl hl.1 rfl (lv_room (Nat.le_of_ble_eq_true rfl)) dL_law_854 ⟨Nat.le_of_ble_eq_true rfl, Nat.le_of_ble_eq_true rfl⟩) (fun r_3 hr_3 => ?_)
  obtain rfl : r_3 = (-2) := hr_3
  refine lv_aload_n hx hb dL_law_857 rfl (lv_at hl 1 rfl) ?_
  refine lv_aload_n hx hb dL_law_858 rfl (lv_at hl 3 rfl) ?_
  refine lv_iload_n hx hb dL_law_859 rfl (lv_at hl 0 rfl) ?_
  refine lv_iconst (v := 1) hx hb dL_law_860 (by decide) ?_
  refine lv_iadd hx hb dL_law_861 ?_
  refine lv_topi (fun z_4 ez_4 => ?_)
  obtain rfl : z_4 = 1 := ez_4.trans (by decide)
  refine va_sld hx hb hX hbl hbA hS (by unfold vp_in; decide) dL_law_862 ?_
  refine W.eq (g2 := F0 m 863 ls [.int (xs 1), .ref q2, .int (-2)]) rfl ?_
  refine lv_aload_n hx hb dL_law_863 rfl (lv_at hl 3 rfl) ?_
  refine lv_iload_n hx hb dL_law_864 rfl (lv_at hl 0 rfl) ?_
  refine lv_iconst (v := 2) hx hb dL_law_865 (by decide) ?_
  refine lv_iadd hx hb dL_law_866 ?_
  refine lv_topi (fun z_5 ez_5 => ?_)
  obtain rfl : z_5 = 2 := ez_5.trans (by decide)
  refine va_sld hx hb hX hbl hbA hS (by unfold vp_in; decide) dL_law_867 ?_
  refine W.eq (g2 := F0 m 868 ls [.int (xs 2), .int (xs 1), .ref q2, .int (-2)]) rfl ?_
  refine vp_callSi (W.runV (As := [.int (xs 1), .int (xs 2)]) (rest := [.int (-2)]) ⟨hx, hb, hml, hown, hts⟩ (f_X13_most l D T q2 [.int 0, .int 1, .int 1, .int 1, .int 2, .int 1, .int 1, .int 0, .ref (v 8), .ref (v 9), .ref (v 10), .ref (v 11), .ref (v 12), .ref (v 13), .int 0, .long 0, .long 0, .ref (v 17), .ref (v 18), .ref (v 19), .ref (v 20), .ref (v 21), .ref (v 22), .ref (v 23), .int 0, .ref (v 25), .int 0, .ref (v 27), .int 0, .int 0, .int 0, .int 0, .int 0, .int 0, .ref (v 34), .ref (v 35), .ref (v 36), .ref (v 37), .ref (v 38), .ref (v 39), .ref (v 40), .int 0, .ref (v 42), .int 0, .int 0] (xs 1) (xs 2) rfl) (cwV 2 hts lg_X13_most rfl rfl rfl (by decide +kernel) ⟨Nat.le_of_ble_eq_true rfl, Nat.le_of_ble_eq_true rfl⟩) (pR_V (ci := 10) (q0 := 2) hP hE rfl rfl [2] rfl) rfl rfl hl.1 rfl (lv_room (Nat.le_of_ble_eq_true rfl)) dL_law_868 ⟨Nat.le_of_ble_eq_true rfl, Nat.le_of_ble_eq_true rfl⟩) (fun r_6 hr_6 => ?_)
  obtain rfl : r_6 = (-2) := hr_6
  refine lv_icmp_eq (tgt := 1874) hx hb dL_law_871 (by decide) (fun _ => ?_) (fun c9 => absurd c9 (by decide))
  exact law_tail C0 hAf hbA hS hl
theorem dL_law_876 : decode cL_law 876 = .ok (.aload_n 1, 1) := by decide +kernel
theorem dL_law_877 : decode cL_law 877 = .ok (.aload_n 0, 1) := by decide +kernel
theorem dL_law_878 : decode cL_law 878 = .ok (.iload_n 3, 1) := by decide +kernel
theorem dL_law_879 : decode cL_law 879 = .ok (.iconst 1, 1) := by decide +kernel
theorem dL_law_880 : decode cL_law 880 = .ok (.iadd, 1) := by decide +kernel
theorem dL_law_881 : decode cL_law 881 = .ok (.iaload, 1) := by decide +kernel
theorem dL_law_882 : decode cL_law 882 = .ok (.aload_n 0, 1) := by decide +kernel
theorem dL_law_883 : decode cL_law 883 = .ok (.iload_n 3, 1) := by decide +kernel
theorem dL_law_884 : decode cL_law 884 = .ok (.iconst 2, 1) := by decide +kernel
theorem dL_law_885 : decode cL_law 885 = .ok (.iadd, 1) := by decide +kernel
theorem dL_law_886 : decode cL_law 886 = .ok (.iaload, 1) := by decide +kernel
theorem dL_law_887 : decode cL_law 887 = .ok (.aload_n 0, 1) := by decide +kernel
theorem dL_law_888 : decode cL_law 888 = .ok (.iload_n 3, 1) := by decide +kernel
theorem dL_law_889 : decode cL_law 889 = .ok (.iconst 3, 1) := by decide +kernel
theorem dL_law_890 : decode cL_law 890 = .ok (.iadd, 1) := by decide +kernel
theorem dL_law_891 : decode cL_law 891 = .ok (.iaload, 1) := by decide +kernel
theorem dL_law_892 : decode cL_law 892 = .ok (.aload_n 0, 1) := by decide +kernel
theorem dL_law_893 : decode cL_law 893 = .ok (.iload_n 3, 1) := by decide +kernel
theorem dL_law_894 : decode cL_law 894 = .ok (.iconst 4, 1) := by decide +kernel
theorem dL_law_895 : decode cL_law 895 = .ok (.iadd, 1) := by decide +kernel
theorem dL_law_896 : decode cL_law 896 = .ok (.iaload, 1) := by decide +kernel
theorem dL_law_897 : decode cL_law 897 = .ok (.invokevirtual 86, 3) := by decide +kernel
theorem dL_law_900 : decode cL_law 900 = .ok (.aload_n 2, 1) := by decide +kernel
theorem dL_law_901 : decode cL_law 901 = .ok (.aload_n 0, 1) := by decide +kernel
theorem dL_law_902 : decode cL_law 902 = .ok (.iload_n 3, 1) := by decide +kernel
theorem dL_law_903 : decode cL_law 903 = .ok (.iconst 1, 1) := by decide +kernel
theorem dL_law_904 : decode cL_law 904 = .ok (.iadd, 1) := by decide +kernel
theorem dL_law_905 : decode cL_law 905 = .ok (.iaload, 1) := by decide +kernel
theorem dL_law_906 : decode cL_law 906 = .ok (.aload_n 0, 1) := by decide +kernel
theorem dL_law_907 : decode cL_law 907 = .ok (.iload_n 3, 1) := by decide +kernel
theorem dL_law_908 : decode cL_law 908 = .ok (.iconst 2, 1) := by decide +kernel
theorem dL_law_909 : decode cL_law 909 = .ok (.iadd, 1) := by decide +kernel
theorem dL_law_910 : decode cL_law 910 = .ok (.iaload, 1) := by decide +kernel
theorem dL_law_911 : decode cL_law 911 = .ok (.aload_n 0, 1) := by decide +kernel
theorem dL_law_912 : decode cL_law 912 = .ok (.iload_n 3, 1) := by decide +kernel
theorem dL_law_913 : decode cL_law 913 = .ok (.iconst 3, 1) := by decide +kernel
theorem dL_law_914 : decode cL_law 914 = .ok (.iadd, 1) := by decide +kernel
theorem dL_law_915 : decode cL_law 915 = .ok (.iaload, 1) := by decide +kernel
theorem dL_law_916 : decode cL_law 916 = .ok (.aload_n 0, 1) := by decide +kernel
theorem dL_law_917 : decode cL_law 917 = .ok (.iload_n 3, 1) := by decide +kernel
theorem dL_law_918 : decode cL_law 918 = .ok (.iconst 4, 1) := by decide +kernel
theorem dL_law_919 : decode cL_law 919 = .ok (.iadd, 1) := by decide +kernel
theorem dL_law_920 : decode cL_law 920 = .ok (.iaload, 1) := by decide +kernel
theorem dL_law_921 : decode cL_law 921 = .ok (.invokevirtual 89, 3) := by decide +kernel
theorem dL_law_924 : decode cL_law 924 = .ok (.lcmp, 1) := by decide +kernel
theorem dL_law_925 : decode cL_law 925 = .ok (.ifCond .eq 949, 3) := by decide +kernel
set_option maxRecDepth 40000 in
theorem lg_X12_due : GoodIn lw_tbl (wsV RL 86 RX12 yX12_due wsX12_due) := goodIn_app (gl_cons ⟨lwt_2 _ (List.mem_of_getElem? (i := 114) (by decide +kernel)), by decide +kernel⟩ (gl_cons ⟨lwt_2 _ (List.mem_of_getElem? (i := 115) (by decide +kernel)), by decide +kernel⟩ (gl_cons ⟨lwt_2 _ (List.mem_of_getElem? (i := 116) (by decide +kernel)), by decide +kernel⟩ (gl_cons ⟨lwt_0 _ (List.mem_of_getElem? (i := 1) (by decide +kernel)), by decide +kernel⟩ gl_nil)))) lgg_X12_due
set_option maxRecDepth 40000 in
theorem lg_X13_due : GoodIn lw_tbl (wsV RL 89 RX13 yX13_due wsX13_due) := goodIn_app (gl_cons ⟨lwt_5 _ (List.mem_of_getElem? (i := 86) (by decide +kernel)), by decide +kernel⟩ (gl_cons ⟨lwt_5 _ (List.mem_of_getElem? (i := 87) (by decide +kernel)), by decide +kernel⟩ (gl_cons ⟨lwt_5 _ (List.mem_of_getElem? (i := 88) (by decide +kernel)), by decide +kernel⟩ (gl_cons ⟨lwt_0 _ (List.mem_of_getElem? (i := 11) (by decide +kernel)), by decide +kernel⟩ gl_nil)))) lgg_X13_due
set_option maxHeartbeats 4000000 in
set_option maxRecDepth 100000 in
theorem law_c17 {p : Program} {e : Env} {s : State} {m : MethodId} {below : List Frame} {meth : Method} {c : Code} {l : Launch} {b : Nat} {xs : Nat → Int32} (C0 : lw_At p s m meth c b 7 xs) {D : va_G} {T : Nat → ClassId} {ad sa av : Nat → Nat} {ta : Nat} {A : Nat → Prop} (hA : ∀ q : Nat, s.heap.size ≤ q → A q) (hAf : ∀ q : Nat, A q → s.heap.size ≤ q) (hbA : ¬ A b) (hE : ekK D T s) (hV : evK ad sa av ta A s s.heap) {q1 q2 : Nat} {u v : Nat → Nat} {H : Heap} {locs : List Loc} (hP : va_P D vwCl (lwW T sa q1 q2 u v) H) (hD : va_D A (lwW T sa q1 q2 u v)) (hS : va_S A s.heap H locs) {ls : Array Slot} (hl : lv_has ls 4 [(3, .int 0), (2, .ref q2), (1, .ref q1), (0, .ref b)]) : W p l e room_1 s m #[Value.ref b] below meth c H locs 95 6031 (lw_Z below #[Value.ref b] s) (F0 m 876 ls []) := by
  obtain ⟨hx, hb, hr, hml, hown, hts, hX, hbl, hlocks, hgv⟩ := id C0
  have hown : s.vm.findClass RL = some m.cls := hown
  have hP : va_P D vwCl [(q1, .inr (9, [.ref (u 0), .ref (u 1), .int 0, .ref (u 2), .ref (u 3), .ref (u 11), .ref (u 34), .ref (u 38), .ref (u 39), .ref (u 43), .ref (u 64)])), ((u 3), .inr (1, [.int 0, .ref (u 4), .ref (u 5), .ref (u 6), .ref (u 7), .ref (u 8), .ref (u 9), .ref (u 10)])), (q2, .inr (10, [.int 0, .int 1, .int 1, .int 1, .int 2, .int 1, .int 1, .int 0, .ref (v 8), .ref (v 9), .ref (v 10), .ref (v 11), .ref (v 12), .ref (v 13), .int 0, .long 0, .long 0, .ref (v 17), .ref (v 18), .ref (v 19), .ref (v 20), .ref (v 21), .ref (v 22), .ref (v 23), .int 0, .ref (v 25), .int 0, .ref (v 27), .int 0, .int 0, .int 0, .int 0, .int 0, .int 0, .ref (v 34), .ref (v 35), .ref (v 36), .ref (v 37), .ref (v 38), .ref (v 39), .ref (v 40), .int 0, .ref (v 42), .int 0, .int 0]))] H := hP.sub [0, 3, 66] rfl
  have hD : va_D A [(q1, .inr (9, [.ref (u 0), .ref (u 1), .int 0, .ref (u 2), .ref (u 3), .ref (u 11), .ref (u 34), .ref (u 38), .ref (u 39), .ref (u 43), .ref (u 64)])), ((u 3), .inr (1, [.int 0, .ref (u 4), .ref (u 5), .ref (u 6), .ref (u 7), .ref (u 8), .ref (u 9), .ref (u 10)])), (q2, .inr (10, [.int 0, .int 1, .int 1, .int 1, .int 2, .int 1, .int 1, .int 0, .ref (v 8), .ref (v 9), .ref (v 10), .ref (v 11), .ref (v 12), .ref (v 13), .int 0, .long 0, .long 0, .ref (v 17), .ref (v 18), .ref (v 19), .ref (v 20), .ref (v 21), .ref (v 22), .ref (v 23), .int 0, .ref (v 25), .int 0, .ref (v 27), .int 0, .int 0, .int 0, .int 0, .int 0, .int 0, .ref (v 34), .ref (v 35), .ref (v 36), .ref (v 37), .ref (v 38), .ref (v 39), .ref (v 40), .int 0, .ref (v 42), .int 0, .int 0]))] := hD.sub [0, 3, 66] (by decide) rfl
  refine lv_aload_n hx hb dL_law_876 rfl (lv_at hl 2 rfl) ?_
  refine lv_aload_n hx hb dL_law_877 rfl (lv_at hl 3 rfl) ?_
  refine lv_iload_n hx hb dL_law_878 rfl (lv_at hl 0 rfl) ?_
  refine lv_iconst (v := 1) hx hb dL_law_879 (by decide) ?_
  refine lv_iadd hx hb dL_law_880 ?_
  refine lv_topi (fun z_1 ez_1 => ?_)
  obtain rfl : z_1 = 1 := ez_1.trans (by decide)
  refine va_sld hx hb hX hbl hbA hS (by unfold vp_in; decide) dL_law_881 ?_
  refine W.eq (g2 := F0 m 882 ls [.int (xs 1), .ref q1]) rfl ?_
  refine lv_aload_n hx hb dL_law_882 rfl (lv_at hl 3 rfl) ?_
  refine lv_iload_n hx hb dL_law_883 rfl (lv_at hl 0 rfl) ?_
  refine lv_iconst (v := 2) hx hb dL_law_884 (by decide) ?_
  refine lv_iadd hx hb dL_law_885 ?_
  refine lv_topi (fun z_2 ez_2 => ?_)
  obtain rfl : z_2 = 2 := ez_2.trans (by decide)
  refine va_sld hx hb hX hbl hbA hS (by unfold vp_in; decide) dL_law_886 ?_
  refine W.eq (g2 := F0 m 887 ls [.int (xs 2), .int (xs 1), .ref q1]) rfl ?_
  refine lv_aload_n hx hb dL_law_887 rfl (lv_at hl 3 rfl) ?_
  refine lv_iload_n hx hb dL_law_888 rfl (lv_at hl 0 rfl) ?_
  refine lv_iconst (v := 3) hx hb dL_law_889 (by decide) ?_
  refine lv_iadd hx hb dL_law_890 ?_
  refine lv_topi (fun z_3 ez_3 => ?_)
  obtain rfl : z_3 = 3 := ez_3.trans (by decide)
  refine va_sld hx hb hX hbl hbA hS (by unfold vp_in; decide) dL_law_891 ?_
  refine W.eq (g2 := F0 m 892 ls [.int (xs 3), .int (xs 2), .int (xs 1), .ref q1]) rfl ?_
  refine lv_aload_n hx hb dL_law_892 rfl (lv_at hl 3 rfl) ?_
  refine lv_iload_n hx hb dL_law_893 rfl (lv_at hl 0 rfl) ?_
  refine lv_iconst (v := 4) hx hb dL_law_894 (by decide) ?_
  refine lv_iadd hx hb dL_law_895 ?_
  refine lv_topi (fun z_4 ez_4 => ?_)
  obtain rfl : z_4 = 4 := ez_4.trans (by decide)
  refine va_sld hx hb hX hbl hbA hS (by unfold vp_in; decide) dL_law_896 ?_
  refine W.eq (g2 := F0 m 897 ls [.int (xs 4), .int (xs 3), .int (xs 2), .int (xs 1), .ref q1]) rfl ?_
  refine vp_callSl (W.runV (As := [.int (xs 1), .int (xs 2), .int (xs 3), .int (xs 4)]) (rest := []) ⟨hx, hb, hml, hown, hts⟩ (f_X12_due l D T q1 [.ref (u 0), .ref (u 1), .int 0, .ref (u 2), .ref (u 3), .ref (u 11), .ref (u 34), .ref (u 38), .ref (u 39), .ref (u 43), .ref (u 64)] (u 3) [.int 0, .ref (u 4), .ref (u 5), .ref (u 6), .ref (u 7), .ref (u 8), .ref (u 9), .ref (u 10)] (xs 1) (xs 2) (xs 3) (xs 4) rfl rfl) (cwV 4 hts lg_X12_due rfl rfl rfl (by decide +kernel) ⟨Nat.le_of_ble_eq_true rfl, Nat.le_of_ble_eq_true rfl⟩) (pR_V (ci := 9) (q0 := 0) hP hE rfl rfl [0, 1] rfl) rfl rfl hl.1 rfl (lv_room (Nat.le_of_ble_eq_true rfl)) dL_law_897 ⟨Nat.le_of_ble_eq_true rfl, Nat.le_of_ble_eq_true rfl⟩) (fun r_5 hr_5 => ?_)
  obtain rfl : r_5 = (-4611686018427387906) := hr_5
  refine lv_aload_n hx hb dL_law_900 rfl (lv_at hl 1 rfl) ?_
  refine lv_aload_n hx hb dL_law_901 rfl (lv_at hl 3 rfl) ?_
  refine lv_iload_n hx hb dL_law_902 rfl (lv_at hl 0 rfl) ?_
  refine lv_iconst (v := 1) hx hb dL_law_903 (by decide) ?_
  refine lv_iadd hx hb dL_law_904 ?_
  refine lv_topi (fun z_6 ez_6 => ?_)
  obtain rfl : z_6 = 1 := ez_6.trans (by decide)
  refine va_sld hx hb hX hbl hbA hS (by unfold vp_in; decide) dL_law_905 ?_
  refine W.eq (g2 := F0 m 906 ls [.int (xs 1), .ref q2, .long (-4611686018427387906)]) rfl ?_
  refine lv_aload_n hx hb dL_law_906 rfl (lv_at hl 3 rfl) ?_
  refine lv_iload_n hx hb dL_law_907 rfl (lv_at hl 0 rfl) ?_
  refine lv_iconst (v := 2) hx hb dL_law_908 (by decide) ?_
  refine lv_iadd hx hb dL_law_909 ?_
  refine lv_topi (fun z_7 ez_7 => ?_)
  obtain rfl : z_7 = 2 := ez_7.trans (by decide)
  refine va_sld hx hb hX hbl hbA hS (by unfold vp_in; decide) dL_law_910 ?_
  refine W.eq (g2 := F0 m 911 ls [.int (xs 2), .int (xs 1), .ref q2, .long (-4611686018427387906)]) rfl ?_
  refine lv_aload_n hx hb dL_law_911 rfl (lv_at hl 3 rfl) ?_
  refine lv_iload_n hx hb dL_law_912 rfl (lv_at hl 0 rfl) ?_
  refine lv_iconst (v := 3) hx hb dL_law_913 (by decide) ?_
  refine lv_iadd hx hb dL_law_914 ?_
  refine lv_topi (fun z_8 ez_8 => ?_)
  obtain rfl : z_8 = 3 := ez_8.trans (by decide)
  refine va_sld hx hb hX hbl hbA hS (by unfold vp_in; decide) dL_law_915 ?_
  refine W.eq (g2 := F0 m 916 ls [.int (xs 3), .int (xs 2), .int (xs 1), .ref q2, .long (-4611686018427387906)]) rfl ?_
  refine lv_aload_n hx hb dL_law_916 rfl (lv_at hl 3 rfl) ?_
  refine lv_iload_n hx hb dL_law_917 rfl (lv_at hl 0 rfl) ?_
  refine lv_iconst (v := 4) hx hb dL_law_918 (by decide) ?_
  refine lv_iadd hx hb dL_law_919 ?_
  refine lv_topi (fun z_9 ez_9 => ?_)
  obtain rfl : z_9 = 4 := ez_9.trans (by decide)
  refine va_sld hx hb hX hbl hbA hS (by unfold vp_in; decide) dL_law_920 ?_
  refine W.eq (g2 := F0 m 921 ls [.int (xs 4), .int (xs 3), .int (xs 2), .int (xs 1), .ref q2, .long (-4611686018427387906)]) rfl ?_
  refine vp_callSl (W.runV (As := [.int (xs 1), .int (xs 2), .int (xs 3), .int (xs 4)]) (rest := [.long (-4611686018427387906)]) ⟨hx, hb, hml, hown, hts⟩ (f_X13_due l D T q2 [.int 0, .int 1, .int 1, .int 1, .int 2, .int 1, .int 1, .int 0, .ref (v 8), .ref (v 9), .ref (v 10), .ref (v 11), .ref (v 12), .ref (v 13), .int 0, .long 0, .long 0, .ref (v 17), .ref (v 18), .ref (v 19), .ref (v 20), .ref (v 21), .ref (v 22), .ref (v 23), .int 0, .ref (v 25), .int 0, .ref (v 27), .int 0, .int 0, .int 0, .int 0, .int 0, .int 0, .ref (v 34), .ref (v 35), .ref (v 36), .ref (v 37), .ref (v 38), .ref (v 39), .ref (v 40), .int 0, .ref (v 42), .int 0, .int 0] (xs 1) (xs 2) (xs 3) (xs 4) rfl) (cwV 4 hts lg_X13_due rfl rfl rfl (by decide +kernel) ⟨Nat.le_of_ble_eq_true rfl, Nat.le_of_ble_eq_true rfl⟩) (pR_V (ci := 10) (q0 := 2) hP hE rfl rfl [2] rfl) rfl rfl hl.1 rfl (lv_room (Nat.le_of_ble_eq_true rfl)) dL_law_921 ⟨Nat.le_of_ble_eq_true rfl, Nat.le_of_ble_eq_true rfl⟩) (fun r_10 hr_10 => ?_)
  obtain rfl : r_10 = (-4611686018427387906) := hr_10
  refine W.lcmp hx hb dL_law_924 ?_
  refine lv_topi (fun z_11 ez_11 => ?_)
  obtain rfl : z_11 = 0 := ez_11.trans (by decide)
  refine lv_if_eq (tgt := 1874) hx hb dL_law_925 (by decide) (fun _ => ?_) (fun c9 => absurd c9 (by decide))
  exact law_tail C0 hAf hbA hS hl
