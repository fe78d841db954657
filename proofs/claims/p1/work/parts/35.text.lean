theorem dX13_wordAt_0 : decode cX13_wordAt 0 = .ok (.aload_n 0, 1) := by decide +kernel
theorem dX13_wordAt_1 : decode cX13_wordAt 1 = .ok (.getfield 100, 3) := by decide +kernel
theorem dX13_wordAt_12 : decode cX13_wordAt 12 = .ok (.aload_n 0, 1) := by decide +kernel
theorem dX13_wordAt_13 : decode cX13_wordAt 13 = .ok (.aload_n 0, 1) := by decide +kernel
theorem dX13_wordAt_14 : decode cX13_wordAt 14 = .ok (.getfield 100, 3) := by decide +kernel
theorem dX13_wordAt_17 : decode cX13_wordAt 17 = .ok (.iload_n 2, 1) := by decide +kernel
theorem dX13_wordAt_18 : decode cX13_wordAt 18 = .ok (.aaload, 1) := by decide +kernel
theorem dX13_wordAt_19 : decode cX13_wordAt 19 = .ok (.iload_n 1, 1) := by decide +kernel
theorem dX13_wordAt_20 : decode cX13_wordAt 20 = .ok (.invokevirtual 372, 3) := by decide +kernel
theorem dX13_wordAt_23 : decode cX13_wordAt 23 = .ok (.ifCond .ne 9, 3) := by decide +kernel
theorem dX13_wordAt_26 : decode cX13_wordAt 26 = .ok (.iinc 2 (-1), 3) := by decide +kernel
theorem dX13_wordAt_29 : decode cX13_wordAt 29 = .ok (.goto (-21), 3) := by decide +kernel
theorem dX13_wordAt_32 : decode cX13_wordAt 32 = .ok (.iload_n 2, 1) := by decide +kernel
theorem dX13_wordAt_33 : decode cX13_wordAt 33 = .ok (.ireturn, 1) := by decide +kernel
theorem dX13_wordAt_4 : decode cX13_wordAt 4 = .ok (.arraylength, 1) := by decide +kernel
theorem dX13_wordAt_5 : decode cX13_wordAt 5 = .ok (.iconst 1, 1) := by decide +kernel
theorem dX13_wordAt_6 : decode cX13_wordAt 6 = .ok (.isub, 1) := by decide +kernel
theorem dX13_wordAt_7 : decode cX13_wordAt 7 = .ok (.istore_n 2, 1) := by decide +kernel
theorem dX13_wordAt_8 : decode cX13_wordAt 8 = .ok (.iload_n 2, 1) := by decide +kernel
theorem dX13_wordAt_9 : decode cX13_wordAt 9 = .ok (.ifCond .lt 23, 3) := by decide +kernel
set_option maxRecDepth 20000 in
theorem ggX13_wordAt_X13_isWord : GoodIn wsX13_wordAt wsX13_isWord := goodIn_r _ [6, 7, 8, 9, 10, 11, 12, 13, 14, 15, 16, 17, 18, 19, 20, 21, 22, 23, 24, 25, 26, 27, 28, 29, 30, 31, 32, 33, 34, 35, 36, 37, 38, 39, 40, 41, 42, 43, 44, 45, 46, 47, 48, 49, 50, 51, 52, 53, 54, 55, 56, 57, 58, 59, 60, 61, 62, 63, 64, 65, 66, 67, 68, 69, 70, 71, 72, 73, 74, 75, 76, 77, 78, 79, 80, 81, 82, 83, 84, 85, 86, 87, 88, 89, 90, 91, 92, 93, 94, 95, 96, 97, 98, 99, 100, 101, 102] (by decide +kernel) (by decide +kernel)
set_option maxRecDepth 20000 in
theorem gX13_wordAt_X13_isWord : GoodIn wsX13_wordAt (wsV RX13 372 RX13 yX13_isWord wsX13_isWord) := goodIn_app (goodIn_of _ (by decide +kernel)) ggX13_wordAt_X13_isWord
set_option maxRecDepth 20000 in
theorem in_X13_wordAt_X13 : ∀ w ∈ wsX130, w ∈ wsX13_wordAt := by decide +kernel
set_option maxHeartbeats 4000000 in
set_option maxRecDepth 100000 in
theorem f_X13_wordAt (l : Launch) (D : va_G) (T : Nat → ClassId) (ad sa av : Nat → Nat) (ta : Nat) (h0 : Nat) (fs0 : List Value) (h1 : Nat) (e0_28 : fs0[28]? = some (.int 0)) (e0_27 : fs0[27]? = some (.ref h1)) : Met l yX13_wordAt wsX13_wordAt ({ frames := 3, cells := 0, slots := 0, locals := 64 }) (pRk [.ref h0, .int 0] D T [(h0, .inr (10, fs0)), (h1, .inl (T 8, 13, .inr (.inr (.inr (.inr (va_up (va_up (va_up (va_up (va_up (va_up (va_up (va_up (va_up (va_up (va_up (va_up (va_up (fun _ => none) 0 (some (sa 0))) 1 (some (sa 1))) 2 (some (sa 2))) 3 (some (sa 3))) 4 (some (sa 4))) 5 (some (sa 5))) 6 (some (sa 6))) 7 (some (sa 7))) 8 (some (sa 8))) 9 (some (sa 9))) 10 (some (sa 10))) 11 (some (sa 11))) 12 (some (sa 12))))))))] ad sa av ta) (vp_Si (fun r => r = -1)) 0 0 (fun _ => False) := by
  refine Met.ofW (cc := cX13_wordAt) (maxL := 3) (ret := (some .int)) (by decide) rfl ?_
  intro p e s m args below meth c s₁ B hml hv
  obtain ⟨rfl, hP, hE, hV⟩ := hv
  have hS : va_S (fun _ => False) s.heap s.heap [] := va_S.rf
  have hx := B.exec
  have hb := B.bytes
  have hr := B.returns
  have hts := atoms_spec (ws := wsX13_wordAt) B.pre
  have hown : s.vm.findClass RX13 = some m.cls := findClass_of_methodNamed B.named
  have hlocks := B.notSynchronized
  have hP : va_P D vwCl [(h0, .inr (10, fs0)), (h1, .inl (T 8, 13, .inr (.inr (.inr (.inr (va_up (va_up (va_up (va_up (va_up (va_up (va_up (va_up (va_up (va_up (va_up (va_up (va_up (fun _ => none) 0 (some (sa 0))) 1 (some (sa 1))) 2 (some (sa 2))) 3 (some (sa 3))) 4 (some (sa 4))) 5 (some (sa 5))) 6 (some (sa 6))) 7 (some (sa 7))) 8 (some (sa 8))) 9 (some (sa 9))) 10 (some (sa 10))) 11 (some (sa 11))) 12 (some (sa 12))))))))] s.heap := hP
  have hl := lv_entry ([.ref h0, .int 0]) (n := 3) (Nat.le_of_ble_eq_true rfl)
  rw [lg_entry_eq]
  generalize (lg_sl ([.ref h0, .int 0]) ++ List.replicate (3 - (lg_sl ([.ref h0, .int 0])).length) Slot.unset).toArray = ls at hl ⊢
  have hl : lv_has ls 3 [(0, .ref h0), (1, .int 0)] := hl
  refine lv_aload_n hx hb dX13_wordAt_0 rfl (lv_at hl 0 rfl) ?_
  refine va_get (D := D) (ci := 10) (v := .ref h1) (C := RX13) (T := TX13) (N := 45) hx hb hts in_X13_wordAt_X13 hown hE.1 hP 0 rfl rfl 27 (by decide) (hts (.fieldLink RX13 100 "ClauseBookModel" "words" "[Ljava/lang/String;") (List.mem_of_getElem? (i := 1) rfl)) (fun _ h9 => h9) e0_27 dX13_wordAt_1 ?_
  refine va_alen (v := 13) hx hb hE.1 hP 1 8 rfl rfl rfl dX13_wordAt_4 ?_
  refine lv_iconst (v := 1) hx hb dX13_wordAt_5 (by decide) ?_
  refine lv_isub hx hb dX13_wordAt_6 ?_
  refine lv_topi (fun z_1 ez_1 => ?_)
  obtain rfl : z_1 = 12 := ez_1.trans (by decide)
  refine lv_istore_n (lv' := [(2, .int 12), (0, .ref h0), (1, .int 0)]) hx hb dX13_wordAt_7 rfl hl (by decide) rfl (fun ls hl => ?_)
  refine lv_iload_n hx hb dX13_wordAt_8 rfl (lv_at hl 0 rfl) ?_
  refine lv_if_lt (tgt := 32) hx hb dX13_wordAt_9 (by decide) (fun c9 => absurd c9 (by decide)) (fun _ => ?_)
  refine lv_aload_n hx hb dX13_wordAt_12 rfl (lv_at hl 1 rfl) ?_
  refine lv_aload_n hx hb dX13_wordAt_13 rfl (lv_at hl 1 rfl) ?_
  refine va_get (D := D) (ci := 10) (v := .ref h1) (C := RX13) (T := TX13) (N := 45) hx hb hts in_X13_wordAt_X13 hown hE.1 hP 0 rfl rfl 27 (by decide) (hts (.fieldLink RX13 100 "ClauseBookModel" "words" "[Ljava/lang/String;") (List.mem_of_getElem? (i := 1) rfl)) (fun _ h9 => h9) e0_27 dX13_wordAt_14 ?_
  refine lv_iload_n hx hb dX13_wordAt_17 rfl (lv_at hl 0 rfl) ?_
  refine va_aldq hx hb hE.1 hP 1 8 rfl rfl (by unfold vp_in; decide) dX13_wordAt_18 ?_
  refine W.eq (g2 := F0 m 19 ls [.ref (sa 12), .ref h0]) rfl ?_
  refine lv_iload_n hx hb dX13_wordAt_19 rfl (lv_at hl 2 rfl) ?_
  refine vp_callSi (W.runV (As := [.ref (sa 12), .int 0]) (rest := []) ⟨hx, hb, hml, hown, hts⟩ (f_X13_isWord l D T ad sa av ta h0 fs0 12 (by decide) e0_28) (cwV 2 hts gX13_wordAt_X13_isWord rfl rfl rfl (by decide +kernel) ⟨Nat.le_of_ble_eq_true rfl, Nat.le_of_ble_eq_true rfl⟩) (pRk_V (ci := 10) (q0 := 0) hP hE hV hS rfl rfl [0] rfl) rfl rfl hl.1 rfl (lv_room (Nat.le_of_ble_eq_true rfl)) dX13_wordAt_20 ⟨Nat.le_of_ble_eq_true rfl, Nat.le_of_ble_eq_true rfl⟩) (fun r_2 hr_2 => ?_)
  obtain rfl : r_2 = 0 := hr_2
  refine lv_if_ne (tgt := 32) hx hb dX13_wordAt_23 (by decide) (fun c9 => absurd c9 (by decide)) (fun _ => ?_)
  refine lv_iinc (v := 11) (lv' := [(2, .int 11), (0, .ref h0), (1, .int 0)]) hx hb dX13_wordAt_26 hl (k := 0) rfl (by decide) (by decide) rfl (fun ls hl => ?_)
  refine lv_goto (tgt := 8) hx hb dX13_wordAt_29 (by decide) ?_
  refine lv_iload_n hx hb dX13_wordAt_8 rfl (lv_at hl 0 rfl) ?_
  refine lv_if_lt (tgt := 32) hx hb dX13_wordAt_9 (by decide) (fun c9 => absurd c9 (by decide)) (fun _ => ?_)
  refine lv_aload_n hx hb dX13_wordAt_12 rfl (lv_at hl 1 rfl) ?_
  refine lv_aload_n hx hb dX13_wordAt_13 rfl (lv_at hl 1 rfl) ?_
  refine va_get (D := D) (ci := 10) (v := .ref h1) (C := RX13) (T := TX13) (N := 45) hx hb hts in_X13_wordAt_X13 hown hE.1 hP 0 rfl rfl 27 (by decide) (hts (.fieldLink RX13 100 "ClauseBookModel" "words" "[Ljava/lang/String;") (List.mem_of_getElem? (i := 1) rfl)) (fun _ h9 => h9) e0_27 dX13_wordAt_14 ?_
  refine lv_iload_n hx hb dX13_wordAt_17 rfl (lv_at hl 0 rfl) ?_
  refine va_aldq hx hb hE.1 hP 1 8 rfl rfl (by unfold vp_in; decide) dX13_wordAt_18 ?_
  refine W.eq (g2 := F0 m 19 ls [.ref (sa 11), .ref h0]) rfl ?_
  refine lv_iload_n hx hb dX13_wordAt_19 rfl (lv_at hl 2 rfl) ?_
  refine vp_callSi (W.runV (As := [.ref (sa 11), .int 0]) (rest := []) ⟨hx, hb, hml, hown, hts⟩ (f_X13_isWord l D T ad sa av ta h0 fs0 11 (by decide) e0_28) (cwV 2 hts gX13_wordAt_X13_isWord rfl rfl rfl (by decide +kernel) ⟨Nat.le_of_ble_eq_true rfl, Nat.le_of_ble_eq_true rfl⟩) (pRk_V (ci := 10) (q0 := 0) hP hE hV hS rfl rfl [0] rfl) rfl rfl hl.1 rfl (lv_room (Nat.le_of_ble_eq_true rfl)) dX13_wordAt_20 ⟨Nat.le_of_ble_eq_true rfl, Nat.le_of_ble_eq_true rfl⟩) (fun r_3 hr_3 => ?_)
  obtain rfl : r_3 = 0 := hr_3
  refine lv_if_ne (tgt := 32) hx hb dX13_wordAt_23 (by decide) (fun c9 => absurd c9 (by decide)) (fun _ => ?_)
  refine lv_iinc (v := 10) (lv' := [(2, .int 10), (0, .ref h0), (1, .int 0)]) hx hb dX13_wordAt_26 hl (k := 0) rfl (by decide) (by decide) rfl (fun ls hl => ?_)
  refine lv_goto (tgt := 8) hx hb dX13_wordAt_29 (by decide) ?_
  refine lv_iload_n hx hb dX13_wordAt_8 rfl (lv_at hl 0 rfl) ?_
  refine lv_if_lt (tgt := 32) hx hb dX13_wordAt_9 (by decide) (fun c9 => absurd c9 (by decide)) (fun _ => ?_)
  refine lv_aload_n hx hb dX13_wordAt_12 rfl (lv_at hl 1 rfl) ?_
  refine lv_aload_n hx hb dX13_wordAt_13 rfl (lv_at hl 1 rfl) ?_
  refine va_get (D := D) (ci := 10) (v := .ref h1) (C := RX13) (T := TX13) (N := 45) hx hb hts in_X13_wordAt_X13 hown hE.1 hP 0 rfl rfl 27 (by decide) (hts (.fieldLink RX13 100 "ClauseBookModel" "words" "[Ljava/lang/String;") (List.mem_of_getElem? (i := 1) rfl)) (fun _ h9 => h9) e0_27 dX13_wordAt_14 ?_
  refine lv_iload_n hx hb dX13_wordAt_17 rfl (lv_at hl 0 rfl) ?_
  refine va_aldq hx hb hE.1 hP 1 8 rfl rfl (by unfold vp_in; decide) dX13_wordAt_18 ?_
  refine W.eq (g2 := F0 m 19 ls [.ref (sa 10), .ref h0]) rfl ?_
  refine lv_iload_n hx hb dX13_wordAt_19 rfl (lv_at hl 2 rfl) ?_
  refine vp_callSi (W.runV (As := [.ref (sa 10), .int 0]) (rest := []) ⟨hx, hb, hml, hown, hts⟩ (f_X13_isWord l D T ad sa av ta h0 fs0 10 (by decide) e0_28) (cwV 2 hts gX13_wordAt_X13_isWord rfl rfl rfl (by decide +kernel) ⟨Nat.le_of_ble_eq_true rfl, Nat.le_of_ble_eq_true rfl⟩) (pRk_V (ci := 10) (q0 := 0) hP hE hV hS rfl rfl [0] rfl) rfl rfl hl.1 rfl (lv_room (Nat.le_of_ble_eq_true rfl)) dX13_wordAt_20 ⟨Nat.le_of_ble_eq_true rfl, Nat.le_of_ble_eq_true rfl⟩) (fun r_4 hr_4 => ?_)
  obtain rfl : r_4 = 0 := hr_4
  refine lv_if_ne (tgt := 32) hx hb dX13_wordAt_23 (by decide) (fun c9 => absurd c9 (by decide)) (fun _ => ?_)
  refine lv_iinc (v := 9) (lv' := [(2, .int 9), (0, .ref h0), (1, .int 0)]) hx hb dX13_wordAt_26 hl (k := 0) rfl (by decide) (by decide) rfl (fun ls hl => ?_)
  refine lv_goto (tgt := 8) hx hb dX13_wordAt_29 (by decide) ?_
  refine lv_iload_n hx hb dX13_wordAt_8 rfl (lv_at hl 0 rfl) ?_
  refine lv_if_lt (tgt := 32) hx hb dX13_wordAt_9 (by decide) (fun c9 => absurd c9 (by decide)) (fun _ => ?_)
  refine lv_aload_n hx hb dX13_wordAt_12 rfl (lv_at hl 1 rfl) ?_
  refine lv_aload_n hx hb dX13_wordAt_13 rfl (lv_at hl 1 rfl) ?_
  refine va_get (D := D) (ci := 10) (v := .ref h1) (C := RX13) (T := TX13) (N := 45) hx hb hts in_X13_wordAt_X13 hown hE.1 hP 0 rfl rfl 27 (by decide) (hts (.fieldLink RX13 100 "ClauseBookModel" "words" "[Ljava/lang/String;") (List.mem_of_getElem? (i := 1) rfl)) (fun _ h9 => h9) e0_27 dX13_wordAt_14 ?_
  refine lv_iload_n hx hb dX13_wordAt_17 rfl (lv_at hl 0 rfl) ?_
  refine va_aldq hx hb hE.1 hP 1 8 rfl rfl (by unfold vp_in; decide) dX13_wordAt_18 ?_
  refine W.eq (g2 := F0 m 19 ls [.ref (sa 9), .ref h0]) rfl ?_
  refine lv_iload_n hx hb dX13_wordAt_19 rfl (lv_at hl 2 rfl) ?_
  refine vp_callSi (W.runV (As := [.ref (sa 9), .int 0]) (rest := []) ⟨hx, hb, hml, hown, hts⟩ (f_X13_isWord l D T ad sa av ta h0 fs0 9 (by decide) e0_28) (cwV 2 hts gX13_wordAt_X13_isWord rfl rfl rfl (by decide +kernel) ⟨Nat.le_of_ble_eq_true rfl, Nat.le_of_ble_eq_true rfl⟩) (pRk_V (ci := 10) (q0 := 0) hP hE hV hS rfl rfl [0] rfl) rfl rfl hl.1 rfl (lv_room (Nat.le_of_ble_eq_true rfl)) dX13_wordAt_20 ⟨Nat.le_of_ble_eq_true rfl, Nat.le_of_ble_eq_true rfl⟩) (fun r_5 hr_5 => ?_)
  obtain rfl : r_5 = 0 := hr_5
  refine lv_if_ne (tgt := 32) hx hb dX13_wordAt_23 (by decide) (fun c9 => absurd c9 (by decide)) (fun _ => ?_)
  refine lv_iinc (v := 8) (lv' := [(2, .int 8), (0, .ref h0), (1, .int 0)]) hx hb dX13_wordAt_26 hl (k := 0) rfl (by decide) (by decide) rfl (fun ls hl => ?_)
  refine lv_goto (tgt := 8) hx hb dX13_wordAt_29 (by decide) ?_
  refine lv_iload_n hx hb dX13_wordAt_8 rfl (lv_at hl 0 rfl) ?_
  refine lv_if_lt (tgt := 32) hx hb dX13_wordAt_9 (by decide) (fun c9 => absurd c9 (by decide)) (fun _ => ?_)
  refine lv_aload_n hx hb dX13_wordAt_12 rfl (lv_at hl 1 rfl) ?_
  refine lv_aload_n hx hb dX13_wordAt_13 rfl (lv_at hl 1 rfl) ?_
  refine va_get (D := D) (ci := 10) (v := .ref h1) (C := RX13) (T := TX13) (N := 45) hx hb hts in_X13_wordAt_X13 hown hE.1 hP 0 rfl rfl 27 (by decide) (hts (.fieldLink RX13 100 "ClauseBookModel" "words" "[Ljava/lang/String;") (List.mem_of_getElem? (i := 1) rfl)) (fun _ h9 => h9) e0_27 dX13_wordAt_14 ?_
  refine lv_iload_n hx hb dX13_wordAt_17 rfl (lv_at hl 0 rfl) ?_
  refine va_aldq hx hb hE.1 hP 1 8 rfl rfl (by unfold vp_in; decide) dX13_wordAt_18 ?_
  refine W.eq (g2 := F0 m 19 ls [.ref (sa 8), .ref h0]) rfl ?_
  refine lv_iload_n hx hb dX13_wordAt_19 rfl (lv_at hl 2 rfl) ?_
  refine vp_callSi (W.runV (As := [.ref (sa 8), .int 0]) (rest := []) ⟨hx, hb, hml, hown, hts⟩ (f_X13_isWord l D T ad sa av ta h0 fs0 8 (by decide) e0_28) (cwV 2 hts gX13_wordAt_X13_isWord rfl rfl rfl (by decide +kernel) ⟨Nat.le_of_ble_eq_true rfl, Nat.le_of_ble_eq_true rfl⟩) (pRk_V (ci := 10) (q0 := 0) hP hE hV hS rfl rfl [0] rfl) rfl rfl hl.1 rfl (lv_room (Nat.le_of_ble_eq_true rfl)) dX13_wordAt_20 ⟨Nat.le_of_ble_eq_true rfl, Nat.le_of_ble_eq_true rfl⟩) (fun r_6 hr_6 => ?_)
  obtain rfl : r_6 = 0 := hr_6
  refine lv_if_ne (tgt := 32) hx hb dX13_wordAt_23 (by decide) (fun c9 => absurd c9 (by decide)) (fun _ => ?_)
  refine lv_iinc (v := 7) (lv' := [(2, .int 7), (0, .ref h0), (1, .int 0)]) hx hb dX13_wordAt_26 hl (k := 0) rfl (by decide) (by decide) rfl (fun ls hl => ?_)
  refine lv_goto (tgt := 8) hx hb dX13_wordAt_29 (by decide) ?_
  refine lv_iload_n hx hb dX13_wordAt_8 rfl (lv_at hl 0 rfl) ?_
  refine lv_if_lt (tgt := 32) hx hb dX13_wordAt_9 (by decide) (fun c9 => absurd c9 (by decide)) (fun _ => ?_)
  refine lv_aload_n hx hb dX13_wordAt_12 rfl (lv_at hl 1 rfl) ?_
  refine lv_aload_n hx hb dX13_wordAt_13 rfl (lv_at hl 1 rfl) ?_
  refine va_get (D := D) (ci := 10) (v := .ref h1) (C := RX13) (T := TX13) (N := 45) hx hb hts in_X13_wordAt_X13 hown hE.1 hP 0 rfl rfl 27 (by decide) (hts (.fieldLink RX13 100 "ClauseBookModel" "words" "[Ljava/lang/String;") (List.mem_of_getElem? (i := 1) rfl)) (fun _ h9 => h9) e0_27 dX13_wordAt_14 ?_
  refine lv_iload_n hx hb dX13_wordAt_17 rfl (lv_at hl 0 rfl) ?_
  refine va_aldq hx hb hE.1 hP 1 8 rfl rfl (by unfold vp_in; decide) dX13_wordAt_18 ?_
  refine W.eq (g2 := F0 m 19 ls [.ref (sa 7), .ref h0]) rfl ?_
  refine lv_iload_n hx hb dX13_wordAt_19 rfl (lv_at hl 2 rfl) ?_
  refine vp_callSi (W.runV (As := [.ref (sa 7), .int 0]) (rest := []) ⟨hx, hb, hml, hown, hts⟩ (f_X13_isWord l D T ad sa av ta h0 fs0 7 (by decide) e0_28) (cwV 2 hts gX13_wordAt_X13_isWord rfl rfl rfl (by decide +kernel) ⟨Nat.le_of_ble_eq_true rfl, Nat.le_of_ble_eq_true rfl⟩) (pRk_V (ci := 10) (q0 := 0) hP hE hV hS rfl rfl [0] rfl) rfl rfl hl.1 rfl (lv_room (Nat.le_of_ble_eq_true rfl)) dX13_wordAt_20 ⟨Nat.le_of_ble_eq_true rfl, Nat.le_of_ble_eq_true rfl⟩) (fun r_7 hr_7 => ?_)
  obtain rfl : r_7 = 0 := hr_7
  refine lv_if_ne (tgt := 32) hx hb dX13_wordAt_23 (by decide) (fun c9 => absurd c9 (by decide)) (fun _ => ?_)
  refine lv_iinc (v := 6) (lv' := [(2, .int 6), (0, .ref h0), (1, .int 0)]) hx hb dX13_wordAt_26 hl (k := 0) rfl (by decide) (by decide) rfl (fun ls hl => ?_)
  refine lv_goto (tgt := 8) hx hb dX13_wordAt_29 (by decide) ?_
  refine lv_iload_n hx hb dX13_wordAt_8 rfl (lv_at hl 0 rfl) ?_
  refine lv_if_lt (tgt := 32) hx hb dX13_wordAt_9 (by decide) (fun c9 => absurd c9 (by decide)) (fun _ => ?_)
  refine lv_aload_n hx hb dX13_wordAt_12 rfl (lv_at hl 1 rfl) ?_
  refine lv_aload_n hx hb dX13_wordAt_13 rfl (lv_at hl 1 rfl) ?_
  refine va_get (D := D) (ci := 10) (v := .ref h1) (C := RX13) (T := TX13) (N := 45) hx hb hts in_X13_wordAt_X13 hown hE.1 hP 0 rfl rfl 27 (by decide) (hts (.fieldLink RX13 100 "ClauseBookModel" "words" "[Ljava/lang/String;") (List.mem_of_getElem? (i := 1) rfl)) (fun _ h9 => h9) e0_27 dX13_wordAt_14 ?_
  refine lv_iload_n hx hb dX13_wordAt_17 rfl (lv_at hl 0 rfl) ?_
  refine va_aldq hx hb hE.1 hP 1 8 rfl rfl (by unfold vp_in; decide) dX13_wordAt_18 ?_
  refine W.eq (g2 := F0 m 19 ls [.ref (sa 6), .ref h0]) rfl ?_
  refine lv_iload_n hx hb dX13_wordAt_19 rfl (lv_at hl 2 rfl) ?_
  refine vp_callSi (W.runV (As := [.ref (sa 6), .int 0]) (rest := []) ⟨hx, hb, hml, hown, hts⟩ (f_X13_isWord l D T ad sa av ta h0 fs0 6 (by decide) e0_28) (cwV 2 hts gX13_wordAt_X13_isWord rfl rfl rfl (by decide +kernel) ⟨Nat.le_of_ble_eq_true rfl, Nat.le_of_ble_eq_true rfl⟩) (pRk_V (ci := 10) (q0 := 0) hP hE hV hS rfl rfl [0] rfl) rfl rfl hl.1 rfl (lv_room (Nat.le_of_ble_eq_true rfl)) dX13_wordAt_20 ⟨Nat.le_of_ble_eq_true rfl, Nat.le_of_ble_eq_true rfl⟩) (fun r_8 hr_8 => ?_)
  obtain rfl : r_8 = 0 := hr_8
  refine lv_if_ne (tgt := 32) hx hb dX13_wordAt_23 (by decide) (fun c9 => absurd c9 (by decide)) (fun _ => ?_)
  refine lv_iinc (v := 5) (lv' := [(2, .int 5), (0, .ref h0), (1, .int 0)]) hx hb dX13_wordAt_26 hl (k := 0) rfl (by decide) (by decide) rfl (fun ls hl => ?_)
  refine lv_goto (tgt := 8) hx hb dX13_wordAt_29 (by decide) ?_
  refine lv_iload_n hx hb dX13_wordAt_8 rfl (lv_at hl 0 rfl) ?_
  refine lv_if_lt (tgt := 32) hx hb dX13_wordAt_9 (by decide) (fun c9 => absurd c9 (by decide)) (fun _ => ?_)
  refine lv_aload_n hx hb dX13_wordAt_12 rfl (lv_at hl 1 rfl) ?_
  refine lv_aload_n hx hb dX13_wordAt_13 rfl (lv_at hl 1 rfl) ?_
  refine va_get (D := D) (ci := 10) (v := .ref h1) (C := RX13) (T := TX13) (N := 45) hx hb hts in_X13_wordAt_X13 hown hE.1 hP 0 rfl rfl 27 (by decide) (hts (.fieldLink RX13 100 "ClauseBookModel" "words" "[Ljava/lang/String;") (List.mem_of_getElem? (i := 1) rfl)) (fun _ h9 => h9) e0_27 dX13_wordAt_14 ?_
  refine lv_iload_n hx hb dX13_wordAt_17 rfl (lv_at hl 0 rfl) ?_
  refine va_aldq hx hb hE.1 hP 1 8 rfl rfl (by unfold vp_in; decide) dX13_wordAt_18 ?_
  refine W.eq (g2 := F0 m 19 ls [.ref (sa 5), .ref h0]) rfl ?_
  refine lv_iload_n hx hb dX13_wordAt_19 rfl (lv_at hl 2 rfl) ?_
  refine vp_callSi (W.runV (As := [.ref (sa 5), .int 0]) (rest := []) ⟨hx, hb, hml, hown, hts⟩ (f_X13_isWord l D T ad sa av ta h0 fs0 5 (by decide) e0_28) (cwV 2 hts gX13_wordAt_X13_isWord rfl rfl rfl (by decide +kernel) ⟨Nat.le_of_ble_eq_true rfl, Nat.le_of_ble_eq_true rfl⟩) (pRk_V (ci := 10) (q0 := 0) hP hE hV hS rfl rfl [0] rfl) rfl rfl hl.1 rfl (lv_room (Nat.le_of_ble_eq_true rfl)) dX13_wordAt_20 ⟨Nat.le_of_ble_eq_true rfl, Nat.le_of_ble_eq_true rfl⟩) (fun r_9 hr_9 => ?_)
  obtain rfl : r_9 = 0 := hr_9
  refine lv_if_ne (tgt := 32) hx hb dX13_wordAt_23 (by decide) (fun c9 => absurd c9 (by decide)) (fun _ => ?_)
  refine lv_iinc (v := 4) (lv' := [(2, .int 4), (0, .ref h0), (1, .int 0)]) hx hb dX13_wordAt_26 hl (k := 0) rfl (by decide) (by decide) rfl (fun ls hl => ?_)
  refine lv_goto (tgt := 8) hx hb dX13_wordAt_29 (by decide) ?_
  refine lv_iload_n hx hb dX13_wordAt_8 rfl (lv_at hl 0 rfl) ?_
  refine lv_if_lt (tgt := 32) hx hb dX13_wordAt_9 (by decide) (fun c9 => absurd c9 (by decide)) (fun _ => ?_)
  refine lv_aload_n hx hb dX13_wordAt_12 rfl (lv_at hl 1 rfl) ?_
  refine lv_aload_n hx hb dX13_wordAt_13 rfl (lv_at hl 1 rfl) ?_
  refine va_get (D := D) (ci := 10) (v := .ref h1) (C := RX13) (T := TX13) (N := 45) hx hb hts in_X13_wordAt_X13 hown hE.1 hP 0 rfl rfl 27 (by decide) (hts (.fieldLink RX13 100 "ClauseBookModel" "words" "[Ljava/lang/String;") (List.mem_of_getElem? (i := 1) rfl)) (fun _ h9 => h9) e0_27 dX13_wordAt_14 ?_
  refine lv_iload_n hx hb dX13_wordAt_17 rfl (lv_at hl 0 rfl) ?_
  refine va_aldq hx hb hE.1 hP 1 8 rfl rfl (by unfold vp_in; decide) dX13_wordAt_18 ?_
  refine W.eq (g2 := F0 m 19 ls [.ref (sa 4), .ref h0]) rfl ?_
  refine lv_iload_n hx hb dX13_wordAt_19 rfl (lv_at hl 2 rfl) ?_
  refine vp_callSi (W.runV (As := [.ref (sa 4), .int 0]) (rest := []) ⟨hx, hb, hml, hown, hts⟩ (f_X13_isWord l D T ad sa av ta h0 fs0 4 (by decide) e0_28) (cwV 2 hts gX13_wordAt_X13_isWord rfl rfl rfl (by decide +kernel) ⟨Nat.le_of_ble_eq_true rfl, Nat.le_of_ble_eq_true rfl⟩) (pRk_V (ci := 10) (q0 := 0) hP hE hV hS rfl rfl [0] rfl) rfl rfl hl.1 rfl (lv_room (Nat.le_of_ble_eq_true rfl)) dX13_wordAt_20 ⟨Nat.le_of_ble_eq_true rfl, Nat.le_of_ble_eq_true rfl⟩) (fun r_10 hr_10 => ?_)
  obtain rfl : r_10 = 0 := hr_10
  refine lv_if_ne (tgt := 32) hx hb dX13_wordAt_23 (by decide) (fun c9 => absurd c9 (by decide)) (fun _ => ?_)
  refine lv_iinc (v := 3) (lv' := [(2, .int 3), (0, .ref h0), (1, .int 0)]) hx hb dX13_wordAt_26 hl (k := 0) rfl (by decide) (by decide) rfl (fun ls hl => ?_)
  refine lv_goto (tgt := 8) hx hb dX13_wordAt_29 (by decide) ?_
  refine lv_iload_n hx hb dX13_wordAt_8 rfl (lv_at hl 0 rfl) ?_
  refine lv_if_lt (tgt := 32) hx hb dX13_wordAt_9 (by decide) (fun c9 => absurd c9 (by decide)) (fun _ => ?_)
  refine lv_aload_n hx hb dX13_wordAt_12 rfl (lv_at hl 1 rfl) ?_
  refine lv_aload_n hx hb dX13_wordAt_13 rfl (lv_at hl 1 rfl) ?_
  refine va_get (D := D) (ci := 10) (v := .ref h1) (C := RX13) (T := TX13) (N := 45) hx hb hts in_X13_wordAt_X13 hown hE.1 hP 0 rfl rfl 27 (by decide) (hts (.fieldLink RX13 100 "ClauseBookModel" "words" "[Ljava/lang/String;") (List.mem_of_getElem? (i := 1) rfl)) (fun _ h9 => h9) e0_27 dX13_wordAt_14 ?_
  refine lv_iload_n hx hb dX13_wordAt_17 rfl (lv_at hl 0 rfl) ?_
  refine va_aldq hx hb hE.1 hP 1 8 rfl rfl (by unfold vp_in; decide) dX13_wordAt_18 ?_
  refine W.eq (g2 := F0 m 19 ls [.ref (sa 3), .ref h0]) rfl ?_
  refine lv_iload_n hx hb dX13_wordAt_19 rfl (lv_at hl 2 rfl) ?_
  refine vp_callSi (W.runV (As := [.ref (sa 3), .int 0]) (rest := []) ⟨hx, hb, hml, hown, hts⟩ (f_X13_isWord l D T ad sa av ta h0 fs0 3 (by decide) e0_28) (cwV 2 hts gX13_wordAt_X13_isWord rfl rfl rfl (by decide +kernel) ⟨Nat.le_of_ble_eq_true rfl, Nat.le_of_ble_eq_true rfl⟩) (pRk_V (ci := 10) (q0 := 0) hP hE hV hS rfl rfl [0] rfl) rfl rfl hl.1 rfl (lv_room (Nat.le_of_ble_eq_true rfl)) dX13_wordAt_20 ⟨Nat.le_of_ble_eq_true rfl, Nat.le_of_ble_eq_true rfl⟩) (fun r_11 hr_11 => ?_)
  obtain rfl : r_11 = 0 := hr_11
  refine lv_if_ne (tgt := 32) hx hb dX13_wordAt_23 (by decide) (fun c9 => absurd c9 (by decide)) (fun _ => ?_)
  refine lv_iinc (v := 2) (lv' := [(2, .int 2), (0, .ref h0), (1, .int 0)]) hx hb dX13_wordAt_26 hl (k := 0) rfl (by decide) (by decide) rfl (fun ls hl => ?_)
  refine lv_goto (tgt := 8) hx hb dX13_wordAt_29 (by decide) ?_
  refine lv_iload_n hx hb dX13_wordAt_8 rfl (lv_at hl 0 rfl) ?_
  refine lv_if_lt (tgt := 32) hx hb dX13_wordAt_9 (by decide) (fun c9 => absurd c9 (by decide)) (fun _ => ?_)
  refine lv_aload_n hx hb dX13_wordAt_12 rfl (lv_at hl 1 rfl) ?_
  refine lv_aload_n hx hb dX13_wordAt_13 rfl (lv_at hl 1 rfl) ?_
  refine va_get (D := D) (ci := 10) (v := .ref h1) (C := RX13) (T := TX13) (N := 45) hx hb hts in_X13_wordAt_X13 hown hE.1 hP 0 rfl rfl 27 (by decide) (hts (.fieldLink RX13 100 "ClauseBookModel" "words" "[Ljava/lang/String;") (List.mem_of_getElem? (i := 1) rfl)) (fun _ h9 => h9) e0_27 dX13_wordAt_14 ?_
  refine lv_iload_n hx hb dX13_wordAt_17 rfl (lv_at hl 0 rfl) ?_
  refine va_aldq hx hb hE.1 hP 1 8 rfl rfl (by unfold vp_in; decide) dX13_wordAt_18 ?_
  refine W.eq (g2 := F0 m 19 ls [.ref (sa 2), .ref h0]) rfl ?_
  refine lv_iload_n hx hb dX13_wordAt_19 rfl (lv_at hl 2 rfl) ?_
  refine vp_callSi (W.runV (As := [.ref (sa 2), .int 0]) (rest := []) ⟨hx, hb, hml, hown, hts⟩ (f_X13_isWord l D T ad sa av ta h0 fs0 2 (by decide) e0_28) (cwV 2 hts gX13_wordAt_X13_isWord rfl rfl rfl (by decide +kernel) ⟨Nat.le_of_ble_eq_true rfl, Nat.le_of_ble_eq_true rfl⟩) (pRk_V (ci := 10) (q0 := 0) hP hE hV hS rfl rfl [0] rfl) rfl rfl hl.1 rfl (lv_room (Nat.le_of_ble_eq_true rfl)) dX13_wordAt_20 ⟨Nat.le_of_ble_eq_true rfl, Nat.le_of_ble_eq_true rfl⟩) (fun r_12 hr_12 => ?_)
  obtain rfl : r_12 = 0 := hr_12
  refine lv_if_ne (tgt := 32) hx hb dX13_wordAt_23 (by decide) (fun c9 => absurd c9 (by decide)) (fun _ => ?_)
  refine lv_iinc (v := 1) (lv' := [(2, .int 1), (0, .ref h0), (1, .int 0)]) hx hb dX13_wordAt_26 hl (k := 0) rfl (by decide) (by decide) rfl (fun ls hl => ?_)
  refine lv_goto (tgt := 8) hx hb dX13_wordAt_29 (by decide) ?_
  refine lv_iload_n hx hb dX13_wordAt_8 rfl (lv_at hl 0 rfl) ?_
  refine lv_if_lt (tgt := 32) hx hb dX13_wordAt_9 (by decide) (fun c9 => absurd c9 (by decide)) (fun _ => ?_)
  refine lv_aload_n hx hb dX13_wordAt_12 rfl (lv_at hl 1 rfl) ?_
  refine lv_aload_n hx hb dX13_wordAt_13 rfl (lv_at hl 1 rfl) ?_
  refine va_get (D := D) (ci := 10) (v := .ref h1) (C := RX13) (T := TX13) (N := 45) hx hb hts in_X13_wordAt_X13 hown hE.1 hP 0 rfl rfl 27 (by decide) (hts (.fieldLink RX13 100 "ClauseBookModel" "words" "[Ljava/lang/String;") (List.mem_of_getElem? (i := 1) rfl)) (fun _ h9 => h9) e0_27 dX13_wordAt_14 ?_
  refine lv_iload_n hx hb dX13_wordAt_17 rfl (lv_at hl 0 rfl) ?_
  refine va_aldq hx hb hE.1 hP 1 8 rfl rfl (by unfold vp_in; decide) dX13_wordAt_18 ?_
  refine W.eq (g2 := F0 m 19 ls [.ref (sa 1), .ref h0]) rfl ?_
  refine lv_iload_n hx hb dX13_wordAt_19 rfl (lv_at hl 2 rfl) ?_
  refine vp_callSi (W.runV (As := [.ref (sa 1), .int 0]) (rest := []) ⟨hx, hb, hml, hown, hts⟩ (f_X13_isWord l D T ad sa av ta h0 fs0 1 (by decide) e0_28) (cwV 2 hts gX13_wordAt_X13_isWord rfl rfl rfl (by decide +kernel) ⟨Nat.le_of_ble_eq_true rfl, Nat.le_of_ble_eq_true rfl⟩) (pRk_V (ci := 10) (q0 := 0) hP hE hV hS rfl rfl [0] rfl) rfl rfl hl.1 rfl (lv_room (Nat.le_of_ble_eq_true rfl)) dX13_wordAt_20 ⟨Nat.le_of_ble_eq_true rfl, Nat.le_of_ble_eq_true rfl⟩) (fun r_13 hr_13 => ?_)
  obtain rfl : r_13 = 0 := hr_13
  refine lv_if_ne (tgt := 32) hx hb dX13_wordAt_23 (by decide) (fun c9 => absurd c9 (by decide)) (fun _ => ?_)
  refine lv_iinc (v := 0) (lv' := [(2, .int 0), (0, .ref h0), (1, .int 0)]) hx hb dX13_wordAt_26 hl (k := 0) rfl (by decide) (by decide) rfl (fun ls hl => ?_)
  refine lv_goto (tgt := 8) hx hb dX13_wordAt_29 (by decide) ?_
  refine lv_iload_n hx hb dX13_wordAt_8 rfl (lv_at hl 0 rfl) ?_
  refine lv_if_lt (tgt := 32) hx hb dX13_wordAt_9 (by decide) (fun c9 => absurd c9 (by decide)) (fun _ => ?_)
  refine lv_aload_n hx hb dX13_wordAt_12 rfl (lv_at hl 1 rfl) ?_
  refine lv_aload_n hx hb dX13_wordAt_13 rfl (lv_at hl 1 rfl) ?_
  refine va_get (D := D) (ci := 10) (v := .ref h1) (C := RX13) (T := TX13) (N := 45) hx hb hts in_X13_wordAt_X13 hown hE.1 hP 0 rfl rfl 27 (by decide) (hts (.fieldLink RX13 100 "ClauseBookModel" "words" "[Ljava/lang/String;") (List.mem_of_getElem? (i := 1) rfl)) (fun _ h9 => h9) e0_27 dX13_wordAt_14 ?_
  refine lv_iload_n hx hb dX13_wordAt_17 rfl (lv_at hl 0 rfl) ?_
  refine va_aldq hx hb hE.1 hP 1 8 rfl rfl (by unfold vp_in; decide) dX13_wordAt_18 ?_
  refine W.eq (g2 := F0 m 19 ls [.ref (sa 0), .ref h0]) rfl ?_
  refine lv_iload_n hx hb dX13_wordAt_19 rfl (lv_at hl 2 rfl) ?_
  refine vp_callSi (W.runV (As := [.ref (sa 0), .int 0]) (rest := []) ⟨hx, hb, hml, hown, hts⟩ (f_X13_isWord l D T ad sa av ta h0 fs0 0 (by decide) e0_28) (cwV 2 hts gX13_wordAt_X13_isWord rfl rfl rfl (by decide +kernel) ⟨Nat.le_of_ble_eq_true rfl, Nat.le_of_ble_eq_true rfl⟩) (pRk_V (ci := 10) (q0 := 0) hP hE hV hS rfl rfl [0] rfl) rfl rfl hl.1 rfl (lv_room (Nat.le_of_ble_eq_true rfl)) dX13_wordAt_20 ⟨Nat.le_of_ble_eq_true rfl, Nat.le_of_ble_eq_true rfl⟩) (fun r_14 hr_14 => ?_)
  obtain rfl : r_14 = 0 := hr_14
  refine lv_if_ne (tgt := 32) hx hb dX13_wordAt_23 (by decide) (fun c9 => absurd c9 (by decide)) (fun _ => ?_)
  refine lv_iinc (v := (-1)) (lv' := [(2, .int (-1)), (0, .ref h0), (1, .int 0)]) hx hb dX13_wordAt_26 hl (k := 0) rfl (by decide) (by decide) rfl (fun ls hl => ?_)
  refine lv_goto (tgt := 8) hx hb dX13_wordAt_29 (by decide) ?_
  refine lv_iload_n hx hb dX13_wordAt_8 rfl (lv_at hl 0 rfl) ?_
  refine lv_if_lt (tgt := 32) hx hb dX13_wordAt_9 (by decide) (fun _ => ?_) (fun c9 => absurd c9 (by decide))
  refine lv_iload_n hx hb dX13_wordAt_32 rfl (lv_at hl 0 rfl) ?_
  exact W.iret hx hb hr (fun t ht hW => ⟨_, rfl, rfl, ht⟩) (fun _ h => by cases h) dX13_wordAt_33
theorem dX13_here_0 : decode cX13_here 0 = .ok (.aload_n 0, 1) := by decide +kernel
theorem dX13_here_1 : decode cX13_here 1 = .ok (.getfield 344, 3) := by decide +kernel
theorem dX13_here_23 : decode cX13_here 23 = .ok (.iconst (-1), 1) := by decide +kernel
theorem dX13_here_24 : decode cX13_here 24 = .ok (.ireturn, 1) := by decide +kernel
theorem dX13_here_4 : decode cX13_here 4 = .ok (.aload_n 0, 1) := by decide +kernel
theorem dX13_here_5 : decode cX13_here 5 = .ok (.getfield 341, 3) := by decide +kernel
theorem dX13_here_8 : decode cX13_here 8 = .ok (.if_icmp .ge 15, 3) := by decide +kernel
set_option maxRecDepth 20000 in
theorem in_X13_here_X13 : ∀ w ∈ wsX130, w ∈ wsX13_here := by decide +kernel
set_option maxHeartbeats 4000000 in
set_option maxRecDepth 100000 in
theorem f_X13_here (l : Launch) (D : va_G) (T : Nat → ClassId) (h0 : Nat) (fs0 : List Value) (e0_28 : fs0[28]? = some (.int 0)) (e0_26 : fs0[26]? = some (.int 0)) : Met l yX13_here wsX13_here ({ frames := 0, cells := 0, slots := 0, locals := 0 }) (pR [.ref h0] D T [(h0, .inr (10, fs0))]) (vp_Si (fun r => r = -1)) 0 0 (fun _ => False) := by
  refine Met.ofW (cc := cX13_here) (maxL := 1) (ret := (some .int)) (by decide) rfl ?_
  intro p e s m args below meth c s₁ B hml hv
  obtain ⟨rfl, hP, hE⟩ := hv
  have hx := B.exec
  have hb := B.bytes
  have hr := B.returns
  have hts := atoms_spec (ws := wsX13_here) B.pre
  have hown : s.vm.findClass RX13 = some m.cls := findClass_of_methodNamed B.named
  have hlocks := B.notSynchronized
  have hP : va_P D vwCl [(h0, .inr (10, fs0))] s.heap := hP
  have hl := lv_entry ([.ref h0]) (n := 1) (Nat.le_of_ble_eq_true rfl)
  rw [lg_entry_eq]
  generalize (lg_sl ([.ref h0]) ++ List.replicate (1 - (lg_sl ([.ref h0])).length) Slot.unset).toArray = ls at hl ⊢
  have hl : lv_has ls 1 [(0, .ref h0)] := hl
  refine lv_aload_n hx hb dX13_here_0 rfl (lv_at hl 0 rfl) ?_
  refine va_get (D := D) (ci := 10) (v := .int 0) (C := RX13) (T := TX13) (N := 45) hx hb hts in_X13_here_X13 hown hE.1 hP 0 rfl rfl 28 (by decide) (hts (.fieldLink RX13 344 "ClauseBookModel" "cursor" "I") (List.mem_of_getElem? (i := 1) rfl)) (fun _ h9 => h9) e0_28 dX13_here_1 ?_
  refine lv_aload_n hx hb dX13_here_4 rfl (lv_at hl 0 rfl) ?_
  refine va_get (D := D) (ci := 10) (v := .int 0) (C := RX13) (T := TX13) (N := 45) hx hb hts in_X13_here_X13 hown hE.1 hP 0 rfl rfl 26 (by decide) (hts (.fieldLink RX13 341 "ClauseBookModel" "taped" "I") (List.mem_of_getElem? (i := 2) rfl)) (fun _ h9 => h9) e0_26 dX13_here_5 ?_
  refine lv_icmp_ge (tgt := 23) hx hb dX13_here_8 (by decide) (fun _ => ?_) (fun c9 => absurd c9 (by decide))
  refine lv_iconst (v := (-1)) hx hb dX13_here_23 (by decide) ?_
  exact W.iret hx hb hr (fun t ht hW => ⟨_, rfl, rfl, ht⟩) (fun _ h => by cases h) dX13_here_24
theorem dX13_blanks_0 : decode cX13_blanks 0 = .ok (.aload_n 0, 1) := by decide +kernel
theorem dX13_blanks_1 : decode cX13_blanks 1 = .ok (.invokevirtual 350, 3) := by decide +kernel
theorem dX13_blanks_22 : decode cX13_blanks 22 = .ok (.return_, 1) := by decide +kernel
theorem dX13_blanks_4 : decode cX13_blanks 4 = .ok (.bipush 32, 2) := by decide +kernel
theorem dX13_blanks_6 : decode cX13_blanks 6 = .ok (.if_icmp .ne 16, 3) := by decide +kernel
set_option maxRecDepth 20000 in
theorem ggX13_blanks_X13_here : GoodIn wsX13_blanks wsX13_here := goodIn_r _ [6, 1, 7, 8, 9, 10, 11, 12, 13, 14, 15, 16, 17, 18, 19, 20, 21, 22, 23, 24, 25, 26, 27, 28, 29, 30, 31, 32, 33, 34, 35, 36, 37, 38, 39, 40, 41, 42, 43, 44, 45, 46, 47, 48, 49, 50, 51, 52, 53] (by decide +kernel) (by decide +kernel)
set_option maxRecDepth 20000 in
theorem gX13_blanks_X13_here : GoodIn wsX13_blanks (wsV RX13 350 RX13 yX13_here wsX13_here) := goodIn_app (goodIn_of _ (by decide +kernel)) ggX13_blanks_X13_here
set_option maxHeartbeats 4000000 in
set_option maxRecDepth 100000 in
theorem f_X13_blanks (l : Launch) (D : va_G) (T : Nat → ClassId) (h0 : Nat) (fs0 : List Value) (e0_28 : fs0[28]? = some (.int 0)) (e0_26 : fs0[26]? = some (.int 0)) : Met l yX13_blanks wsX13_blanks ({ frames := 1, cells := 0, slots := 0, locals := 20 }) (pR [.ref h0] D T [(h0, .inr (10, fs0))]) (va_Sv (fun r => True)) 0 0 (fun _ => False) := by
  refine Met.ofW (cc := cX13_blanks) (maxL := 1) (ret := none) (by decide) rfl ?_
  intro p e s m args below meth c s₁ B hml hv
  obtain ⟨rfl, hP, hE⟩ := hv
  have hx := B.exec
  have hb := B.bytes
  have hr := B.returns
  have hts := atoms_spec (ws := wsX13_blanks) B.pre
  have hown : s.vm.findClass RX13 = some m.cls := findClass_of_methodNamed B.named
  have hlocks := B.notSynchronized
  have hP : va_P D vwCl [(h0, .inr (10, fs0))] s.heap := hP
  have hl := lv_entry ([.ref h0]) (n := 1) (Nat.le_of_ble_eq_true rfl)
  rw [lg_entry_eq]
  generalize (lg_sl ([.ref h0]) ++ List.replicate (1 - (lg_sl ([.ref h0])).length) Slot.unset).toArray = ls at hl ⊢
  have hl : lv_has ls 1 [(0, .ref h0)] := hl
  refine lv_aload_n hx hb dX13_blanks_0 rfl (lv_at hl 0 rfl) ?_
  refine vp_callSi (W.runV (As := []) (rest := []) ⟨hx, hb, hml, hown, hts⟩ (f_X13_here l D T h0 fs0 e0_28 e0_26) (cwV 0 hts gX13_blanks_X13_here rfl rfl rfl (by decide +kernel) ⟨Nat.le_of_ble_eq_true rfl, Nat.le_of_ble_eq_true rfl⟩) (pR_V (ci := 10) (q0 := 0) hP hE rfl rfl [0] rfl) rfl rfl hl.1 rfl (lv_room (Nat.le_of_ble_eq_true rfl)) dX13_blanks_1 ⟨Nat.le_of_ble_eq_true rfl, Nat.le_of_ble_eq_true rfl⟩) (fun r_1 hr_1 => ?_)
  obtain rfl : r_1 = (-1) := hr_1
  refine lv_bipush (v := 32) hx hb dX13_blanks_4 (by decide) ?_
  refine lv_icmp_ne (tgt := 22) hx hb dX13_blanks_6 (by decide) (fun _ => ?_) (fun c9 => absurd c9 (by decide))
  exact W.vret hx hb hr (fun t ht hW => ⟨rfl, trivial, ht⟩) (fun _ h => by cases h) dX13_blanks_22
theorem dX13_must_0 : decode cX13_must 0 = .ok (.aload_n 0, 1) := by decide +kernel
theorem dX13_must_1 : decode cX13_must 1 = .ok (.iload_n 1, 1) := by decide +kernel
theorem dX13_must_12 : decode cX13_must 12 = .ok (.iload_n 2, 1) := by decide +kernel
theorem dX13_must_13 : decode cX13_must 13 = .ok (.putfield 347, 3) := by decide +kernel
theorem dX13_must_16 : decode cX13_must 16 = .ok (.iload_n 1, 1) := by decide +kernel
theorem dX13_must_17 : decode cX13_must 17 = .ok (.ireturn, 1) := by decide +kernel
theorem dX13_must_2 : decode cX13_must 2 = .ok (.ifCond .eq 10, 3) := by decide +kernel
set_option maxRecDepth 20000 in
theorem in_X13_must_X13 : ∀ w ∈ wsX130, w ∈ wsX13_must := by decide +kernel
set_option maxHeartbeats 4000000 in
set_option maxRecDepth 100000 in
theorem f_X13_must (l : Launch) (D : va_G) (T : Nat → ClassId) (sz : Nat) (h0 : Nat) (fs0 : List Value) (hl0 : fs0.length = 45) : Met l yX13_must wsX13_must ({ frames := 0, cells := 0, slots := 0, locals := 0 }) (pW [.ref h0, .int 0, .int 0] D T [(h0, .inr (10, fs0))] sz) (va_Qi (fun (r : Int32) (u : List Value) => r = 0 ∧ u.length = 45 ∧ u[29]? = some (.int 0)) (bW D (va_A [(h0, .inr (10, fs0))] sz) (fun (u : List Value) => [(h0, .inr (10, u))])) (va_A [(h0, .inr (10, fs0))] sz)) 0 0 (va_A [(h0, .inr (10, fs0))] sz) := by
  refine Met.ofW (cc := cX13_must) (maxL := 3) (ret := (some .boolean)) (by decide) rfl ?_
  intro p e s m args below meth c s₁ B hml hv
  obtain ⟨rfl, hsz, hP, hE, hD0⟩ := hv
  have hx := B.exec
  have hb := B.bytes
  have hr := B.returns
  have hts := atoms_spec (ws := wsX13_must) B.pre
  have hown : s.vm.findClass RX13 = some m.cls := findClass_of_methodNamed B.named
  have hlocks := B.notSynchronized
  subst hsz
  have hD := hD0.self (sz := s.heap.size)
  generalize hAe : va_A [(h0, .inr (10, fs0))] s.heap.size = A at hD ⊢
  have hA : ∀ q : Nat, s.heap.size ≤ q → A q := fun q h => by rw [← hAe]; exact Or.inr h
  have hS : va_S A s.heap s.heap [] := va_S.rf
  have hP : va_P D vwCl [(h0, .inr (10, fs0))] s.heap := hP
  have hl := lv_entry ([.ref h0, .int 0, .int 0]) (n := 3) (Nat.le_of_ble_eq_true rfl)
  rw [lg_entry_eq]
  generalize (lg_sl ([.ref h0, .int 0, .int 0]) ++ List.replicate (3 - (lg_sl ([.ref h0, .int 0, .int 0])).length) Slot.unset).toArray = ls at hl ⊢
  have hl : lv_has ls 3 [(0, .ref h0), (1, .int 0), (2, .int 0)] := hl
  clear hD0
  refine lv_aload_n hx hb dX13_must_0 rfl (lv_at hl 0 rfl) ?_
  refine lv_iload_n hx hb dX13_must_1 rfl (lv_at hl 1 rfl) ?_
  refine lv_if_eq (tgt := 12) hx hb dX13_must_2 (by decide) (fun _ => ?_) (fun c9 => absurd c9 (by decide))
  refine lv_iload_n hx hb dX13_must_12 rfl (lv_at hl 2 rfl) ?_
  refine va_put (D := D) (ci := 10) (v := .int 0) (ty := .int) (C := RX13) (T := TX13) (N := 45) hx hb hts in_X13_must_X13 tyX13 tyX13_ok nmX13 hown hE.1 hP hD hS 0 rfl rfl 29 (by decide) (hts (.fieldLink RX13 347 "ClauseBookModel" "fault" "I") (List.mem_of_getElem? (i := 1) rfl)) (fun _ h9 => h9) rfl (by decide +kernel) rfl rfl (by rw [hl0]; decide) dX13_must_13 (fun H locs hP hD hS => ?_)
  obtain ⟨g_1, eg_1⟩ : ∃ z : List Value, z = fs0.set 29 (.int 0) := ⟨_, rfl⟩
  have hP : va_P D vwCl [(h0, .inr (10, g_1))] H := by rw [eg_1]; exact hP
  have hD : va_D A [(h0, .inr (10, g_1))] := by rw [eg_1]; exact hD
  have lg_1 : g_1.length = 45 := by rw [eg_1, List.length_set]; exact hl0
  have kg_1_29 : g_1[29]? = some (.int 0) := by rw [eg_1]; exact List.getElem?_set_self (by rw [hl0]; decide)
  refine lv_iload_n hx hb dX13_must_16 rfl (lv_at hl 1 rfl) ?_
  exact W.zret hx hb hr rfl (fun t ht hW => ⟨⟨_, g_1, rfl, ⟨rfl, lg_1, kg_1_29⟩, by rw [ht]; exact hP.sub [0] rfl, hD.sub [0] (by decide) rfl⟩, hS.F ht⟩) hS.2.2 dX13_must_17
theorem dX13_told_0 : decode cX13_told 0 = .ok (.aload_n 0, 1) := by decide +kernel
theorem dX13_told_1 : decode cX13_told 1 = .ok (.invokevirtual 358, 3) := by decide +kernel
theorem dX13_told_10 : decode cX13_told 10 = .ok (.invokevirtual 350, 3) := by decide +kernel
theorem dX13_told_13 : decode cX13_told 13 = .ok (.i2l, 1) := by decide +kernel
theorem dX13_told_14 : decode cX13_told 14 = .ok (.ldc2_w 383, 3) := by decide +kernel
theorem dX13_told_17 : decode cX13_told 17 = .ok (.ldc2_w 385, 3) := by decide +kernel
theorem dX13_told_20 : decode cX13_told 20 = .ok (.invokestatic 175, 3) := by decide +kernel
theorem dX13_told_23 : decode cX13_told 23 = .ok (.ifCond .eq 16, 3) := by decide +kernel
theorem dX13_told_39 : decode cX13_told 39 = .ok (.aload_n 0, 1) := by decide +kernel
theorem dX13_told_4 : decode cX13_told 4 = .ok (.aload_n 0, 1) := by decide +kernel
theorem dX13_told_40 : decode cX13_told 40 = .ok (.iload_n 1, 1) := by decide +kernel
theorem dX13_told_41 : decode cX13_told 41 = .ok (.invokevirtual 387, 3) := by decide +kernel
theorem dX13_told_44 : decode cX13_told 44 = .ok (.istore_n 2, 1) := by decide +kernel
theorem dX13_told_45 : decode cX13_told 45 = .ok (.aload_n 0, 1) := by decide +kernel
theorem dX13_told_46 : decode cX13_told 46 = .ok (.iload_n 2, 1) := by decide +kernel
theorem dX13_told_47 : decode cX13_told 47 = .ok (.ifCond .lt 7, 3) := by decide +kernel
theorem dX13_told_5 : decode cX13_told 5 = .ok (.getfield 344, 3) := by decide +kernel
theorem dX13_told_54 : decode cX13_told 54 = .ok (.iconst 0, 1) := by decide +kernel
theorem dX13_told_55 : decode cX13_told 55 = .ok (.iload_n 1, 1) := by decide +kernel
theorem dX13_told_56 : decode cX13_told 56 = .ok (.invokevirtual 365, 3) := by decide +kernel
theorem dX13_told_59 : decode cX13_told 59 = .ok (.ifCond .ne 5, 3) := by decide +kernel
theorem dX13_told_62 : decode cX13_told 62 = .ok (.iconst (-1), 1) := by decide +kernel
theorem dX13_told_63 : decode cX13_told 63 = .ok (.ireturn, 1) := by decide +kernel
theorem dX13_told_8 : decode cX13_told 8 = .ok (.istore_n 1, 1) := by decide +kernel
theorem dX13_told_9 : decode cX13_told 9 = .ok (.aload_n 0, 1) := by decide +kernel
set_option maxRecDepth 20000 in
theorem ggX13_told_X13_blanks : GoodIn wsX13_told wsX13_blanks := goodIn_r _ [12, 1, 13, 14, 15, 11, 16, 17, 18, 118, 119, 120, 121, 122, 123, 124, 125, 126, 127, 128, 129, 130, 131, 132, 133, 134, 135, 136, 137, 138, 139, 140, 141, 142, 143, 144, 145, 146, 147, 148, 149, 150, 151, 152, 153, 154, 155, 156, 157, 158, 159, 160, 161, 162] (by decide +kernel) (by decide +kernel)
set_option maxRecDepth 20000 in
theorem ggX13_told_X13_here : GoodIn wsX13_told wsX13_here := goodIn_r _ [16, 1, 17, 18, 118, 119, 120, 121, 122, 123, 124, 125, 126, 127, 128, 129, 130, 131, 132, 133, 134, 135, 136, 137, 138, 139, 140, 141, 142, 143, 144, 145, 146, 147, 148, 149, 150, 151, 152, 153, 154, 155, 156, 157, 158, 159, 160, 161, 162] (by decide +kernel) (by decide +kernel)
set_option maxRecDepth 20000 in
theorem ggX13_told_X13_in : GoodIn wsX13_told wsX13_in := goodIn_r _ [21] (by decide +kernel) (by decide +kernel)
set_option maxRecDepth 20000 in
theorem ggX13_told_X13_must : GoodIn wsX13_told wsX13_must := goodIn_r _ [83, 84, 118, 119, 120, 121, 122, 123, 124, 125, 126, 127, 128, 129, 130, 131, 132, 133, 134, 135, 136, 137, 138, 139, 140, 141, 142, 143, 144, 145, 146, 147, 148, 149, 150, 151, 152, 153, 154, 155, 156, 157, 158, 159, 160, 161, 162] (by decide +kernel) (by decide +kernel)
set_option maxRecDepth 20000 in
theorem ggX13_told_X13_wordAt : GoodIn wsX13_told wsX13_wordAt := goodIn_r _ [25, 26, 27, 28, 29, 11, 30, 1, 18, 31, 32, 33, 34, 35, 36, 37, 38, 39, 40, 41, 42, 43, 44, 45, 46, 47, 48, 49, 50, 51, 52, 53, 54, 55, 56, 57, 58, 59, 60, 61, 62, 63, 64, 65, 66, 67, 68, 69, 70, 71, 72, 73, 74, 75, 76, 77, 78, 79, 118, 119, 120, 121, 122, 123, 124, 125, 126, 127, 128, 129, 130, 131, 132, 133, 134, 135, 136, 137, 138, 139, 140, 141, 142, 143, 144, 145, 146, 147, 148, 149, 150, 151, 152, 153, 154, 155, 156, 157, 158, 159, 160, 161, 162] (by decide +kernel) (by decide +kernel)
set_option maxRecDepth 20000 in
theorem gX13_told_X13_blanks : GoodIn wsX13_told (wsV RX13 358 RX13 yX13_blanks wsX13_blanks) := goodIn_app (goodIn_of _ (by decide +kernel)) ggX13_told_X13_blanks
set_option maxRecDepth 20000 in
theorem gX13_told_X13_here : GoodIn wsX13_told (wsV RX13 350 RX13 yX13_here wsX13_here) := goodIn_app (goodIn_of _ (by decide +kernel)) ggX13_told_X13_here
set_option maxRecDepth 20000 in
theorem gX13_told_X13_in : GoodIn wsX13_told (va_wsS RX13 175 yX13_in wsX13_in) := goodIn_app (goodIn_of _ (by decide +kernel)) ggX13_told_X13_in
set_option maxRecDepth 20000 in
theorem gX13_told_X13_must : GoodIn wsX13_told (wsV RX13 365 RX13 yX13_must wsX13_must) := goodIn_app (goodIn_of _ (by decide +kernel)) ggX13_told_X13_must
set_option maxRecDepth 20000 in
theorem gX13_told_X13_wordAt : GoodIn wsX13_told (wsV RX13 387 RX13 yX13_wordAt wsX13_wordAt) := goodIn_app (goodIn_of _ (by decide +kernel)) ggX13_told_X13_wordAt
set_option maxRecDepth 20000 in
theorem in_X13_told_X13 : ∀ w ∈ wsX130, w ∈ wsX13_told := by decide +kernel
set_option maxHeartbeats 4000000 in
set_option maxRecDepth 100000 in
theorem f_X13_told (l : Launch) (D : va_G) (T : Nat → ClassId) (ad sa av : Nat → Nat) (ta : Nat) (sz : Nat) (h0 : Nat) (fs0 : List Value) (h1 : Nat) (hl0 : fs0.length = 45) (e0_27 : fs0[27]? = some (.ref h1)) (e0_28 : fs0[28]? = some (.int 0)) (e0_26 : fs0[26]? = some (.int 0)) : Met l yX13_told wsX13_told ({ frames := 4, cells := 0, slots := 0, locals := 86 }) (pWk [.ref h0] D T [(h0, .inr (10, fs0)), (h1, .inl (T 8, 13, .inr (.inr (.inr (.inr (va_up (va_up (va_up (va_up (va_up (va_up (va_up (va_up (va_up (va_up (va_up (va_up (va_up (fun _ => none) 0 (some (sa 0))) 1 (some (sa 1))) 2 (some (sa 2))) 3 (some (sa 3))) 4 (some (sa 4))) 5 (some (sa 5))) 6 (some (sa 6))) 7 (some (sa 7))) 8 (some (sa 8))) 9 (some (sa 9))) 10 (some (sa 10))) 11 (some (sa 11))) 12 (some (sa 12))))))))] sz ad sa av ta) (va_Qi (fun (r : Int32) (u : List Value) => r = -1 ∧ u.length = 45 ∧ u[29]? = some (.int 0)) (bW D (va_A [(h0, .inr (10, fs0)), (h1, .inl (T 8, 13, .inr (.inr (.inr (.inr (va_up (va_up (va_up (va_up (va_up (va_up (va_up (va_up (va_up (va_up (va_up (va_up (va_up (fun _ => none) 0 (some (sa 0))) 1 (some (sa 1))) 2 (some (sa 2))) 3 (some (sa 3))) 4 (some (sa 4))) 5 (some (sa 5))) 6 (some (sa 6))) 7 (some (sa 7))) 8 (some (sa 8))) 9 (some (sa 9))) 10 (some (sa 10))) 11 (some (sa 11))) 12 (some (sa 12))))))))] sz) (fun (u : List Value) => [(h0, .inr (10, u))])) (va_A [(h0, .inr (10, fs0)), (h1, .inl (T 8, 13, .inr (.inr (.inr (.inr (va_up (va_up (va_up (va_up (va_up (va_up (va_up (va_up (va_up (va_up (va_up (va_up (va_up (fun _ => none) 0 (some (sa 0))) 1 (some (sa 1))) 2 (some (sa 2))) 3 (some (sa 3))) 4 (some (sa 4))) 5 (some (sa 5))) 6 (some (sa 6))) 7 (some (sa 7))) 8 (some (sa 8))) 9 (some (sa 9))) 10 (some (sa 10))) 11 (some (sa 11))) 12 (some (sa 12))))))))] sz)) 0 0 (va_A [(h0, .inr (10, fs0)), (h1, .inl (T 8, 13, .inr (.inr (.inr (.inr (va_up (va_up (va_up (va_up (va_up (va_up (va_up (va_up (va_up (va_up (va_up (va_up (va_up (fun _ => none) 0 (some (sa 0))) 1 (some (sa 1))) 2 (some (sa 2))) 3 (some (sa 3))) 4 (some (sa 4))) 5 (some (sa 5))) 6 (some (sa 6))) 7 (some (sa 7))) 8 (some (sa 8))) 9 (some (sa 9))) 10 (some (sa 10))) 11 (some (sa 11))) 12 (some (sa 12))))))))] sz) := by
  refine Met.ofW (cc := cX13_told) (maxL := 6) (ret := (some .int)) (by decide) rfl ?_
  intro p e s m args below meth c s₁ B hml hv
  obtain ⟨rfl, hsz, hP, hE, hD0, hV⟩ := hv
  have hx := B.exec
  have hb := B.bytes
  have hr := B.returns
  have hts := atoms_spec (ws := wsX13_told) B.pre
  have hown : s.vm.findClass RX13 = some m.cls := findClass_of_methodNamed B.named
  have hlocks := B.notSynchronized
  subst hsz
  have hD := hD0.self (sz := s.heap.size)
  generalize hAe : va_A [(h0, .inr (10, fs0)), (h1, .inl (T 8, 13, .inr (.inr (.inr (.inr (va_up (va_up (va_up (va_up (va_up (va_up (va_up (va_up (va_up (va_up (va_up (va_up (va_up (fun _ => none) 0 (some (sa 0))) 1 (some (sa 1))) 2 (some (sa 2))) 3 (some (sa 3))) 4 (some (sa 4))) 5 (some (sa 5))) 6 (some (sa 6))) 7 (some (sa 7))) 8 (some (sa 8))) 9 (some (sa 9))) 10 (some (sa 10))) 11 (some (sa 11))) 12 (some (sa 12))))))))] s.heap.size = A at hD hV ⊢
  have hA : ∀ q : Nat, s.heap.size ≤ q → A q := fun q h => by rw [← hAe]; exact Or.inr h
  have hS : va_S A s.heap s.heap [] := va_S.rf
  have hP : va_P D vwCl [(h0, .inr (10, fs0)), (h1, .inl (T 8, 13, .inr (.inr (.inr (.inr (va_up (va_up (va_up (va_up (va_up (va_up (va_up (va_up (va_up (va_up (va_up (va_up (va_up (fun _ => none) 0 (some (sa 0))) 1 (some (sa 1))) 2 (some (sa 2))) 3 (some (sa 3))) 4 (some (sa 4))) 5 (some (sa 5))) 6 (some (sa 6))) 7 (some (sa 7))) 8 (some (sa 8))) 9 (some (sa 9))) 10 (some (sa 10))) 11 (some (sa 11))) 12 (some (sa 12))))))))] s.heap := hP
  have hl := lv_entry ([.ref h0]) (n := 6) (Nat.le_of_ble_eq_true rfl)
  rw [lg_entry_eq]
  generalize (lg_sl ([.ref h0]) ++ List.replicate (6 - (lg_sl ([.ref h0])).length) Slot.unset).toArray = ls at hl ⊢
  have hl : lv_has ls 6 [(0, .ref h0)] := hl
  clear hD0
  refine lv_aload_n hx hb dX13_told_0 rfl (lv_at hl 0 rfl) ?_
  refine va_csv (W.runV (As := []) (rest := []) ⟨hx, hb, hml, hown, hts⟩ (f_X13_blanks l D T h0 fs0 e0_28 e0_26) (cwV 0 hts gX13_told_X13_blanks rfl rfl rfl (by decide +kernel) ⟨Nat.le_of_ble_eq_true rfl, Nat.le_of_ble_eq_true rfl⟩) (pR_V (ci := 10) (q0 := 0) hP hE rfl rfl [0] rfl) rfl rfl hl.1 rfl (lv_room (Nat.le_of_ble_eq_true rfl)) dX13_told_1 ⟨Nat.le_of_ble_eq_true rfl, Nat.le_of_ble_eq_true rfl⟩) (fun hr_1 => ?_)
  refine lv_aload_n hx hb dX13_told_4 rfl (lv_at hl 0 rfl) ?_
  refine va_get (D := D) (ci := 10) (v := .int 0) (C := RX13) (T := TX13) (N := 45) hx hb hts in_X13_told_X13 hown hE.1 hP 0 rfl rfl 28 (by decide) (hts (.fieldLink RX13 344 "ClauseBookModel" "cursor" "I") (List.mem_of_getElem? (i := 1) rfl)) (fun _ h9 => h9) e0_28 dX13_told_5 ?_
  refine lv_istore_n (lv' := [(1, .int 0), (0, .ref h0)]) hx hb dX13_told_8 rfl hl (by decide) rfl (fun ls hl => ?_)
  refine lv_aload_n hx hb dX13_told_9 rfl (lv_at hl 1 rfl) ?_
  refine vp_callSi (W.runV (As := []) (rest := []) ⟨hx, hb, hml, hown, hts⟩ (f_X13_here l D T h0 fs0 e0_28 e0_26) (cwV 0 hts gX13_told_X13_here rfl rfl rfl (by decide +kernel) ⟨Nat.le_of_ble_eq_true rfl, Nat.le_of_ble_eq_true rfl⟩) (pR_V (ci := 10) (q0 := 0) hP hE rfl rfl [0] rfl) rfl rfl hl.1 rfl (lv_room (Nat.le_of_ble_eq_true rfl)) dX13_told_10 ⟨Nat.le_of_ble_eq_true rfl, Nat.le_of_ble_eq_true rfl⟩) (fun r_2 hr_2 => ?_)
  obtain rfl : r_2 = (-1) := hr_2
  refine lv_i2l (v := (-1)) hx hb dX13_told_13 (by decide) ?_
  refine lv_ldc2 (v := 97) hx hb hown (hts (.constantLong RX13 383 (97)) (List.mem_of_getElem? (i := 2) rfl)) dX13_told_14 ?_
  refine lv_ldc2 (v := 122) hx hb hown (hts (.constantLong RX13 385 (122)) (List.mem_of_getElem? (i := 3) rfl)) dX13_told_17 ?_
  refine vp_callSi (W.runS (As := [.long (-1), .long 97, .long 122]) (rest := []) ⟨hx, hb, hml, hown, hts⟩ (c_X13_in l D T (-1) 97 122 (-1) 97 122 (by decide) (by decide) (by decide)) (va_cwS 3 hts gX13_told_X13_in rfl rfl rfl (by decide +kernel) ⟨Nat.le_of_ble_eq_true rfl, Nat.le_of_ble_eq_true rfl⟩) (pR_S hP hE [] rfl) rfl rfl hl.1 rfl (lv_room (Nat.le_of_ble_eq_true rfl)) dX13_told_20 ⟨Nat.le_of_ble_eq_true rfl, Nat.le_of_ble_eq_true rfl⟩) (fun r_3 hr_3 => ?_)
  rcases bool_post hr_3 with ⟨c_4, rfl⟩ | ⟨c_4, rfl⟩
  · exact absurd c_4 (by omega)
  refine lv_if_eq (tgt := 39) hx hb dX13_told_23 (by decide) (fun _ => ?_) (fun c9 => absurd c9 (by decide))
  refine lv_aload_n hx hb dX13_told_39 rfl (lv_at hl 1 rfl) ?_
  refine lv_iload_n hx hb dX13_told_40 rfl (lv_at hl 0 rfl) ?_
  refine vp_callSi (W.runV (As := [.int 0]) (rest := []) ⟨hx, hb, hml, hown, hts⟩ (f_X13_wordAt l D T ad sa av ta h0 fs0 h1 e0_28 e0_27) (cwV 1 hts gX13_told_X13_wordAt rfl rfl rfl (by decide +kernel) ⟨Nat.le_of_ble_eq_true rfl, Nat.le_of_ble_eq_true rfl⟩) (pRk_V (ci := 10) (q0 := 0) hP hE hV hS rfl rfl [0, 1] rfl) rfl rfl hl.1 rfl (lv_room (Nat.le_of_ble_eq_true rfl)) dX13_told_41 ⟨Nat.le_of_ble_eq_true rfl, Nat.le_of_ble_eq_true rfl⟩) (fun r_5 hr_5 => ?_)
  obtain rfl : r_5 = (-1) := hr_5
  refine lv_istore_n (lv' := [(2, .int (-1)), (1, .int 0), (0, .ref h0)]) hx hb dX13_told_44 rfl hl (by decide) rfl (fun ls hl => ?_)
  refine lv_aload_n hx hb dX13_told_45 rfl (lv_at hl 2 rfl) ?_
  refine lv_iload_n hx hb dX13_told_46 rfl (lv_at hl 0 rfl) ?_
  refine lv_if_lt (tgt := 54) hx hb dX13_told_47 (by decide) (fun _ => ?_) (fun c9 => absurd c9 (by decide))
  refine lv_iconst (v := 0) hx hb dX13_told_54 (by decide) ?_
  refine lv_iload_n hx hb dX13_told_55 rfl (lv_at hl 1 rfl) ?_
  have hFc := va_free (wc := [(h0, .inr (10, fs0))]) hD hS hA [0] rfl
  refine va_calli (va_runV (As := [.int 0, .int 0]) (rest := []) ⟨hx, hb, hml, hown, hts⟩ (f_X13_must l D T _ h0 fs0 hl0) (cwV 2 hts gX13_told_X13_must rfl rfl rfl (by decide +kernel) ⟨Nat.le_of_ble_eq_true rfl, Nat.le_of_ble_eq_true rfl⟩) (pW_V (ci := 10) (q0 := 0) hP hE hD rfl rfl [0] (by decide) rfl rfl) rfl rfl hl.1 rfl (lv_room (Nat.le_of_ble_eq_true rfl)) dX13_told_56 ⟨Nat.le_of_ble_eq_true rfl, Nat.le_of_ble_eq_true rfl⟩) hS (fun q _ h => hFc q h) hFc (fun r_6 u_7 t H1 locs ht hvm hr_6 hB hz1 hk1 hS => ?_)
  obtain ⟨hxu_7, lu_7, ku_7_29⟩ := hr_6
  obtain ⟨hP1, hD1⟩ := hB
  rw [ht] at hP1
  obtain ⟨hP, hD⟩ := va_join (wr := [(h1, .inl (T 8, 13, .inr (.inr (.inr (.inr (va_up (va_up (va_up (va_up (va_up (va_up (va_up (va_up (va_up (va_up (va_up (va_up (va_up (fun _ => none) 0 (some (sa 0))) 1 (some (sa 1))) 2 (some (sa 2))) 3 (some (sa 3))) 4 (some (sa 4))) 5 (some (sa 5))) 6 (some (sa 6))) 7 (some (sa 7))) 8 (some (sa 8))) 9 (some (sa 9))) 10 (some (sa 10))) 11 (some (sa 11))) 12 (some (sa 12))))))))]) (w1 := [(h0, .inr (10, u_7))]) hP hD [0] [1] rfl rfl (by decide) (by decide) hk1 hFc hP1 hD1
  clear hP1 hD1 hFc
  generalize H1 = H at hP hS ⊢
  have hP : va_P D vwCl [(h1, .inl (T 8, 13, .inr (.inr (.inr (.inr (va_up (va_up (va_up (va_up (va_up (va_up (va_up (va_up (va_up (va_up (va_up (va_up (va_up (fun _ => none) 0 (some (sa 0))) 1 (some (sa 1))) 2 (some (sa 2))) 3 (some (sa 3))) 4 (some (sa 4))) 5 (some (sa 5))) 6 (some (sa 6))) 7 (some (sa 7))) 8 (some (sa 8))) 9 (some (sa 9))) 10 (some (sa 10))) 11 (some (sa 11))) 12 (some (sa 12)))))))), (h0, .inr (10, u_7))] H := hP
  have hD : va_D A [(h1, .inl (T 8, 13, .inr (.inr (.inr (.inr (va_up (va_up (va_up (va_up (va_up (va_up (va_up (va_up (va_up (va_up (va_up (va_up (va_up (fun _ => none) 0 (some (sa 0))) 1 (some (sa 1))) 2 (some (sa 2))) 3 (some (sa 3))) 4 (some (sa 4))) 5 (some (sa 5))) 6 (some (sa 6))) 7 (some (sa 7))) 8 (some (sa 8))) 9 (some (sa 9))) 10 (some (sa 10))) 11 (some (sa 11))) 12 (some (sa 12)))))))), (h0, .inr (10, u_7))] := hD
  obtain rfl : r_6 = 0 := hxu_7
  refine lv_if_ne (tgt := 64) hx hb dX13_told_59 (by decide) (fun c9 => absurd c9 (by decide)) (fun _ => ?_)
  refine lv_iconst (v := (-1)) hx hb dX13_told_62 (by decide) ?_
  exact W.iret hx hb hr (fun t ht hW => ⟨⟨_, u_7, rfl, ⟨rfl, lu_7, ku_7_29⟩, by rw [ht]; exact hP.sub [1] rfl, hD.sub [1] (by decide) rfl⟩, hS.F ht⟩) hS.2.2 dX13_told_63
theorem dX13_text_0 : decode cX13_text 0 = .ok (.aload_n 0, 1) := by decide +kernel
theorem dX13_text_1 : decode cX13_text 1 = .ok (.getfield 205, 3) := by decide +kernel
theorem dX13_text_10 : decode cX13_text 10 = .ok (.aload_n 0, 1) := by decide +kernel
theorem dX13_text_100 : decode cX13_text 100 = .ok (.ireturn, 1) := by decide +kernel
theorem dX13_text_11 : decode cX13_text 11 = .ok (.iconst 0, 1) := by decide +kernel
theorem dX13_text_12 : decode cX13_text 12 = .ok (.putfield 390, 3) := by decide +kernel
theorem dX13_text_15 : decode cX13_text 15 = .ok (.aload_n 0, 1) := by decide +kernel
theorem dX13_text_16 : decode cX13_text 16 = .ok (.iconst 1, 1) := by decide +kernel
theorem dX13_text_17 : decode cX13_text 17 = .ok (.putfield 393, 3) := by decide +kernel
theorem dX13_text_20 : decode cX13_text 20 = .ok (.aload_n 0, 1) := by decide +kernel
theorem dX13_text_21 : decode cX13_text 21 = .ok (.bipush 24, 2) := by decide +kernel
theorem dX13_text_23 : decode cX13_text 23 = .ok (.aload_n 0, 1) := by decide +kernel
theorem dX13_text_24 : decode cX13_text 24 = .ok (.getfield 205, 3) := by decide +kernel
theorem dX13_text_27 : decode cX13_text 27 = .ok (.isub, 1) := by decide +kernel
theorem dX13_text_28 : decode cX13_text 28 = .ok (.putfield 396, 3) := by decide +kernel
theorem dX13_text_31 : decode cX13_text 31 = .ok (.aload_n 0, 1) := by decide +kernel
theorem dX13_text_32 : decode cX13_text 32 = .ok (.invokevirtual 402, 3) := by decide +kernel
theorem dX13_text_35 : decode cX13_text 35 = .ok (.istore_n 2, 1) := by decide +kernel
theorem dX13_text_36 : decode cX13_text 36 = .ok (.iload_n 2, 1) := by decide +kernel
theorem dX13_text_37 : decode cX13_text 37 = .ok (.iconst (-1), 1) := by decide +kernel
theorem dX13_text_38 : decode cX13_text 38 = .ok (.if_icmp .eq 40, 3) := by decide +kernel
theorem dX13_text_4 : decode cX13_text 4 = .ok (.istore_n 1, 1) := by decide +kernel
theorem dX13_text_5 : decode cX13_text 5 = .ok (.aload_n 0, 1) := by decide +kernel
theorem dX13_text_6 : decode cX13_text 6 = .ok (.iconst 0, 1) := by decide +kernel
theorem dX13_text_7 : decode cX13_text 7 = .ok (.putfield 344, 3) := by decide +kernel
theorem dX13_text_78 : decode cX13_text 78 = .ok (.aload_n 0, 1) := by decide +kernel
theorem dX13_text_79 : decode cX13_text 79 = .ok (.iconst 0, 1) := by decide +kernel
theorem dX13_text_80 : decode cX13_text 80 = .ok (.putfield 341, 3) := by decide +kernel
theorem dX13_text_83 : decode cX13_text 83 = .ok (.iload_n 2, 1) := by decide +kernel
theorem dX13_text_84 : decode cX13_text 84 = .ok (.iconst (-1), 1) := by decide +kernel
theorem dX13_text_85 : decode cX13_text 85 = .ok (.if_icmp .ne 16, 3) := by decide +kernel
theorem dX13_text_88 : decode cX13_text 88 = .ok (.aload_n 0, 1) := by decide +kernel
theorem dX13_text_89 : decode cX13_text 89 = .ok (.iload_n 1, 1) := by decide +kernel
theorem dX13_text_90 : decode cX13_text 90 = .ok (.putfield 205, 3) := by decide +kernel
theorem dX13_text_93 : decode cX13_text 93 = .ok (.bipush (-100), 2) := by decide +kernel
theorem dX13_text_95 : decode cX13_text 95 = .ok (.aload_n 0, 1) := by decide +kernel
theorem dX13_text_96 : decode cX13_text 96 = .ok (.getfield 347, 3) := by decide +kernel
theorem dX13_text_99 : decode cX13_text 99 = .ok (.isub, 1) := by decide +kernel
set_option maxRecDepth 20000 in
theorem ggX13_text_X13_told : GoodIn wsX13_text wsX13_told := goodIn_r _ [12, 2, 13, 14, 3, 4, 5, 15, 16, 17, 18, 11, 19, 20, 21, 22, 23, 6, 24, 25, 26, 27, 28, 29, 30, 31, 32, 33, 34, 35, 36, 37, 38, 39, 40, 41, 42, 43, 44, 45, 46, 47, 48, 49, 50, 51, 52, 53, 54, 55, 56, 57, 58, 59, 60, 61, 62, 63, 64, 65, 66, 67, 68, 69, 70, 71, 72, 73, 74, 75, 76, 77, 78, 79, 80, 81, 82, 83, 84, 85, 86, 87, 88, 89, 7, 90, 91, 92, 93, 94, 95, 96, 97, 98, 99, 100, 101, 102, 103, 104, 105, 106, 107, 108, 109, 110, 8, 9, 10, 111, 112, 113, 114, 115, 1, 116, 117, 118, 119, 120, 121, 122, 123, 124, 125, 126, 127, 128, 129, 130, 131, 132, 133, 134, 135, 136, 137, 138, 139, 140, 141, 142, 143, 144, 145, 146, 147, 148, 149, 150, 151, 152, 153, 154, 155, 156, 157, 158, 159, 160, 161, 162, 163] (by decide +kernel) (by decide +kernel)
set_option maxRecDepth 20000 in
theorem gX13_text_X13_told : GoodIn wsX13_text (wsV RX13 402 RX13 yX13_told wsX13_told) := goodIn_app (goodIn_of _ (by decide +kernel)) ggX13_text_X13_told
set_option maxRecDepth 20000 in
theorem in_X13_text_X13 : ∀ w ∈ wsX130, w ∈ wsX13_text := by decide +kernel
set_option maxHeartbeats 4000000 in
set_option maxRecDepth 100000 in
theorem f_X13_text (l : Launch) (D : va_G) (T : Nat → ClassId) (ad sa av : Nat → Nat) (ta : Nat) (sz : Nat) (h0 : Nat) (fs0 : List Value) (h1 : Nat) (hl0 : fs0.length = 45) (e0_27 : fs0[27]? = some (.ref h1)) (e0_26 : fs0[26]? = some (.int 0)) (e0_7 : fs0[7]? = some (.int 0)) : Met l yX13_text wsX13_text ({ frames := 5, cells := 0, slots := 0, locals := 111 }) (pWk [.ref h0] D T [(h0, .inr (10, fs0)), (h1, .inl (T 8, 13, .inr (.inr (.inr (.inr (va_up (va_up (va_up (va_up (va_up (va_up (va_up (va_up (va_up (va_up (va_up (va_up (va_up (fun _ => none) 0 (some (sa 0))) 1 (some (sa 1))) 2 (some (sa 2))) 3 (some (sa 3))) 4 (some (sa 4))) 5 (some (sa 5))) 6 (some (sa 6))) 7 (some (sa 7))) 8 (some (sa 8))) 9 (some (sa 9))) 10 (some (sa 10))) 11 (some (sa 11))) 12 (some (sa 12))))))))] sz ad sa av ta) (va_Qi (fun (r : Int32) (u : Unit) => r = -100) (bW D (va_A [(h0, .inr (10, fs0)), (h1, .inl (T 8, 13, .inr (.inr (.inr (.inr (va_up (va_up (va_up (va_up (va_up (va_up (va_up (va_up (va_up (va_up (va_up (va_up (va_up (fun _ => none) 0 (some (sa 0))) 1 (some (sa 1))) 2 (some (sa 2))) 3 (some (sa 3))) 4 (some (sa 4))) 5 (some (sa 5))) 6 (some (sa 6))) 7 (some (sa 7))) 8 (some (sa 8))) 9 (some (sa 9))) 10 (some (sa 10))) 11 (some (sa 11))) 12 (some (sa 12))))))))] sz) (fun (u : Unit) => ([] : va_W))) (va_A [(h0, .inr (10, fs0)), (h1, .inl (T 8, 13, .inr (.inr (.inr (.inr (va_up (va_up (va_up (va_up (va_up (va_up (va_up (va_up (va_up (va_up (va_up (va_up (va_up (fun _ => none) 0 (some (sa 0))) 1 (some (sa 1))) 2 (some (sa 2))) 3 (some (sa 3))) 4 (some (sa 4))) 5 (some (sa 5))) 6 (some (sa 6))) 7 (some (sa 7))) 8 (some (sa 8))) 9 (some (sa 9))) 10 (some (sa 10))) 11 (some (sa 11))) 12 (some (sa 12))))))))] sz)) 0 0 (va_A [(h0, .inr (10, fs0)), (h1, .inl (T 8, 13, .inr (.inr (.inr (.inr (va_up (va_up (va_up (va_up (va_up (va_up (va_up (va_up (va_up (va_up (va_up (va_up (va_up (fun _ => none) 0 (some (sa 0))) 1 (some (sa 1))) 2 (some (sa 2))) 3 (some (sa 3))) 4 (some (sa 4))) 5 (some (sa 5))) 6 (some (sa 6))) 7 (some (sa 7))) 8 (some (sa 8))) 9 (some (sa 9))) 10 (some (sa 10))) 11 (some (sa 11))) 12 (some (sa 12))))))))] sz) := by
  refine Met.ofW (cc := cX13_text) (maxL := 3) (ret := (some .int)) (by decide) rfl ?_
  intro p e s m args below meth c s₁ B hml hv
  obtain ⟨rfl, hsz, hP, hE, hD0, hV⟩ := hv
  have hx := B.exec
  have hb := B.bytes
  have hr := B.returns
  have hts := atoms_spec (ws := wsX13_text) B.pre
  have hown : s.vm.findClass RX13 = some m.cls := findClass_of_methodNamed B.named
  have hlocks := B.notSynchronized
  subst hsz
  have hD := hD0.self (sz := s.heap.size)
  generalize hAe : va_A [(h0, .inr (10, fs0)), (h1, .inl (T 8, 13, .inr (.inr (.inr (.inr (va_up (va_up (va_up (va_up (va_up (va_up (va_up (va_up (va_up (va_up (va_up (va_up (va_up (fun _ => none) 0 (some (sa 0))) 1 (some (sa 1))) 2 (some (sa 2))) 3 (some (sa 3))) 4 (some (sa 4))) 5 (some (sa 5))) 6 (some (sa 6))) 7 (some (sa 7))) 8 (some (sa 8))) 9 (some (sa 9))) 10 (some (sa 10))) 11 (some (sa 11))) 12 (some (sa 12))))))))] s.heap.size = A at hD hV ⊢
  have hA : ∀ q : Nat, s.heap.size ≤ q → A q := fun q h => by rw [← hAe]; exact Or.inr h
  have hS : va_S A s.heap s.heap [] := va_S.rf
  have hP : va_P D vwCl [(h0, .inr (10, fs0)), (h1, .inl (T 8, 13, .inr (.inr (.inr (.inr (va_up (va_up (va_up (va_up (va_up (va_up (va_up (va_up (va_up (va_up (va_up (va_up (va_up (fun _ => none) 0 (some (sa 0))) 1 (some (sa 1))) 2 (some (sa 2))) 3 (some (sa 3))) 4 (some (sa 4))) 5 (some (sa 5))) 6 (some (sa 6))) 7 (some (sa 7))) 8 (some (sa 8))) 9 (some (sa 9))) 10 (some (sa 10))) 11 (some (sa 11))) 12 (some (sa 12))))))))] s.heap := hP
  have hl := lv_entry ([.ref h0]) (n := 3) (Nat.le_of_ble_eq_true rfl)
  rw [lg_entry_eq]
  generalize (lg_sl ([.ref h0]) ++ List.replicate (3 - (lg_sl ([.ref h0])).length) Slot.unset).toArray = ls at hl ⊢
  have hl : lv_has ls 3 [(0, .ref h0)] := hl
  clear hD0
  refine lv_aload_n hx hb dX13_text_0 rfl (lv_at hl 0 rfl) ?_
  refine va_get (D := D) (ci := 10) (v := .int 0) (C := RX13) (T := TX13) (N := 45) hx hb hts in_X13_text_X13 hown hE.1 hP 0 rfl rfl 7 (by decide) (hts (.fieldLink RX13 205 "ClauseBookModel" "many" "I") (List.mem_of_getElem? (i := 1) rfl)) (fun _ h9 => h9) e0_7 dX13_text_1 ?_
  refine lv_istore_n (lv' := [(1, .int 0), (0, .ref h0)]) hx hb dX13_text_4 rfl hl (by decide) rfl (fun ls hl => ?_)
  refine lv_aload_n hx hb dX13_text_5 rfl (lv_at hl 1 rfl) ?_
  refine lv_iconst (v := 0) hx hb dX13_text_6 (by decide) ?_
  refine va_put (D := D) (ci := 10) (v := .int 0) (ty := .int) (C := RX13) (T := TX13) (N := 45) hx hb hts in_X13_text_X13 tyX13 tyX13_ok nmX13 hown hE.1 hP hD hS 0 rfl rfl 28 (by decide) (hts (.fieldLink RX13 344 "ClauseBookModel" "cursor" "I") (List.mem_of_getElem? (i := 2) rfl)) (fun _ h9 => h9) rfl (by decide +kernel) rfl rfl (by rw [hl0]; decide) dX13_text_7 (fun H locs hP hD hS => ?_)
  obtain ⟨g_1, eg_1⟩ : ∃ z : List Value, z = fs0.set 28 (.int 0) := ⟨_, rfl⟩
  have hP : va_P D vwCl [(h0, .inr (10, g_1)), (h1, .inl (T 8, 13, .inr (.inr (.inr (.inr (va_up (va_up (va_up (va_up (va_up (va_up (va_up (va_up (va_up (va_up (va_up (va_up (va_up (fun _ => none) 0 (some (sa 0))) 1 (some (sa 1))) 2 (some (sa 2))) 3 (some (sa 3))) 4 (some (sa 4))) 5 (some (sa 5))) 6 (some (sa 6))) 7 (some (sa 7))) 8 (some (sa 8))) 9 (some (sa 9))) 10 (some (sa 10))) 11 (some (sa 11))) 12 (some (sa 12))))))))] H := by rw [eg_1]; exact hP
  have hD : va_D A [(h0, .inr (10, g_1)), (h1, .inl (T 8, 13, .inr (.inr (.inr (.inr (va_up (va_up (va_up (va_up (va_up (va_up (va_up (va_up (va_up (va_up (va_up (va_up (va_up (fun _ => none) 0 (some (sa 0))) 1 (some (sa 1))) 2 (some (sa 2))) 3 (some (sa 3))) 4 (some (sa 4))) 5 (some (sa 5))) 6 (some (sa 6))) 7 (some (sa 7))) 8 (some (sa 8))) 9 (some (sa 9))) 10 (some (sa 10))) 11 (some (sa 11))) 12 (some (sa 12))))))))] := by rw [eg_1]; exact hD
  have lg_1 : g_1.length = 45 := by rw [eg_1, List.length_set]; exact hl0
  have kg_1_28 : g_1[28]? = some (.int 0) := by rw [eg_1]; exact List.getElem?_set_self (by rw [hl0]; decide)
  have kg_1_27 : g_1[27]? = some (.ref h1) := by rw [eg_1, List.getElem?_set_ne (by decide)]; exact e0_27
  have kg_1_26 : g_1[26]? = some (.int 0) := by rw [eg_1, List.getElem?_set_ne (by decide)]; exact e0_26
  have kg_1_7 : g_1[7]? = some (.int 0) := by rw [eg_1, List.getElem?_set_ne (by decide)]; exact e0_7
  refine lv_aload_n hx hb dX13_text_10 rfl (lv_at hl 1 rfl) ?_
  refine lv_iconst (v := 0) hx hb dX13_text_11 (by decide) ?_
  refine va_put (D := D) (ci := 10) (v := .int 0) (ty := .int) (C := RX13) (T := TX13) (N := 45) hx hb hts in_X13_text_X13 tyX13 tyX13_ok nmX13 hown hE.1 hP hD hS 0 rfl rfl 30 (by decide) (hts (.fieldLink RX13 390 "ClauseBookModel" "read" "I") (List.mem_of_getElem? (i := 3) rfl)) (fun _ h9 => h9) rfl (by decide +kernel) rfl rfl (by rw [lg_1]; decide) dX13_text_12 (fun H locs hP hD hS => ?_)
  obtain ⟨g_2, eg_2⟩ : ∃ z : List Value, z = g_1.set 30 (.int 0) := ⟨_, rfl⟩
  have hP : va_P D vwCl [(h0, .inr (10, g_2)), (h1, .inl (T 8, 13, .inr (.inr (.inr (.inr (va_up (va_up (va_up (va_up (va_up (va_up (va_up (va_up (va_up (va_up (va_up (va_up (va_up (fun _ => none) 0 (some (sa 0))) 1 (some (sa 1))) 2 (some (sa 2))) 3 (some (sa 3))) 4 (some (sa 4))) 5 (some (sa 5))) 6 (some (sa 6))) 7 (some (sa 7))) 8 (some (sa 8))) 9 (some (sa 9))) 10 (some (sa 10))) 11 (some (sa 11))) 12 (some (sa 12))))))))] H := by rw [eg_2]; exact hP
  have hD : va_D A [(h0, .inr (10, g_2)), (h1, .inl (T 8, 13, .inr (.inr (.inr (.inr (va_up (va_up (va_up (va_up (va_up (va_up (va_up (va_up (va_up (va_up (va_up (va_up (va_up (fun _ => none) 0 (some (sa 0))) 1 (some (sa 1))) 2 (some (sa 2))) 3 (some (sa 3))) 4 (some (sa 4))) 5 (some (sa 5))) 6 (some (sa 6))) 7 (some (sa 7))) 8 (some (sa 8))) 9 (some (sa 9))) 10 (some (sa 10))) 11 (some (sa 11))) 12 (some (sa 12))))))))] := by rw [eg_2]; exact hD
  have lg_2 : g_2.length = 45 := by rw [eg_2, List.length_set]; exact lg_1
  have kg_2_30 : g_2[30]? = some (.int 0) := by rw [eg_2]; exact List.getElem?_set_self (by rw [lg_1]; decide)
  have kg_2_28 : g_2[28]? = some (.int 0) := by rw [eg_2, List.getElem?_set_ne (by decide)]; exact kg_1_28
  have kg_2_27 : g_2[27]? = some (.ref h1) := by rw [eg_2, List.getElem?_set_ne (by decide)]; exact kg_1_27
  have kg_2_26 : g_2[26]? = some (.int 0) := by rw [eg_2, List.getElem?_set_ne (by decide)]; exact kg_1_26
  have kg_2_7 : g_2[7]? = some (.int 0) := by rw [eg_2, List.getElem?_set_ne (by decide)]; exact kg_1_7
  refine lv_aload_n hx hb dX13_text_15 rfl (lv_at hl 1 rfl) ?_
  refine lv_iconst (v := 1) hx hb dX13_text_16 (by decide) ?_
  refine va_put (D := D) (ci := 10) (v := .int 1) (ty := .int) (C := RX13) (T := TX13) (N := 45) hx hb hts in_X13_text_X13 tyX13 tyX13_ok nmX13 hown hE.1 hP hD hS 0 rfl rfl 31 (by decide) (hts (.fieldLink RX13 393 "ClauseBookModel" "open" "I") (List.mem_of_getElem? (i := 4) rfl)) (fun _ h9 => h9) rfl (by decide +kernel) rfl rfl (by rw [lg_2]; decide) dX13_text_17 (fun H locs hP hD hS => ?_)
  obtain ⟨g_3, eg_3⟩ : ∃ z : List Value, z = g_2.set 31 (.int 1) := ⟨_, rfl⟩
  have hP : va_P D vwCl [(h0, .inr (10, g_3)), (h1, .inl (T 8, 13, .inr (.inr (.inr (.inr (va_up (va_up (va_up (va_up (va_up (va_up (va_up (va_up (va_up (va_up (va_up (va_up (va_up (fun _ => none) 0 (some (sa 0))) 1 (some (sa 1))) 2 (some (sa 2))) 3 (some (sa 3))) 4 (some (sa 4))) 5 (some (sa 5))) 6 (some (sa 6))) 7 (some (sa 7))) 8 (some (sa 8))) 9 (some (sa 9))) 10 (some (sa 10))) 11 (some (sa 11))) 12 (some (sa 12))))))))] H := by rw [eg_3]; exact hP
  have hD : va_D A [(h0, .inr (10, g_3)), (h1, .inl (T 8, 13, .inr (.inr (.inr (.inr (va_up (va_up (va_up (va_up (va_up (va_up (va_up (va_up (va_up (va_up (va_up (va_up (va_up (fun _ => none) 0 (some (sa 0))) 1 (some (sa 1))) 2 (some (sa 2))) 3 (some (sa 3))) 4 (some (sa 4))) 5 (some (sa 5))) 6 (some (sa 6))) 7 (some (sa 7))) 8 (some (sa 8))) 9 (some (sa 9))) 10 (some (sa 10))) 11 (some (sa 11))) 12 (some (sa 12))))))))] := by rw [eg_3]; exact hD
  have lg_3 : g_3.length = 45 := by rw [eg_3, List.length_set]; exact lg_2
  have kg_3_31 : g_3[31]? = some (.int 1) := by rw [eg_3]; exact List.getElem?_set_self (by rw [lg_2]; decide)
  have kg_3_30 : g_3[30]? = some (.int 0) := by rw [eg_3, List.getElem?_set_ne (by decide)]; exact kg_2_30
  have kg_3_28 : g_3[28]? = some (.int 0) := by rw [eg_3, List.getElem?_set_ne (by decide)]; exact kg_2_28
  have kg_3_27 : g_3[27]? = some (.ref h1) := by rw [eg_3, List.getElem?_set_ne (by decide)]; exact kg_2_27
  have kg_3_26 : g_3[26]? = some (.int 0) := by rw [eg_3, List.getElem?_set_ne (by decide)]; exact kg_2_26
  have kg_3_7 : g_3[7]? = some (.int 0) := by rw [eg_3, List.getElem?_set_ne (by decide)]; exact kg_2_7
  refine lv_aload_n hx hb dX13_text_20 rfl (lv_at hl 1 rfl) ?_
  refine lv_bipush (v := 24) hx hb dX13_text_21 (by decide) ?_
  refine lv_aload_n hx hb dX13_text_23 rfl (lv_at hl 1 rfl) ?_
  refine va_get (D := D) (ci := 10) (v := .int 0) (C := RX13) (T := TX13) (N := 45) hx hb hts in_X13_text_X13 hown hE.1 hP 0 rfl rfl 7 (by decide) (hts (.fieldLink RX13 205 "ClauseBookModel" "many" "I") (List.mem_of_getElem? (i := 1) rfl)) (fun _ h9 => h9) kg_3_7 dX13_text_24 ?_
  refine lv_isub hx hb dX13_text_27 ?_
  refine lv_topi (fun z_4 ez_4 => ?_)
  obtain rfl : z_4 = 24 := ez_4.trans (by decide)
  refine va_put (D := D) (ci := 10) (v := .int 24) (ty := .int) (C := RX13) (T := TX13) (N := 45) hx hb hts in_X13_text_X13 tyX13 tyX13_ok nmX13 hown hE.1 hP hD hS 0 rfl rfl 32 (by decide) (hts (.fieldLink RX13 396 "ClauseBookModel" "room" "I") (List.mem_of_getElem? (i := 5) rfl)) (fun _ h9 => h9) rfl (by decide +kernel) rfl rfl (by rw [lg_3]; decide) dX13_text_28 (fun H locs hP hD hS => ?_)
  obtain ⟨g_5, eg_5⟩ : ∃ z : List Value, z = g_3.set 32 (.int 24) := ⟨_, rfl⟩
  have hP : va_P D vwCl [(h0, .inr (10, g_5)), (h1, .inl (T 8, 13, .inr (.inr (.inr (.inr (va_up (va_up (va_up (va_up (va_up (va_up (va_up (va_up (va_up (va_up (va_up (va_up (va_up (fun _ => none) 0 (some (sa 0))) 1 (some (sa 1))) 2 (some (sa 2))) 3 (some (sa 3))) 4 (some (sa 4))) 5 (some (sa 5))) 6 (some (sa 6))) 7 (some (sa 7))) 8 (some (sa 8))) 9 (some (sa 9))) 10 (some (sa 10))) 11 (some (sa 11))) 12 (some (sa 12))))))))] H := by rw [eg_5]; exact hP
  have hD : va_D A [(h0, .inr (10, g_5)), (h1, .inl (T 8, 13, .inr (.inr (.inr (.inr (va_up (va_up (va_up (va_up (va_up (va_up (va_up (va_up (va_up (va_up (va_up (va_up (va_up (fun _ => none) 0 (some (sa 0))) 1 (some (sa 1))) 2 (some (sa 2))) 3 (some (sa 3))) 4 (some (sa 4))) 5 (some (sa 5))) 6 (some (sa 6))) 7 (some (sa 7))) 8 (some (sa 8))) 9 (some (sa 9))) 10 (some (sa 10))) 11 (some (sa 11))) 12 (some (sa 12))))))))] := by rw [eg_5]; exact hD
  have lg_5 : g_5.length = 45 := by rw [eg_5, List.length_set]; exact lg_3
  have kg_5_32 : g_5[32]? = some (.int 24) := by rw [eg_5]; exact List.getElem?_set_self (by rw [lg_3]; decide)
  have kg_5_31 : g_5[31]? = some (.int 1) := by rw [eg_5, List.getElem?_set_ne (by decide)]; exact kg_3_31
  have kg_5_30 : g_5[30]? = some (.int 0) := by rw [eg_5, List.getElem?_set_ne (by decide)]; exact kg_3_30
  have kg_5_28 : g_5[28]? = some (.int 0) := by rw [eg_5, List.getElem?_set_ne (by decide)]; exact kg_3_28
  have kg_5_27 : g_5[27]? = some (.ref h1) := by rw [eg_5, List.getElem?_set_ne (by decide)]; exact kg_3_27
  have kg_5_26 : g_5[26]? = some (.int 0) := by rw [eg_5, List.getElem?_set_ne (by decide)]; exact kg_3_26
  have kg_5_7 : g_5[7]? = some (.int 0) := by rw [eg_5, List.getElem?_set_ne (by decide)]; exact kg_3_7
  refine lv_aload_n hx hb dX13_text_31 rfl (lv_at hl 1 rfl) ?_
  have hFc := va_free (wc := [(h0, .inr (10, g_5)), (h1, .inl (T 8, 13, .inr (.inr (.inr (.inr (va_up (va_up (va_up (va_up (va_up (va_up (va_up (va_up (va_up (va_up (va_up (va_up (va_up (fun _ => none) 0 (some (sa 0))) 1 (some (sa 1))) 2 (some (sa 2))) 3 (some (sa 3))) 4 (some (sa 4))) 5 (some (sa 5))) 6 (some (sa 6))) 7 (some (sa 7))) 8 (some (sa 8))) 9 (some (sa 9))) 10 (some (sa 10))) 11 (some (sa 11))) 12 (some (sa 12))))))))]) hD hS hA [0, 1] rfl
  refine va_calli (va_runV (As := []) (rest := []) ⟨hx, hb, hml, hown, hts⟩ (f_X13_told l D T ad sa av ta _ h0 g_5 h1 lg_5 kg_5_27 kg_5_28 kg_5_26) (cwV 0 hts gX13_text_X13_told rfl rfl rfl (by decide +kernel) ⟨Nat.le_of_ble_eq_true rfl, Nat.le_of_ble_eq_true rfl⟩) (pWk_V (ci := 10) (q0 := 0) hP hE hD hV hS hFc rfl rfl [0, 1] (by decide) rfl rfl) rfl rfl hl.1 rfl (lv_room (Nat.le_of_ble_eq_true rfl)) dX13_text_32 ⟨Nat.le_of_ble_eq_true rfl, Nat.le_of_ble_eq_true rfl⟩) hS (fun q _ h => hFc q h) hFc (fun r_6 u_7 t H1 locs ht hvm hr_6 hB hz1 hk1 hS => ?_)
  obtain ⟨hxu_7, lu_7, ku_7_29⟩ := hr_6
  obtain ⟨hP1, hD1⟩ := hB
  rw [ht] at hP1
  obtain ⟨hP, hD⟩ := va_join (wr := []) (w1 := [(h0, .inr (10, u_7))]) hP hD [0, 1] [] rfl rfl (by decide) (by decide) hk1 hFc hP1 hD1
  clear hP1 hD1 hFc
  generalize H1 = H at hP hS ⊢
  have hP : va_P D vwCl [(h0, .inr (10, u_7))] H := hP
  have hD : va_D A [(h0, .inr (10, u_7))] := hD
  obtain rfl : r_6 = (-1) := hxu_7
  refine lv_istore_n (lv' := [(2, .int (-1)), (1, .int 0), (0, .ref h0)]) hx hb dX13_text_35 rfl hl (by decide) rfl (fun ls hl => ?_)
  refine lv_iload_n hx hb dX13_text_36 rfl (lv_at hl 0 rfl) ?_
  refine lv_iconst (v := (-1)) hx hb dX13_text_37 (by decide) ?_
  refine lv_icmp_eq (tgt := 78) hx hb dX13_text_38 (by decide) (fun _ => ?_) (fun c9 => absurd c9 (by decide))
  refine lv_aload_n hx hb dX13_text_78 rfl (lv_at hl 2 rfl) ?_
  refine lv_iconst (v := 0) hx hb dX13_text_79 (by decide) ?_
  refine va_put (D := D) (ci := 10) (v := .int 0) (ty := .int) (C := RX13) (T := TX13) (N := 45) hx hb hts in_X13_text_X13 tyX13 tyX13_ok nmX13 hown hE.1 hP hD hS 0 rfl rfl 26 (by decide) (hts (.fieldLink RX13 341 "ClauseBookModel" "taped" "I") (List.mem_of_getElem? (i := 6) rfl)) (fun _ h9 => h9) rfl (by decide +kernel) rfl rfl (by rw [lu_7]; decide) dX13_text_80 (fun H locs hP hD hS => ?_)
  obtain ⟨g_8, eg_8⟩ : ∃ z : List Value, z = u_7.set 26 (.int 0) := ⟨_, rfl⟩
  have hP : va_P D vwCl [(h0, .inr (10, g_8))] H := by rw [eg_8]; exact hP
  have hD : va_D A [(h0, .inr (10, g_8))] := by rw [eg_8]; exact hD
  have lg_8 : g_8.length = 45 := by rw [eg_8, List.length_set]; exact lu_7
  have kg_8_26 : g_8[26]? = some (.int 0) := by rw [eg_8]; exact List.getElem?_set_self (by rw [lu_7]; decide)
  have kg_8_29 : g_8[29]? = some (.int 0) := by rw [eg_8, List.getElem?_set_ne (by decide)]; exact ku_7_29
  refine lv_iload_n hx hb dX13_text_83 rfl (lv_at hl 0 rfl) ?_
  refine lv_iconst (v := (-1)) hx hb dX13_text_84 (by decide) ?_
  refine lv_icmp_ne (tgt := 101) hx hb dX13_text_85 (by decide) (fun c9 => absurd c9 (by decide)) (fun _ => ?_)
  refine lv_aload_n hx hb dX13_text_88 rfl (lv_at hl 2 rfl) ?_
  refine lv_iload_n hx hb dX13_text_89 rfl (lv_at hl 1 rfl) ?_
  refine va_put (D := D) (ci := 10) (v := .int 0) (ty := .int) (C := RX13) (T := TX13) (N := 45) hx hb hts in_X13_text_X13 tyX13 tyX13_ok nmX13 hown hE.1 hP hD hS 0 rfl rfl 7 (by decide) (hts (.fieldLink RX13 205 "ClauseBookModel" "many" "I") (List.mem_of_getElem? (i := 1) rfl)) (fun _ h9 => h9) rfl (by decide +kernel) rfl rfl (by rw [lg_8]; decide) dX13_text_90 (fun H locs hP hD hS => ?_)
  obtain ⟨g_9, eg_9⟩ : ∃ z : List Value, z = g_8.set 7 (.int 0) := ⟨_, rfl⟩
  have hP : va_P D vwCl [(h0, .inr (10, g_9))] H := by rw [eg_9]; exact hP
  have hD : va_D A [(h0, .inr (10, g_9))] := by rw [eg_9]; exact hD
  have lg_9 : g_9.length = 45 := by rw [eg_9, List.length_set]; exact lg_8
  have kg_9_7 : g_9[7]? = some (.int 0) := by rw [eg_9]; exact List.getElem?_set_self (by rw [lg_8]; decide)
  have kg_9_26 : g_9[26]? = some (.int 0) := by rw [eg_9, List.getElem?_set_ne (by decide)]; exact kg_8_26
  have kg_9_29 : g_9[29]? = some (.int 0) := by rw [eg_9, List.getElem?_set_ne (by decide)]; exact kg_8_29
  refine lv_bipush (v := (-100)) hx hb dX13_text_93 (by decide) ?_
  refine lv_aload_n hx hb dX13_text_95 rfl (lv_at hl 2 rfl) ?_
  refine va_get (D := D) (ci := 10) (v := .int 0) (C := RX13) (T := TX13) (N := 45) hx hb hts in_X13_text_X13 hown hE.1 hP 0 rfl rfl 29 (by decide) (hts (.fieldLink RX13 347 "ClauseBookModel" "fault" "I") (List.mem_of_getElem? (i := 7) rfl)) (fun _ h9 => h9) kg_9_29 dX13_text_96 ?_
  refine lv_isub hx hb dX13_text_99 ?_
  refine lv_topi (fun z_10 ez_10 => ?_)
  obtain rfl : z_10 = (-100) := ez_10.trans (by decide)
  exact W.iret hx hb hr (fun t ht hW => ⟨⟨_, (), rfl, rfl, by rw [ht]; exact hP.sub [] rfl, hD.sub [] (by decide) rfl⟩, hS.F ht⟩) hS.2.2 dX13_text_100
