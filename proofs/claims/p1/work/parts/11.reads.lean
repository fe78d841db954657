theorem dX8_priceAt_0 : decode cX8_priceAt 0 = .ok (.aload_n 0, 1) := by decide +kernel
theorem dX8_priceAt_1 : decode cX8_priceAt 1 = .ok (.getfield 7, 3) := by decide +kernel
theorem dX8_priceAt_10 : decode cX8_priceAt 10 = .ok (.iadd, 1) := by decide +kernel
theorem dX8_priceAt_11 : decode cX8_priceAt 11 = .ok (.aload_n 0, 1) := by decide +kernel
theorem dX8_priceAt_12 : decode cX8_priceAt 12 = .ok (.getfield 16, 3) := by decide +kernel
theorem dX8_priceAt_15 : decode cX8_priceAt 15 = .ok (.iload_n 1, 1) := by decide +kernel
theorem dX8_priceAt_16 : decode cX8_priceAt 16 = .ok (.iload_n 2, 1) := by decide +kernel
theorem dX8_priceAt_17 : decode cX8_priceAt 17 = .ok (.isub, 1) := by decide +kernel
theorem dX8_priceAt_18 : decode cX8_priceAt 18 = .ok (.imul, 1) := by decide +kernel
theorem dX8_priceAt_19 : decode cX8_priceAt 19 = .ok (.isub, 1) := by decide +kernel
theorem dX8_priceAt_20 : decode cX8_priceAt 20 = .ok (.ireturn, 1) := by decide +kernel
theorem dX8_priceAt_4 : decode cX8_priceAt 4 = .ok (.aload_n 0, 1) := by decide +kernel
theorem dX8_priceAt_5 : decode cX8_priceAt 5 = .ok (.getfield 13, 3) := by decide +kernel
theorem dX8_priceAt_8 : decode cX8_priceAt 8 = .ok (.iload_n 2, 1) := by decide +kernel
theorem dX8_priceAt_9 : decode cX8_priceAt 9 = .ok (.imul, 1) := by decide +kernel
set_option maxRecDepth 20000 in
theorem in_X8_priceAt_X8 : ∀ w ∈ wsX80, w ∈ wsX8_priceAt := by decide +kernel
set_option maxHeartbeats 4000000 in
set_option maxRecDepth 100000 in
theorem c_X8_priceAt (l : Launch) (D : va_G) (T : Nat → ClassId) (h0 : Nat) (fs0 : List Value) (x1 : Int32) (x2 : Int32) (n0 : Int32) (n1 : Int32) (n2 : Int32) (e0_0 : fs0[0]? = some (.int n0)) (e0_1 : fs0[1]? = some (.int n1)) (e0_2 : fs0[2]? = some (.int n2)) : Met l yX8_priceAt wsX8_priceAt ({ frames := 0, cells := 0, slots := 0, locals := 0 }) (pR [.ref h0, .int x1, .int x2] D T [(h0, .inr (5, fs0))]) (vp_Si (fun r => r = ((n0 + (n1 * x2)) - (n2 * (x1 - x2))))) 0 0 (fun _ => False) := by
  refine Met.ofW (cc := cX8_priceAt) (maxL := 3) (ret := (some .int)) (by decide) rfl ?_
  intro p e s m args below meth c s₁ B hml hv
  obtain ⟨rfl, hP, hE⟩ := hv
  have hx := B.exec
  have hb := B.bytes
  have hr := B.returns
  have hts := atoms_spec (ws := wsX8_priceAt) B.pre
  have hown : s.vm.findClass RX8 = some m.cls := findClass_of_methodNamed B.named
  have hlocks := B.notSynchronized
  have hP : va_P D vwCl [(h0, .inr (5, fs0))] s.heap := hP
  have hl := lv_entry ([.ref h0, .int x1, .int x2]) (n := 3) (Nat.le_of_ble_eq_true rfl)
  rw [lg_entry_eq]
  generalize (lg_sl ([.ref h0, .int x1, .int x2]) ++ List.replicate (3 - (lg_sl ([.ref h0, .int x1, .int x2])).length) Slot.unset).toArray = ls at hl ⊢
  have hl : lv_has ls 3 [(0, .ref h0), (1, .int x1), (2, .int x2)] := hl
  refine lv_aload_n hx hb dX8_priceAt_0 rfl (lv_at hl 0 rfl) ?_
  refine va_get (D := D) (ci := 5) (v := .int n0) (C := RX8) (T := TX8) (N := 7) hx hb hts in_X8_priceAt_X8 hown hE.1 hP 0 rfl rfl 0 (by decide) (hts (.fieldLink RX8 7 "ClauseBook$Lattice" "start" "I") (List.mem_of_getElem? (i := 1) rfl)) (fun _ h9 => h9) e0_0 dX8_priceAt_1 ?_
  refine lv_aload_n hx hb dX8_priceAt_4 rfl (lv_at hl 0 rfl) ?_
  refine va_get (D := D) (ci := 5) (v := .int n1) (C := RX8) (T := TX8) (N := 7) hx hb hts in_X8_priceAt_X8 hown hE.1 hP 0 rfl rfl 1 (by decide) (hts (.fieldLink RX8 13 "ClauseBook$Lattice" "up" "I") (List.mem_of_getElem? (i := 2) rfl)) (fun _ h9 => h9) e0_1 dX8_priceAt_5 ?_
  refine lv_iload_n hx hb dX8_priceAt_8 rfl (lv_at hl 2 rfl) ?_
  refine lv_imul hx hb dX8_priceAt_9 ?_
  refine lv_iadd hx hb dX8_priceAt_10 ?_
  refine lv_aload_n hx hb dX8_priceAt_11 rfl (lv_at hl 0 rfl) ?_
  refine va_get (D := D) (ci := 5) (v := .int n2) (C := RX8) (T := TX8) (N := 7) hx hb hts in_X8_priceAt_X8 hown hE.1 hP 0 rfl rfl 2 (by decide) (hts (.fieldLink RX8 16 "ClauseBook$Lattice" "down" "I") (List.mem_of_getElem? (i := 3) rfl)) (fun _ h9 => h9) e0_2 dX8_priceAt_12 ?_
  refine lv_iload_n hx hb dX8_priceAt_15 rfl (lv_at hl 1 rfl) ?_
  refine lv_iload_n hx hb dX8_priceAt_16 rfl (lv_at hl 2 rfl) ?_
  refine lv_isub hx hb dX8_priceAt_17 ?_
  refine lv_imul hx hb dX8_priceAt_18 ?_
  refine lv_isub hx hb dX8_priceAt_19 ?_
  exact W.iret hx hb hr (fun t ht hW => ⟨_, rfl, rfl, ht⟩) (fun _ h => by cases h) dX8_priceAt_20
theorem dX12_price_0 : decode cX12_price 0 = .ok (.iload_n 1, 1) := by decide +kernel
theorem dX12_price_1 : decode cX12_price 1 = .ok (.iload_n 2, 1) := by decide +kernel
theorem dX12_price_12 : decode cX12_price 12 = .ok (.iload_n 1, 1) := by decide +kernel
theorem dX12_price_13 : decode cX12_price 13 = .ok (.iload_n 2, 1) := by decide +kernel
theorem dX12_price_14 : decode cX12_price 14 = .ok (.invokevirtual 112, 3) := by decide +kernel
theorem dX12_price_17 : decode cX12_price 17 = .ok (.goto 5, 3) := by decide +kernel
theorem dX12_price_2 : decode cX12_price 2 = .ok (.invokestatic 108, 3) := by decide +kernel
theorem dX12_price_20 : decode cX12_price 20 = .ok (.bipush (-2), 2) := by decide +kernel
theorem dX12_price_22 : decode cX12_price 22 = .ok (.ireturn, 1) := by decide +kernel
theorem dX12_price_5 : decode cX12_price 5 = .ok (.ifCond .eq 15, 3) := by decide +kernel
theorem dX12_price_8 : decode cX12_price 8 = .ok (.aload_n 0, 1) := by decide +kernel
theorem dX12_price_9 : decode cX12_price 9 = .ok (.getfield 27, 3) := by decide +kernel
set_option maxRecDepth 20000 in
theorem ggX12_price_X12_isSpot : GoodIn wsX12_price wsX12_isSpot := goodIn_r _ [5, 6, 7, 4, 8, 9, 10, 11] (by decide +kernel) (by decide +kernel)
set_option maxRecDepth 20000 in
theorem ggX12_price_X8_priceAt : GoodIn wsX12_price wsX8_priceAt := goodIn_r _ [16, 17, 18, 19, 31, 32, 33, 34, 35, 36, 37] (by decide +kernel) (by decide +kernel)
set_option maxRecDepth 20000 in
theorem gX12_price_X12_isSpot : GoodIn wsX12_price (va_wsS RX12 108 yX12_isSpot wsX12_isSpot) := goodIn_app (goodIn_of _ (by decide +kernel)) ggX12_price_X12_isSpot
set_option maxRecDepth 20000 in
theorem gX12_price_X8_priceAt : GoodIn wsX12_price (wsV RX12 112 RX8 yX8_priceAt wsX8_priceAt) := goodIn_app (goodIn_of _ (by decide +kernel)) ggX12_price_X8_priceAt
set_option maxRecDepth 20000 in
theorem in_X12_price_X12 : ∀ w ∈ wsX120, w ∈ wsX12_price := by decide +kernel
set_option maxHeartbeats 4000000 in
set_option maxRecDepth 100000 in
theorem f_X12_price (l : Launch) (D : va_G) (T : Nat → ClassId) (h0 : Nat) (fs0 : List Value) (h1 : Nat) (fs1 : List Value) (x1 : Int32) (x2 : Int32) (e0_3 : fs0[3]? = some (.ref h1)) (e1_0 : fs1[0]? = some (.int 0)) (e1_1 : fs1[1]? = some (.int 1)) (e1_2 : fs1[2]? = some (.int 1)) : Met l yX12_price wsX12_price ({ frames := 3, cells := 0, slots := 0, locals := 63 }) (pR [.ref h0, .int x1, .int x2] D T [(h0, .inr (9, fs0)), (h1, .inr (5, fs1))]) (vp_Si (fun r => r = sp_price x1 x2)) 0 0 (fun _ => False) := by
  refine Met.ofW (cc := cX12_price) (maxL := 3) (ret := (some .int)) (by decide) rfl ?_
  intro p e s m args below meth c s₁ B hml hv
  obtain ⟨rfl, hP, hE⟩ := hv
  have hx := B.exec
  have hb := B.bytes
  have hr := B.returns
  have hts := atoms_spec (ws := wsX12_price) B.pre
  have hown : s.vm.findClass RX12 = some m.cls := findClass_of_methodNamed B.named
  have hlocks := B.notSynchronized
  have hP : va_P D vwCl [(h0, .inr (9, fs0)), (h1, .inr (5, fs1))] s.heap := hP
  have hl := lv_entry ([.ref h0, .int x1, .int x2]) (n := 3) (Nat.le_of_ble_eq_true rfl)
  rw [lg_entry_eq]
  generalize (lg_sl ([.ref h0, .int x1, .int x2]) ++ List.replicate (3 - (lg_sl ([.ref h0, .int x1, .int x2])).length) Slot.unset).toArray = ls at hl ⊢
  have hl : lv_has ls 3 [(0, .ref h0), (1, .int x1), (2, .int x2)] := hl
  refine lv_iload_n hx hb dX12_price_0 rfl (lv_at hl 1 rfl) ?_
  refine lv_iload_n hx hb dX12_price_1 rfl (lv_at hl 2 rfl) ?_
  refine vp_callSi (W.runS (As := [.int x1, .int x2]) (rest := []) ⟨hx, hb, hml, hown, hts⟩ (c_X12_isSpot l D T x1 x2) (va_cwS 2 hts gX12_price_X12_isSpot rfl rfl rfl (by decide +kernel) ⟨Nat.le_of_ble_eq_true rfl, Nat.le_of_ble_eq_true rfl⟩) (pR_S hP hE [] rfl) rfl rfl hl.1 rfl (lv_room (Nat.le_of_ble_eq_true rfl)) dX12_price_2 ⟨Nat.le_of_ble_eq_true rfl, Nat.le_of_ble_eq_true rfl⟩) (fun r_1 hr_1 => ?_)
  rcases bool_post hr_1 with ⟨c_2, rfl⟩ | ⟨c_2, rfl⟩
  · refine lv_if_eq (tgt := 20) hx hb dX12_price_5 (by decide) (fun c9 => absurd c9 (by decide)) (fun _ => ?_)
    refine lv_aload_n hx hb dX12_price_8 rfl (lv_at hl 0 rfl) ?_
    refine va_get (D := D) (ci := 9) (v := .ref h1) (C := RX12) (T := TX12) (N := 11) hx hb hts in_X12_price_X12 hown hE.1 hP 0 rfl rfl 3 (by decide) (hts (.fieldLink RX12 27 "ClauseBook" "lattice" "LClauseBook$Lattice;") (List.mem_of_getElem? (i := 1) rfl)) (fun _ h9 => h9) e0_3 dX12_price_9 ?_
    refine lv_iload_n hx hb dX12_price_12 rfl (lv_at hl 1 rfl) ?_
    refine lv_iload_n hx hb dX12_price_13 rfl (lv_at hl 2 rfl) ?_
    refine vp_callSi (W.runV (As := [.int x1, .int x2]) (rest := []) ⟨hx, hb, hml, hown, hts⟩ (c_X8_priceAt l D T h1 fs1 x1 x2 0 1 1 e1_0 e1_1 e1_2) (cwV 2 hts gX12_price_X8_priceAt rfl rfl rfl (by decide +kernel) ⟨Nat.le_of_ble_eq_true rfl, Nat.le_of_ble_eq_true rfl⟩) (pR_V (ci := 5) (q0 := 1) hP hE rfl rfl [1] rfl) rfl rfl hl.1 rfl (lv_room (Nat.le_of_ble_eq_true rfl)) dX12_price_14 ⟨Nat.le_of_ble_eq_true rfl, Nat.le_of_ble_eq_true rfl⟩) (fun r_3 hr_3 => ?_)
    obtain rfl : r_3 = ((0 + (1 * x2)) - (1 * (x1 - x2))) := hr_3
    refine lv_goto (tgt := 22) hx hb dX12_price_17 (by decide) ?_
    exact W.iret hx hb hr (fun t ht hW => ⟨_, rfl, (by first | decide | (unfold sp_price; (repeat' split) <;> first | rfl | (exfalso; omega))), ht⟩) (fun _ h => by cases h) dX12_price_22
  · refine lv_if_eq (tgt := 20) hx hb dX12_price_5 (by decide) (fun _ => ?_) (fun c9 => absurd c9 (by decide))
    refine lv_bipush (v := (-2)) hx hb dX12_price_20 (by decide) ?_
    exact W.iret hx hb hr (fun t ht hW => ⟨_, rfl, (by first | decide | (unfold sp_price; (repeat' split) <;> first | rfl | (exfalso; omega))), ht⟩) (fun _ h => by cases h) dX12_price_22
theorem dJ6_bitCount_0f7a4_0 : decode cJ6_bitCount_0f7a4 0 = .ok (.iload_n 0, 1) := by decide +kernel
theorem dJ6_bitCount_0f7a4_1 : decode cJ6_bitCount_0f7a4 1 = .ok (.iload_n 0, 1) := by decide +kernel
theorem dJ6_bitCount_0f7a4_10 : decode cJ6_bitCount_0f7a4 10 = .ok (.iload_n 0, 1) := by decide +kernel
theorem dJ6_bitCount_0f7a4_11 : decode cJ6_bitCount_0f7a4 11 = .ok (.ldc_w 266, 3) := by decide +kernel
theorem dJ6_bitCount_0f7a4_14 : decode cJ6_bitCount_0f7a4 14 = .ok (.iand, 1) := by decide +kernel
theorem dJ6_bitCount_0f7a4_15 : decode cJ6_bitCount_0f7a4 15 = .ok (.iload_n 0, 1) := by decide +kernel
theorem dJ6_bitCount_0f7a4_16 : decode cJ6_bitCount_0f7a4 16 = .ok (.iconst 2, 1) := by decide +kernel
theorem dJ6_bitCount_0f7a4_17 : decode cJ6_bitCount_0f7a4 17 = .ok (.iushr, 1) := by decide +kernel
theorem dJ6_bitCount_0f7a4_18 : decode cJ6_bitCount_0f7a4 18 = .ok (.ldc_w 266, 3) := by decide +kernel
theorem dJ6_bitCount_0f7a4_2 : decode cJ6_bitCount_0f7a4 2 = .ok (.iconst 1, 1) := by decide +kernel
theorem dJ6_bitCount_0f7a4_21 : decode cJ6_bitCount_0f7a4 21 = .ok (.iand, 1) := by decide +kernel
theorem dJ6_bitCount_0f7a4_22 : decode cJ6_bitCount_0f7a4 22 = .ok (.iadd, 1) := by decide +kernel
theorem dJ6_bitCount_0f7a4_23 : decode cJ6_bitCount_0f7a4 23 = .ok (.istore_n 0, 1) := by decide +kernel
theorem dJ6_bitCount_0f7a4_24 : decode cJ6_bitCount_0f7a4 24 = .ok (.iload_n 0, 1) := by decide +kernel
theorem dJ6_bitCount_0f7a4_25 : decode cJ6_bitCount_0f7a4 25 = .ok (.iload_n 0, 1) := by decide +kernel
theorem dJ6_bitCount_0f7a4_26 : decode cJ6_bitCount_0f7a4 26 = .ok (.iconst 4, 1) := by decide +kernel
theorem dJ6_bitCount_0f7a4_27 : decode cJ6_bitCount_0f7a4 27 = .ok (.iushr, 1) := by decide +kernel
theorem dJ6_bitCount_0f7a4_28 : decode cJ6_bitCount_0f7a4 28 = .ok (.iadd, 1) := by decide +kernel
theorem dJ6_bitCount_0f7a4_29 : decode cJ6_bitCount_0f7a4 29 = .ok (.ldc_w 267, 3) := by decide +kernel
theorem dJ6_bitCount_0f7a4_3 : decode cJ6_bitCount_0f7a4 3 = .ok (.iushr, 1) := by decide +kernel
theorem dJ6_bitCount_0f7a4_32 : decode cJ6_bitCount_0f7a4 32 = .ok (.iand, 1) := by decide +kernel
theorem dJ6_bitCount_0f7a4_33 : decode cJ6_bitCount_0f7a4 33 = .ok (.istore_n 0, 1) := by decide +kernel
theorem dJ6_bitCount_0f7a4_34 : decode cJ6_bitCount_0f7a4 34 = .ok (.iload_n 0, 1) := by decide +kernel
theorem dJ6_bitCount_0f7a4_35 : decode cJ6_bitCount_0f7a4 35 = .ok (.iload_n 0, 1) := by decide +kernel
theorem dJ6_bitCount_0f7a4_36 : decode cJ6_bitCount_0f7a4 36 = .ok (.bipush 8, 2) := by decide +kernel
theorem dJ6_bitCount_0f7a4_38 : decode cJ6_bitCount_0f7a4 38 = .ok (.iushr, 1) := by decide +kernel
theorem dJ6_bitCount_0f7a4_39 : decode cJ6_bitCount_0f7a4 39 = .ok (.iadd, 1) := by decide +kernel
theorem dJ6_bitCount_0f7a4_4 : decode cJ6_bitCount_0f7a4 4 = .ok (.ldc_w 265, 3) := by decide +kernel
theorem dJ6_bitCount_0f7a4_40 : decode cJ6_bitCount_0f7a4 40 = .ok (.istore_n 0, 1) := by decide +kernel
theorem dJ6_bitCount_0f7a4_41 : decode cJ6_bitCount_0f7a4 41 = .ok (.iload_n 0, 1) := by decide +kernel
theorem dJ6_bitCount_0f7a4_42 : decode cJ6_bitCount_0f7a4 42 = .ok (.iload_n 0, 1) := by decide +kernel
theorem dJ6_bitCount_0f7a4_43 : decode cJ6_bitCount_0f7a4 43 = .ok (.bipush 16, 2) := by decide +kernel
theorem dJ6_bitCount_0f7a4_45 : decode cJ6_bitCount_0f7a4 45 = .ok (.iushr, 1) := by decide +kernel
theorem dJ6_bitCount_0f7a4_46 : decode cJ6_bitCount_0f7a4 46 = .ok (.iadd, 1) := by decide +kernel
theorem dJ6_bitCount_0f7a4_47 : decode cJ6_bitCount_0f7a4 47 = .ok (.istore_n 0, 1) := by decide +kernel
theorem dJ6_bitCount_0f7a4_48 : decode cJ6_bitCount_0f7a4 48 = .ok (.iload_n 0, 1) := by decide +kernel
theorem dJ6_bitCount_0f7a4_49 : decode cJ6_bitCount_0f7a4 49 = .ok (.bipush 63, 2) := by decide +kernel
theorem dJ6_bitCount_0f7a4_51 : decode cJ6_bitCount_0f7a4 51 = .ok (.iand, 1) := by decide +kernel
theorem dJ6_bitCount_0f7a4_52 : decode cJ6_bitCount_0f7a4 52 = .ok (.ireturn, 1) := by decide +kernel
theorem dJ6_bitCount_0f7a4_7 : decode cJ6_bitCount_0f7a4 7 = .ok (.iand, 1) := by decide +kernel
theorem dJ6_bitCount_0f7a4_8 : decode cJ6_bitCount_0f7a4 8 = .ok (.isub, 1) := by decide +kernel
theorem dJ6_bitCount_0f7a4_9 : decode cJ6_bitCount_0f7a4 9 = .ok (.istore_n 0, 1) := by decide +kernel
set_option maxHeartbeats 4000000 in
set_option maxRecDepth 100000 in
theorem c_J6_bitCount_0f7a4 (l : Launch) (D : va_G) (T : Nat → ClassId) (x0 : Int32)  : Met l yJ6_bitCount_0f7a4 wsJ6_bitCount_0f7a4 ({ frames := 0, cells := 0, slots := 0, locals := 0 }) (pR [.int x0] D T []) (vp_Si (fun r => r = sp_bits x0)) 0 0 (fun _ => False) := by
  refine Met.ofW (cc := cJ6_bitCount_0f7a4) (maxL := 1) (ret := (some .int)) (by decide) rfl ?_
  intro p e s m args below meth c s₁ B hml hv
  obtain ⟨rfl, hP, hE⟩ := hv
  have hx := B.exec
  have hb := B.bytes
  have hr := B.returns
  have hts := atoms_spec (ws := wsJ6_bitCount_0f7a4) B.pre
  have hown : s.vm.findClass RJ6 = some m.cls := findClass_of_methodNamed B.named
  have hlocks := B.notSynchronized
  have hP : va_P D vwCl [] s.heap := hP
  have hl := lv_entry ([.int x0]) (n := 1) (Nat.le_of_ble_eq_true rfl)
  rw [lg_entry_eq]
  generalize (lg_sl ([.int x0]) ++ List.replicate (1 - (lg_sl ([.int x0])).length) Slot.unset).toArray = ls at hl ⊢
  have hl : lv_has ls 1 [(0, .int x0)] := hl
  refine lv_iload_n hx hb dJ6_bitCount_0f7a4_0 rfl (lv_at hl 0 rfl) ?_
  refine lv_iload_n hx hb dJ6_bitCount_0f7a4_1 rfl (lv_at hl 0 rfl) ?_
  refine lv_iconst (v := 1) hx hb dJ6_bitCount_0f7a4_2 (by decide) ?_
  obtain ⟨z_1, ez_1⟩ : ∃ y : Int32, (x0.toUInt32 >>> ((1 : Int32).toUInt32 &&& Int32.toUInt32 31)).toInt32 = y := ⟨_, rfl⟩
  refine lv_iushr (v := z_1) hx hb dJ6_bitCount_0f7a4_3 ez_1 ?_
  refine lv_ldcw (v := 1431655765) hx hb hown (hts (.constant RJ6 265 (1431655765)) (List.mem_of_getElem? (i := 1) rfl)) dJ6_bitCount_0f7a4_4 ?_
  refine lv_iand hx hb dJ6_bitCount_0f7a4_7 ?_
  refine lv_isub hx hb dJ6_bitCount_0f7a4_8 ?_
  refine lv_topi (fun z_2 ez_2 => ?_)
  refine lv_istore_n (lv' := [(0, .int z_2)]) hx hb dJ6_bitCount_0f7a4_9 rfl hl (by decide) rfl (fun ls hl => ?_)
  refine lv_iload_n hx hb dJ6_bitCount_0f7a4_10 rfl (lv_at hl 0 rfl) ?_
  refine lv_ldcw (v := 858993459) hx hb hown (hts (.constant RJ6 266 (858993459)) (List.mem_of_getElem? (i := 2) rfl)) dJ6_bitCount_0f7a4_11 ?_
  refine lv_iand hx hb dJ6_bitCount_0f7a4_14 ?_
  refine lv_iload_n hx hb dJ6_bitCount_0f7a4_15 rfl (lv_at hl 0 rfl) ?_
  refine lv_iconst (v := 2) hx hb dJ6_bitCount_0f7a4_16 (by decide) ?_
  obtain ⟨z_3, ez_3⟩ : ∃ y : Int32, (z_2.toUInt32 >>> ((2 : Int32).toUInt32 &&& Int32.toUInt32 31)).toInt32 = y := ⟨_, rfl⟩
  refine lv_iushr (v := z_3) hx hb dJ6_bitCount_0f7a4_17 ez_3 ?_
  refine lv_ldcw (v := 858993459) hx hb hown (hts (.constant RJ6 266 (858993459)) (List.mem_of_getElem? (i := 2) rfl)) dJ6_bitCount_0f7a4_18 ?_
  refine lv_iand hx hb dJ6_bitCount_0f7a4_21 ?_
  refine lv_iadd hx hb dJ6_bitCount_0f7a4_22 ?_
  refine lv_topi (fun z_4 ez_4 => ?_)
  refine lv_istore_n (lv' := [(0, .int z_4)]) hx hb dJ6_bitCount_0f7a4_23 rfl hl (by decide) rfl (fun ls hl => ?_)
  refine lv_iload_n hx hb dJ6_bitCount_0f7a4_24 rfl (lv_at hl 0 rfl) ?_
  refine lv_iload_n hx hb dJ6_bitCount_0f7a4_25 rfl (lv_at hl 0 rfl) ?_
  refine lv_iconst (v := 4) hx hb dJ6_bitCount_0f7a4_26 (by decide) ?_
  obtain ⟨z_5, ez_5⟩ : ∃ y : Int32, (z_4.toUInt32 >>> ((4 : Int32).toUInt32 &&& Int32.toUInt32 31)).toInt32 = y := ⟨_, rfl⟩
  refine lv_iushr (v := z_5) hx hb dJ6_bitCount_0f7a4_27 ez_5 ?_
  refine lv_iadd hx hb dJ6_bitCount_0f7a4_28 ?_
  refine lv_ldcw (v := 252645135) hx hb hown (hts (.constant RJ6 267 (252645135)) (List.mem_of_getElem? (i := 3) rfl)) dJ6_bitCount_0f7a4_29 ?_
  refine lv_iand hx hb dJ6_bitCount_0f7a4_32 ?_
  refine lv_topi (fun z_6 ez_6 => ?_)
  refine lv_istore_n (lv' := [(0, .int z_6)]) hx hb dJ6_bitCount_0f7a4_33 rfl hl (by decide) rfl (fun ls hl => ?_)
  refine lv_iload_n hx hb dJ6_bitCount_0f7a4_34 rfl (lv_at hl 0 rfl) ?_
  refine lv_iload_n hx hb dJ6_bitCount_0f7a4_35 rfl (lv_at hl 0 rfl) ?_
  refine lv_bipush (v := 8) hx hb dJ6_bitCount_0f7a4_36 (by decide) ?_
  obtain ⟨z_7, ez_7⟩ : ∃ y : Int32, (z_6.toUInt32 >>> ((8 : Int32).toUInt32 &&& Int32.toUInt32 31)).toInt32 = y := ⟨_, rfl⟩
  refine lv_iushr (v := z_7) hx hb dJ6_bitCount_0f7a4_38 ez_7 ?_
  refine lv_iadd hx hb dJ6_bitCount_0f7a4_39 ?_
  refine lv_topi (fun z_8 ez_8 => ?_)
  refine lv_istore_n (lv' := [(0, .int z_8)]) hx hb dJ6_bitCount_0f7a4_40 rfl hl (by decide) rfl (fun ls hl => ?_)
  refine lv_iload_n hx hb dJ6_bitCount_0f7a4_41 rfl (lv_at hl 0 rfl) ?_
  refine lv_iload_n hx hb dJ6_bitCount_0f7a4_42 rfl (lv_at hl 0 rfl) ?_
  refine lv_bipush (v := 16) hx hb dJ6_bitCount_0f7a4_43 (by decide) ?_
  obtain ⟨z_9, ez_9⟩ : ∃ y : Int32, (z_8.toUInt32 >>> ((16 : Int32).toUInt32 &&& Int32.toUInt32 31)).toInt32 = y := ⟨_, rfl⟩
  refine lv_iushr (v := z_9) hx hb dJ6_bitCount_0f7a4_45 ez_9 ?_
  refine lv_iadd hx hb dJ6_bitCount_0f7a4_46 ?_
  refine lv_topi (fun z_10 ez_10 => ?_)
  refine lv_istore_n (lv' := [(0, .int z_10)]) hx hb dJ6_bitCount_0f7a4_47 rfl hl (by decide) rfl (fun ls hl => ?_)
  refine lv_iload_n hx hb dJ6_bitCount_0f7a4_48 rfl (lv_at hl 0 rfl) ?_
  refine lv_bipush (v := 63) hx hb dJ6_bitCount_0f7a4_49 (by decide) ?_
  refine lv_iand hx hb dJ6_bitCount_0f7a4_51 ?_
  exact W.iret hx hb hr (fun t ht hW => ⟨_, rfl, (by subst_vars; rfl), ht⟩) (fun _ h => by cases h) dJ6_bitCount_0f7a4_52
theorem dX8_spotOn_0 : decode cX8_spotOn 0 = .ok (.iload_n 0, 1) := by decide +kernel
theorem dX8_spotOn_1 : decode cX8_spotOn 1 = .ok (.iconst 1, 1) := by decide +kernel
theorem dX8_spotOn_10 : decode cX8_spotOn 10 = .ok (.ireturn, 1) := by decide +kernel
theorem dX8_spotOn_2 : decode cX8_spotOn 2 = .ok (.iload_n 1, 1) := by decide +kernel
theorem dX8_spotOn_3 : decode cX8_spotOn 3 = .ok (.ishl, 1) := by decide +kernel
theorem dX8_spotOn_4 : decode cX8_spotOn 4 = .ok (.iconst 1, 1) := by decide +kernel
theorem dX8_spotOn_5 : decode cX8_spotOn 5 = .ok (.isub, 1) := by decide +kernel
theorem dX8_spotOn_6 : decode cX8_spotOn 6 = .ok (.iand, 1) := by decide +kernel
theorem dX8_spotOn_7 : decode cX8_spotOn 7 = .ok (.invokestatic 31, 3) := by decide +kernel
set_option maxRecDepth 20000 in
theorem ggX8_spotOn_J6_bitCount_0f7a4 : GoodIn wsX8_spotOn wsJ6_bitCount_0f7a4 := goodIn_r _ [4, 5, 6, 7] (by decide +kernel) (by decide +kernel)
set_option maxRecDepth 20000 in
theorem gX8_spotOn_J6_bitCount_0f7a4 : GoodIn wsX8_spotOn (va_wsS RX8 31 yJ6_bitCount_0f7a4 wsJ6_bitCount_0f7a4) := goodIn_app (goodIn_of _ (by decide +kernel)) ggX8_spotOn_J6_bitCount_0f7a4
set_option maxHeartbeats 4000000 in
set_option maxRecDepth 100000 in
theorem c_X8_spotOn (l : Launch) (D : va_G) (T : Nat → ClassId) (x0 : Int32) (x1 : Int32)  : Met l yX8_spotOn wsX8_spotOn ({ frames := 1, cells := 0, slots := 0, locals := 20 }) (pR [.int x0, .int x1] D T []) (vp_Si (fun r => r = sp_bits (x0 &&& ((1 <<< (x1 &&& 31)) - 1)))) 0 0 (fun _ => False) := by
  refine Met.ofW (cc := cX8_spotOn) (maxL := 2) (ret := (some .int)) (by decide) rfl ?_
  intro p e s m args below meth c s₁ B hml hv
  obtain ⟨rfl, hP, hE⟩ := hv
  have hx := B.exec
  have hb := B.bytes
  have hr := B.returns
  have hts := atoms_spec (ws := wsX8_spotOn) B.pre
  have hown : s.vm.findClass RX8 = some m.cls := findClass_of_methodNamed B.named
  have hlocks := B.notSynchronized
  have hP : va_P D vwCl [] s.heap := hP
  have hl := lv_entry ([.int x0, .int x1]) (n := 2) (Nat.le_of_ble_eq_true rfl)
  rw [lg_entry_eq]
  generalize (lg_sl ([.int x0, .int x1]) ++ List.replicate (2 - (lg_sl ([.int x0, .int x1])).length) Slot.unset).toArray = ls at hl ⊢
  have hl : lv_has ls 2 [(0, .int x0), (1, .int x1)] := hl
  refine lv_iload_n hx hb dX8_spotOn_0 rfl (lv_at hl 0 rfl) ?_
  refine lv_iconst (v := 1) hx hb dX8_spotOn_1 (by decide) ?_
  refine lv_iload_n hx hb dX8_spotOn_2 rfl (lv_at hl 1 rfl) ?_
  refine lv_ishl hx hb dX8_spotOn_3 ?_
  refine lv_iconst (v := 1) hx hb dX8_spotOn_4 (by decide) ?_
  refine lv_isub hx hb dX8_spotOn_5 ?_
  refine lv_iand hx hb dX8_spotOn_6 ?_
  refine vp_callSi (W.runS (As := [.int (x0 &&& ((1 <<< (x1 &&& 31)) - 1))]) (rest := []) ⟨hx, hb, hml, hown, hts⟩ (c_J6_bitCount_0f7a4 l D T (x0 &&& ((1 <<< (x1 &&& 31)) - 1))) (va_cwS 1 hts gX8_spotOn_J6_bitCount_0f7a4 rfl rfl rfl (by decide +kernel) ⟨Nat.le_of_ble_eq_true rfl, Nat.le_of_ble_eq_true rfl⟩) (pR_S hP hE [] rfl) rfl rfl hl.1 rfl (lv_room (Nat.le_of_ble_eq_true rfl)) dX8_spotOn_7 ⟨Nat.le_of_ble_eq_true rfl, Nat.le_of_ble_eq_true rfl⟩) (fun r_1 hr_1 => ?_)
  obtain rfl : r_1 = (sp_bits (x0 &&& ((1 <<< (x1 &&& 31)) - 1))) := hr_1
  exact W.iret hx hb hr (fun t ht hW => ⟨_, rfl, rfl, ht⟩) (fun _ h => by cases h) dX8_spotOn_10
theorem dX12_spotOf_0 : decode cX12_spotOf 0 = .ok (.iload_n 1, 1) := by decide +kernel
theorem dX12_spotOf_1 : decode cX12_spotOf 1 = .ok (.invokestatic 116, 3) := by decide +kernel
theorem dX12_spotOf_11 : decode cX12_spotOf 11 = .ok (.ifCond .eq 11, 3) := by decide +kernel
theorem dX12_spotOf_14 : decode cX12_spotOf 14 = .ok (.iload_n 1, 1) := by decide +kernel
theorem dX12_spotOf_15 : decode cX12_spotOf 15 = .ok (.iload_n 2, 1) := by decide +kernel
theorem dX12_spotOf_16 : decode cX12_spotOf 16 = .ok (.invokestatic 123, 3) := by decide +kernel
theorem dX12_spotOf_19 : decode cX12_spotOf 19 = .ok (.goto 5, 3) := by decide +kernel
theorem dX12_spotOf_22 : decode cX12_spotOf 22 = .ok (.bipush (-2), 2) := by decide +kernel
theorem dX12_spotOf_24 : decode cX12_spotOf 24 = .ok (.ireturn, 1) := by decide +kernel
theorem dX12_spotOf_4 : decode cX12_spotOf 4 = .ok (.ifCond .eq 18, 3) := by decide +kernel
theorem dX12_spotOf_7 : decode cX12_spotOf 7 = .ok (.iload_n 2, 1) := by decide +kernel
theorem dX12_spotOf_8 : decode cX12_spotOf 8 = .ok (.invokestatic 120, 3) := by decide +kernel
set_option maxRecDepth 20000 in
theorem ggX12_spotOf_X12_isDay : GoodIn wsX12_spotOf wsX12_isDay := goodIn_r _ [10, 5, 6, 3, 7] (by decide +kernel) (by decide +kernel)
set_option maxRecDepth 20000 in
theorem ggX12_spotOf_X12_isPath : GoodIn wsX12_spotOf wsX12_isPath := goodIn_r _ [4, 5, 6, 3, 7] (by decide +kernel) (by decide +kernel)
set_option maxRecDepth 20000 in
theorem ggX12_spotOf_X8_spotOn : GoodIn wsX12_spotOf wsX8_spotOn := goodIn_r _ [14, 15, 16, 17, 18, 19, 20, 21] (by decide +kernel) (by decide +kernel)
set_option maxRecDepth 20000 in
theorem gX12_spotOf_X12_isDay : GoodIn wsX12_spotOf (va_wsS RX12 120 yX12_isDay wsX12_isDay) := goodIn_app (goodIn_of _ (by decide +kernel)) ggX12_spotOf_X12_isDay
set_option maxRecDepth 20000 in
theorem gX12_spotOf_X12_isPath : GoodIn wsX12_spotOf (va_wsS RX12 116 yX12_isPath wsX12_isPath) := goodIn_app (goodIn_of _ (by decide +kernel)) ggX12_spotOf_X12_isPath
set_option maxRecDepth 20000 in
theorem gX12_spotOf_X8_spotOn : GoodIn wsX12_spotOf (va_wsS RX12 123 yX8_spotOn wsX8_spotOn) := goodIn_app (goodIn_of _ (by decide +kernel)) ggX12_spotOf_X8_spotOn
set_option maxHeartbeats 4000000 in
set_option maxRecDepth 100000 in
theorem f_X12_spotOf (l : Launch) (D : va_G) (T : Nat → ClassId) (h0 : Nat) (fs0 : List Value) (x1 : Int32) (x2 : Int32)  : Met l yX12_spotOf wsX12_spotOf ({ frames := 2, cells := 0, slots := 0, locals := 42 }) (pR [.ref h0, .int x1, .int x2] D T [(h0, .inr (9, fs0))]) (vp_Si (fun r => r = sp_spotOf x1 x2)) 0 0 (fun _ => False) := by
  refine Met.ofW (cc := cX12_spotOf) (maxL := 3) (ret := (some .int)) (by decide) rfl ?_
  intro p e s m args below meth c s₁ B hml hv
  obtain ⟨rfl, hP, hE⟩ := hv
  have hx := B.exec
  have hb := B.bytes
  have hr := B.returns
  have hts := atoms_spec (ws := wsX12_spotOf) B.pre
  have hown : s.vm.findClass RX12 = some m.cls := findClass_of_methodNamed B.named
  have hlocks := B.notSynchronized
  have hP : va_P D vwCl [(h0, .inr (9, fs0))] s.heap := hP
  have hl := lv_entry ([.ref h0, .int x1, .int x2]) (n := 3) (Nat.le_of_ble_eq_true rfl)
  rw [lg_entry_eq]
  generalize (lg_sl ([.ref h0, .int x1, .int x2]) ++ List.replicate (3 - (lg_sl ([.ref h0, .int x1, .int x2])).length) Slot.unset).toArray = ls at hl ⊢
  have hl : lv_has ls 3 [(0, .ref h0), (1, .int x1), (2, .int x2)] := hl
  refine lv_iload_n hx hb dX12_spotOf_0 rfl (lv_at hl 1 rfl) ?_
  refine vp_callSi (W.runS (As := [.int x1]) (rest := []) ⟨hx, hb, hml, hown, hts⟩ (c_X12_isPath l D T x1) (va_cwS 1 hts gX12_spotOf_X12_isPath rfl rfl rfl (by decide +kernel) ⟨Nat.le_of_ble_eq_true rfl, Nat.le_of_ble_eq_true rfl⟩) (pR_S hP hE [] rfl) rfl rfl hl.1 rfl (lv_room (Nat.le_of_ble_eq_true rfl)) dX12_spotOf_1 ⟨Nat.le_of_ble_eq_true rfl, Nat.le_of_ble_eq_true rfl⟩) (fun r_1 hr_1 => ?_)
  rcases bool_post hr_1 with ⟨c_2, rfl⟩ | ⟨c_2, rfl⟩
  · refine lv_if_eq (tgt := 22) hx hb dX12_spotOf_4 (by decide) (fun c9 => absurd c9 (by decide)) (fun _ => ?_)
    refine lv_iload_n hx hb dX12_spotOf_7 rfl (lv_at hl 2 rfl) ?_
    refine vp_callSi (W.runS (As := [.int x2]) (rest := []) ⟨hx, hb, hml, hown, hts⟩ (c_X12_isDay l D T x2) (va_cwS 1 hts gX12_spotOf_X12_isDay rfl rfl rfl (by decide +kernel) ⟨Nat.le_of_ble_eq_true rfl, Nat.le_of_ble_eq_true rfl⟩) (pR_S hP hE [] rfl) rfl rfl hl.1 rfl (lv_room (Nat.le_of_ble_eq_true rfl)) dX12_spotOf_8 ⟨Nat.le_of_ble_eq_true rfl, Nat.le_of_ble_eq_true rfl⟩) (fun r_3 hr_3 => ?_)
    rcases bool_post hr_3 with ⟨c_4, rfl⟩ | ⟨c_4, rfl⟩
    · refine lv_if_eq (tgt := 22) hx hb dX12_spotOf_11 (by decide) (fun c9 => absurd c9 (by decide)) (fun _ => ?_)
      refine lv_iload_n hx hb dX12_spotOf_14 rfl (lv_at hl 1 rfl) ?_
      refine lv_iload_n hx hb dX12_spotOf_15 rfl (lv_at hl 2 rfl) ?_
      refine vp_callSi (W.runS (As := [.int x1, .int x2]) (rest := []) ⟨hx, hb, hml, hown, hts⟩ (c_X8_spotOn l D T x1 x2) (va_cwS 2 hts gX12_spotOf_X8_spotOn rfl rfl rfl (by decide +kernel) ⟨Nat.le_of_ble_eq_true rfl, Nat.le_of_ble_eq_true rfl⟩) (pR_S hP hE [] rfl) rfl rfl hl.1 rfl (lv_room (Nat.le_of_ble_eq_true rfl)) dX12_spotOf_16 ⟨Nat.le_of_ble_eq_true rfl, Nat.le_of_ble_eq_true rfl⟩) (fun r_5 hr_5 => ?_)
      obtain rfl : r_5 = (sp_bits (x1 &&& ((1 <<< (x2 &&& 31)) - 1))) := hr_5
      refine lv_goto (tgt := 24) hx hb dX12_spotOf_19 (by decide) ?_
      exact W.iret hx hb hr (fun t ht hW => ⟨_, rfl, (by first | decide | (unfold sp_spotOf; (repeat' split) <;> first | rfl | (exfalso; omega))), ht⟩) (fun _ h => by cases h) dX12_spotOf_24
    · refine lv_if_eq (tgt := 22) hx hb dX12_spotOf_11 (by decide) (fun _ => ?_) (fun c9 => absurd c9 (by decide))
      refine lv_bipush (v := (-2)) hx hb dX12_spotOf_22 (by decide) ?_
      exact W.iret hx hb hr (fun t ht hW => ⟨_, rfl, (by first | decide | (unfold sp_spotOf; (repeat' split) <;> first | rfl | (exfalso; omega))), ht⟩) (fun _ h => by cases h) dX12_spotOf_24
  · refine lv_if_eq (tgt := 22) hx hb dX12_spotOf_4 (by decide) (fun _ => ?_) (fun c9 => absurd c9 (by decide))
    refine lv_bipush (v := (-2)) hx hb dX12_spotOf_22 (by decide) ?_
    exact W.iret hx hb hr (fun t ht hW => ⟨_, rfl, (by first | decide | (unfold sp_spotOf; (repeat' split) <;> first | rfl | (exfalso; omega))), ht⟩) (fun _ h => by cases h) dX12_spotOf_24
theorem dX12_take_0 : decode cX12_take 0 = .ok (.iload_n 1, 1) := by decide +kernel
theorem dX12_take_1 : decode cX12_take 1 = .ok (.invokestatic 300, 3) := by decide +kernel
theorem dX12_take_10 : decode cX12_take 10 = .ok (.aload_n 0, 1) := by decide +kernel
theorem dX12_take_11 : decode cX12_take 11 = .ok (.getfield 37, 3) := by decide +kernel
theorem dX12_take_14 : decode cX12_take 14 = .ok (.iload_n 1, 1) := by decide +kernel
theorem dX12_take_15 : decode cX12_take 15 = .ok (.aaload, 1) := by decide +kernel
theorem dX12_take_16 : decode cX12_take 16 = .ok (.astore_n 2, 1) := by decide +kernel
theorem dX12_take_17 : decode cX12_take 17 = .ok (.aload_n 2, 1) := by decide +kernel
theorem dX12_take_18 : decode cX12_take 18 = .ok (.getfield 307, 3) := by decide +kernel
theorem dX12_take_21 : decode cX12_take 21 = .ok (.ifCond .gt 5, 3) := by decide +kernel
theorem dX12_take_24 : decode cX12_take 24 = .ok (.iconst (-1), 1) := by decide +kernel
theorem dX12_take_25 : decode cX12_take 25 = .ok (.ireturn, 1) := by decide +kernel
theorem dX12_take_4 : decode cX12_take 4 = .ok (.ifCond .ne 6, 3) := by decide +kernel
theorem dX12_take_7 : decode cX12_take 7 = .ok (.bipush (-2), 2) := by decide +kernel
theorem dX12_take_9 : decode cX12_take 9 = .ok (.ireturn, 1) := by decide +kernel
set_option maxRecDepth 20000 in
theorem ggX12_take_X12_isBag : GoodIn wsX12_take wsX12_isBag := goodIn_r _ [7, 8, 9, 6, 10] (by decide +kernel) (by decide +kernel)
set_option maxRecDepth 20000 in
theorem gX12_take_X12_isBag : GoodIn wsX12_take (va_wsS RX12 300 yX12_isBag wsX12_isBag) := goodIn_app (goodIn_of _ (by decide +kernel)) ggX12_take_X12_isBag
set_option maxRecDepth 20000 in
theorem in_X12_take_X1 : ∀ w ∈ wsX10, w ∈ wsX12_take := by decide +kernel
set_option maxRecDepth 20000 in
theorem in_X12_take_X12 : ∀ w ∈ wsX120, w ∈ wsX12_take := by decide +kernel
set_option maxHeartbeats 4000000 in
set_option maxRecDepth 100000 in
theorem f_X12_take (l : Launch) (D : va_G) (T : Nat → ClassId) (h0 : Nat) (fs0 : List Value) (h1 : Nat) (f1 : Nat → Option Nat) (h2 : Nat) (fs2 : List Value) (h3 : Nat) (fs3 : List Value) (h4 : Nat) (fs4 : List Value) (x1 : Int32) (e0_5 : fs0[5]? = some (.ref h1)) (e1_0 : f1 0 = some h2) (e1_1 : f1 1 = some h3) (e1_2 : f1 2 = some h4) (e2_0 : fs2[0]? = some (.int 0)) (e3_0 : fs3[0]? = some (.int 0)) (e4_0 : fs4[0]? = some (.int 0)) : Met l yX12_take wsX12_take ({ frames := 2, cells := 0, slots := 0, locals := 42 }) (pR [.ref h0, .int x1] D T [(h0, .inr (9, fs0)), (h1, .inl (T 5, 3, .inr (.inr (.inr (.inr f1))))), (h2, .inr (0, fs2)), (h3, .inr (0, fs3)), (h4, .inr (0, fs4))]) (vp_Si (fun r => r = sp_take x1)) 0 0 (fun _ => False) := by
  refine Met.ofW (cc := cX12_take) (maxL := 3) (ret := (some .int)) (by decide) rfl ?_
  intro p e s m args below meth c s₁ B hml hv
  obtain ⟨rfl, hP, hE⟩ := hv
  have hx := B.exec
  have hb := B.bytes
  have hr := B.returns
  have hts := atoms_spec (ws := wsX12_take) B.pre
  have hown : s.vm.findClass RX12 = some m.cls := findClass_of_methodNamed B.named
  have hlocks := B.notSynchronized
  have hP : va_P D vwCl [(h0, .inr (9, fs0)), (h1, .inl (T 5, 3, .inr (.inr (.inr (.inr f1))))), (h2, .inr (0, fs2)), (h3, .inr (0, fs3)), (h4, .inr (0, fs4))] s.heap := hP
  have hl := lv_entry ([.ref h0, .int x1]) (n := 3) (Nat.le_of_ble_eq_true rfl)
  rw [lg_entry_eq]
  generalize (lg_sl ([.ref h0, .int x1]) ++ List.replicate (3 - (lg_sl ([.ref h0, .int x1])).length) Slot.unset).toArray = ls at hl ⊢
  have hl : lv_has ls 3 [(0, .ref h0), (1, .int x1)] := hl
  refine lv_iload_n hx hb dX12_take_0 rfl (lv_at hl 1 rfl) ?_
  refine vp_callSi (W.runS (As := [.int x1]) (rest := []) ⟨hx, hb, hml, hown, hts⟩ (c_X12_isBag l D T x1) (va_cwS 1 hts gX12_take_X12_isBag rfl rfl rfl (by decide +kernel) ⟨Nat.le_of_ble_eq_true rfl, Nat.le_of_ble_eq_true rfl⟩) (pR_S hP hE [] rfl) rfl rfl hl.1 rfl (lv_room (Nat.le_of_ble_eq_true rfl)) dX12_take_1 ⟨Nat.le_of_ble_eq_true rfl, Nat.le_of_ble_eq_true rfl⟩) (fun r_1 hr_1 => ?_)
  rcases bool_post hr_1 with ⟨c_2, rfl⟩ | ⟨c_2, rfl⟩
  · refine lv_if_ne (tgt := 10) hx hb dX12_take_4 (by decide) (fun _ => ?_) (fun c9 => absurd c9 (by decide))
    refine lv_aload_n hx hb dX12_take_10 rfl (lv_at hl 0 rfl) ?_
    refine va_get (D := D) (ci := 9) (v := .ref h1) (C := RX12) (T := TX12) (N := 11) hx hb hts in_X12_take_X12 hown hE.1 hP 0 rfl rfl 5 (by decide) (hts (.fieldLink RX12 37 "ClauseBook" "bags" "[LClauseBook$Bag;") (List.mem_of_getElem? (i := 1) rfl)) (fun _ h9 => h9) e0_5 dX12_take_11 ?_
    refine lv_iload_n hx hb dX12_take_14 rfl (lv_at hl 1 rfl) ?_
    rcases in3 (x := x1) (by omega) with rfl | rfl | rfl
    · refine va_aldq hx hb hE.1 hP 1 5 rfl rfl (by unfold vp_in; decide) dX12_take_15 ?_
      refine W.eq (g2 := F0 m 16 ls [.ref h2]) (by rw [show (0 : Int32).toNatClampNeg = 0 from rfl, e1_0]; rfl) ?_
      refine lv_astore_n (lv' := [(2, .ref h2), (0, .ref h0), (1, .int 0)]) hx hb dX12_take_16 rfl hl (by decide) rfl (fun ls hl => ?_)
      refine lv_aload_n hx hb dX12_take_17 rfl (lv_at hl 0 rfl) ?_
      refine va_get (D := D) (ci := 0) (v := .int 0) (C := RX1) (T := TX1) (N := 2) hx hb hts in_X12_take_X1 hown hE.1 hP 2 rfl rfl 0 (by decide) (hts (.fieldLink RX12 307 "ClauseBook$Bag" "size" "I") (List.mem_of_getElem? (i := 2) rfl)) (fun _ h9 => h9) e2_0 dX12_take_18 ?_
      refine lv_if_gt (tgt := 26) hx hb dX12_take_21 (by decide) (fun c9 => absurd c9 (by decide)) (fun _ => ?_)
      refine lv_iconst (v := (-1)) hx hb dX12_take_24 (by decide) ?_
      exact W.iret hx hb hr (fun t ht hW => ⟨_, rfl, (by first | decide | (unfold sp_take; (repeat' split) <;> first | rfl | (exfalso; omega))), ht⟩) (fun _ h => by cases h) dX12_take_25
    · refine va_aldq hx hb hE.1 hP 1 5 rfl rfl (by unfold vp_in; decide) dX12_take_15 ?_
      refine W.eq (g2 := F0 m 16 ls [.ref h3]) (by rw [show (1 : Int32).toNatClampNeg = 1 from rfl, e1_1]; rfl) ?_
      refine lv_astore_n (lv' := [(2, .ref h3), (0, .ref h0), (1, .int 1)]) hx hb dX12_take_16 rfl hl (by decide) rfl (fun ls hl => ?_)
      refine lv_aload_n hx hb dX12_take_17 rfl (lv_at hl 0 rfl) ?_
      refine va_get (D := D) (ci := 0) (v := .int 0) (C := RX1) (T := TX1) (N := 2) hx hb hts in_X12_take_X1 hown hE.1 hP 3 rfl rfl 0 (by decide) (hts (.fieldLink RX12 307 "ClauseBook$Bag" "size" "I") (List.mem_of_getElem? (i := 2) rfl)) (fun _ h9 => h9) e3_0 dX12_take_18 ?_
      refine lv_if_gt (tgt := 26) hx hb dX12_take_21 (by decide) (fun c9 => absurd c9 (by decide)) (fun _ => ?_)
      refine lv_iconst (v := (-1)) hx hb dX12_take_24 (by decide) ?_
      exact W.iret hx hb hr (fun t ht hW => ⟨_, rfl, (by first | decide | (unfold sp_take; (repeat' split) <;> first | rfl | (exfalso; omega))), ht⟩) (fun _ h => by cases h) dX12_take_25
    · refine va_aldq hx hb hE.1 hP 1 5 rfl rfl (by unfold vp_in; decide) dX12_take_15 ?_
      refine W.eq (g2 := F0 m 16 ls [.ref h4]) (by rw [show (2 : Int32).toNatClampNeg = 2 from rfl, e1_2]; rfl) ?_
      refine lv_astore_n (lv' := [(2, .ref h4), (0, .ref h0), (1, .int 2)]) hx hb dX12_take_16 rfl hl (by decide) rfl (fun ls hl => ?_)
      refine lv_aload_n hx hb dX12_take_17 rfl (lv_at hl 0 rfl) ?_
      refine va_get (D := D) (ci := 0) (v := .int 0) (C := RX1) (T := TX1) (N := 2) hx hb hts in_X12_take_X1 hown hE.1 hP 4 rfl rfl 0 (by decide) (hts (.fieldLink RX12 307 "ClauseBook$Bag" "size" "I") (List.mem_of_getElem? (i := 2) rfl)) (fun _ h9 => h9) e4_0 dX12_take_18 ?_
      refine lv_if_gt (tgt := 26) hx hb dX12_take_21 (by decide) (fun c9 => absurd c9 (by decide)) (fun _ => ?_)
      refine lv_iconst (v := (-1)) hx hb dX12_take_24 (by decide) ?_
      exact W.iret hx hb hr (fun t ht hW => ⟨_, rfl, (by first | decide | (unfold sp_take; (repeat' split) <;> first | rfl | (exfalso; omega))), ht⟩) (fun _ h => by cases h) dX12_take_25
  · refine lv_if_ne (tgt := 10) hx hb dX12_take_4 (by decide) (fun c9 => absurd c9 (by decide)) (fun _ => ?_)
    refine lv_bipush (v := (-2)) hx hb dX12_take_7 (by decide) ?_
    exact W.iret hx hb hr (fun t ht hW => ⟨_, rfl, (by first | decide | (unfold sp_take; (repeat' split) <;> first | rfl | (exfalso; omega))), ht⟩) (fun _ h => by cases h) dX12_take_9
theorem dX12_bagOf_0 : decode cX12_bagOf 0 = .ok (.iload_n 1, 1) := by decide +kernel
theorem dX12_bagOf_1 : decode cX12_bagOf 1 = .ok (.invokestatic 300, 3) := by decide +kernel
theorem dX12_bagOf_10 : decode cX12_bagOf 10 = .ok (.iload_n 2, 1) := by decide +kernel
theorem dX12_bagOf_11 : decode cX12_bagOf 11 = .ok (.iconst 0, 1) := by decide +kernel
theorem dX12_bagOf_12 : decode cX12_bagOf 12 = .ok (.aload_n 0, 1) := by decide +kernel
theorem dX12_bagOf_13 : decode cX12_bagOf 13 = .ok (.getfield 37, 3) := by decide +kernel
theorem dX12_bagOf_16 : decode cX12_bagOf 16 = .ok (.iload_n 1, 1) := by decide +kernel
theorem dX12_bagOf_17 : decode cX12_bagOf 17 = .ok (.aaload, 1) := by decide +kernel
theorem dX12_bagOf_18 : decode cX12_bagOf 18 = .ok (.getfield 307, 3) := by decide +kernel
theorem dX12_bagOf_21 : decode cX12_bagOf 21 = .ok (.iconst 1, 1) := by decide +kernel
theorem dX12_bagOf_22 : decode cX12_bagOf 22 = .ok (.isub, 1) := by decide +kernel
theorem dX12_bagOf_23 : decode cX12_bagOf 23 = .ok (.invokestatic 77, 3) := by decide +kernel
theorem dX12_bagOf_26 : decode cX12_bagOf 26 = .ok (.ifCond .eq 17, 3) := by decide +kernel
theorem dX12_bagOf_4 : decode cX12_bagOf 4 = .ok (.ifCond .ne 6, 3) := by decide +kernel
theorem dX12_bagOf_43 : decode cX12_bagOf 43 = .ok (.bipush (-12), 2) := by decide +kernel
theorem dX12_bagOf_45 : decode cX12_bagOf 45 = .ok (.ireturn, 1) := by decide +kernel
theorem dX12_bagOf_7 : decode cX12_bagOf 7 = .ok (.bipush (-2), 2) := by decide +kernel
theorem dX12_bagOf_9 : decode cX12_bagOf 9 = .ok (.ireturn, 1) := by decide +kernel
set_option maxRecDepth 20000 in
theorem ggX12_bagOf_X12_isBag : GoodIn wsX12_bagOf wsX12_isBag := goodIn_r _ [7, 8, 9, 6, 10] (by decide +kernel) (by decide +kernel)
set_option maxRecDepth 20000 in
theorem ggX12_bagOf_X12_within : GoodIn wsX12_bagOf wsX12_within := goodIn_r _ [10] (by decide +kernel) (by decide +kernel)
set_option maxRecDepth 20000 in
theorem gX12_bagOf_X12_isBag : GoodIn wsX12_bagOf (va_wsS RX12 300 yX12_isBag wsX12_isBag) := goodIn_app (goodIn_of _ (by decide +kernel)) ggX12_bagOf_X12_isBag
set_option maxRecDepth 20000 in
theorem gX12_bagOf_X12_within : GoodIn wsX12_bagOf (va_wsS RX12 77 yX12_within wsX12_within) := goodIn_app (goodIn_of _ (by decide +kernel)) ggX12_bagOf_X12_within
set_option maxRecDepth 20000 in
theorem in_X12_bagOf_X1 : ∀ w ∈ wsX10, w ∈ wsX12_bagOf := by decide +kernel
set_option maxRecDepth 20000 in
theorem in_X12_bagOf_X12 : ∀ w ∈ wsX120, w ∈ wsX12_bagOf := by decide +kernel
set_option maxHeartbeats 4000000 in
set_option maxRecDepth 100000 in
theorem f_X12_bagOf (l : Launch) (D : va_G) (T : Nat → ClassId) (h0 : Nat) (fs0 : List Value) (h1 : Nat) (f1 : Nat → Option Nat) (h2 : Nat) (fs2 : List Value) (h3 : Nat) (fs3 : List Value) (h4 : Nat) (fs4 : List Value) (x1 : Int32) (x2 : Int32) (e0_5 : fs0[5]? = some (.ref h1)) (e1_0 : f1 0 = some h2) (e1_1 : f1 1 = some h3) (e1_2 : f1 2 = some h4) (e2_0 : fs2[0]? = some (.int 0)) (e3_0 : fs3[0]? = some (.int 0)) (e4_0 : fs4[0]? = some (.int 0)) : Met l yX12_bagOf wsX12_bagOf ({ frames := 2, cells := 0, slots := 0, locals := 42 }) (pR [.ref h0, .int x1, .int x2] D T [(h0, .inr (9, fs0)), (h1, .inl (T 5, 3, .inr (.inr (.inr (.inr f1))))), (h2, .inr (0, fs2)), (h3, .inr (0, fs3)), (h4, .inr (0, fs4))]) (vp_Si (fun r => r = sp_bagOf x1)) 0 0 (fun _ => False) := by
  refine Met.ofW (cc := cX12_bagOf) (maxL := 3) (ret := (some .int)) (by decide) rfl ?_
  intro p e s m args below meth c s₁ B hml hv
  obtain ⟨rfl, hP, hE⟩ := hv
  have hx := B.exec
  have hb := B.bytes
  have hr := B.returns
  have hts := atoms_spec (ws := wsX12_bagOf) B.pre
  have hown : s.vm.findClass RX12 = some m.cls := findClass_of_methodNamed B.named
  have hlocks := B.notSynchronized
  have hP : va_P D vwCl [(h0, .inr (9, fs0)), (h1, .inl (T 5, 3, .inr (.inr (.inr (.inr f1))))), (h2, .inr (0, fs2)), (h3, .inr (0, fs3)), (h4, .inr (0, fs4))] s.heap := hP
  have hl := lv_entry ([.ref h0, .int x1, .int x2]) (n := 3) (Nat.le_of_ble_eq_true rfl)
  rw [lg_entry_eq]
  generalize (lg_sl ([.ref h0, .int x1, .int x2]) ++ List.replicate (3 - (lg_sl ([.ref h0, .int x1, .int x2])).length) Slot.unset).toArray = ls at hl ⊢
  have hl : lv_has ls 3 [(0, .ref h0), (1, .int x1), (2, .int x2)] := hl
  refine lv_iload_n hx hb dX12_bagOf_0 rfl (lv_at hl 1 rfl) ?_
  refine vp_callSi (W.runS (As := [.int x1]) (rest := []) ⟨hx, hb, hml, hown, hts⟩ (c_X12_isBag l D T x1) (va_cwS 1 hts gX12_bagOf_X12_isBag rfl rfl rfl (by decide +kernel) ⟨Nat.le_of_ble_eq_true rfl, Nat.le_of_ble_eq_true rfl⟩) (pR_S hP hE [] rfl) rfl rfl hl.1 rfl (lv_room (Nat.le_of_ble_eq_true rfl)) dX12_bagOf_1 ⟨Nat.le_of_ble_eq_true rfl, Nat.le_of_ble_eq_true rfl⟩) (fun r_1 hr_1 => ?_)
  rcases bool_post hr_1 with ⟨c_2, rfl⟩ | ⟨c_2, rfl⟩
  · refine lv_if_ne (tgt := 10) hx hb dX12_bagOf_4 (by decide) (fun _ => ?_) (fun c9 => absurd c9 (by decide))
    refine lv_iload_n hx hb dX12_bagOf_10 rfl (lv_at hl 2 rfl) ?_
    refine lv_iconst (v := 0) hx hb dX12_bagOf_11 (by decide) ?_
    refine lv_aload_n hx hb dX12_bagOf_12 rfl (lv_at hl 0 rfl) ?_
    refine va_get (D := D) (ci := 9) (v := .ref h1) (C := RX12) (T := TX12) (N := 11) hx hb hts in_X12_bagOf_X12 hown hE.1 hP 0 rfl rfl 5 (by decide) (hts (.fieldLink RX12 37 "ClauseBook" "bags" "[LClauseBook$Bag;") (List.mem_of_getElem? (i := 1) rfl)) (fun _ h9 => h9) e0_5 dX12_bagOf_13 ?_
    refine lv_iload_n hx hb dX12_bagOf_16 rfl (lv_at hl 1 rfl) ?_
    rcases in3 (x := x1) (by omega) with rfl | rfl | rfl
    · refine va_aldq hx hb hE.1 hP 1 5 rfl rfl (by unfold vp_in; decide) dX12_bagOf_17 ?_
      refine W.eq (g2 := F0 m 18 ls [.ref h2, .int 0, .int x2]) (by rw [show (0 : Int32).toNatClampNeg = 0 from rfl, e1_0]; rfl) ?_
      refine va_get (D := D) (ci := 0) (v := .int 0) (C := RX1) (T := TX1) (N := 2) hx hb hts in_X12_bagOf_X1 hown hE.1 hP 2 rfl rfl 0 (by decide) (hts (.fieldLink RX12 307 "ClauseBook$Bag" "size" "I") (List.mem_of_getElem? (i := 2) rfl)) (fun _ h9 => h9) e2_0 dX12_bagOf_18 ?_
      refine lv_iconst (v := 1) hx hb dX12_bagOf_21 (by decide) ?_
      refine lv_isub hx hb dX12_bagOf_22 ?_
      refine lv_topi (fun z_3 ez_3 => ?_)
      obtain rfl : z_3 = (-1) := ez_3.trans (by decide)
      refine vp_callSi (W.runS (As := [.int x2, .int 0, .int (-1)]) (rest := []) ⟨hx, hb, hml, hown, hts⟩ (c_X12_within l D T x2 0 (-1) 0 (-1) (by decide) (by decide)) (va_cwS 3 hts gX12_bagOf_X12_within rfl rfl rfl (by decide +kernel) ⟨Nat.le_of_ble_eq_true rfl, Nat.le_of_ble_eq_true rfl⟩) (pR_S hP hE [] rfl) rfl rfl hl.1 rfl (lv_room (Nat.le_of_ble_eq_true rfl)) dX12_bagOf_23 ⟨Nat.le_of_ble_eq_true rfl, Nat.le_of_ble_eq_true rfl⟩) (fun r_4 hr_4 => ?_)
      rcases bool_post hr_4 with ⟨c_5, rfl⟩ | ⟨c_5, rfl⟩
      · exact absurd c_5 (by omega)
      refine lv_if_eq (tgt := 43) hx hb dX12_bagOf_26 (by decide) (fun _ => ?_) (fun c9 => absurd c9 (by decide))
      refine lv_bipush (v := (-12)) hx hb dX12_bagOf_43 (by decide) ?_
      exact W.iret hx hb hr (fun t ht hW => ⟨_, rfl, (by first | decide | (unfold sp_bagOf; (repeat' split) <;> first | rfl | (exfalso; omega))), ht⟩) (fun _ h => by cases h) dX12_bagOf_45
    · refine va_aldq hx hb hE.1 hP 1 5 rfl rfl (by unfold vp_in; decide) dX12_bagOf_17 ?_
      refine W.eq (g2 := F0 m 18 ls [.ref h3, .int 0, .int x2]) (by rw [show (1 : Int32).toNatClampNeg = 1 from rfl, e1_1]; rfl) ?_
      refine va_get (D := D) (ci := 0) (v := .int 0) (C := RX1) (T := TX1) (N := 2) hx hb hts in_X12_bagOf_X1 hown hE.1 hP 3 rfl rfl 0 (by decide) (hts (.fieldLink RX12 307 "ClauseBook$Bag" "size" "I") (List.mem_of_getElem? (i := 2) rfl)) (fun _ h9 => h9) e3_0 dX12_bagOf_18 ?_
      refine lv_iconst (v := 1) hx hb dX12_bagOf_21 (by decide) ?_
      refine lv_isub hx hb dX12_bagOf_22 ?_
      refine lv_topi (fun z_6 ez_6 => ?_)
      obtain rfl : z_6 = (-1) := ez_6.trans (by decide)
      refine vp_callSi (W.runS (As := [.int x2, .int 0, .int (-1)]) (rest := []) ⟨hx, hb, hml, hown, hts⟩ (c_X12_within l D T x2 0 (-1) 0 (-1) (by decide) (by decide)) (va_cwS 3 hts gX12_bagOf_X12_within rfl rfl rfl (by decide +kernel) ⟨Nat.le_of_ble_eq_true rfl, Nat.le_of_ble_eq_true rfl⟩) (pR_S hP hE [] rfl) rfl rfl hl.1 rfl (lv_room (Nat.le_of_ble_eq_true rfl)) dX12_bagOf_23 ⟨Nat.le_of_ble_eq_true rfl, Nat.le_of_ble_eq_true rfl⟩) (fun r_7 hr_7 => ?_)
      rcases bool_post hr_7 with ⟨c_8, rfl⟩ | ⟨c_8, rfl⟩
      · exact absurd c_8 (by omega)
      refine lv_if_eq (tgt := 43) hx hb dX12_bagOf_26 (by decide) (fun _ => ?_) (fun c9 => absurd c9 (by decide))
      refine lv_bipush (v := (-12)) hx hb dX12_bagOf_43 (by decide) ?_
      exact W.iret hx hb hr (fun t ht hW => ⟨_, rfl, (by first | decide | (unfold sp_bagOf; (repeat' split) <;> first | rfl | (exfalso; omega))), ht⟩) (fun _ h => by cases h) dX12_bagOf_45
    · refine va_aldq hx hb hE.1 hP 1 5 rfl rfl (by unfold vp_in; decide) dX12_bagOf_17 ?_
      refine W.eq (g2 := F0 m 18 ls [.ref h4, .int 0, .int x2]) (by rw [show (2 : Int32).toNatClampNeg = 2 from rfl, e1_2]; rfl) ?_
      refine va_get (D := D) (ci := 0) (v := .int 0) (C := RX1) (T := TX1) (N := 2) hx hb hts in_X12_bagOf_X1 hown hE.1 hP 4 rfl rfl 0 (by decide) (hts (.fieldLink RX12 307 "ClauseBook$Bag" "size" "I") (List.mem_of_getElem? (i := 2) rfl)) (fun _ h9 => h9) e4_0 dX12_bagOf_18 ?_
      refine lv_iconst (v := 1) hx hb dX12_bagOf_21 (by decide) ?_
      refine lv_isub hx hb dX12_bagOf_22 ?_
      refine lv_topi (fun z_9 ez_9 => ?_)
      obtain rfl : z_9 = (-1) := ez_9.trans (by decide)
      refine vp_callSi (W.runS (As := [.int x2, .int 0, .int (-1)]) (rest := []) ⟨hx, hb, hml, hown, hts⟩ (c_X12_within l D T x2 0 (-1) 0 (-1) (by decide) (by decide)) (va_cwS 3 hts gX12_bagOf_X12_within rfl rfl rfl (by decide +kernel) ⟨Nat.le_of_ble_eq_true rfl, Nat.le_of_ble_eq_true rfl⟩) (pR_S hP hE [] rfl) rfl rfl hl.1 rfl (lv_room (Nat.le_of_ble_eq_true rfl)) dX12_bagOf_23 ⟨Nat.le_of_ble_eq_true rfl, Nat.le_of_ble_eq_true rfl⟩) (fun r_10 hr_10 => ?_)
      rcases bool_post hr_10 with ⟨c_11, rfl⟩ | ⟨c_11, rfl⟩
      · exact absurd c_11 (by omega)
      refine lv_if_eq (tgt := 43) hx hb dX12_bagOf_26 (by decide) (fun _ => ?_) (fun c9 => absurd c9 (by decide))
      refine lv_bipush (v := (-12)) hx hb dX12_bagOf_43 (by decide) ?_
      exact W.iret hx hb hr (fun t ht hW => ⟨_, rfl, (by first | decide | (unfold sp_bagOf; (repeat' split) <;> first | rfl | (exfalso; omega))), ht⟩) (fun _ h => by cases h) dX12_bagOf_45
  · refine lv_if_ne (tgt := 10) hx hb dX12_bagOf_4 (by decide) (fun c9 => absurd c9 (by decide)) (fun _ => ?_)
    refine lv_bipush (v := (-2)) hx hb dX12_bagOf_7 (by decide) ?_
    exact W.iret hx hb hr (fun t ht hW => ⟨_, rfl, (by first | decide | (unfold sp_bagOf; (repeat' split) <;> first | rfl | (exfalso; omega))), ht⟩) (fun _ h => by cases h) dX12_bagOf_9
theorem dX12_sum_0 : decode cX12_sum 0 = .ok (.iload_n 1, 1) := by decide +kernel
theorem dX12_sum_1 : decode cX12_sum 1 = .ok (.invokestatic 300, 3) := by decide +kernel
theorem dX12_sum_10 : decode cX12_sum 10 = .ok (.aload_n 0, 1) := by decide +kernel
theorem dX12_sum_11 : decode cX12_sum 11 = .ok (.getfield 37, 3) := by decide +kernel
theorem dX12_sum_14 : decode cX12_sum 14 = .ok (.iload_n 1, 1) := by decide +kernel
theorem dX12_sum_15 : decode cX12_sum 15 = .ok (.aaload, 1) := by decide +kernel
theorem dX12_sum_16 : decode cX12_sum 16 = .ok (.astore_n 2, 1) := by decide +kernel
theorem dX12_sum_17 : decode cX12_sum 17 = .ok (.aload_n 2, 1) := by decide +kernel
theorem dX12_sum_18 : decode cX12_sum 18 = .ok (.getfield 307, 3) := by decide +kernel
theorem dX12_sum_21 : decode cX12_sum 21 = .ok (.ifCond .ne 5, 3) := by decide +kernel
theorem dX12_sum_24 : decode cX12_sum 24 = .ok (.iconst (-1), 1) := by decide +kernel
theorem dX12_sum_25 : decode cX12_sum 25 = .ok (.ireturn, 1) := by decide +kernel
theorem dX12_sum_4 : decode cX12_sum 4 = .ok (.ifCond .ne 6, 3) := by decide +kernel
theorem dX12_sum_7 : decode cX12_sum 7 = .ok (.bipush (-2), 2) := by decide +kernel
theorem dX12_sum_9 : decode cX12_sum 9 = .ok (.ireturn, 1) := by decide +kernel
set_option maxRecDepth 20000 in
theorem ggX12_sum_X12_isBag : GoodIn wsX12_sum wsX12_isBag := goodIn_r _ [11, 12, 13, 10, 14] (by decide +kernel) (by decide +kernel)
set_option maxRecDepth 20000 in
theorem gX12_sum_X12_isBag : GoodIn wsX12_sum (va_wsS RX12 300 yX12_isBag wsX12_isBag) := goodIn_app (goodIn_of _ (by decide +kernel)) ggX12_sum_X12_isBag
set_option maxRecDepth 20000 in
theorem in_X12_sum_X1 : ∀ w ∈ wsX10, w ∈ wsX12_sum := by decide +kernel
set_option maxRecDepth 20000 in
theorem in_X12_sum_X12 : ∀ w ∈ wsX120, w ∈ wsX12_sum := by decide +kernel
set_option maxHeartbeats 4000000 in
set_option maxRecDepth 100000 in
theorem f_X12_sum (l : Launch) (D : va_G) (T : Nat → ClassId) (h0 : Nat) (fs0 : List Value) (h1 : Nat) (f1 : Nat → Option Nat) (h2 : Nat) (fs2 : List Value) (h3 : Nat) (fs3 : List Value) (h4 : Nat) (fs4 : List Value) (x1 : Int32) (e0_5 : fs0[5]? = some (.ref h1)) (e1_0 : f1 0 = some h2) (e1_1 : f1 1 = some h3) (e1_2 : f1 2 = some h4) (e2_0 : fs2[0]? = some (.int 0)) (e3_0 : fs3[0]? = some (.int 0)) (e4_0 : fs4[0]? = some (.int 0)) : Met l yX12_sum wsX12_sum ({ frames := 2, cells := 0, slots := 0, locals := 42 }) (pR [.ref h0, .int x1] D T [(h0, .inr (9, fs0)), (h1, .inl (T 5, 3, .inr (.inr (.inr (.inr f1))))), (h2, .inr (0, fs2)), (h3, .inr (0, fs3)), (h4, .inr (0, fs4))]) (vp_Si (fun r => r = sp_take x1)) 0 0 (fun _ => False) := by
  refine Met.ofW (cc := cX12_sum) (maxL := 5) (ret := (some .int)) (by decide) rfl ?_
  intro p e s m args below meth c s₁ B hml hv
  obtain ⟨rfl, hP, hE⟩ := hv
  have hx := B.exec
  have hb := B.bytes
  have hr := B.returns
  have hts := atoms_spec (ws := wsX12_sum) B.pre
  have hown : s.vm.findClass RX12 = some m.cls := findClass_of_methodNamed B.named
  have hlocks := B.notSynchronized
  have hP : va_P D vwCl [(h0, .inr (9, fs0)), (h1, .inl (T 5, 3, .inr (.inr (.inr (.inr f1))))), (h2, .inr (0, fs2)), (h3, .inr (0, fs3)), (h4, .inr (0, fs4))] s.heap := hP
  have hl := lv_entry ([.ref h0, .int x1]) (n := 5) (Nat.le_of_ble_eq_true rfl)
  rw [lg_entry_eq]
  generalize (lg_sl ([.ref h0, .int x1]) ++ List.replicate (5 - (lg_sl ([.ref h0, .int x1])).length) Slot.unset).toArray = ls at hl ⊢
  have hl : lv_has ls 5 [(0, .ref h0), (1, .int x1)] := hl
  refine lv_iload_n hx hb dX12_sum_0 rfl (lv_at hl 1 rfl) ?_
  refine vp_callSi (W.runS (As := [.int x1]) (rest := []) ⟨hx, hb, hml, hown, hts⟩ (c_X12_isBag l D T x1) (va_cwS 1 hts gX12_sum_X12_isBag rfl rfl rfl (by decide +kernel) ⟨Nat.le_of_ble_eq_true rfl, Nat.le_of_ble_eq_true rfl⟩) (pR_S hP hE [] rfl) rfl rfl hl.1 rfl (lv_room (Nat.le_of_ble_eq_true rfl)) dX12_sum_1 ⟨Nat.le_of_ble_eq_true rfl, Nat.le_of_ble_eq_true rfl⟩) (fun r_1 hr_1 => ?_)
  rcases bool_post hr_1 with ⟨c_2, rfl⟩ | ⟨c_2, rfl⟩
  · refine lv_if_ne (tgt := 10) hx hb dX12_sum_4 (by decide) (fun _ => ?_) (fun c9 => absurd c9 (by decide))
    refine lv_aload_n hx hb dX12_sum_10 rfl (lv_at hl 0 rfl) ?_
    refine va_get (D := D) (ci := 9) (v := .ref h1) (C := RX12) (T := TX12) (N := 11) hx hb hts in_X12_sum_X12 hown hE.1 hP 0 rfl rfl 5 (by decide) (hts (.fieldLink RX12 37 "ClauseBook" "bags" "[LClauseBook$Bag;") (List.mem_of_getElem? (i := 1) rfl)) (fun _ h9 => h9) e0_5 dX12_sum_11 ?_
    refine lv_iload_n hx hb dX12_sum_14 rfl (lv_at hl 1 rfl) ?_
    rcases in3 (x := x1) (by omega) with rfl | rfl | rfl
    · refine va_aldq hx hb hE.1 hP 1 5 rfl rfl (by unfold vp_in; decide) dX12_sum_15 ?_
      refine W.eq (g2 := F0 m 16 ls [.ref h2]) (by rw [show (0 : Int32).toNatClampNeg = 0 from rfl, e1_0]; rfl) ?_
      refine lv_astore_n (lv' := [(2, .ref h2), (0, .ref h0), (1, .int 0)]) hx hb dX12_sum_16 rfl hl (by decide) rfl (fun ls hl => ?_)
      refine lv_aload_n hx hb dX12_sum_17 rfl (lv_at hl 0 rfl) ?_
      refine va_get (D := D) (ci := 0) (v := .int 0) (C := RX1) (T := TX1) (N := 2) hx hb hts in_X12_sum_X1 hown hE.1 hP 2 rfl rfl 0 (by decide) (hts (.fieldLink RX12 307 "ClauseBook$Bag" "size" "I") (List.mem_of_getElem? (i := 2) rfl)) (fun _ h9 => h9) e2_0 dX12_sum_18 ?_
      refine lv_if_ne (tgt := 26) hx hb dX12_sum_21 (by decide) (fun c9 => absurd c9 (by decide)) (fun _ => ?_)
      refine lv_iconst (v := (-1)) hx hb dX12_sum_24 (by decide) ?_
      exact W.iret hx hb hr (fun t ht hW => ⟨_, rfl, (by first | decide | (unfold sp_take; (repeat' split) <;> first | rfl | (exfalso; omega))), ht⟩) (fun _ h => by cases h) dX12_sum_25
    · refine va_aldq hx hb hE.1 hP 1 5 rfl rfl (by unfold vp_in; decide) dX12_sum_15 ?_
      refine W.eq (g2 := F0 m 16 ls [.ref h3]) (by rw [show (1 : Int32).toNatClampNeg = 1 from rfl, e1_1]; rfl) ?_
      refine lv_astore_n (lv' := [(2, .ref h3), (0, .ref h0), (1, .int 1)]) hx hb dX12_sum_16 rfl hl (by decide) rfl (fun ls hl => ?_)
      refine lv_aload_n hx hb dX12_sum_17 rfl (lv_at hl 0 rfl) ?_
      refine va_get (D := D) (ci := 0) (v := .int 0) (C := RX1) (T := TX1) (N := 2) hx hb hts in_X12_sum_X1 hown hE.1 hP 3 rfl rfl 0 (by decide) (hts (.fieldLink RX12 307 "ClauseBook$Bag" "size" "I") (List.mem_of_getElem? (i := 2) rfl)) (fun _ h9 => h9) e3_0 dX12_sum_18 ?_
      refine lv_if_ne (tgt := 26) hx hb dX12_sum_21 (by decide) (fun c9 => absurd c9 (by decide)) (fun _ => ?_)
      refine lv_iconst (v := (-1)) hx hb dX12_sum_24 (by decide) ?_
      exact W.iret hx hb hr (fun t ht hW => ⟨_, rfl, (by first | decide | (unfold sp_take; (repeat' split) <;> first | rfl | (exfalso; omega))), ht⟩) (fun _ h => by cases h) dX12_sum_25
    · refine va_aldq hx hb hE.1 hP 1 5 rfl rfl (by unfold vp_in; decide) dX12_sum_15 ?_
      refine W.eq (g2 := F0 m 16 ls [.ref h4]) (by rw [show (2 : Int32).toNatClampNeg = 2 from rfl, e1_2]; rfl) ?_
      refine lv_astore_n (lv' := [(2, .ref h4), (0, .ref h0), (1, .int 2)]) hx hb dX12_sum_16 rfl hl (by decide) rfl (fun ls hl => ?_)
      refine lv_aload_n hx hb dX12_sum_17 rfl (lv_at hl 0 rfl) ?_
      refine va_get (D := D) (ci := 0) (v := .int 0) (C := RX1) (T := TX1) (N := 2) hx hb hts in_X12_sum_X1 hown hE.1 hP 4 rfl rfl 0 (by decide) (hts (.fieldLink RX12 307 "ClauseBook$Bag" "size" "I") (List.mem_of_getElem? (i := 2) rfl)) (fun _ h9 => h9) e4_0 dX12_sum_18 ?_
      refine lv_if_ne (tgt := 26) hx hb dX12_sum_21 (by decide) (fun c9 => absurd c9 (by decide)) (fun _ => ?_)
      refine lv_iconst (v := (-1)) hx hb dX12_sum_24 (by decide) ?_
      exact W.iret hx hb hr (fun t ht hW => ⟨_, rfl, (by first | decide | (unfold sp_take; (repeat' split) <;> first | rfl | (exfalso; omega))), ht⟩) (fun _ h => by cases h) dX12_sum_25
  · refine lv_if_ne (tgt := 10) hx hb dX12_sum_4 (by decide) (fun c9 => absurd c9 (by decide)) (fun _ => ?_)
    refine lv_bipush (v := (-2)) hx hb dX12_sum_7 (by decide) ?_
    exact W.iret hx hb hr (fun t ht hW => ⟨_, rfl, (by first | decide | (unfold sp_take; (repeat' split) <;> first | rfl | (exfalso; omega))), ht⟩) (fun _ h => by cases h) dX12_sum_9
theorem dX12_bagBest_0 : decode cX12_bagBest 0 = .ok (.iload_n 1, 1) := by decide +kernel
theorem dX12_bagBest_1 : decode cX12_bagBest 1 = .ok (.invokestatic 300, 3) := by decide +kernel
theorem dX12_bagBest_12 : decode cX12_bagBest 12 = .ok (.ifCond .ne 6, 3) := by decide +kernel
theorem dX12_bagBest_132 : decode cX12_bagBest 132 = .ok (.iload 4, 2) := by decide +kernel
theorem dX12_bagBest_134 : decode cX12_bagBest 134 = .ok (.ireturn, 1) := by decide +kernel
theorem dX12_bagBest_15 : decode cX12_bagBest 15 = .ok (.bipush (-2), 2) := by decide +kernel
theorem dX12_bagBest_17 : decode cX12_bagBest 17 = .ok (.ireturn, 1) := by decide +kernel
theorem dX12_bagBest_18 : decode cX12_bagBest 18 = .ok (.iconst (-1), 1) := by decide +kernel
theorem dX12_bagBest_19 : decode cX12_bagBest 19 = .ok (.istore 4, 2) := by decide +kernel
theorem dX12_bagBest_21 : decode cX12_bagBest 21 = .ok (.iconst 0, 1) := by decide +kernel
theorem dX12_bagBest_22 : decode cX12_bagBest 22 = .ok (.istore 5, 2) := by decide +kernel
theorem dX12_bagBest_24 : decode cX12_bagBest 24 = .ok (.iconst 0, 1) := by decide +kernel
theorem dX12_bagBest_25 : decode cX12_bagBest 25 = .ok (.istore 6, 2) := by decide +kernel
theorem dX12_bagBest_27 : decode cX12_bagBest 27 = .ok (.iload 6, 2) := by decide +kernel
theorem dX12_bagBest_29 : decode cX12_bagBest 29 = .ok (.aload_n 0, 1) := by decide +kernel
theorem dX12_bagBest_30 : decode cX12_bagBest 30 = .ok (.getfield 37, 3) := by decide +kernel
theorem dX12_bagBest_33 : decode cX12_bagBest 33 = .ok (.iload_n 1, 1) := by decide +kernel
theorem dX12_bagBest_34 : decode cX12_bagBest 34 = .ok (.aaload, 1) := by decide +kernel
theorem dX12_bagBest_35 : decode cX12_bagBest 35 = .ok (.getfield 307, 3) := by decide +kernel
theorem dX12_bagBest_38 : decode cX12_bagBest 38 = .ok (.if_icmp .ge 94, 3) := by decide +kernel
theorem dX12_bagBest_4 : decode cX12_bagBest 4 = .ok (.ifCond .eq 11, 3) := by decide +kernel
theorem dX12_bagBest_7 : decode cX12_bagBest 7 = .ok (.iload_n 2, 1) := by decide +kernel
theorem dX12_bagBest_8 : decode cX12_bagBest 8 = .ok (.iload_n 3, 1) := by decide +kernel
theorem dX12_bagBest_9 : decode cX12_bagBest 9 = .ok (.invokestatic 108, 3) := by decide +kernel
set_option maxRecDepth 20000 in
theorem ggX12_bagBest_X12_isBag : GoodIn wsX12_bagBest wsX12_isBag := goodIn_r _ [9, 10, 11, 8, 12] (by decide +kernel) (by decide +kernel)
set_option maxRecDepth 20000 in
theorem ggX12_bagBest_X12_isSpot : GoodIn wsX12_bagBest wsX12_isSpot := goodIn_r _ [15, 16, 17, 8, 18, 10, 11, 12] (by decide +kernel) (by decide +kernel)
set_option maxRecDepth 20000 in
theorem gX12_bagBest_X12_isBag : GoodIn wsX12_bagBest (va_wsS RX12 300 yX12_isBag wsX12_isBag) := goodIn_app (goodIn_of _ (by decide +kernel)) ggX12_bagBest_X12_isBag
set_option maxRecDepth 20000 in
theorem gX12_bagBest_X12_isSpot : GoodIn wsX12_bagBest (va_wsS RX12 108 yX12_isSpot wsX12_isSpot) := goodIn_app (goodIn_of _ (by decide +kernel)) ggX12_bagBest_X12_isSpot
set_option maxRecDepth 20000 in
theorem in_X12_bagBest_X1 : ∀ w ∈ wsX10, w ∈ wsX12_bagBest := by decide +kernel
set_option maxRecDepth 20000 in
theorem in_X12_bagBest_X12 : ∀ w ∈ wsX120, w ∈ wsX12_bagBest := by decide +kernel
set_option maxHeartbeats 4000000 in
set_option maxRecDepth 100000 in
theorem f_X12_bagBest (l : Launch) (D : va_G) (T : Nat → ClassId) (h0 : Nat) (fs0 : List Value) (h1 : Nat) (f1 : Nat → Option Nat) (h2 : Nat) (fs2 : List Value) (h3 : Nat) (fs3 : List Value) (h4 : Nat) (fs4 : List Value) (x1 : Int32) (x2 : Int32) (x3 : Int32) (e0_5 : fs0[5]? = some (.ref h1)) (e1_0 : f1 0 = some h2) (e1_1 : f1 1 = some h3) (e1_2 : f1 2 = some h4) (e2_0 : fs2[0]? = some (.int 0)) (e3_0 : fs3[0]? = some (.int 0)) (e4_0 : fs4[0]? = some (.int 0)) : Met l yX12_bagBest wsX12_bagBest ({ frames := 3, cells := 0, slots := 0, locals := 63 }) (pR [.ref h0, .int x1, .int x2, .int x3] D T [(h0, .inr (9, fs0)), (h1, .inl (T 5, 3, .inr (.inr (.inr (.inr f1))))), (h2, .inr (0, fs2)), (h3, .inr (0, fs3)), (h4, .inr (0, fs4))]) (vp_Si (fun r => r = sp_bagBest x1 x2 x3)) 0 0 (fun _ => False) := by
  refine Met.ofW (cc := cX12_bagBest) (maxL := 9) (ret := (some .int)) (by decide) rfl ?_
  intro p e s m args below meth c s₁ B hml hv
  obtain ⟨rfl, hP, hE⟩ := hv
  have hx := B.exec
  have hb := B.bytes
  have hr := B.returns
  have hts := atoms_spec (ws := wsX12_bagBest) B.pre
  have hown : s.vm.findClass RX12 = some m.cls := findClass_of_methodNamed B.named
  have hlocks := B.notSynchronized
  have hP : va_P D vwCl [(h0, .inr (9, fs0)), (h1, .inl (T 5, 3, .inr (.inr (.inr (.inr f1))))), (h2, .inr (0, fs2)), (h3, .inr (0, fs3)), (h4, .inr (0, fs4))] s.heap := hP
  have hl := lv_entry ([.ref h0, .int x1, .int x2, .int x3]) (n := 9) (Nat.le_of_ble_eq_true rfl)
  rw [lg_entry_eq]
  generalize (lg_sl ([.ref h0, .int x1, .int x2, .int x3]) ++ List.replicate (9 - (lg_sl ([.ref h0, .int x1, .int x2, .int x3])).length) Slot.unset).toArray = ls at hl ⊢
  have hl : lv_has ls 9 [(0, .ref h0), (1, .int x1), (2, .int x2), (3, .int x3)] := hl
  refine lv_iload_n hx hb dX12_bagBest_0 rfl (lv_at hl 1 rfl) ?_
  refine vp_callSi (W.runS (As := [.int x1]) (rest := []) ⟨hx, hb, hml, hown, hts⟩ (c_X12_isBag l D T x1) (va_cwS 1 hts gX12_bagBest_X12_isBag rfl rfl rfl (by decide +kernel) ⟨Nat.le_of_ble_eq_true rfl, Nat.le_of_ble_eq_true rfl⟩) (pR_S hP hE [] rfl) rfl rfl hl.1 rfl (lv_room (Nat.le_of_ble_eq_true rfl)) dX12_bagBest_1 ⟨Nat.le_of_ble_eq_true rfl, Nat.le_of_ble_eq_true rfl⟩) (fun r_1 hr_1 => ?_)
  rcases bool_post hr_1 with ⟨c_2, rfl⟩ | ⟨c_2, rfl⟩
  · refine lv_if_eq (tgt := 15) hx hb dX12_bagBest_4 (by decide) (fun c9 => absurd c9 (by decide)) (fun _ => ?_)
    refine lv_iload_n hx hb dX12_bagBest_7 rfl (lv_at hl 2 rfl) ?_
    refine lv_iload_n hx hb dX12_bagBest_8 rfl (lv_at hl 3 rfl) ?_
    refine vp_callSi (W.runS (As := [.int x2, .int x3]) (rest := []) ⟨hx, hb, hml, hown, hts⟩ (c_X12_isSpot l D T x2 x3) (va_cwS 2 hts gX12_bagBest_X12_isSpot rfl rfl rfl (by decide +kernel) ⟨Nat.le_of_ble_eq_true rfl, Nat.le_of_ble_eq_true rfl⟩) (pR_S hP hE [] rfl) rfl rfl hl.1 rfl (lv_room (Nat.le_of_ble_eq_true rfl)) dX12_bagBest_9 ⟨Nat.le_of_ble_eq_true rfl, Nat.le_of_ble_eq_true rfl⟩) (fun r_3 hr_3 => ?_)
    rcases bool_post hr_3 with ⟨c_4, rfl⟩ | ⟨c_4, rfl⟩
    · refine lv_if_ne (tgt := 18) hx hb dX12_bagBest_12 (by decide) (fun _ => ?_) (fun c9 => absurd c9 (by decide))
      refine lv_iconst (v := (-1)) hx hb dX12_bagBest_18 (by decide) ?_
      refine lv_istore (lv' := [(4, .int (-1)), (0, .ref h0), (1, .int x1), (2, .int x2), (3, .int x3)]) hx hb dX12_bagBest_19 hl (by decide) rfl (fun ls hl => ?_)
      refine lv_iconst (v := 0) hx hb dX12_bagBest_21 (by decide) ?_
      refine lv_istore (lv' := [(5, .int 0), (4, .int (-1)), (0, .ref h0), (1, .int x1), (2, .int x2), (3, .int x3)]) hx hb dX12_bagBest_22 hl (by decide) rfl (fun ls hl => ?_)
      refine lv_iconst (v := 0) hx hb dX12_bagBest_24 (by decide) ?_
      refine lv_istore (lv' := [(6, .int 0), (5, .int 0), (4, .int (-1)), (0, .ref h0), (1, .int x1), (2, .int x2), (3, .int x3)]) hx hb dX12_bagBest_25 hl (by decide) rfl (fun ls hl => ?_)
      refine lv_iload hx hb dX12_bagBest_27 (lv_at hl 0 rfl) ?_
      refine lv_aload_n hx hb dX12_bagBest_29 rfl (lv_at hl 3 rfl) ?_
      refine va_get (D := D) (ci := 9) (v := .ref h1) (C := RX12) (T := TX12) (N := 11) hx hb hts in_X12_bagBest_X12 hown hE.1 hP 0 rfl rfl 5 (by decide) (hts (.fieldLink RX12 37 "ClauseBook" "bags" "[LClauseBook$Bag;") (List.mem_of_getElem? (i := 1) rfl)) (fun _ h9 => h9) e0_5 dX12_bagBest_30 ?_
      refine lv_iload_n hx hb dX12_bagBest_33 rfl (lv_at hl 4 rfl) ?_
      rcases in3 (x := x1) (by omega) with rfl | rfl | rfl
      · refine va_aldq hx hb hE.1 hP 1 5 rfl rfl (by unfold vp_in; decide) dX12_bagBest_34 ?_
        refine W.eq (g2 := F0 m 35 ls [.ref h2, .int 0]) (by rw [show (0 : Int32).toNatClampNeg = 0 from rfl, e1_0]; rfl) ?_
        refine va_get (D := D) (ci := 0) (v := .int 0) (C := RX1) (T := TX1) (N := 2) hx hb hts in_X12_bagBest_X1 hown hE.1 hP 2 rfl rfl 0 (by decide) (hts (.fieldLink RX12 307 "ClauseBook$Bag" "size" "I") (List.mem_of_getElem? (i := 2) rfl)) (fun _ h9 => h9) e2_0 dX12_bagBest_35 ?_
        refine lv_icmp_ge (tgt := 132) hx hb dX12_bagBest_38 (by decide) (fun _ => ?_) (fun c9 => absurd c9 (by decide))
        refine lv_iload hx hb dX12_bagBest_132 (lv_at hl 2 rfl) ?_
        exact W.iret hx hb hr (fun t ht hW => ⟨_, rfl, (by first | decide | (unfold sp_bagBest; (repeat' split) <;> first | rfl | (exfalso; omega))), ht⟩) (fun _ h => by cases h) dX12_bagBest_134
      · refine va_aldq hx hb hE.1 hP 1 5 rfl rfl (by unfold vp_in; decide) dX12_bagBest_34 ?_
        refine W.eq (g2 := F0 m 35 ls [.ref h3, .int 0]) (by rw [show (1 : Int32).toNatClampNeg = 1 from rfl, e1_1]; rfl) ?_
        refine va_get (D := D) (ci := 0) (v := .int 0) (C := RX1) (T := TX1) (N := 2) hx hb hts in_X12_bagBest_X1 hown hE.1 hP 3 rfl rfl 0 (by decide) (hts (.fieldLink RX12 307 "ClauseBook$Bag" "size" "I") (List.mem_of_getElem? (i := 2) rfl)) (fun _ h9 => h9) e3_0 dX12_bagBest_35 ?_
        refine lv_icmp_ge (tgt := 132) hx hb dX12_bagBest_38 (by decide) (fun _ => ?_) (fun c9 => absurd c9 (by decide))
        refine lv_iload hx hb dX12_bagBest_132 (lv_at hl 2 rfl) ?_
        exact W.iret hx hb hr (fun t ht hW => ⟨_, rfl, (by first | decide | (unfold sp_bagBest; (repeat' split) <;> first | rfl | (exfalso; omega))), ht⟩) (fun _ h => by cases h) dX12_bagBest_134
      · refine va_aldq hx hb hE.1 hP 1 5 rfl rfl (by unfold vp_in; decide) dX12_bagBest_34 ?_
        refine W.eq (g2 := F0 m 35 ls [.ref h4, .int 0]) (by rw [show (2 : Int32).toNatClampNeg = 2 from rfl, e1_2]; rfl) ?_
        refine va_get (D := D) (ci := 0) (v := .int 0) (C := RX1) (T := TX1) (N := 2) hx hb hts in_X12_bagBest_X1 hown hE.1 hP 4 rfl rfl 0 (by decide) (hts (.fieldLink RX12 307 "ClauseBook$Bag" "size" "I") (List.mem_of_getElem? (i := 2) rfl)) (fun _ h9 => h9) e4_0 dX12_bagBest_35 ?_
        refine lv_icmp_ge (tgt := 132) hx hb dX12_bagBest_38 (by decide) (fun _ => ?_) (fun c9 => absurd c9 (by decide))
        refine lv_iload hx hb dX12_bagBest_132 (lv_at hl 2 rfl) ?_
        exact W.iret hx hb hr (fun t ht hW => ⟨_, rfl, (by first | decide | (unfold sp_bagBest; (repeat' split) <;> first | rfl | (exfalso; omega))), ht⟩) (fun _ h => by cases h) dX12_bagBest_134
    · refine lv_if_ne (tgt := 18) hx hb dX12_bagBest_12 (by decide) (fun c9 => absurd c9 (by decide)) (fun _ => ?_)
      refine lv_bipush (v := (-2)) hx hb dX12_bagBest_15 (by decide) ?_
      exact W.iret hx hb hr (fun t ht hW => ⟨_, rfl, (by first | decide | (unfold sp_bagBest; (repeat' split) <;> first | rfl | (exfalso; omega))), ht⟩) (fun _ h => by cases h) dX12_bagBest_17
  · refine lv_if_eq (tgt := 15) hx hb dX12_bagBest_4 (by decide) (fun _ => ?_) (fun c9 => absurd c9 (by decide))
    refine lv_bipush (v := (-2)) hx hb dX12_bagBest_15 (by decide) ?_
    exact W.iret hx hb hr (fun t ht hW => ⟨_, rfl, (by first | decide | (unfold sp_bagBest; (repeat' split) <;> first | rfl | (exfalso; omega))), ht⟩) (fun _ h => by cases h) dX12_bagBest_17
theorem dX12_placeFault_0 : decode cX12_placeFault 0 = .ok (.iload_n 1, 1) := by decide +kernel
theorem dX12_placeFault_1 : decode cX12_placeFault 1 = .ok (.iconst 0, 1) := by decide +kernel
theorem dX12_placeFault_11 : decode cX12_placeFault 11 = .ok (.ireturn, 1) := by decide +kernel
theorem dX12_placeFault_12 : decode cX12_placeFault 12 = .ok (.aload_n 0, 1) := by decide +kernel
theorem dX12_placeFault_13 : decode cX12_placeFault 13 = .ok (.getfield 65, 3) := by decide +kernel
theorem dX12_placeFault_16 : decode cX12_placeFault 16 = .ok (.iload_n 1, 1) := by decide +kernel
theorem dX12_placeFault_17 : decode cX12_placeFault 17 = .ok (.aaload, 1) := by decide +kernel
theorem dX12_placeFault_18 : decode cX12_placeFault 18 = .ok (.getfield 277, 3) := by decide +kernel
theorem dX12_placeFault_2 : decode cX12_placeFault 2 = .ok (.iconst 3, 1) := by decide +kernel
theorem dX12_placeFault_21 : decode cX12_placeFault 21 = .ok (.iconst (-1), 1) := by decide +kernel
theorem dX12_placeFault_22 : decode cX12_placeFault 22 = .ok (.if_icmp .ne 6, 3) := by decide +kernel
theorem dX12_placeFault_25 : decode cX12_placeFault 25 = .ok (.bipush (-11), 2) := by decide +kernel
theorem dX12_placeFault_27 : decode cX12_placeFault 27 = .ok (.ireturn, 1) := by decide +kernel
theorem dX12_placeFault_3 : decode cX12_placeFault 3 = .ok (.invokestatic 77, 3) := by decide +kernel
theorem dX12_placeFault_6 : decode cX12_placeFault 6 = .ok (.ifCond .ne 6, 3) := by decide +kernel
theorem dX12_placeFault_9 : decode cX12_placeFault 9 = .ok (.bipush (-2), 2) := by decide +kernel
set_option maxRecDepth 20000 in
theorem ggX12_placeFault_X12_within : GoodIn wsX12_placeFault wsX12_within := goodIn_r _ [7] (by decide +kernel) (by decide +kernel)
set_option maxRecDepth 20000 in
theorem gX12_placeFault_X12_within : GoodIn wsX12_placeFault (va_wsS RX12 77 yX12_within wsX12_within) := goodIn_app (goodIn_of _ (by decide +kernel)) ggX12_placeFault_X12_within
set_option maxRecDepth 20000 in
theorem in_X12_placeFault_X12 : ∀ w ∈ wsX120, w ∈ wsX12_placeFault := by decide +kernel
set_option maxRecDepth 20000 in
theorem in_X12_placeFault_X9 : ∀ w ∈ wsX90, w ∈ wsX12_placeFault := by decide +kernel
set_option maxHeartbeats 4000000 in
set_option maxRecDepth 100000 in
theorem f_X12_placeFault (l : Launch) (D : va_G) (T : Nat → ClassId) (h0 : Nat) (fs0 : List Value) (h1 : Nat) (f1 : Nat → Option Nat) (h2 : Nat) (fs2 : List Value) (h3 : Nat) (fs3 : List Value) (h4 : Nat) (fs4 : List Value) (h5 : Nat) (fs5 : List Value) (x1 : Int32) (x2 : Int32) (e0_9 : fs0[9]? = some (.ref h1)) (e1_0 : f1 0 = some h2) (e1_1 : f1 1 = some h3) (e1_2 : f1 2 = some h4) (e1_3 : f1 3 = some h5) (e2_0 : fs2[0]? = some (.int (-1))) (e3_0 : fs3[0]? = some (.int (-1))) (e4_0 : fs4[0]? = some (.int (-1))) (e5_0 : fs5[0]? = some (.int (-1))) : Met l yX12_placeFault wsX12_placeFault ({ frames := 1, cells := 0, slots := 0, locals := 22 }) (pR [.ref h0, .int x1, .int x2] D T [(h0, .inr (9, fs0)), (h1, .inl (T 6, 4, .inr (.inr (.inr (.inr f1))))), (h2, .inr (6, fs2)), (h3, .inr (6, fs3)), (h4, .inr (6, fs4)), (h5, .inr (6, fs5))]) (vp_Si (fun r => r = sp_cell x1)) 0 0 (fun _ => False) := by
  refine Met.ofW (cc := cX12_placeFault) (maxL := 3) (ret := (some .int)) (by decide) rfl ?_
  intro p e s m args below meth c s₁ B hml hv
  obtain ⟨rfl, hP, hE⟩ := hv
  have hx := B.exec
  have hb := B.bytes
  have hr := B.returns
  have hts := atoms_spec (ws := wsX12_placeFault) B.pre
  have hown : s.vm.findClass RX12 = some m.cls := findClass_of_methodNamed B.named
  have hlocks := B.notSynchronized
  have hP : va_P D vwCl [(h0, .inr (9, fs0)), (h1, .inl (T 6, 4, .inr (.inr (.inr (.inr f1))))), (h2, .inr (6, fs2)), (h3, .inr (6, fs3)), (h4, .inr (6, fs4)), (h5, .inr (6, fs5))] s.heap := hP
  have hl := lv_entry ([.ref h0, .int x1, .int x2]) (n := 3) (Nat.le_of_ble_eq_true rfl)
  rw [lg_entry_eq]
  generalize (lg_sl ([.ref h0, .int x1, .int x2]) ++ List.replicate (3 - (lg_sl ([.ref h0, .int x1, .int x2])).length) Slot.unset).toArray = ls at hl ⊢
  have hl : lv_has ls 3 [(0, .ref h0), (1, .int x1), (2, .int x2)] := hl
  refine lv_iload_n hx hb dX12_placeFault_0 rfl (lv_at hl 1 rfl) ?_
  refine lv_iconst (v := 0) hx hb dX12_placeFault_1 (by decide) ?_
  refine lv_iconst (v := 3) hx hb dX12_placeFault_2 (by decide) ?_
  refine vp_callSi (W.runS (As := [.int x1, .int 0, .int 3]) (rest := []) ⟨hx, hb, hml, hown, hts⟩ (c_X12_within l D T x1 0 3 0 3 (by decide) (by decide)) (va_cwS 3 hts gX12_placeFault_X12_within rfl rfl rfl (by decide +kernel) ⟨Nat.le_of_ble_eq_true rfl, Nat.le_of_ble_eq_true rfl⟩) (pR_S hP hE [] rfl) rfl rfl hl.1 rfl (lv_room (Nat.le_of_ble_eq_true rfl)) dX12_placeFault_3 ⟨Nat.le_of_ble_eq_true rfl, Nat.le_of_ble_eq_true rfl⟩) (fun r_1 hr_1 => ?_)
  rcases bool_post hr_1 with ⟨c_2, rfl⟩ | ⟨c_2, rfl⟩
  · refine lv_if_ne (tgt := 12) hx hb dX12_placeFault_6 (by decide) (fun _ => ?_) (fun c9 => absurd c9 (by decide))
    refine lv_aload_n hx hb dX12_placeFault_12 rfl (lv_at hl 0 rfl) ?_
    refine va_get (D := D) (ci := 9) (v := .ref h1) (C := RX12) (T := TX12) (N := 11) hx hb hts in_X12_placeFault_X12 hown hE.1 hP 0 rfl rfl 9 (by decide) (hts (.fieldLink RX12 65 "ClauseBook" "sheets" "[LClauseBook$Sheet;") (List.mem_of_getElem? (i := 1) rfl)) (fun _ h9 => h9) e0_9 dX12_placeFault_13 ?_
    refine lv_iload_n hx hb dX12_placeFault_16 rfl (lv_at hl 1 rfl) ?_
    rcases in4 (x := x1) (by omega) with rfl | rfl | rfl | rfl
    · refine va_aldq hx hb hE.1 hP 1 6 rfl rfl (by unfold vp_in; decide) dX12_placeFault_17 ?_
      refine W.eq (g2 := F0 m 18 ls [.ref h2]) (by rw [show (0 : Int32).toNatClampNeg = 0 from rfl, e1_0]; rfl) ?_
      refine va_get (D := D) (ci := 6) (v := .int (-1)) (C := RX9) (T := TX9) (N := 6) hx hb hts in_X12_placeFault_X9 hown hE.1 hP 2 rfl rfl 0 (by decide) (hts (.fieldLink RX12 277 "ClauseBook$Sheet" "sort" "I") (List.mem_of_getElem? (i := 2) rfl)) (fun _ h9 => h9) e2_0 dX12_placeFault_18 ?_
      refine lv_iconst (v := (-1)) hx hb dX12_placeFault_21 (by decide) ?_
      refine lv_icmp_ne (tgt := 28) hx hb dX12_placeFault_22 (by decide) (fun c9 => absurd c9 (by decide)) (fun _ => ?_)
      refine lv_bipush (v := (-11)) hx hb dX12_placeFault_25 (by decide) ?_
      exact W.iret hx hb hr (fun t ht hW => ⟨_, rfl, (by first | decide | (unfold sp_cell; (repeat' split) <;> first | rfl | (exfalso; omega))), ht⟩) (fun _ h => by cases h) dX12_placeFault_27
    · refine va_aldq hx hb hE.1 hP 1 6 rfl rfl (by unfold vp_in; decide) dX12_placeFault_17 ?_
      refine W.eq (g2 := F0 m 18 ls [.ref h3]) (by rw [show (1 : Int32).toNatClampNeg = 1 from rfl, e1_1]; rfl) ?_
      refine va_get (D := D) (ci := 6) (v := .int (-1)) (C := RX9) (T := TX9) (N := 6) hx hb hts in_X12_placeFault_X9 hown hE.1 hP 3 rfl rfl 0 (by decide) (hts (.fieldLink RX12 277 "ClauseBook$Sheet" "sort" "I") (List.mem_of_getElem? (i := 2) rfl)) (fun _ h9 => h9) e3_0 dX12_placeFault_18 ?_
      refine lv_iconst (v := (-1)) hx hb dX12_placeFault_21 (by decide) ?_
      refine lv_icmp_ne (tgt := 28) hx hb dX12_placeFault_22 (by decide) (fun c9 => absurd c9 (by decide)) (fun _ => ?_)
      refine lv_bipush (v := (-11)) hx hb dX12_placeFault_25 (by decide) ?_
      exact W.iret hx hb hr (fun t ht hW => ⟨_, rfl, (by first | decide | (unfold sp_cell; (repeat' split) <;> first | rfl | (exfalso; omega))), ht⟩) (fun _ h => by cases h) dX12_placeFault_27
    · refine va_aldq hx hb hE.1 hP 1 6 rfl rfl (by unfold vp_in; decide) dX12_placeFault_17 ?_
      refine W.eq (g2 := F0 m 18 ls [.ref h4]) (by rw [show (2 : Int32).toNatClampNeg = 2 from rfl, e1_2]; rfl) ?_
      refine va_get (D := D) (ci := 6) (v := .int (-1)) (C := RX9) (T := TX9) (N := 6) hx hb hts in_X12_placeFault_X9 hown hE.1 hP 4 rfl rfl 0 (by decide) (hts (.fieldLink RX12 277 "ClauseBook$Sheet" "sort" "I") (List.mem_of_getElem? (i := 2) rfl)) (fun _ h9 => h9) e4_0 dX12_placeFault_18 ?_
      refine lv_iconst (v := (-1)) hx hb dX12_placeFault_21 (by decide) ?_
      refine lv_icmp_ne (tgt := 28) hx hb dX12_placeFault_22 (by decide) (fun c9 => absurd c9 (by decide)) (fun _ => ?_)
      refine lv_bipush (v := (-11)) hx hb dX12_placeFault_25 (by decide) ?_
      exact W.iret hx hb hr (fun t ht hW => ⟨_, rfl, (by first | decide | (unfold sp_cell; (repeat' split) <;> first | rfl | (exfalso; omega))), ht⟩) (fun _ h => by cases h) dX12_placeFault_27
    · refine va_aldq hx hb hE.1 hP 1 6 rfl rfl (by unfold vp_in; decide) dX12_placeFault_17 ?_
      refine W.eq (g2 := F0 m 18 ls [.ref h5]) (by rw [show (3 : Int32).toNatClampNeg = 3 from rfl, e1_3]; rfl) ?_
      refine va_get (D := D) (ci := 6) (v := .int (-1)) (C := RX9) (T := TX9) (N := 6) hx hb hts in_X12_placeFault_X9 hown hE.1 hP 5 rfl rfl 0 (by decide) (hts (.fieldLink RX12 277 "ClauseBook$Sheet" "sort" "I") (List.mem_of_getElem? (i := 2) rfl)) (fun _ h9 => h9) e5_0 dX12_placeFault_18 ?_
      refine lv_iconst (v := (-1)) hx hb dX12_placeFault_21 (by decide) ?_
      refine lv_icmp_ne (tgt := 28) hx hb dX12_placeFault_22 (by decide) (fun c9 => absurd c9 (by decide)) (fun _ => ?_)
      refine lv_bipush (v := (-11)) hx hb dX12_placeFault_25 (by decide) ?_
      exact W.iret hx hb hr (fun t ht hW => ⟨_, rfl, (by first | decide | (unfold sp_cell; (repeat' split) <;> first | rfl | (exfalso; omega))), ht⟩) (fun _ h => by cases h) dX12_placeFault_27
  · refine lv_if_ne (tgt := 12) hx hb dX12_placeFault_6 (by decide) (fun c9 => absurd c9 (by decide)) (fun _ => ?_)
    refine lv_bipush (v := (-2)) hx hb dX12_placeFault_9 (by decide) ?_
    exact W.iret hx hb hr (fun t ht hW => ⟨_, rfl, (by first | decide | (unfold sp_cell; (repeat' split) <;> first | rfl | (exfalso; omega))), ht⟩) (fun _ h => by cases h) dX12_placeFault_11
theorem dX12_cell_0 : decode cX12_cell 0 = .ok (.aload_n 0, 1) := by decide +kernel
theorem dX12_cell_1 : decode cX12_cell 1 = .ok (.iload_n 1, 1) := by decide +kernel
theorem dX12_cell_10 : decode cX12_cell 10 = .ok (.ifCond .eq 6, 3) := by decide +kernel
theorem dX12_cell_13 : decode cX12_cell 13 = .ok (.iload 5, 2) := by decide +kernel
theorem dX12_cell_15 : decode cX12_cell 15 = .ok (.ireturn, 1) := by decide +kernel
theorem dX12_cell_2 : decode cX12_cell 2 = .ok (.iload_n 2, 1) := by decide +kernel
theorem dX12_cell_3 : decode cX12_cell 3 = .ok (.invokevirtual 321, 3) := by decide +kernel
theorem dX12_cell_6 : decode cX12_cell 6 = .ok (.istore 5, 2) := by decide +kernel
theorem dX12_cell_8 : decode cX12_cell 8 = .ok (.iload 5, 2) := by decide +kernel
set_option maxRecDepth 20000 in
theorem ggX12_cell_X12_placeFault : GoodIn wsX12_cell wsX12_placeFault := goodIn_r _ [6, 1, 7, 8, 9, 10, 5, 11, 22, 23, 24, 25, 26, 27, 28, 29, 30, 31, 32, 33, 34, 35, 36, 37, 38] (by decide +kernel) (by decide +kernel)
set_option maxRecDepth 20000 in
theorem gX12_cell_X12_placeFault : GoodIn wsX12_cell (wsV RX12 321 RX12 yX12_placeFault wsX12_placeFault) := goodIn_app (goodIn_of _ (by decide +kernel)) ggX12_cell_X12_placeFault
set_option maxHeartbeats 4000000 in
set_option maxRecDepth 100000 in
theorem f_X12_cell (l : Launch) (D : va_G) (T : Nat → ClassId) (h0 : Nat) (fs0 : List Value) (h1 : Nat) (f1 : Nat → Option Nat) (h2 : Nat) (fs2 : List Value) (h3 : Nat) (fs3 : List Value) (h4 : Nat) (fs4 : List Value) (h5 : Nat) (fs5 : List Value) (x1 : Int32) (x2 : Int32) (x3 : Int64) (e0_9 : fs0[9]? = some (.ref h1)) (e1_0 : f1 0 = some h2) (e1_1 : f1 1 = some h3) (e1_2 : f1 2 = some h4) (e1_3 : f1 3 = some h5) (e2_0 : fs2[0]? = some (.int (-1))) (e3_0 : fs3[0]? = some (.int (-1))) (e4_0 : fs4[0]? = some (.int (-1))) (e5_0 : fs5[0]? = some (.int (-1))) : Met l yX12_cell wsX12_cell ({ frames := 2, cells := 0, slots := 0, locals := 44 }) (pR [.ref h0, .int x1, .int x2, .long x3] D T [(h0, .inr (9, fs0)), (h1, .inl (T 6, 4, .inr (.inr (.inr (.inr f1))))), (h2, .inr (6, fs2)), (h3, .inr (6, fs3)), (h4, .inr (6, fs4)), (h5, .inr (6, fs5))]) (vp_Si (fun r => r = sp_cell x1)) 0 0 (fun _ => False) := by
  refine Met.ofW (cc := cX12_cell) (maxL := 6) (ret := (some .int)) (by decide) rfl ?_
  intro p e s m args below meth c s₁ B hml hv
  obtain ⟨rfl, hP, hE⟩ := hv
  have hx := B.exec
  have hb := B.bytes
  have hr := B.returns
  have hts := atoms_spec (ws := wsX12_cell) B.pre
  have hown : s.vm.findClass RX12 = some m.cls := findClass_of_methodNamed B.named
  have hlocks := B.notSynchronized
  have hP : va_P D vwCl [(h0, .inr (9, fs0)), (h1, .inl (T 6, 4, .inr (.inr (.inr (.inr f1))))), (h2, .inr (6, fs2)), (h3, .inr (6, fs3)), (h4, .inr (6, fs4)), (h5, .inr (6, fs5))] s.heap := hP
  have hl := lv_entry ([.ref h0, .int x1, .int x2, .long x3]) (n := 6) (Nat.le_of_ble_eq_true rfl)
  rw [lg_entry_eq]
  generalize (lg_sl ([.ref h0, .int x1, .int x2, .long x3]) ++ List.replicate (6 - (lg_sl ([.ref h0, .int x1, .int x2, .long x3])).length) Slot.unset).toArray = ls at hl ⊢
  have hl : lv_has ls 6 [(0, .ref h0), (1, .int x1), (2, .int x2), (3, .long x3)] := hl
  refine lv_aload_n hx hb dX12_cell_0 rfl (lv_at hl 0 rfl) ?_
  refine lv_iload_n hx hb dX12_cell_1 rfl (lv_at hl 1 rfl) ?_
  refine lv_iload_n hx hb dX12_cell_2 rfl (lv_at hl 2 rfl) ?_
  refine vp_callSi (W.runV (As := [.int x1, .int x2]) (rest := []) ⟨hx, hb, hml, hown, hts⟩ (f_X12_placeFault l D T h0 fs0 h1 f1 h2 fs2 h3 fs3 h4 fs4 h5 fs5 x1 x2 e0_9 e1_0 e1_1 e1_2 e1_3 e2_0 e3_0 e4_0 e5_0) (cwV 2 hts gX12_cell_X12_placeFault rfl rfl rfl (by decide +kernel) ⟨Nat.le_of_ble_eq_true rfl, Nat.le_of_ble_eq_true rfl⟩) (pR_V (ci := 9) (q0 := 0) hP hE rfl rfl [0, 1, 2, 3, 4, 5] rfl) rfl rfl hl.1 rfl (lv_room (Nat.le_of_ble_eq_true rfl)) dX12_cell_3 ⟨Nat.le_of_ble_eq_true rfl, Nat.le_of_ble_eq_true rfl⟩) (fun r_1 hr_1 => ?_)
  rcases pf_post hr_1 with ⟨c_2, rfl⟩ | ⟨c_2, rfl⟩
  · refine lv_istore (lv' := [(5, .int (-11)), (0, .ref h0), (1, .int x1), (2, .int x2), (3, .long x3)]) hx hb dX12_cell_6 hl (by decide) rfl (fun ls hl => ?_)
    refine lv_iload hx hb dX12_cell_8 (lv_at hl 0 rfl) ?_
    refine lv_if_eq (tgt := 16) hx hb dX12_cell_10 (by decide) (fun c9 => absurd c9 (by decide)) (fun _ => ?_)
    refine lv_iload hx hb dX12_cell_13 (lv_at hl 0 rfl) ?_
    exact W.iret hx hb hr (fun t ht hW => ⟨_, rfl, (by first | decide | (unfold sp_cell; (repeat' split) <;> first | rfl | (exfalso; omega))), ht⟩) (fun _ h => by cases h) dX12_cell_15
  · refine lv_istore (lv' := [(5, .int (-2)), (0, .ref h0), (1, .int x1), (2, .int x2), (3, .long x3)]) hx hb dX12_cell_6 hl (by decide) rfl (fun ls hl => ?_)
    refine lv_iload hx hb dX12_cell_8 (lv_at hl 0 rfl) ?_
    refine lv_if_eq (tgt := 16) hx hb dX12_cell_10 (by decide) (fun c9 => absurd c9 (by decide)) (fun _ => ?_)
    refine lv_iload hx hb dX12_cell_13 (lv_at hl 0 rfl) ?_
    exact W.iret hx hb hr (fun t ht hW => ⟨_, rfl, (by first | decide | (unfold sp_cell; (repeat' split) <;> first | rfl | (exfalso; omega))), ht⟩) (fun _ h => by cases h) dX12_cell_15
theorem dX12_halve_0 : decode cX12_halve 0 = .ok (.aload_n 0, 1) := by decide +kernel
theorem dX12_halve_1 : decode cX12_halve 1 = .ok (.iload_n 1, 1) := by decide +kernel
theorem dX12_halve_11 : decode cX12_halve 11 = .ok (.iload_n 3, 1) := by decide +kernel
theorem dX12_halve_12 : decode cX12_halve 12 = .ok (.ireturn, 1) := by decide +kernel
theorem dX12_halve_2 : decode cX12_halve 2 = .ok (.iload_n 2, 1) := by decide +kernel
theorem dX12_halve_3 : decode cX12_halve 3 = .ok (.invokevirtual 321, 3) := by decide +kernel
theorem dX12_halve_6 : decode cX12_halve 6 = .ok (.istore_n 3, 1) := by decide +kernel
theorem dX12_halve_7 : decode cX12_halve 7 = .ok (.iload_n 3, 1) := by decide +kernel
theorem dX12_halve_8 : decode cX12_halve 8 = .ok (.ifCond .eq 5, 3) := by decide +kernel
set_option maxRecDepth 20000 in
theorem ggX12_halve_X12_placeFault : GoodIn wsX12_halve wsX12_placeFault := goodIn_r _ [6, 1, 7, 8, 9, 10, 5, 11, 24, 25, 26, 27, 28, 29, 30, 31, 32, 33, 34, 35, 36, 37, 38, 39, 40] (by decide +kernel) (by decide +kernel)
set_option maxRecDepth 20000 in
theorem gX12_halve_X12_placeFault : GoodIn wsX12_halve (wsV RX12 321 RX12 yX12_placeFault wsX12_placeFault) := goodIn_app (goodIn_of _ (by decide +kernel)) ggX12_halve_X12_placeFault
set_option maxHeartbeats 4000000 in
set_option maxRecDepth 100000 in
theorem f_X12_halve (l : Launch) (D : va_G) (T : Nat → ClassId) (h0 : Nat) (fs0 : List Value) (h1 : Nat) (f1 : Nat → Option Nat) (h2 : Nat) (fs2 : List Value) (h3 : Nat) (fs3 : List Value) (h4 : Nat) (fs4 : List Value) (h5 : Nat) (fs5 : List Value) (x1 : Int32) (x2 : Int32) (e0_9 : fs0[9]? = some (.ref h1)) (e1_0 : f1 0 = some h2) (e1_1 : f1 1 = some h3) (e1_2 : f1 2 = some h4) (e1_3 : f1 3 = some h5) (e2_0 : fs2[0]? = some (.int (-1))) (e3_0 : fs3[0]? = some (.int (-1))) (e4_0 : fs4[0]? = some (.int (-1))) (e5_0 : fs5[0]? = some (.int (-1))) : Met l yX12_halve wsX12_halve ({ frames := 2, cells := 0, slots := 0, locals := 44 }) (pR [.ref h0, .int x1, .int x2] D T [(h0, .inr (9, fs0)), (h1, .inl (T 6, 4, .inr (.inr (.inr (.inr f1))))), (h2, .inr (6, fs2)), (h3, .inr (6, fs3)), (h4, .inr (6, fs4)), (h5, .inr (6, fs5))]) (vp_Si (fun r => r = sp_cell x1)) 0 0 (fun _ => False) := by
  refine Met.ofW (cc := cX12_halve) (maxL := 4) (ret := (some .int)) (by decide) rfl ?_
  intro p e s m args below meth c s₁ B hml hv
  obtain ⟨rfl, hP, hE⟩ := hv
  have hx := B.exec
  have hb := B.bytes
  have hr := B.returns
  have hts := atoms_spec (ws := wsX12_halve) B.pre
  have hown : s.vm.findClass RX12 = some m.cls := findClass_of_methodNamed B.named
  have hlocks := B.notSynchronized
  have hP : va_P D vwCl [(h0, .inr (9, fs0)), (h1, .inl (T 6, 4, .inr (.inr (.inr (.inr f1))))), (h2, .inr (6, fs2)), (h3, .inr (6, fs3)), (h4, .inr (6, fs4)), (h5, .inr (6, fs5))] s.heap := hP
  have hl := lv_entry ([.ref h0, .int x1, .int x2]) (n := 4) (Nat.le_of_ble_eq_true rfl)
  rw [lg_entry_eq]
  generalize (lg_sl ([.ref h0, .int x1, .int x2]) ++ List.replicate (4 - (lg_sl ([.ref h0, .int x1, .int x2])).length) Slot.unset).toArray = ls at hl ⊢
  have hl : lv_has ls 4 [(0, .ref h0), (1, .int x1), (2, .int x2)] := hl
  refine lv_aload_n hx hb dX12_halve_0 rfl (lv_at hl 0 rfl) ?_
  refine lv_iload_n hx hb dX12_halve_1 rfl (lv_at hl 1 rfl) ?_
  refine lv_iload_n hx hb dX12_halve_2 rfl (lv_at hl 2 rfl) ?_
  refine vp_callSi (W.runV (As := [.int x1, .int x2]) (rest := []) ⟨hx, hb, hml, hown, hts⟩ (f_X12_placeFault l D T h0 fs0 h1 f1 h2 fs2 h3 fs3 h4 fs4 h5 fs5 x1 x2 e0_9 e1_0 e1_1 e1_2 e1_3 e2_0 e3_0 e4_0 e5_0) (cwV 2 hts gX12_halve_X12_placeFault rfl rfl rfl (by decide +kernel) ⟨Nat.le_of_ble_eq_true rfl, Nat.le_of_ble_eq_true rfl⟩) (pR_V (ci := 9) (q0 := 0) hP hE rfl rfl [0, 1, 2, 3, 4, 5] rfl) rfl rfl hl.1 rfl (lv_room (Nat.le_of_ble_eq_true rfl)) dX12_halve_3 ⟨Nat.le_of_ble_eq_true rfl, Nat.le_of_ble_eq_true rfl⟩) (fun r_1 hr_1 => ?_)
  rcases pf_post hr_1 with ⟨c_2, rfl⟩ | ⟨c_2, rfl⟩
  · refine lv_istore_n (lv' := [(3, .int (-11)), (0, .ref h0), (1, .int x1), (2, .int x2)]) hx hb dX12_halve_6 rfl hl (by decide) rfl (fun ls hl => ?_)
    refine lv_iload_n hx hb dX12_halve_7 rfl (lv_at hl 0 rfl) ?_
    refine lv_if_eq (tgt := 13) hx hb dX12_halve_8 (by decide) (fun c9 => absurd c9 (by decide)) (fun _ => ?_)
    refine lv_iload_n hx hb dX12_halve_11 rfl (lv_at hl 0 rfl) ?_
    exact W.iret hx hb hr (fun t ht hW => ⟨_, rfl, (by first | decide | (unfold sp_cell; (repeat' split) <;> first | rfl | (exfalso; omega))), ht⟩) (fun _ h => by cases h) dX12_halve_12
  · refine lv_istore_n (lv' := [(3, .int (-2)), (0, .ref h0), (1, .int x1), (2, .int x2)]) hx hb dX12_halve_6 rfl hl (by decide) rfl (fun ls hl => ?_)
    refine lv_iload_n hx hb dX12_halve_7 rfl (lv_at hl 0 rfl) ?_
    refine lv_if_eq (tgt := 13) hx hb dX12_halve_8 (by decide) (fun c9 => absurd c9 (by decide)) (fun _ => ?_)
    refine lv_iload_n hx hb dX12_halve_11 rfl (lv_at hl 0 rfl) ?_
    exact W.iret hx hb hr (fun t ht hW => ⟨_, rfl, (by first | decide | (unfold sp_cell; (repeat' split) <;> first | rfl | (exfalso; omega))), ht⟩) (fun _ h => by cases h) dX12_halve_12
theorem dX12_read_0 : decode cX12_read 0 = .ok (.iload_n 3, 1) := by decide +kernel
theorem dX12_read_1 : decode cX12_read 1 = .ok (.iconst 0, 1) := by decide +kernel
theorem dX12_read_12 : decode cX12_read 12 = .ok (.lreturn, 1) := by decide +kernel
theorem dX12_read_13 : decode cX12_read 13 = .ok (.aload_n 0, 1) := by decide +kernel
theorem dX12_read_14 : decode cX12_read 14 = .ok (.iload_n 1, 1) := by decide +kernel
theorem dX12_read_15 : decode cX12_read 15 = .ok (.iload_n 2, 1) := by decide +kernel
theorem dX12_read_16 : decode cX12_read 16 = .ok (.invokevirtual 321, 3) := by decide +kernel
theorem dX12_read_19 : decode cX12_read 19 = .ok (.istore 4, 2) := by decide +kernel
theorem dX12_read_2 : decode cX12_read 2 = .ok (.iconst 3, 1) := by decide +kernel
theorem dX12_read_21 : decode cX12_read 21 = .ok (.iload 4, 2) := by decide +kernel
theorem dX12_read_23 : decode cX12_read 23 = .ok (.ifCond .eq 11, 3) := by decide +kernel
theorem dX12_read_26 : decode cX12_read 26 = .ok (.ldc2_w 324, 3) := by decide +kernel
theorem dX12_read_29 : decode cX12_read 29 = .ok (.iload 4, 2) := by decide +kernel
theorem dX12_read_3 : decode cX12_read 3 = .ok (.invokestatic 77, 3) := by decide +kernel
theorem dX12_read_31 : decode cX12_read 31 = .ok (.i2l, 1) := by decide +kernel
theorem dX12_read_32 : decode cX12_read 32 = .ok (.ladd, 1) := by decide +kernel
theorem dX12_read_33 : decode cX12_read 33 = .ok (.lreturn, 1) := by decide +kernel
theorem dX12_read_6 : decode cX12_read 6 = .ok (.ifCond .ne 7, 3) := by decide +kernel
theorem dX12_read_9 : decode cX12_read 9 = .ok (.ldc2_w 183, 3) := by decide +kernel
set_option maxRecDepth 20000 in
theorem ggX12_read_X12_placeFault : GoodIn wsX12_read wsX12_placeFault := goodIn_r _ [12, 3, 13, 14, 5, 6, 7, 8, 57, 58, 59, 60, 61, 62, 63, 64, 65, 66, 67, 68, 69, 70, 71, 72, 73] (by decide +kernel) (by decide +kernel)
set_option maxRecDepth 20000 in
theorem ggX12_read_X12_within : GoodIn wsX12_read wsX12_within := goodIn_r _ [8] (by decide +kernel) (by decide +kernel)
set_option maxRecDepth 20000 in
theorem gX12_read_X12_placeFault : GoodIn wsX12_read (wsV RX12 321 RX12 yX12_placeFault wsX12_placeFault) := goodIn_app (goodIn_of _ (by decide +kernel)) ggX12_read_X12_placeFault
set_option maxRecDepth 20000 in
theorem gX12_read_X12_within : GoodIn wsX12_read (va_wsS RX12 77 yX12_within wsX12_within) := goodIn_app (goodIn_of _ (by decide +kernel)) ggX12_read_X12_within
set_option maxHeartbeats 4000000 in
set_option maxRecDepth 100000 in
theorem f_X12_read (l : Launch) (D : va_G) (T : Nat → ClassId) (h0 : Nat) (fs0 : List Value) (h1 : Nat) (f1 : Nat → Option Nat) (h2 : Nat) (fs2 : List Value) (h3 : Nat) (fs3 : List Value) (h4 : Nat) (fs4 : List Value) (h5 : Nat) (fs5 : List Value) (x1 : Int32) (x2 : Int32) (x3 : Int32) (e0_9 : fs0[9]? = some (.ref h1)) (e1_0 : f1 0 = some h2) (e1_1 : f1 1 = some h3) (e1_2 : f1 2 = some h4) (e1_3 : f1 3 = some h5) (e2_0 : fs2[0]? = some (.int (-1))) (e3_0 : fs3[0]? = some (.int (-1))) (e4_0 : fs4[0]? = some (.int (-1))) (e5_0 : fs5[0]? = some (.int (-1))) : Met l yX12_read wsX12_read ({ frames := 2, cells := 0, slots := 0, locals := 44 }) (pR [.ref h0, .int x1, .int x2, .int x3] D T [(h0, .inr (9, fs0)), (h1, .inl (T 6, 4, .inr (.inr (.inr (.inr f1))))), (h2, .inr (6, fs2)), (h3, .inr (6, fs3)), (h4, .inr (6, fs4)), (h5, .inr (6, fs5))]) (vp_Sl (fun r => r = sp_read x1 x3)) 0 0 (fun _ => False) := by
  refine Met.ofW (cc := cX12_read) (maxL := 6) (ret := (some .long)) (by decide) rfl ?_
  intro p e s m args below meth c s₁ B hml hv
  obtain ⟨rfl, hP, hE⟩ := hv
  have hx := B.exec
  have hb := B.bytes
  have hr := B.returns
  have hts := atoms_spec (ws := wsX12_read) B.pre
  have hown : s.vm.findClass RX12 = some m.cls := findClass_of_methodNamed B.named
  have hlocks := B.notSynchronized
  have hP : va_P D vwCl [(h0, .inr (9, fs0)), (h1, .inl (T 6, 4, .inr (.inr (.inr (.inr f1))))), (h2, .inr (6, fs2)), (h3, .inr (6, fs3)), (h4, .inr (6, fs4)), (h5, .inr (6, fs5))] s.heap := hP
  have hl := lv_entry ([.ref h0, .int x1, .int x2, .int x3]) (n := 6) (Nat.le_of_ble_eq_true rfl)
  rw [lg_entry_eq]
  generalize (lg_sl ([.ref h0, .int x1, .int x2, .int x3]) ++ List.replicate (6 - (lg_sl ([.ref h0, .int x1, .int x2, .int x3])).length) Slot.unset).toArray = ls at hl ⊢
  have hl : lv_has ls 6 [(0, .ref h0), (1, .int x1), (2, .int x2), (3, .int x3)] := hl
  refine lv_iload_n hx hb dX12_read_0 rfl (lv_at hl 3 rfl) ?_
  refine lv_iconst (v := 0) hx hb dX12_read_1 (by decide) ?_
  refine lv_iconst (v := 3) hx hb dX12_read_2 (by decide) ?_
  refine vp_callSi (W.runS (As := [.int x3, .int 0, .int 3]) (rest := []) ⟨hx, hb, hml, hown, hts⟩ (c_X12_within l D T x3 0 3 0 3 (by decide) (by decide)) (va_cwS 3 hts gX12_read_X12_within rfl rfl rfl (by decide +kernel) ⟨Nat.le_of_ble_eq_true rfl, Nat.le_of_ble_eq_true rfl⟩) (pR_S hP hE [] rfl) rfl rfl hl.1 rfl (lv_room (Nat.le_of_ble_eq_true rfl)) dX12_read_3 ⟨Nat.le_of_ble_eq_true rfl, Nat.le_of_ble_eq_true rfl⟩) (fun r_1 hr_1 => ?_)
  rcases bool_post hr_1 with ⟨c_2, rfl⟩ | ⟨c_2, rfl⟩
  · refine lv_if_ne (tgt := 13) hx hb dX12_read_6 (by decide) (fun _ => ?_) (fun c9 => absurd c9 (by decide))
    refine lv_aload_n hx hb dX12_read_13 rfl (lv_at hl 0 rfl) ?_
    refine lv_iload_n hx hb dX12_read_14 rfl (lv_at hl 1 rfl) ?_
    refine lv_iload_n hx hb dX12_read_15 rfl (lv_at hl 2 rfl) ?_
    refine vp_callSi (W.runV (As := [.int x1, .int x2]) (rest := []) ⟨hx, hb, hml, hown, hts⟩ (f_X12_placeFault l D T h0 fs0 h1 f1 h2 fs2 h3 fs3 h4 fs4 h5 fs5 x1 x2 e0_9 e1_0 e1_1 e1_2 e1_3 e2_0 e3_0 e4_0 e5_0) (cwV 2 hts gX12_read_X12_placeFault rfl rfl rfl (by decide +kernel) ⟨Nat.le_of_ble_eq_true rfl, Nat.le_of_ble_eq_true rfl⟩) (pR_V (ci := 9) (q0 := 0) hP hE rfl rfl [0, 1, 2, 3, 4, 5] rfl) rfl rfl hl.1 rfl (lv_room (Nat.le_of_ble_eq_true rfl)) dX12_read_16 ⟨Nat.le_of_ble_eq_true rfl, Nat.le_of_ble_eq_true rfl⟩) (fun r_3 hr_3 => ?_)
    rcases pf_post hr_3 with ⟨c_4, rfl⟩ | ⟨c_4, rfl⟩
    · refine lv_istore (lv' := [(4, .int (-11)), (0, .ref h0), (1, .int x1), (2, .int x2), (3, .int x3)]) hx hb dX12_read_19 hl (by decide) rfl (fun ls hl => ?_)
      refine lv_iload hx hb dX12_read_21 (lv_at hl 0 rfl) ?_
      refine lv_if_eq (tgt := 34) hx hb dX12_read_23 (by decide) (fun c9 => absurd c9 (by decide)) (fun _ => ?_)
      refine lv_ldc2 (v := (-4611686018427387904)) hx hb hown (hts (.constantLong RX12 324 (-4611686018427387904)) (List.mem_of_getElem? (i := 2) rfl)) dX12_read_26 ?_
      refine lv_iload hx hb dX12_read_29 (lv_at hl 0 rfl) ?_
      refine lv_i2l (v := (-11)) hx hb dX12_read_31 (by decide) ?_
      refine lv_ladd hx hb dX12_read_32 ?_
      refine lv_topl (fun z_5 ez_5 => ?_)
      obtain rfl : z_5 = (-4611686018427387915) := ez_5.trans (by decide)
      exact W.lret hx hb hr (fun t ht hW => ⟨_, rfl, (by first | decide | (unfold sp_read; (repeat' split) <;> first | rfl | (exfalso; omega))), ht⟩) (fun _ h => by cases h) dX12_read_33
    · refine lv_istore (lv' := [(4, .int (-2)), (0, .ref h0), (1, .int x1), (2, .int x2), (3, .int x3)]) hx hb dX12_read_19 hl (by decide) rfl (fun ls hl => ?_)
      refine lv_iload hx hb dX12_read_21 (lv_at hl 0 rfl) ?_
      refine lv_if_eq (tgt := 34) hx hb dX12_read_23 (by decide) (fun c9 => absurd c9 (by decide)) (fun _ => ?_)
      refine lv_ldc2 (v := (-4611686018427387904)) hx hb hown (hts (.constantLong RX12 324 (-4611686018427387904)) (List.mem_of_getElem? (i := 2) rfl)) dX12_read_26 ?_
      refine lv_iload hx hb dX12_read_29 (lv_at hl 0 rfl) ?_
      refine lv_i2l (v := (-2)) hx hb dX12_read_31 (by decide) ?_
      refine lv_ladd hx hb dX12_read_32 ?_
      refine lv_topl (fun z_6 ez_6 => ?_)
      obtain rfl : z_6 = (-4611686018427387906) := ez_6.trans (by decide)
      exact W.lret hx hb hr (fun t ht hW => ⟨_, rfl, (by first | decide | (unfold sp_read; (repeat' split) <;> first | rfl | (exfalso; omega))), ht⟩) (fun _ h => by cases h) dX12_read_33
  · refine lv_if_ne (tgt := 13) hx hb dX12_read_6 (by decide) (fun c9 => absurd c9 (by decide)) (fun _ => ?_)
    refine lv_ldc2 (v := (-4611686018427387906)) hx hb hown (hts (.constantLong RX12 183 (-4611686018427387906)) (List.mem_of_getElem? (i := 1) rfl)) dX12_read_9 ?_
    exact W.lret hx hb hr (fun t ht hW => ⟨_, rfl, (by first | decide | (unfold sp_read; (repeat' split) <;> first | rfl | (exfalso; omega))), ht⟩) (fun _ h => by cases h) dX12_read_12
theorem dX12_copy_0 : decode cX12_copy 0 = .ok (.iload_n 1, 1) := by decide +kernel
theorem dX12_copy_1 : decode cX12_copy 1 = .ok (.iconst 0, 1) := by decide +kernel
theorem dX12_copy_10 : decode cX12_copy 10 = .ok (.iconst 0, 1) := by decide +kernel
theorem dX12_copy_11 : decode cX12_copy 11 = .ok (.iconst 3, 1) := by decide +kernel
theorem dX12_copy_12 : decode cX12_copy 12 = .ok (.invokestatic 77, 3) := by decide +kernel
theorem dX12_copy_15 : decode cX12_copy 15 = .ok (.ifCond .ne 6, 3) := by decide +kernel
theorem dX12_copy_18 : decode cX12_copy 18 = .ok (.bipush (-2), 2) := by decide +kernel
theorem dX12_copy_2 : decode cX12_copy 2 = .ok (.iconst 3, 1) := by decide +kernel
theorem dX12_copy_20 : decode cX12_copy 20 = .ok (.ireturn, 1) := by decide +kernel
theorem dX12_copy_21 : decode cX12_copy 21 = .ok (.aload_n 0, 1) := by decide +kernel
theorem dX12_copy_22 : decode cX12_copy 22 = .ok (.getfield 65, 3) := by decide +kernel
theorem dX12_copy_25 : decode cX12_copy 25 = .ok (.iload_n 1, 1) := by decide +kernel
theorem dX12_copy_26 : decode cX12_copy 26 = .ok (.aaload, 1) := by decide +kernel
theorem dX12_copy_27 : decode cX12_copy 27 = .ok (.astore 6, 2) := by decide +kernel
theorem dX12_copy_29 : decode cX12_copy 29 = .ok (.aload_n 0, 1) := by decide +kernel
theorem dX12_copy_3 : decode cX12_copy 3 = .ok (.invokestatic 77, 3) := by decide +kernel
theorem dX12_copy_30 : decode cX12_copy 30 = .ok (.getfield 65, 3) := by decide +kernel
theorem dX12_copy_33 : decode cX12_copy 33 = .ok (.iload_n 3, 1) := by decide +kernel
theorem dX12_copy_34 : decode cX12_copy 34 = .ok (.aaload, 1) := by decide +kernel
theorem dX12_copy_35 : decode cX12_copy 35 = .ok (.astore 7, 2) := by decide +kernel
theorem dX12_copy_37 : decode cX12_copy 37 = .ok (.aload 6, 2) := by decide +kernel
theorem dX12_copy_39 : decode cX12_copy 39 = .ok (.getfield 277, 3) := by decide +kernel
theorem dX12_copy_42 : decode cX12_copy 42 = .ok (.iconst (-1), 1) := by decide +kernel
theorem dX12_copy_43 : decode cX12_copy 43 = .ok (.if_icmp .eq 12, 3) := by decide +kernel
theorem dX12_copy_55 : decode cX12_copy 55 = .ok (.bipush (-11), 2) := by decide +kernel
theorem dX12_copy_57 : decode cX12_copy 57 = .ok (.ireturn, 1) := by decide +kernel
theorem dX12_copy_6 : decode cX12_copy 6 = .ok (.ifCond .eq 12, 3) := by decide +kernel
theorem dX12_copy_9 : decode cX12_copy 9 = .ok (.iload_n 3, 1) := by decide +kernel
set_option maxRecDepth 20000 in
theorem ggX12_copy_X12_within : GoodIn wsX12_copy wsX12_within := goodIn_r _ [6] (by decide +kernel) (by decide +kernel)
set_option maxRecDepth 20000 in
theorem gX12_copy_X12_within : GoodIn wsX12_copy (va_wsS RX12 77 yX12_within wsX12_within) := goodIn_app (goodIn_of _ (by decide +kernel)) ggX12_copy_X12_within
set_option maxRecDepth 20000 in
theorem in_X12_copy_X12 : ∀ w ∈ wsX120, w ∈ wsX12_copy := by decide +kernel
set_option maxRecDepth 20000 in
theorem in_X12_copy_X9 : ∀ w ∈ wsX90, w ∈ wsX12_copy := by decide +kernel
set_option maxHeartbeats 4000000 in
set_option maxRecDepth 100000 in
theorem f_X12_copy (l : Launch) (D : va_G) (T : Nat → ClassId) (h0 : Nat) (fs0 : List Value) (h1 : Nat) (f1 : Nat → Option Nat) (h2 : Nat) (fs2 : List Value) (h3 : Nat) (fs3 : List Value) (h4 : Nat) (fs4 : List Value) (h5 : Nat) (fs5 : List Value) (x1 : Int32) (x2 : Int32) (x3 : Int32) (x4 : Int32) (x5 : Int32) (e0_9 : fs0[9]? = some (.ref h1)) (e1_0 : f1 0 = some h2) (e1_1 : f1 1 = some h3) (e1_2 : f1 2 = some h4) (e1_3 : f1 3 = some h5) (e2_0 : fs2[0]? = some (.int (-1))) (e3_0 : fs3[0]? = some (.int (-1))) (e4_0 : fs4[0]? = some (.int (-1))) (e5_0 : fs5[0]? = some (.int (-1))) : Met l yX12_copy wsX12_copy ({ frames := 1, cells := 0, slots := 0, locals := 22 }) (pR [.ref h0, .int x1, .int x2, .int x3, .int x4, .int x5] D T [(h0, .inr (9, fs0)), (h1, .inl (T 6, 4, .inr (.inr (.inr (.inr f1))))), (h2, .inr (6, fs2)), (h3, .inr (6, fs3)), (h4, .inr (6, fs4)), (h5, .inr (6, fs5))]) (vp_Si (fun r => r = sp_copy x1 x3)) 0 0 (fun _ => False) := by
  refine Met.ofW (cc := cX12_copy) (maxL := 8) (ret := (some .int)) (by decide) rfl ?_
  intro p e s m args below meth c s₁ B hml hv
  obtain ⟨rfl, hP, hE⟩ := hv
  have hx := B.exec
  have hb := B.bytes
  have hr := B.returns
  have hts := atoms_spec (ws := wsX12_copy) B.pre
  have hown : s.vm.findClass RX12 = some m.cls := findClass_of_methodNamed B.named
  have hlocks := B.notSynchronized
  have hP : va_P D vwCl [(h0, .inr (9, fs0)), (h1, .inl (T 6, 4, .inr (.inr (.inr (.inr f1))))), (h2, .inr (6, fs2)), (h3, .inr (6, fs3)), (h4, .inr (6, fs4)), (h5, .inr (6, fs5))] s.heap := hP
  have hl := lv_entry ([.ref h0, .int x1, .int x2, .int x3, .int x4, .int x5]) (n := 8) (Nat.le_of_ble_eq_true rfl)
  rw [lg_entry_eq]
  generalize (lg_sl ([.ref h0, .int x1, .int x2, .int x3, .int x4, .int x5]) ++ List.replicate (8 - (lg_sl ([.ref h0, .int x1, .int x2, .int x3, .int x4, .int x5])).length) Slot.unset).toArray = ls at hl ⊢
  have hl : lv_has ls 8 [(0, .ref h0), (1, .int x1), (2, .int x2), (3, .int x3), (4, .int x4), (5, .int x5)] := hl
  refine lv_iload_n hx hb dX12_copy_0 rfl (lv_at hl 1 rfl) ?_
  refine lv_iconst (v := 0) hx hb dX12_copy_1 (by decide) ?_
  refine lv_iconst (v := 3) hx hb dX12_copy_2 (by decide) ?_
  refine vp_callSi (W.runS (As := [.int x1, .int 0, .int 3]) (rest := []) ⟨hx, hb, hml, hown, hts⟩ (c_X12_within l D T x1 0 3 0 3 (by decide) (by decide)) (va_cwS 3 hts gX12_copy_X12_within rfl rfl rfl (by decide +kernel) ⟨Nat.le_of_ble_eq_true rfl, Nat.le_of_ble_eq_true rfl⟩) (pR_S hP hE [] rfl) rfl rfl hl.1 rfl (lv_room (Nat.le_of_ble_eq_true rfl)) dX12_copy_3 ⟨Nat.le_of_ble_eq_true rfl, Nat.le_of_ble_eq_true rfl⟩) (fun r_1 hr_1 => ?_)
  rcases bool_post hr_1 with ⟨c_2, rfl⟩ | ⟨c_2, rfl⟩
  · refine lv_if_eq (tgt := 18) hx hb dX12_copy_6 (by decide) (fun c9 => absurd c9 (by decide)) (fun _ => ?_)
    refine lv_iload_n hx hb dX12_copy_9 rfl (lv_at hl 3 rfl) ?_
    refine lv_iconst (v := 0) hx hb dX12_copy_10 (by decide) ?_
    refine lv_iconst (v := 3) hx hb dX12_copy_11 (by decide) ?_
    refine vp_callSi (W.runS (As := [.int x3, .int 0, .int 3]) (rest := []) ⟨hx, hb, hml, hown, hts⟩ (c_X12_within l D T x3 0 3 0 3 (by decide) (by decide)) (va_cwS 3 hts gX12_copy_X12_within rfl rfl rfl (by decide +kernel) ⟨Nat.le_of_ble_eq_true rfl, Nat.le_of_ble_eq_true rfl⟩) (pR_S hP hE [] rfl) rfl rfl hl.1 rfl (lv_room (Nat.le_of_ble_eq_true rfl)) dX12_copy_12 ⟨Nat.le_of_ble_eq_true rfl, Nat.le_of_ble_eq_true rfl⟩) (fun r_3 hr_3 => ?_)
    rcases bool_post hr_3 with ⟨c_4, rfl⟩ | ⟨c_4, rfl⟩
    · refine lv_if_ne (tgt := 21) hx hb dX12_copy_15 (by decide) (fun _ => ?_) (fun c9 => absurd c9 (by decide))
      refine lv_aload_n hx hb dX12_copy_21 rfl (lv_at hl 0 rfl) ?_
      refine va_get (D := D) (ci := 9) (v := .ref h1) (C := RX12) (T := TX12) (N := 11) hx hb hts in_X12_copy_X12 hown hE.1 hP 0 rfl rfl 9 (by decide) (hts (.fieldLink RX12 65 "ClauseBook" "sheets" "[LClauseBook$Sheet;") (List.mem_of_getElem? (i := 1) rfl)) (fun _ h9 => h9) e0_9 dX12_copy_22 ?_
      refine lv_iload_n hx hb dX12_copy_25 rfl (lv_at hl 1 rfl) ?_
      rcases in4 (x := x1) (by omega) with rfl | rfl | rfl | rfl
      · refine va_aldq hx hb hE.1 hP 1 6 rfl rfl (by unfold vp_in; decide) dX12_copy_26 ?_
        refine W.eq (g2 := F0 m 27 ls [.ref h2]) (by rw [show (0 : Int32).toNatClampNeg = 0 from rfl, e1_0]; rfl) ?_
        refine lv_astore (lv' := [(6, .ref h2), (0, .ref h0), (1, .int 0), (2, .int x2), (3, .int x3), (4, .int x4), (5, .int x5)]) hx hb dX12_copy_27 hl (by decide) rfl (fun ls hl => ?_)
        refine lv_aload_n hx hb dX12_copy_29 rfl (lv_at hl 1 rfl) ?_
        refine va_get (D := D) (ci := 9) (v := .ref h1) (C := RX12) (T := TX12) (N := 11) hx hb hts in_X12_copy_X12 hown hE.1 hP 0 rfl rfl 9 (by decide) (hts (.fieldLink RX12 65 "ClauseBook" "sheets" "[LClauseBook$Sheet;") (List.mem_of_getElem? (i := 1) rfl)) (fun _ h9 => h9) e0_9 dX12_copy_30 ?_
        refine lv_iload_n hx hb dX12_copy_33 rfl (lv_at hl 4 rfl) ?_
        rcases in4 (x := x3) (by omega) with rfl | rfl | rfl | rfl
        · refine va_aldq hx hb hE.1 hP 1 6 rfl rfl (by unfold vp_in; decide) dX12_copy_34 ?_
          refine W.eq (g2 := F0 m 35 ls [.ref h2]) (by rw [show (0 : Int32).toNatClampNeg = 0 from rfl, e1_0]; rfl) ?_
          refine lv_astore (lv' := [(7, .ref h2), (6, .ref h2), (0, .ref h0), (1, .int 0), (2, .int x2), (3, .int 0), (4, .int x4), (5, .int x5)]) hx hb dX12_copy_35 hl (by decide) rfl (fun ls hl => ?_)
          refine lv_aload hx hb dX12_copy_37 (lv_at hl 1 rfl) ?_
          refine va_get (D := D) (ci := 6) (v := .int (-1)) (C := RX9) (T := TX9) (N := 6) hx hb hts in_X12_copy_X9 hown hE.1 hP 2 rfl rfl 0 (by decide) (hts (.fieldLink RX12 277 "ClauseBook$Sheet" "sort" "I") (List.mem_of_getElem? (i := 2) rfl)) (fun _ h9 => h9) e2_0 dX12_copy_39 ?_
          refine lv_iconst (v := (-1)) hx hb dX12_copy_42 (by decide) ?_
          refine lv_icmp_eq (tgt := 55) hx hb dX12_copy_43 (by decide) (fun _ => ?_) (fun c9 => absurd c9 (by decide))
          refine lv_bipush (v := (-11)) hx hb dX12_copy_55 (by decide) ?_
          exact W.iret hx hb hr (fun t ht hW => ⟨_, rfl, (by first | decide | (unfold sp_copy; (repeat' split) <;> first | rfl | (exfalso; omega))), ht⟩) (fun _ h => by cases h) dX12_copy_57
        · refine va_aldq hx hb hE.1 hP 1 6 rfl rfl (by unfold vp_in; decide) dX12_copy_34 ?_
          refine W.eq (g2 := F0 m 35 ls [.ref h3]) (by rw [show (1 : Int32).toNatClampNeg = 1 from rfl, e1_1]; rfl) ?_
          refine lv_astore (lv' := [(7, .ref h3), (6, .ref h2), (0, .ref h0), (1, .int 0), (2, .int x2), (3, .int 1), (4, .int x4), (5, .int x5)]) hx hb dX12_copy_35 hl (by decide) rfl (fun ls hl => ?_)
          refine lv_aload hx hb dX12_copy_37 (lv_at hl 1 rfl) ?_
          refine va_get (D := D) (ci := 6) (v := .int (-1)) (C := RX9) (T := TX9) (N := 6) hx hb hts in_X12_copy_X9 hown hE.1 hP 2 rfl rfl 0 (by decide) (hts (.fieldLink RX12 277 "ClauseBook$Sheet" "sort" "I") (List.mem_of_getElem? (i := 2) rfl)) (fun _ h9 => h9) e2_0 dX12_copy_39 ?_
          refine lv_iconst (v := (-1)) hx hb dX12_copy_42 (by decide) ?_
          refine lv_icmp_eq (tgt := 55) hx hb dX12_copy_43 (by decide) (fun _ => ?_) (fun c9 => absurd c9 (by decide))
          refine lv_bipush (v := (-11)) hx hb dX12_copy_55 (by decide) ?_
          exact W.iret hx hb hr (fun t ht hW => ⟨_, rfl, (by first | decide | (unfold sp_copy; (repeat' split) <;> first | rfl | (exfalso; omega))), ht⟩) (fun _ h => by cases h) dX12_copy_57
        · refine va_aldq hx hb hE.1 hP 1 6 rfl rfl (by unfold vp_in; decide) dX12_copy_34 ?_
          refine W.eq (g2 := F0 m 35 ls [.ref h4]) (by rw [show (2 : Int32).toNatClampNeg = 2 from rfl, e1_2]; rfl) ?_
          refine lv_astore (lv' := [(7, .ref h4), (6, .ref h2), (0, .ref h0), (1, .int 0), (2, .int x2), (3, .int 2), (4, .int x4), (5, .int x5)]) hx hb dX12_copy_35 hl (by decide) rfl (fun ls hl => ?_)
          refine lv_aload hx hb dX12_copy_37 (lv_at hl 1 rfl) ?_
          refine va_get (D := D) (ci := 6) (v := .int (-1)) (C := RX9) (T := TX9) (N := 6) hx hb hts in_X12_copy_X9 hown hE.1 hP 2 rfl rfl 0 (by decide) (hts (.fieldLink RX12 277 "ClauseBook$Sheet" "sort" "I") (List.mem_of_getElem? (i := 2) rfl)) (fun _ h9 => h9) e2_0 dX12_copy_39 ?_
          refine lv_iconst (v := (-1)) hx hb dX12_copy_42 (by decide) ?_
          refine lv_icmp_eq (tgt := 55) hx hb dX12_copy_43 (by decide) (fun _ => ?_) (fun c9 => absurd c9 (by decide))
          refine lv_bipush (v := (-11)) hx hb dX12_copy_55 (by decide) ?_
          exact W.iret hx hb hr (fun t ht hW => ⟨_, rfl, (by first | decide | (unfold sp_copy; (repeat' split) <;> first | rfl | (exfalso; omega))), ht⟩) (fun _ h => by cases h) dX12_copy_57
        · refine va_aldq hx hb hE.1 hP 1 6 rfl rfl (by unfold vp_in; decide) dX12_copy_34 ?_
          refine W.eq (g2 := F0 m 35 ls [.ref h5]) (by rw [show (3 : Int32).toNatClampNeg = 3 from rfl, e1_3]; rfl) ?_
          refine lv_astore (lv' := [(7, .ref h5), (6, .ref h2), (0, .ref h0), (1, .int 0), (2, .int x2), (3, .int 3), (4, .int x4), (5, .int x5)]) hx hb dX12_copy_35 hl (by decide) rfl (fun ls hl => ?_)
          refine lv_aload hx hb dX12_copy_37 (lv_at hl 1 rfl) ?_
          refine va_get (D := D) (ci := 6) (v := .int (-1)) (C := RX9) (T := TX9) (N := 6) hx hb hts in_X12_copy_X9 hown hE.1 hP 2 rfl rfl 0 (by decide) (hts (.fieldLink RX12 277 "ClauseBook$Sheet" "sort" "I") (List.mem_of_getElem? (i := 2) rfl)) (fun _ h9 => h9) e2_0 dX12_copy_39 ?_
          refine lv_iconst (v := (-1)) hx hb dX12_copy_42 (by decide) ?_
          refine lv_icmp_eq (tgt := 55) hx hb dX12_copy_43 (by decide) (fun _ => ?_) (fun c9 => absurd c9 (by decide))
          refine lv_bipush (v := (-11)) hx hb dX12_copy_55 (by decide) ?_
          exact W.iret hx hb hr (fun t ht hW => ⟨_, rfl, (by first | decide | (unfold sp_copy; (repeat' split) <;> first | rfl | (exfalso; omega))), ht⟩) (fun _ h => by cases h) dX12_copy_57
      · refine va_aldq hx hb hE.1 hP 1 6 rfl rfl (by unfold vp_in; decide) dX12_copy_26 ?_
        refine W.eq (g2 := F0 m 27 ls [.ref h3]) (by rw [show (1 : Int32).toNatClampNeg = 1 from rfl, e1_1]; rfl) ?_
        refine lv_astore (lv' := [(6, .ref h3), (0, .ref h0), (1, .int 1), (2, .int x2), (3, .int x3), (4, .int x4), (5, .int x5)]) hx hb dX12_copy_27 hl (by decide) rfl (fun ls hl => ?_)
        refine lv_aload_n hx hb dX12_copy_29 rfl (lv_at hl 1 rfl) ?_
        refine va_get (D := D) (ci := 9) (v := .ref h1) (C := RX12) (T := TX12) (N := 11) hx hb hts in_X12_copy_X12 hown hE.1 hP 0 rfl rfl 9 (by decide) (hts (.fieldLink RX12 65 "ClauseBook" "sheets" "[LClauseBook$Sheet;") (List.mem_of_getElem? (i := 1) rfl)) (fun _ h9 => h9) e0_9 dX12_copy_30 ?_
        refine lv_iload_n hx hb dX12_copy_33 rfl (lv_at hl 4 rfl) ?_
        rcases in4 (x := x3) (by omega) with rfl | rfl | rfl | rfl
        · refine va_aldq hx hb hE.1 hP 1 6 rfl rfl (by unfold vp_in; decide) dX12_copy_34 ?_
          refine W.eq (g2 := F0 m 35 ls [.ref h2]) (by rw [show (0 : Int32).toNatClampNeg = 0 from rfl, e1_0]; rfl) ?_
          refine lv_astore (lv' := [(7, .ref h2), (6, .ref h3), (0, .ref h0), (1, .int 1), (2, .int x2), (3, .int 0), (4, .int x4), (5, .int x5)]) hx hb dX12_copy_35 hl (by decide) rfl (fun ls hl => ?_)
          refine lv_aload hx hb dX12_copy_37 (lv_at hl 1 rfl) ?_
          refine va_get (D := D) (ci := 6) (v := .int (-1)) (C := RX9) (T := TX9) (N := 6) hx hb hts in_X12_copy_X9 hown hE.1 hP 3 rfl rfl 0 (by decide) (hts (.fieldLink RX12 277 "ClauseBook$Sheet" "sort" "I") (List.mem_of_getElem? (i := 2) rfl)) (fun _ h9 => h9) e3_0 dX12_copy_39 ?_
          refine lv_iconst (v := (-1)) hx hb dX12_copy_42 (by decide) ?_
          refine lv_icmp_eq (tgt := 55) hx hb dX12_copy_43 (by decide) (fun _ => ?_) (fun c9 => absurd c9 (by decide))
          refine lv_bipush (v := (-11)) hx hb dX12_copy_55 (by decide) ?_
          exact W.iret hx hb hr (fun t ht hW => ⟨_, rfl, (by first | decide | (unfold sp_copy; (repeat' split) <;> first | rfl | (exfalso; omega))), ht⟩) (fun _ h => by cases h) dX12_copy_57
        · refine va_aldq hx hb hE.1 hP 1 6 rfl rfl (by unfold vp_in; decide) dX12_copy_34 ?_
          refine W.eq (g2 := F0 m 35 ls [.ref h3]) (by rw [show (1 : Int32).toNatClampNeg = 1 from rfl, e1_1]; rfl) ?_
          refine lv_astore (lv' := [(7, .ref h3), (6, .ref h3), (0, .ref h0), (1, .int 1), (2, .int x2), (3, .int 1), (4, .int x4), (5, .int x5)]) hx hb dX12_copy_35 hl (by decide) rfl (fun ls hl => ?_)
          refine lv_aload hx hb dX12_copy_37 (lv_at hl 1 rfl) ?_
          refine va_get (D := D) (ci := 6) (v := .int (-1)) (C := RX9) (T := TX9) (N := 6) hx hb hts in_X12_copy_X9 hown hE.1 hP 3 rfl rfl 0 (by decide) (hts (.fieldLink RX12 277 "ClauseBook$Sheet" "sort" "I") (List.mem_of_getElem? (i := 2) rfl)) (fun _ h9 => h9) e3_0 dX12_copy_39 ?_
          refine lv_iconst (v := (-1)) hx hb dX12_copy_42 (by decide) ?_
          refine lv_icmp_eq (tgt := 55) hx hb dX12_copy_43 (by decide) (fun _ => ?_) (fun c9 => absurd c9 (by decide))
          refine lv_bipush (v := (-11)) hx hb dX12_copy_55 (by decide) ?_
          exact W.iret hx hb hr (fun t ht hW => ⟨_, rfl, (by first | decide | (unfold sp_copy; (repeat' split) <;> first | rfl | (exfalso; omega))), ht⟩) (fun _ h => by cases h) dX12_copy_57
        · refine va_aldq hx hb hE.1 hP 1 6 rfl rfl (by unfold vp_in; decide) dX12_copy_34 ?_
          refine W.eq (g2 := F0 m 35 ls [.ref h4]) (by rw [show (2 : Int32).toNatClampNeg = 2 from rfl, e1_2]; rfl) ?_
          refine lv_astore (lv' := [(7, .ref h4), (6, .ref h3), (0, .ref h0), (1, .int 1), (2, .int x2), (3, .int 2), (4, .int x4), (5, .int x5)]) hx hb dX12_copy_35 hl (by decide) rfl (fun ls hl => ?_)
          refine lv_aload hx hb dX12_copy_37 (lv_at hl 1 rfl) ?_
          refine va_get (D := D) (ci := 6) (v := .int (-1)) (C := RX9) (T := TX9) (N := 6) hx hb hts in_X12_copy_X9 hown hE.1 hP 3 rfl rfl 0 (by decide) (hts (.fieldLink RX12 277 "ClauseBook$Sheet" "sort" "I") (List.mem_of_getElem? (i := 2) rfl)) (fun _ h9 => h9) e3_0 dX12_copy_39 ?_
          refine lv_iconst (v := (-1)) hx hb dX12_copy_42 (by decide) ?_
          refine lv_icmp_eq (tgt := 55) hx hb dX12_copy_43 (by decide) (fun _ => ?_) (fun c9 => absurd c9 (by decide))
          refine lv_bipush (v := (-11)) hx hb dX12_copy_55 (by decide) ?_
          exact W.iret hx hb hr (fun t ht hW => ⟨_, rfl, (by first | decide | (unfold sp_copy; (repeat' split) <;> first | rfl | (exfalso; omega))), ht⟩) (fun _ h => by cases h) dX12_copy_57
        · refine va_aldq hx hb hE.1 hP 1 6 rfl rfl (by unfold vp_in; decide) dX12_copy_34 ?_
          refine W.eq (g2 := F0 m 35 ls [.ref h5]) (by rw [show (3 : Int32).toNatClampNeg = 3 from rfl, e1_3]; rfl) ?_
          refine lv_astore (lv' := [(7, .ref h5), (6, .ref h3), (0, .ref h0), (1, .int 1), (2, .int x2), (3, .int 3), (4, .int x4), (5, .int x5)]) hx hb dX12_copy_35 hl (by decide) rfl (fun ls hl => ?_)
          refine lv_aload hx hb dX12_copy_37 (lv_at hl 1 rfl) ?_
          refine va_get (D := D) (ci := 6) (v := .int (-1)) (C := RX9) (T := TX9) (N := 6) hx hb hts in_X12_copy_X9 hown hE.1 hP 3 rfl rfl 0 (by decide) (hts (.fieldLink RX12 277 "ClauseBook$Sheet" "sort" "I") (List.mem_of_getElem? (i := 2) rfl)) (fun _ h9 => h9) e3_0 dX12_copy_39 ?_
          refine lv_iconst (v := (-1)) hx hb dX12_copy_42 (by decide) ?_
          refine lv_icmp_eq (tgt := 55) hx hb dX12_copy_43 (by decide) (fun _ => ?_) (fun c9 => absurd c9 (by decide))
          refine lv_bipush (v := (-11)) hx hb dX12_copy_55 (by decide) ?_
          exact W.iret hx hb hr (fun t ht hW => ⟨_, rfl, (by first | decide | (unfold sp_copy; (repeat' split) <;> first | rfl | (exfalso; omega))), ht⟩) (fun _ h => by cases h) dX12_copy_57
      · refine va_aldq hx hb hE.1 hP 1 6 rfl rfl (by unfold vp_in; decide) dX12_copy_26 ?_
        refine W.eq (g2 := F0 m 27 ls [.ref h4]) (by rw [show (2 : Int32).toNatClampNeg = 2 from rfl, e1_2]; rfl) ?_
        refine lv_astore (lv' := [(6, .ref h4), (0, .ref h0), (1, .int 2), (2, .int x2), (3, .int x3), (4, .int x4), (5, .int x5)]) hx hb dX12_copy_27 hl (by decide) rfl (fun ls hl => ?_)
        refine lv_aload_n hx hb dX12_copy_29 rfl (lv_at hl 1 rfl) ?_
        refine va_get (D := D) (ci := 9) (v := .ref h1) (C := RX12) (T := TX12) (N := 11) hx hb hts in_X12_copy_X12 hown hE.1 hP 0 rfl rfl 9 (by decide) (hts (.fieldLink RX12 65 "ClauseBook" "sheets" "[LClauseBook$Sheet;") (List.mem_of_getElem? (i := 1) rfl)) (fun _ h9 => h9) e0_9 dX12_copy_30 ?_
        refine lv_iload_n hx hb dX12_copy_33 rfl (lv_at hl 4 rfl) ?_
        rcases in4 (x := x3) (by omega) with rfl | rfl | rfl | rfl
        · refine va_aldq hx hb hE.1 hP 1 6 rfl rfl (by unfold vp_in; decide) dX12_copy_34 ?_
          refine W.eq (g2 := F0 m 35 ls [.ref h2]) (by rw [show (0 : Int32).toNatClampNeg = 0 from rfl, e1_0]; rfl) ?_
          refine lv_astore (lv' := [(7, .ref h2), (6, .ref h4), (0, .ref h0), (1, .int 2), (2, .int x2), (3, .int 0), (4, .int x4), (5, .int x5)]) hx hb dX12_copy_35 hl (by decide) rfl (fun ls hl => ?_)
          refine lv_aload hx hb dX12_copy_37 (lv_at hl 1 rfl) ?_
          refine va_get (D := D) (ci := 6) (v := .int (-1)) (C := RX9) (T := TX9) (N := 6) hx hb hts in_X12_copy_X9 hown hE.1 hP 4 rfl rfl 0 (by decide) (hts (.fieldLink RX12 277 "ClauseBook$Sheet" "sort" "I") (List.mem_of_getElem? (i := 2) rfl)) (fun _ h9 => h9) e4_0 dX12_copy_39 ?_
          refine lv_iconst (v := (-1)) hx hb dX12_copy_42 (by decide) ?_
          refine lv_icmp_eq (tgt := 55) hx hb dX12_copy_43 (by decide) (fun _ => ?_) (fun c9 => absurd c9 (by decide))
          refine lv_bipush (v := (-11)) hx hb dX12_copy_55 (by decide) ?_
          exact W.iret hx hb hr (fun t ht hW => ⟨_, rfl, (by first | decide | (unfold sp_copy; (repeat' split) <;> first | rfl | (exfalso; omega))), ht⟩) (fun _ h => by cases h) dX12_copy_57
        · refine va_aldq hx hb hE.1 hP 1 6 rfl rfl (by unfold vp_in; decide) dX12_copy_34 ?_
          refine W.eq (g2 := F0 m 35 ls [.ref h3]) (by rw [show (1 : Int32).toNatClampNeg = 1 from rfl, e1_1]; rfl) ?_
          refine lv_astore (lv' := [(7, .ref h3), (6, .ref h4), (0, .ref h0), (1, .int 2), (2, .int x2), (3, .int 1), (4, .int x4), (5, .int x5)]) hx hb dX12_copy_35 hl (by decide) rfl (fun ls hl => ?_)
          refine lv_aload hx hb dX12_copy_37 (lv_at hl 1 rfl) ?_
          refine va_get (D := D) (ci := 6) (v := .int (-1)) (C := RX9) (T := TX9) (N := 6) hx hb hts in_X12_copy_X9 hown hE.1 hP 4 rfl rfl 0 (by decide) (hts (.fieldLink RX12 277 "ClauseBook$Sheet" "sort" "I") (List.mem_of_getElem? (i := 2) rfl)) (fun _ h9 => h9) e4_0 dX12_copy_39 ?_
          refine lv_iconst (v := (-1)) hx hb dX12_copy_42 (by decide) ?_
          refine lv_icmp_eq (tgt := 55) hx hb dX12_copy_43 (by decide) (fun _ => ?_) (fun c9 => absurd c9 (by decide))
          refine lv_bipush (v := (-11)) hx hb dX12_copy_55 (by decide) ?_
          exact W.iret hx hb hr (fun t ht hW => ⟨_, rfl, (by first | decide | (unfold sp_copy; (repeat' split) <;> first | rfl | (exfalso; omega))), ht⟩) (fun _ h => by cases h) dX12_copy_57
        · refine va_aldq hx hb hE.1 hP 1 6 rfl rfl (by unfold vp_in; decide) dX12_copy_34 ?_
          refine W.eq (g2 := F0 m 35 ls [.ref h4]) (by rw [show (2 : Int32).toNatClampNeg = 2 from rfl, e1_2]; rfl) ?_
          refine lv_astore (lv' := [(7, .ref h4), (6, .ref h4), (0, .ref h0), (1, .int 2), (2, .int x2), (3, .int 2), (4, .int x4), (5, .int x5)]) hx hb dX12_copy_35 hl (by decide) rfl (fun ls hl => ?_)
          refine lv_aload hx hb dX12_copy_37 (lv_at hl 1 rfl) ?_
          refine va_get (D := D) (ci := 6) (v := .int (-1)) (C := RX9) (T := TX9) (N := 6) hx hb hts in_X12_copy_X9 hown hE.1 hP 4 rfl rfl 0 (by decide) (hts (.fieldLink RX12 277 "ClauseBook$Sheet" "sort" "I") (List.mem_of_getElem? (i := 2) rfl)) (fun _ h9 => h9) e4_0 dX12_copy_39 ?_
          refine lv_iconst (v := (-1)) hx hb dX12_copy_42 (by decide) ?_
          refine lv_icmp_eq (tgt := 55) hx hb dX12_copy_43 (by decide) (fun _ => ?_) (fun c9 => absurd c9 (by decide))
          refine lv_bipush (v := (-11)) hx hb dX12_copy_55 (by decide) ?_
          exact W.iret hx hb hr (fun t ht hW => ⟨_, rfl, (by first | decide | (unfold sp_copy; (repeat' split) <;> first | rfl | (exfalso; omega))), ht⟩) (fun _ h => by cases h) dX12_copy_57
        · refine va_aldq hx hb hE.1 hP 1 6 rfl rfl (by unfold vp_in; decide) dX12_copy_34 ?_
          refine W.eq (g2 := F0 m 35 ls [.ref h5]) (by rw [show (3 : Int32).toNatClampNeg = 3 from rfl, e1_3]; rfl) ?_
          refine lv_astore (lv' := [(7, .ref h5), (6, .ref h4), (0, .ref h0), (1, .int 2), (2, .int x2), (3, .int 3), (4, .int x4), (5, .int x5)]) hx hb dX12_copy_35 hl (by decide) rfl (fun ls hl => ?_)
          refine lv_aload hx hb dX12_copy_37 (lv_at hl 1 rfl) ?_
          refine va_get (D := D) (ci := 6) (v := .int (-1)) (C := RX9) (T := TX9) (N := 6) hx hb hts in_X12_copy_X9 hown hE.1 hP 4 rfl rfl 0 (by decide) (hts (.fieldLink RX12 277 "ClauseBook$Sheet" "sort" "I") (List.mem_of_getElem? (i := 2) rfl)) (fun _ h9 => h9) e4_0 dX12_copy_39 ?_
          refine lv_iconst (v := (-1)) hx hb dX12_copy_42 (by decide) ?_
          refine lv_icmp_eq (tgt := 55) hx hb dX12_copy_43 (by decide) (fun _ => ?_) (fun c9 => absurd c9 (by decide))
          refine lv_bipush (v := (-11)) hx hb dX12_copy_55 (by decide) ?_
          exact W.iret hx hb hr (fun t ht hW => ⟨_, rfl, (by first | decide | (unfold sp_copy; (repeat' split) <;> first | rfl | (exfalso; omega))), ht⟩) (fun _ h => by cases h) dX12_copy_57
      · refine va_aldq hx hb hE.1 hP 1 6 rfl rfl (by unfold vp_in; decide) dX12_copy_26 ?_
        refine W.eq (g2 := F0 m 27 ls [.ref h5]) (by rw [show (3 : Int32).toNatClampNeg = 3 from rfl, e1_3]; rfl) ?_
        refine lv_astore (lv' := [(6, .ref h5), (0, .ref h0), (1, .int 3), (2, .int x2), (3, .int x3), (4, .int x4), (5, .int x5)]) hx hb dX12_copy_27 hl (by decide) rfl (fun ls hl => ?_)
        refine lv_aload_n hx hb dX12_copy_29 rfl (lv_at hl 1 rfl) ?_
        refine va_get (D := D) (ci := 9) (v := .ref h1) (C := RX12) (T := TX12) (N := 11) hx hb hts in_X12_copy_X12 hown hE.1 hP 0 rfl rfl 9 (by decide) (hts (.fieldLink RX12 65 "ClauseBook" "sheets" "[LClauseBook$Sheet;") (List.mem_of_getElem? (i := 1) rfl)) (fun _ h9 => h9) e0_9 dX12_copy_30 ?_
        refine lv_iload_n hx hb dX12_copy_33 rfl (lv_at hl 4 rfl) ?_
        rcases in4 (x := x3) (by omega) with rfl | rfl | rfl | rfl
        · refine va_aldq hx hb hE.1 hP 1 6 rfl rfl (by unfold vp_in; decide) dX12_copy_34 ?_
          refine W.eq (g2 := F0 m 35 ls [.ref h2]) (by rw [show (0 : Int32).toNatClampNeg = 0 from rfl, e1_0]; rfl) ?_
          refine lv_astore (lv' := [(7, .ref h2), (6, .ref h5), (0, .ref h0), (1, .int 3), (2, .int x2), (3, .int 0), (4, .int x4), (5, .int x5)]) hx hb dX12_copy_35 hl (by decide) rfl (fun ls hl => ?_)
          refine lv_aload hx hb dX12_copy_37 (lv_at hl 1 rfl) ?_
          refine va_get (D := D) (ci := 6) (v := .int (-1)) (C := RX9) (T := TX9) (N := 6) hx hb hts in_X12_copy_X9 hown hE.1 hP 5 rfl rfl 0 (by decide) (hts (.fieldLink RX12 277 "ClauseBook$Sheet" "sort" "I") (List.mem_of_getElem? (i := 2) rfl)) (fun _ h9 => h9) e5_0 dX12_copy_39 ?_
          refine lv_iconst (v := (-1)) hx hb dX12_copy_42 (by decide) ?_
          refine lv_icmp_eq (tgt := 55) hx hb dX12_copy_43 (by decide) (fun _ => ?_) (fun c9 => absurd c9 (by decide))
          refine lv_bipush (v := (-11)) hx hb dX12_copy_55 (by decide) ?_
          exact W.iret hx hb hr (fun t ht hW => ⟨_, rfl, (by first | decide | (unfold sp_copy; (repeat' split) <;> first | rfl | (exfalso; omega))), ht⟩) (fun _ h => by cases h) dX12_copy_57
        · refine va_aldq hx hb hE.1 hP 1 6 rfl rfl (by unfold vp_in; decide) dX12_copy_34 ?_
          refine W.eq (g2 := F0 m 35 ls [.ref h3]) (by rw [show (1 : Int32).toNatClampNeg = 1 from rfl, e1_1]; rfl) ?_
          refine lv_astore (lv' := [(7, .ref h3), (6, .ref h5), (0, .ref h0), (1, .int 3), (2, .int x2), (3, .int 1), (4, .int x4), (5, .int x5)]) hx hb dX12_copy_35 hl (by decide) rfl (fun ls hl => ?_)
          refine lv_aload hx hb dX12_copy_37 (lv_at hl 1 rfl) ?_
          refine va_get (D := D) (ci := 6) (v := .int (-1)) (C := RX9) (T := TX9) (N := 6) hx hb hts in_X12_copy_X9 hown hE.1 hP 5 rfl rfl 0 (by decide) (hts (.fieldLink RX12 277 "ClauseBook$Sheet" "sort" "I") (List.mem_of_getElem? (i := 2) rfl)) (fun _ h9 => h9) e5_0 dX12_copy_39 ?_
          refine lv_iconst (v := (-1)) hx hb dX12_copy_42 (by decide) ?_
          refine lv_icmp_eq (tgt := 55) hx hb dX12_copy_43 (by decide) (fun _ => ?_) (fun c9 => absurd c9 (by decide))
          refine lv_bipush (v := (-11)) hx hb dX12_copy_55 (by decide) ?_
          exact W.iret hx hb hr (fun t ht hW => ⟨_, rfl, (by first | decide | (unfold sp_copy; (repeat' split) <;> first | rfl | (exfalso; omega))), ht⟩) (fun _ h => by cases h) dX12_copy_57
        · refine va_aldq hx hb hE.1 hP 1 6 rfl rfl (by unfold vp_in; decide) dX12_copy_34 ?_
          refine W.eq (g2 := F0 m 35 ls [.ref h4]) (by rw [show (2 : Int32).toNatClampNeg = 2 from rfl, e1_2]; rfl) ?_
          refine lv_astore (lv' := [(7, .ref h4), (6, .ref h5), (0, .ref h0), (1, .int 3), (2, .int x2), (3, .int 2), (4, .int x4), (5, .int x5)]) hx hb dX12_copy_35 hl (by decide) rfl (fun ls hl => ?_)
          refine lv_aload hx hb dX12_copy_37 (lv_at hl 1 rfl) ?_
          refine va_get (D := D) (ci := 6) (v := .int (-1)) (C := RX9) (T := TX9) (N := 6) hx hb hts in_X12_copy_X9 hown hE.1 hP 5 rfl rfl 0 (by decide) (hts (.fieldLink RX12 277 "ClauseBook$Sheet" "sort" "I") (List.mem_of_getElem? (i := 2) rfl)) (fun _ h9 => h9) e5_0 dX12_copy_39 ?_
          refine lv_iconst (v := (-1)) hx hb dX12_copy_42 (by decide) ?_
          refine lv_icmp_eq (tgt := 55) hx hb dX12_copy_43 (by decide) (fun _ => ?_) (fun c9 => absurd c9 (by decide))
          refine lv_bipush (v := (-11)) hx hb dX12_copy_55 (by decide) ?_
          exact W.iret hx hb hr (fun t ht hW => ⟨_, rfl, (by first | decide | (unfold sp_copy; (repeat' split) <;> first | rfl | (exfalso; omega))), ht⟩) (fun _ h => by cases h) dX12_copy_57
        · refine va_aldq hx hb hE.1 hP 1 6 rfl rfl (by unfold vp_in; decide) dX12_copy_34 ?_
          refine W.eq (g2 := F0 m 35 ls [.ref h5]) (by rw [show (3 : Int32).toNatClampNeg = 3 from rfl, e1_3]; rfl) ?_
          refine lv_astore (lv' := [(7, .ref h5), (6, .ref h5), (0, .ref h0), (1, .int 3), (2, .int x2), (3, .int 3), (4, .int x4), (5, .int x5)]) hx hb dX12_copy_35 hl (by decide) rfl (fun ls hl => ?_)
          refine lv_aload hx hb dX12_copy_37 (lv_at hl 1 rfl) ?_
          refine va_get (D := D) (ci := 6) (v := .int (-1)) (C := RX9) (T := TX9) (N := 6) hx hb hts in_X12_copy_X9 hown hE.1 hP 5 rfl rfl 0 (by decide) (hts (.fieldLink RX12 277 "ClauseBook$Sheet" "sort" "I") (List.mem_of_getElem? (i := 2) rfl)) (fun _ h9 => h9) e5_0 dX12_copy_39 ?_
          refine lv_iconst (v := (-1)) hx hb dX12_copy_42 (by decide) ?_
          refine lv_icmp_eq (tgt := 55) hx hb dX12_copy_43 (by decide) (fun _ => ?_) (fun c9 => absurd c9 (by decide))
          refine lv_bipush (v := (-11)) hx hb dX12_copy_55 (by decide) ?_
          exact W.iret hx hb hr (fun t ht hW => ⟨_, rfl, (by first | decide | (unfold sp_copy; (repeat' split) <;> first | rfl | (exfalso; omega))), ht⟩) (fun _ h => by cases h) dX12_copy_57
    · refine lv_if_ne (tgt := 21) hx hb dX12_copy_15 (by decide) (fun c9 => absurd c9 (by decide)) (fun _ => ?_)
      refine lv_bipush (v := (-2)) hx hb dX12_copy_18 (by decide) ?_
      exact W.iret hx hb hr (fun t ht hW => ⟨_, rfl, (by first | decide | (unfold sp_copy; (repeat' split) <;> first | rfl | (exfalso; omega))), ht⟩) (fun _ h => by cases h) dX12_copy_20
  · refine lv_if_eq (tgt := 18) hx hb dX12_copy_6 (by decide) (fun _ => ?_) (fun c9 => absurd c9 (by decide))
    refine lv_bipush (v := (-2)) hx hb dX12_copy_18 (by decide) ?_
    exact W.iret hx hb hr (fun t ht hW => ⟨_, rfl, (by first | decide | (unfold sp_copy; (repeat' split) <;> first | rfl | (exfalso; omega))), ht⟩) (fun _ h => by cases h) dX12_copy_20
theorem dX4_fractionFault_0 : decode cX4_fractionFault 0 = .ok (.aload_n 0, 1) := by decide +kernel
theorem dX4_fractionFault_1 : decode cX4_fractionFault 1 = .ok (.getfield 9, 3) := by decide +kernel
theorem dX4_fractionFault_4 : decode cX4_fractionFault 4 = .ok (.ifCond .ne 6, 3) := by decide +kernel
theorem dX4_fractionFault_7 : decode cX4_fractionFault 7 = .ok (.bipush (-11), 2) := by decide +kernel
theorem dX4_fractionFault_9 : decode cX4_fractionFault 9 = .ok (.ireturn, 1) := by decide +kernel
set_option maxRecDepth 20000 in
theorem in_X4_fractionFault_X4 : ∀ w ∈ wsX40, w ∈ wsX4_fractionFault := by decide +kernel
set_option maxHeartbeats 4000000 in
set_option maxRecDepth 100000 in
theorem f_X4_fractionFault (l : Launch) (D : va_G) (T : Nat → ClassId) (h0 : Nat) (fs0 : List Value) (e0_0 : fs0[0]? = some (.int 0)) : Met l yX4_fractionFault wsX4_fractionFault ({ frames := 0, cells := 0, slots := 0, locals := 0 }) (pR [.ref h0] D T [(h0, .inr (3, fs0))]) (vp_Si (fun r => r = -11)) 0 0 (fun _ => False) := by
  refine Met.ofW (cc := cX4_fractionFault) (maxL := 1) (ret := (some .int)) (by decide) rfl ?_
  intro p e s m args below meth c s₁ B hml hv
  obtain ⟨rfl, hP, hE⟩ := hv
  have hx := B.exec
  have hb := B.bytes
  have hr := B.returns
  have hts := atoms_spec (ws := wsX4_fractionFault) B.pre
  have hown : s.vm.findClass RX4 = some m.cls := findClass_of_methodNamed B.named
  have hlocks := B.notSynchronized
  have hP : va_P D vwCl [(h0, .inr (3, fs0))] s.heap := hP
  have hl := lv_entry ([.ref h0]) (n := 1) (Nat.le_of_ble_eq_true rfl)
  rw [lg_entry_eq]
  generalize (lg_sl ([.ref h0]) ++ List.replicate (1 - (lg_sl ([.ref h0])).length) Slot.unset).toArray = ls at hl ⊢
  have hl : lv_has ls 1 [(0, .ref h0)] := hl
  refine lv_aload_n hx hb dX4_fractionFault_0 rfl (lv_at hl 0 rfl) ?_
  refine va_get (D := D) (ci := 3) (v := .int 0) (C := RX4) (T := TX4) (N := 4) hx hb hts in_X4_fractionFault_X4 hown hE.1 hP 0 rfl rfl 0 (by decide) (hts (.fieldLink RX4 9 "ClauseBook$Hand" "sort" "I") (List.mem_of_getElem? (i := 1) rfl)) (fun _ h9 => h9) e0_0 dX4_fractionFault_1 ?_
  refine lv_if_ne (tgt := 10) hx hb dX4_fractionFault_4 (by decide) (fun c9 => absurd c9 (by decide)) (fun _ => ?_)
  refine lv_bipush (v := (-11)) hx hb dX4_fractionFault_7 (by decide) ?_
  exact W.iret hx hb hr (fun t ht hW => ⟨_, rfl, rfl, ht⟩) (fun _ h => by cases h) dX4_fractionFault_9
theorem dX12_asClause_0 : decode cX12_asClause 0 = .ok (.iload_n 1, 1) := by decide +kernel
theorem dX12_asClause_1 : decode cX12_asClause 1 = .ok (.invokestatic 352, 3) := by decide +kernel
theorem dX12_asClause_10 : decode cX12_asClause 10 = .ok (.invokestatic 77, 3) := by decide +kernel
theorem dX12_asClause_13 : decode cX12_asClause 13 = .ok (.ifCond .ne 6, 3) := by decide +kernel
theorem dX12_asClause_16 : decode cX12_asClause 16 = .ok (.bipush (-2), 2) := by decide +kernel
theorem dX12_asClause_18 : decode cX12_asClause 18 = .ok (.ireturn, 1) := by decide +kernel
theorem dX12_asClause_19 : decode cX12_asClause 19 = .ok (.aload_n 0, 1) := by decide +kernel
theorem dX12_asClause_20 : decode cX12_asClause 20 = .ok (.getfield 71, 3) := by decide +kernel
theorem dX12_asClause_23 : decode cX12_asClause 23 = .ok (.iload_n 1, 1) := by decide +kernel
theorem dX12_asClause_24 : decode cX12_asClause 24 = .ok (.aaload, 1) := by decide +kernel
theorem dX12_asClause_25 : decode cX12_asClause 25 = .ok (.astore_n 3, 1) := by decide +kernel
theorem dX12_asClause_26 : decode cX12_asClause 26 = .ok (.aload_n 3, 1) := by decide +kernel
theorem dX12_asClause_27 : decode cX12_asClause 27 = .ok (.getfield 359, 3) := by decide +kernel
theorem dX12_asClause_30 : decode cX12_asClause 30 = .ok (.ifCond .ne 6, 3) := by decide +kernel
theorem dX12_asClause_33 : decode cX12_asClause 33 = .ok (.bipush (-11), 2) := by decide +kernel
theorem dX12_asClause_35 : decode cX12_asClause 35 = .ok (.ireturn, 1) := by decide +kernel
theorem dX12_asClause_4 : decode cX12_asClause 4 = .ok (.ifCond .eq 12, 3) := by decide +kernel
theorem dX12_asClause_7 : decode cX12_asClause 7 = .ok (.iload_n 2, 1) := by decide +kernel
theorem dX12_asClause_8 : decode cX12_asClause 8 = .ok (.iconst 0, 1) := by decide +kernel
theorem dX12_asClause_9 : decode cX12_asClause 9 = .ok (.iconst 3, 1) := by decide +kernel
set_option maxRecDepth 20000 in
theorem ggX12_asClause_X12_isHand : GoodIn wsX12_asClause wsX12_isHand := goodIn_r _ [10, 11, 12, 9, 13] (by decide +kernel) (by decide +kernel)
set_option maxRecDepth 20000 in
theorem ggX12_asClause_X12_within : GoodIn wsX12_asClause wsX12_within := goodIn_r _ [13] (by decide +kernel) (by decide +kernel)
set_option maxRecDepth 20000 in
theorem gX12_asClause_X12_isHand : GoodIn wsX12_asClause (va_wsS RX12 352 yX12_isHand wsX12_isHand) := goodIn_app (goodIn_of _ (by decide +kernel)) ggX12_asClause_X12_isHand
set_option maxRecDepth 20000 in
theorem gX12_asClause_X12_within : GoodIn wsX12_asClause (va_wsS RX12 77 yX12_within wsX12_within) := goodIn_app (goodIn_of _ (by decide +kernel)) ggX12_asClause_X12_within
set_option maxRecDepth 20000 in
theorem in_X12_asClause_X12 : ∀ w ∈ wsX120, w ∈ wsX12_asClause := by decide +kernel
set_option maxRecDepth 20000 in
theorem in_X12_asClause_X4 : ∀ w ∈ wsX40, w ∈ wsX12_asClause := by decide +kernel
set_option maxHeartbeats 4000000 in
set_option maxRecDepth 100000 in
theorem f_X12_asClause (l : Launch) (D : va_G) (T : Nat → ClassId) (h0 : Nat) (fs0 : List Value) (h1 : Nat) (f1 : Nat → Option Nat) (h2 : Nat) (fs2 : List Value) (h3 : Nat) (fs3 : List Value) (h4 : Nat) (fs4 : List Value) (h5 : Nat) (fs5 : List Value) (x1 : Int32) (x2 : Int32) (e0_10 : fs0[10]? = some (.ref h1)) (e1_0 : f1 0 = some h2) (e1_1 : f1 1 = some h3) (e1_2 : f1 2 = some h4) (e1_3 : f1 3 = some h5) (e2_0 : fs2[0]? = some (.int 0)) (e3_0 : fs3[0]? = some (.int 0)) (e4_0 : fs4[0]? = some (.int 0)) (e5_0 : fs5[0]? = some (.int 0)) : Met l yX12_asClause wsX12_asClause ({ frames := 2, cells := 0, slots := 0, locals := 42 }) (pR [.ref h0, .int x1, .int x2] D T [(h0, .inr (9, fs0)), (h1, .inl (T 7, 4, .inr (.inr (.inr (.inr f1))))), (h2, .inr (3, fs2)), (h3, .inr (3, fs3)), (h4, .inr (3, fs4)), (h5, .inr (3, fs5))]) (vp_Si (fun r => r = sp_asClause x1 x2)) 0 0 (fun _ => False) := by
  refine Met.ofW (cc := cX12_asClause) (maxL := 4) (ret := (some .int)) (by decide) rfl ?_
  intro p e s m args below meth c s₁ B hml hv
  obtain ⟨rfl, hP, hE⟩ := hv
  have hx := B.exec
  have hb := B.bytes
  have hr := B.returns
  have hts := atoms_spec (ws := wsX12_asClause) B.pre
  have hown : s.vm.findClass RX12 = some m.cls := findClass_of_methodNamed B.named
  have hlocks := B.notSynchronized
  have hP : va_P D vwCl [(h0, .inr (9, fs0)), (h1, .inl (T 7, 4, .inr (.inr (.inr (.inr f1))))), (h2, .inr (3, fs2)), (h3, .inr (3, fs3)), (h4, .inr (3, fs4)), (h5, .inr (3, fs5))] s.heap := hP
  have hl := lv_entry ([.ref h0, .int x1, .int x2]) (n := 4) (Nat.le_of_ble_eq_true rfl)
  rw [lg_entry_eq]
  generalize (lg_sl ([.ref h0, .int x1, .int x2]) ++ List.replicate (4 - (lg_sl ([.ref h0, .int x1, .int x2])).length) Slot.unset).toArray = ls at hl ⊢
  have hl : lv_has ls 4 [(0, .ref h0), (1, .int x1), (2, .int x2)] := hl
  refine lv_iload_n hx hb dX12_asClause_0 rfl (lv_at hl 1 rfl) ?_
  refine vp_callSi (W.runS (As := [.int x1]) (rest := []) ⟨hx, hb, hml, hown, hts⟩ (c_X12_isHand l D T x1) (va_cwS 1 hts gX12_asClause_X12_isHand rfl rfl rfl (by decide +kernel) ⟨Nat.le_of_ble_eq_true rfl, Nat.le_of_ble_eq_true rfl⟩) (pR_S hP hE [] rfl) rfl rfl hl.1 rfl (lv_room (Nat.le_of_ble_eq_true rfl)) dX12_asClause_1 ⟨Nat.le_of_ble_eq_true rfl, Nat.le_of_ble_eq_true rfl⟩) (fun r_1 hr_1 => ?_)
  rcases bool_post hr_1 with ⟨c_2, rfl⟩ | ⟨c_2, rfl⟩
  · refine lv_if_eq (tgt := 16) hx hb dX12_asClause_4 (by decide) (fun c9 => absurd c9 (by decide)) (fun _ => ?_)
    refine lv_iload_n hx hb dX12_asClause_7 rfl (lv_at hl 2 rfl) ?_
    refine lv_iconst (v := 0) hx hb dX12_asClause_8 (by decide) ?_
    refine lv_iconst (v := 3) hx hb dX12_asClause_9 (by decide) ?_
    refine vp_callSi (W.runS (As := [.int x2, .int 0, .int 3]) (rest := []) ⟨hx, hb, hml, hown, hts⟩ (c_X12_within l D T x2 0 3 0 3 (by decide) (by decide)) (va_cwS 3 hts gX12_asClause_X12_within rfl rfl rfl (by decide +kernel) ⟨Nat.le_of_ble_eq_true rfl, Nat.le_of_ble_eq_true rfl⟩) (pR_S hP hE [] rfl) rfl rfl hl.1 rfl (lv_room (Nat.le_of_ble_eq_true rfl)) dX12_asClause_10 ⟨Nat.le_of_ble_eq_true rfl, Nat.le_of_ble_eq_true rfl⟩) (fun r_3 hr_3 => ?_)
    rcases bool_post hr_3 with ⟨c_4, rfl⟩ | ⟨c_4, rfl⟩
    · refine lv_if_ne (tgt := 19) hx hb dX12_asClause_13 (by decide) (fun _ => ?_) (fun c9 => absurd c9 (by decide))
      refine lv_aload_n hx hb dX12_asClause_19 rfl (lv_at hl 0 rfl) ?_
      refine va_get (D := D) (ci := 9) (v := .ref h1) (C := RX12) (T := TX12) (N := 11) hx hb hts in_X12_asClause_X12 hown hE.1 hP 0 rfl rfl 10 (by decide) (hts (.fieldLink RX12 71 "ClauseBook" "hands" "[LClauseBook$Hand;") (List.mem_of_getElem? (i := 1) rfl)) (fun _ h9 => h9) e0_10 dX12_asClause_20 ?_
      refine lv_iload_n hx hb dX12_asClause_23 rfl (lv_at hl 1 rfl) ?_
      rcases in4 (x := x1) (by omega) with rfl | rfl | rfl | rfl
      · refine va_aldq hx hb hE.1 hP 1 7 rfl rfl (by unfold vp_in; decide) dX12_asClause_24 ?_
        refine W.eq (g2 := F0 m 25 ls [.ref h2]) (by rw [show (0 : Int32).toNatClampNeg = 0 from rfl, e1_0]; rfl) ?_
        refine lv_astore_n (lv' := [(3, .ref h2), (0, .ref h0), (1, .int 0), (2, .int x2)]) hx hb dX12_asClause_25 rfl hl (by decide) rfl (fun ls hl => ?_)
        refine lv_aload_n hx hb dX12_asClause_26 rfl (lv_at hl 0 rfl) ?_
        refine va_get (D := D) (ci := 3) (v := .int 0) (C := RX4) (T := TX4) (N := 4) hx hb hts in_X12_asClause_X4 hown hE.1 hP 2 rfl rfl 0 (by decide) (hts (.fieldLink RX12 359 "ClauseBook$Hand" "sort" "I") (List.mem_of_getElem? (i := 2) rfl)) (fun _ h9 => h9) e2_0 dX12_asClause_27 ?_
        refine lv_if_ne (tgt := 36) hx hb dX12_asClause_30 (by decide) (fun c9 => absurd c9 (by decide)) (fun _ => ?_)
        refine lv_bipush (v := (-11)) hx hb dX12_asClause_33 (by decide) ?_
        exact W.iret hx hb hr (fun t ht hW => ⟨_, rfl, (by first | decide | (unfold sp_asClause; (repeat' split) <;> first | rfl | (exfalso; omega))), ht⟩) (fun _ h => by cases h) dX12_asClause_35
      · refine va_aldq hx hb hE.1 hP 1 7 rfl rfl (by unfold vp_in; decide) dX12_asClause_24 ?_
        refine W.eq (g2 := F0 m 25 ls [.ref h3]) (by rw [show (1 : Int32).toNatClampNeg = 1 from rfl, e1_1]; rfl) ?_
        refine lv_astore_n (lv' := [(3, .ref h3), (0, .ref h0), (1, .int 1), (2, .int x2)]) hx hb dX12_asClause_25 rfl hl (by decide) rfl (fun ls hl => ?_)
        refine lv_aload_n hx hb dX12_asClause_26 rfl (lv_at hl 0 rfl) ?_
        refine va_get (D := D) (ci := 3) (v := .int 0) (C := RX4) (T := TX4) (N := 4) hx hb hts in_X12_asClause_X4 hown hE.1 hP 3 rfl rfl 0 (by decide) (hts (.fieldLink RX12 359 "ClauseBook$Hand" "sort" "I") (List.mem_of_getElem? (i := 2) rfl)) (fun _ h9 => h9) e3_0 dX12_asClause_27 ?_
        refine lv_if_ne (tgt := 36) hx hb dX12_asClause_30 (by decide) (fun c9 => absurd c9 (by decide)) (fun _ => ?_)
        refine lv_bipush (v := (-11)) hx hb dX12_asClause_33 (by decide) ?_
        exact W.iret hx hb hr (fun t ht hW => ⟨_, rfl, (by first | decide | (unfold sp_asClause; (repeat' split) <;> first | rfl | (exfalso; omega))), ht⟩) (fun _ h => by cases h) dX12_asClause_35
      · refine va_aldq hx hb hE.1 hP 1 7 rfl rfl (by unfold vp_in; decide) dX12_asClause_24 ?_
        refine W.eq (g2 := F0 m 25 ls [.ref h4]) (by rw [show (2 : Int32).toNatClampNeg = 2 from rfl, e1_2]; rfl) ?_
        refine lv_astore_n (lv' := [(3, .ref h4), (0, .ref h0), (1, .int 2), (2, .int x2)]) hx hb dX12_asClause_25 rfl hl (by decide) rfl (fun ls hl => ?_)
        refine lv_aload_n hx hb dX12_asClause_26 rfl (lv_at hl 0 rfl) ?_
        refine va_get (D := D) (ci := 3) (v := .int 0) (C := RX4) (T := TX4) (N := 4) hx hb hts in_X12_asClause_X4 hown hE.1 hP 4 rfl rfl 0 (by decide) (hts (.fieldLink RX12 359 "ClauseBook$Hand" "sort" "I") (List.mem_of_getElem? (i := 2) rfl)) (fun _ h9 => h9) e4_0 dX12_asClause_27 ?_
        refine lv_if_ne (tgt := 36) hx hb dX12_asClause_30 (by decide) (fun c9 => absurd c9 (by decide)) (fun _ => ?_)
        refine lv_bipush (v := (-11)) hx hb dX12_asClause_33 (by decide) ?_
        exact W.iret hx hb hr (fun t ht hW => ⟨_, rfl, (by first | decide | (unfold sp_asClause; (repeat' split) <;> first | rfl | (exfalso; omega))), ht⟩) (fun _ h => by cases h) dX12_asClause_35
      · refine va_aldq hx hb hE.1 hP 1 7 rfl rfl (by unfold vp_in; decide) dX12_asClause_24 ?_
        refine W.eq (g2 := F0 m 25 ls [.ref h5]) (by rw [show (3 : Int32).toNatClampNeg = 3 from rfl, e1_3]; rfl) ?_
        refine lv_astore_n (lv' := [(3, .ref h5), (0, .ref h0), (1, .int 3), (2, .int x2)]) hx hb dX12_asClause_25 rfl hl (by decide) rfl (fun ls hl => ?_)
        refine lv_aload_n hx hb dX12_asClause_26 rfl (lv_at hl 0 rfl) ?_
        refine va_get (D := D) (ci := 3) (v := .int 0) (C := RX4) (T := TX4) (N := 4) hx hb hts in_X12_asClause_X4 hown hE.1 hP 5 rfl rfl 0 (by decide) (hts (.fieldLink RX12 359 "ClauseBook$Hand" "sort" "I") (List.mem_of_getElem? (i := 2) rfl)) (fun _ h9 => h9) e5_0 dX12_asClause_27 ?_
        refine lv_if_ne (tgt := 36) hx hb dX12_asClause_30 (by decide) (fun c9 => absurd c9 (by decide)) (fun _ => ?_)
        refine lv_bipush (v := (-11)) hx hb dX12_asClause_33 (by decide) ?_
        exact W.iret hx hb hr (fun t ht hW => ⟨_, rfl, (by first | decide | (unfold sp_asClause; (repeat' split) <;> first | rfl | (exfalso; omega))), ht⟩) (fun _ h => by cases h) dX12_asClause_35
    · refine lv_if_ne (tgt := 19) hx hb dX12_asClause_13 (by decide) (fun c9 => absurd c9 (by decide)) (fun _ => ?_)
      refine lv_bipush (v := (-2)) hx hb dX12_asClause_16 (by decide) ?_
      exact W.iret hx hb hr (fun t ht hW => ⟨_, rfl, (by first | decide | (unfold sp_asClause; (repeat' split) <;> first | rfl | (exfalso; omega))), ht⟩) (fun _ h => by cases h) dX12_asClause_18
  · refine lv_if_eq (tgt := 16) hx hb dX12_asClause_4 (by decide) (fun _ => ?_) (fun c9 => absurd c9 (by decide))
    refine lv_bipush (v := (-2)) hx hb dX12_asClause_16 (by decide) ?_
    exact W.iret hx hb hr (fun t ht hW => ⟨_, rfl, (by first | decide | (unfold sp_asClause; (repeat' split) <;> first | rfl | (exfalso; omega))), ht⟩) (fun _ h => by cases h) dX12_asClause_18
theorem dX12_asFraction_0 : decode cX12_asFraction 0 = .ok (.iload_n 1, 1) := by decide +kernel
theorem dX12_asFraction_1 : decode cX12_asFraction 1 = .ok (.invokestatic 352, 3) := by decide +kernel
theorem dX12_asFraction_10 : decode cX12_asFraction 10 = .ok (.invokestatic 77, 3) := by decide +kernel
theorem dX12_asFraction_13 : decode cX12_asFraction 13 = .ok (.ifCond .ne 7, 3) := by decide +kernel
theorem dX12_asFraction_16 : decode cX12_asFraction 16 = .ok (.ldc2_w 183, 3) := by decide +kernel
theorem dX12_asFraction_19 : decode cX12_asFraction 19 = .ok (.lreturn, 1) := by decide +kernel
theorem dX12_asFraction_20 : decode cX12_asFraction 20 = .ok (.aload_n 0, 1) := by decide +kernel
theorem dX12_asFraction_21 : decode cX12_asFraction 21 = .ok (.getfield 71, 3) := by decide +kernel
theorem dX12_asFraction_24 : decode cX12_asFraction 24 = .ok (.iload_n 1, 1) := by decide +kernel
theorem dX12_asFraction_25 : decode cX12_asFraction 25 = .ok (.aaload, 1) := by decide +kernel
theorem dX12_asFraction_26 : decode cX12_asFraction 26 = .ok (.invokevirtual 373, 3) := by decide +kernel
theorem dX12_asFraction_29 : decode cX12_asFraction 29 = .ok (.istore_n 3, 1) := by decide +kernel
theorem dX12_asFraction_30 : decode cX12_asFraction 30 = .ok (.iload_n 3, 1) := by decide +kernel
theorem dX12_asFraction_31 : decode cX12_asFraction 31 = .ok (.ifCond .eq 10, 3) := by decide +kernel
theorem dX12_asFraction_34 : decode cX12_asFraction 34 = .ok (.ldc2_w 324, 3) := by decide +kernel
theorem dX12_asFraction_37 : decode cX12_asFraction 37 = .ok (.iload_n 3, 1) := by decide +kernel
theorem dX12_asFraction_38 : decode cX12_asFraction 38 = .ok (.i2l, 1) := by decide +kernel
theorem dX12_asFraction_39 : decode cX12_asFraction 39 = .ok (.ladd, 1) := by decide +kernel
theorem dX12_asFraction_4 : decode cX12_asFraction 4 = .ok (.ifCond .eq 12, 3) := by decide +kernel
theorem dX12_asFraction_40 : decode cX12_asFraction 40 = .ok (.lreturn, 1) := by decide +kernel
theorem dX12_asFraction_7 : decode cX12_asFraction 7 = .ok (.iload_n 2, 1) := by decide +kernel
theorem dX12_asFraction_8 : decode cX12_asFraction 8 = .ok (.iconst 0, 1) := by decide +kernel
theorem dX12_asFraction_9 : decode cX12_asFraction 9 = .ok (.iconst 1, 1) := by decide +kernel
set_option maxRecDepth 20000 in
theorem ggX12_asFraction_X12_isHand : GoodIn wsX12_asFraction wsX12_isHand := goodIn_r _ [9, 10, 11, 8, 12] (by decide +kernel) (by decide +kernel)
set_option maxRecDepth 20000 in
theorem ggX12_asFraction_X12_within : GoodIn wsX12_asFraction wsX12_within := goodIn_r _ [12] (by decide +kernel) (by decide +kernel)
set_option maxRecDepth 20000 in
theorem ggX12_asFraction_X4_fractionFault : GoodIn wsX12_asFraction wsX4_fractionFault := goodIn_r _ [17, 18, 30, 31, 32, 33] (by decide +kernel) (by decide +kernel)
set_option maxRecDepth 20000 in
theorem gX12_asFraction_X12_isHand : GoodIn wsX12_asFraction (va_wsS RX12 352 yX12_isHand wsX12_isHand) := goodIn_app (goodIn_of _ (by decide +kernel)) ggX12_asFraction_X12_isHand
set_option maxRecDepth 20000 in
theorem gX12_asFraction_X12_within : GoodIn wsX12_asFraction (va_wsS RX12 77 yX12_within wsX12_within) := goodIn_app (goodIn_of _ (by decide +kernel)) ggX12_asFraction_X12_within
set_option maxRecDepth 20000 in
theorem gX12_asFraction_X4_fractionFault : GoodIn wsX12_asFraction (wsV RX12 373 RX4 yX4_fractionFault wsX4_fractionFault) := goodIn_app (goodIn_of _ (by decide +kernel)) ggX12_asFraction_X4_fractionFault
set_option maxRecDepth 20000 in
theorem in_X12_asFraction_X12 : ∀ w ∈ wsX120, w ∈ wsX12_asFraction := by decide +kernel
set_option maxHeartbeats 4000000 in
set_option maxRecDepth 100000 in
theorem f_X12_asFraction (l : Launch) (D : va_G) (T : Nat → ClassId) (h0 : Nat) (fs0 : List Value) (h1 : Nat) (f1 : Nat → Option Nat) (h2 : Nat) (fs2 : List Value) (h3 : Nat) (fs3 : List Value) (h4 : Nat) (fs4 : List Value) (h5 : Nat) (fs5 : List Value) (x1 : Int32) (x2 : Int32) (e0_10 : fs0[10]? = some (.ref h1)) (e1_0 : f1 0 = some h2) (e1_1 : f1 1 = some h3) (e1_2 : f1 2 = some h4) (e1_3 : f1 3 = some h5) (e2_0 : fs2[0]? = some (.int 0)) (e3_0 : fs3[0]? = some (.int 0)) (e4_0 : fs4[0]? = some (.int 0)) (e5_0 : fs5[0]? = some (.int 0)) : Met l yX12_asFraction wsX12_asFraction ({ frames := 2, cells := 0, slots := 0, locals := 42 }) (pR [.ref h0, .int x1, .int x2] D T [(h0, .inr (9, fs0)), (h1, .inl (T 7, 4, .inr (.inr (.inr (.inr f1))))), (h2, .inr (3, fs2)), (h3, .inr (3, fs3)), (h4, .inr (3, fs4)), (h5, .inr (3, fs5))]) (vp_Sl (fun r => r = sp_asFraction x1 x2)) 0 0 (fun _ => False) := by
  refine Met.ofW (cc := cX12_asFraction) (maxL := 4) (ret := (some .long)) (by decide) rfl ?_
  intro p e s m args below meth c s₁ B hml hv
  obtain ⟨rfl, hP, hE⟩ := hv
  have hx := B.exec
  have hb := B.bytes
  have hr := B.returns
  have hts := atoms_spec (ws := wsX12_asFraction) B.pre
  have hown : s.vm.findClass RX12 = some m.cls := findClass_of_methodNamed B.named
  have hlocks := B.notSynchronized
  have hP : va_P D vwCl [(h0, .inr (9, fs0)), (h1, .inl (T 7, 4, .inr (.inr (.inr (.inr f1))))), (h2, .inr (3, fs2)), (h3, .inr (3, fs3)), (h4, .inr (3, fs4)), (h5, .inr (3, fs5))] s.heap := hP
  have hl := lv_entry ([.ref h0, .int x1, .int x2]) (n := 4) (Nat.le_of_ble_eq_true rfl)
  rw [lg_entry_eq]
  generalize (lg_sl ([.ref h0, .int x1, .int x2]) ++ List.replicate (4 - (lg_sl ([.ref h0, .int x1, .int x2])).length) Slot.unset).toArray = ls at hl ⊢
  have hl : lv_has ls 4 [(0, .ref h0), (1, .int x1), (2, .int x2)] := hl
  refine lv_iload_n hx hb dX12_asFraction_0 rfl (lv_at hl 1 rfl) ?_
  refine vp_callSi (W.runS (As := [.int x1]) (rest := []) ⟨hx, hb, hml, hown, hts⟩ (c_X12_isHand l D T x1) (va_cwS 1 hts gX12_asFraction_X12_isHand rfl rfl rfl (by decide +kernel) ⟨Nat.le_of_ble_eq_true rfl, Nat.le_of_ble_eq_true rfl⟩) (pR_S hP hE [] rfl) rfl rfl hl.1 rfl (lv_room (Nat.le_of_ble_eq_true rfl)) dX12_asFraction_1 ⟨Nat.le_of_ble_eq_true rfl, Nat.le_of_ble_eq_true rfl⟩) (fun r_1 hr_1 => ?_)
  rcases bool_post hr_1 with ⟨c_2, rfl⟩ | ⟨c_2, rfl⟩
  · refine lv_if_eq (tgt := 16) hx hb dX12_asFraction_4 (by decide) (fun c9 => absurd c9 (by decide)) (fun _ => ?_)
    refine lv_iload_n hx hb dX12_asFraction_7 rfl (lv_at hl 2 rfl) ?_
    refine lv_iconst (v := 0) hx hb dX12_asFraction_8 (by decide) ?_
    refine lv_iconst (v := 1) hx hb dX12_asFraction_9 (by decide) ?_
    refine vp_callSi (W.runS (As := [.int x2, .int 0, .int 1]) (rest := []) ⟨hx, hb, hml, hown, hts⟩ (c_X12_within l D T x2 0 1 0 1 (by decide) (by decide)) (va_cwS 3 hts gX12_asFraction_X12_within rfl rfl rfl (by decide +kernel) ⟨Nat.le_of_ble_eq_true rfl, Nat.le_of_ble_eq_true rfl⟩) (pR_S hP hE [] rfl) rfl rfl hl.1 rfl (lv_room (Nat.le_of_ble_eq_true rfl)) dX12_asFraction_10 ⟨Nat.le_of_ble_eq_true rfl, Nat.le_of_ble_eq_true rfl⟩) (fun r_3 hr_3 => ?_)
    rcases bool_post hr_3 with ⟨c_4, rfl⟩ | ⟨c_4, rfl⟩
    · refine lv_if_ne (tgt := 20) hx hb dX12_asFraction_13 (by decide) (fun _ => ?_) (fun c9 => absurd c9 (by decide))
      refine lv_aload_n hx hb dX12_asFraction_20 rfl (lv_at hl 0 rfl) ?_
      refine va_get (D := D) (ci := 9) (v := .ref h1) (C := RX12) (T := TX12) (N := 11) hx hb hts in_X12_asFraction_X12 hown hE.1 hP 0 rfl rfl 10 (by decide) (hts (.fieldLink RX12 71 "ClauseBook" "hands" "[LClauseBook$Hand;") (List.mem_of_getElem? (i := 2) rfl)) (fun _ h9 => h9) e0_10 dX12_asFraction_21 ?_
      refine lv_iload_n hx hb dX12_asFraction_24 rfl (lv_at hl 1 rfl) ?_
      rcases in4 (x := x1) (by omega) with rfl | rfl | rfl | rfl
      · refine va_aldq hx hb hE.1 hP 1 7 rfl rfl (by unfold vp_in; decide) dX12_asFraction_25 ?_
        refine W.eq (g2 := F0 m 26 ls [.ref h2]) (by rw [show (0 : Int32).toNatClampNeg = 0 from rfl, e1_0]; rfl) ?_
        refine vp_callSi (W.runV (As := []) (rest := []) ⟨hx, hb, hml, hown, hts⟩ (f_X4_fractionFault l D T h2 fs2 e2_0) (cwV 0 hts gX12_asFraction_X4_fractionFault rfl rfl rfl (by decide +kernel) ⟨Nat.le_of_ble_eq_true rfl, Nat.le_of_ble_eq_true rfl⟩) (pR_V (ci := 3) (q0 := 2) hP hE rfl rfl [2] rfl) rfl rfl hl.1 rfl (lv_room (Nat.le_of_ble_eq_true rfl)) dX12_asFraction_26 ⟨Nat.le_of_ble_eq_true rfl, Nat.le_of_ble_eq_true rfl⟩) (fun r_5 hr_5 => ?_)
        obtain rfl : r_5 = (-11) := hr_5
        refine lv_istore_n (lv' := [(3, .int (-11)), (0, .ref h0), (1, .int 0), (2, .int x2)]) hx hb dX12_asFraction_29 rfl hl (by decide) rfl (fun ls hl => ?_)
        refine lv_iload_n hx hb dX12_asFraction_30 rfl (lv_at hl 0 rfl) ?_
        refine lv_if_eq (tgt := 41) hx hb dX12_asFraction_31 (by decide) (fun c9 => absurd c9 (by decide)) (fun _ => ?_)
        refine lv_ldc2 (v := (-4611686018427387904)) hx hb hown (hts (.constantLong RX12 324 (-4611686018427387904)) (List.mem_of_getElem? (i := 3) rfl)) dX12_asFraction_34 ?_
        refine lv_iload_n hx hb dX12_asFraction_37 rfl (lv_at hl 0 rfl) ?_
        refine lv_i2l (v := (-11)) hx hb dX12_asFraction_38 (by decide) ?_
        refine lv_ladd hx hb dX12_asFraction_39 ?_
        refine lv_topl (fun z_6 ez_6 => ?_)
        obtain rfl : z_6 = (-4611686018427387915) := ez_6.trans (by decide)
        exact W.lret hx hb hr (fun t ht hW => ⟨_, rfl, (by first | decide | (unfold sp_asFraction; (repeat' split) <;> first | rfl | (exfalso; omega))), ht⟩) (fun _ h => by cases h) dX12_asFraction_40
      · refine va_aldq hx hb hE.1 hP 1 7 rfl rfl (by unfold vp_in; decide) dX12_asFraction_25 ?_
        refine W.eq (g2 := F0 m 26 ls [.ref h3]) (by rw [show (1 : Int32).toNatClampNeg = 1 from rfl, e1_1]; rfl) ?_
        refine vp_callSi (W.runV (As := []) (rest := []) ⟨hx, hb, hml, hown, hts⟩ (f_X4_fractionFault l D T h3 fs3 e3_0) (cwV 0 hts gX12_asFraction_X4_fractionFault rfl rfl rfl (by decide +kernel) ⟨Nat.le_of_ble_eq_true rfl, Nat.le_of_ble_eq_true rfl⟩) (pR_V (ci := 3) (q0 := 3) hP hE rfl rfl [3] rfl) rfl rfl hl.1 rfl (lv_room (Nat.le_of_ble_eq_true rfl)) dX12_asFraction_26 ⟨Nat.le_of_ble_eq_true rfl, Nat.le_of_ble_eq_true rfl⟩) (fun r_7 hr_7 => ?_)
        obtain rfl : r_7 = (-11) := hr_7
        refine lv_istore_n (lv' := [(3, .int (-11)), (0, .ref h0), (1, .int 1), (2, .int x2)]) hx hb dX12_asFraction_29 rfl hl (by decide) rfl (fun ls hl => ?_)
        refine lv_iload_n hx hb dX12_asFraction_30 rfl (lv_at hl 0 rfl) ?_
        refine lv_if_eq (tgt := 41) hx hb dX12_asFraction_31 (by decide) (fun c9 => absurd c9 (by decide)) (fun _ => ?_)
        refine lv_ldc2 (v := (-4611686018427387904)) hx hb hown (hts (.constantLong RX12 324 (-4611686018427387904)) (List.mem_of_getElem? (i := 3) rfl)) dX12_asFraction_34 ?_
        refine lv_iload_n hx hb dX12_asFraction_37 rfl (lv_at hl 0 rfl) ?_
        refine lv_i2l (v := (-11)) hx hb dX12_asFraction_38 (by decide) ?_
        refine lv_ladd hx hb dX12_asFraction_39 ?_
        refine lv_topl (fun z_8 ez_8 => ?_)
        obtain rfl : z_8 = (-4611686018427387915) := ez_8.trans (by decide)
        exact W.lret hx hb hr (fun t ht hW => ⟨_, rfl, (by first | decide | (unfold sp_asFraction; (repeat' split) <;> first | rfl | (exfalso; omega))), ht⟩) (fun _ h => by cases h) dX12_asFraction_40
      · refine va_aldq hx hb hE.1 hP 1 7 rfl rfl (by unfold vp_in; decide) dX12_asFraction_25 ?_
        refine W.eq (g2 := F0 m 26 ls [.ref h4]) (by rw [show (2 : Int32).toNatClampNeg = 2 from rfl, e1_2]; rfl) ?_
        refine vp_callSi (W.runV (As := []) (rest := []) ⟨hx, hb, hml, hown, hts⟩ (f_X4_fractionFault l D T h4 fs4 e4_0) (cwV 0 hts gX12_asFraction_X4_fractionFault rfl rfl rfl (by decide +kernel) ⟨Nat.le_of_ble_eq_true rfl, Nat.le_of_ble_eq_true rfl⟩) (pR_V (ci := 3) (q0 := 4) hP hE rfl rfl [4] rfl) rfl rfl hl.1 rfl (lv_room (Nat.le_of_ble_eq_true rfl)) dX12_asFraction_26 ⟨Nat.le_of_ble_eq_true rfl, Nat.le_of_ble_eq_true rfl⟩) (fun r_9 hr_9 => ?_)
        obtain rfl : r_9 = (-11) := hr_9
        refine lv_istore_n (lv' := [(3, .int (-11)), (0, .ref h0), (1, .int 2), (2, .int x2)]) hx hb dX12_asFraction_29 rfl hl (by decide) rfl (fun ls hl => ?_)
        refine lv_iload_n hx hb dX12_asFraction_30 rfl (lv_at hl 0 rfl) ?_
        refine lv_if_eq (tgt := 41) hx hb dX12_asFraction_31 (by decide) (fun c9 => absurd c9 (by decide)) (fun _ => ?_)
        refine lv_ldc2 (v := (-4611686018427387904)) hx hb hown (hts (.constantLong RX12 324 (-4611686018427387904)) (List.mem_of_getElem? (i := 3) rfl)) dX12_asFraction_34 ?_
        refine lv_iload_n hx hb dX12_asFraction_37 rfl (lv_at hl 0 rfl) ?_
        refine lv_i2l (v := (-11)) hx hb dX12_asFraction_38 (by decide) ?_
        refine lv_ladd hx hb dX12_asFraction_39 ?_
        refine lv_topl (fun z_10 ez_10 => ?_)
        obtain rfl : z_10 = (-4611686018427387915) := ez_10.trans (by decide)
        exact W.lret hx hb hr (fun t ht hW => ⟨_, rfl, (by first | decide | (unfold sp_asFraction; (repeat' split) <;> first | rfl | (exfalso; omega))), ht⟩) (fun _ h => by cases h) dX12_asFraction_40
      · refine va_aldq hx hb hE.1 hP 1 7 rfl rfl (by unfold vp_in; decide) dX12_asFraction_25 ?_
        refine W.eq (g2 := F0 m 26 ls [.ref h5]) (by rw [show (3 : Int32).toNatClampNeg = 3 from rfl, e1_3]; rfl) ?_
        refine vp_callSi (W.runV (As := []) (rest := []) ⟨hx, hb, hml, hown, hts⟩ (f_X4_fractionFault l D T h5 fs5 e5_0) (cwV 0 hts gX12_asFraction_X4_fractionFault rfl rfl rfl (by decide +kernel) ⟨Nat.le_of_ble_eq_true rfl, Nat.le_of_ble_eq_true rfl⟩) (pR_V (ci := 3) (q0 := 5) hP hE rfl rfl [5] rfl) rfl rfl hl.1 rfl (lv_room (Nat.le_of_ble_eq_true rfl)) dX12_asFraction_26 ⟨Nat.le_of_ble_eq_true rfl, Nat.le_of_ble_eq_true rfl⟩) (fun r_11 hr_11 => ?_)
        obtain rfl : r_11 = (-11) := hr_11
        refine lv_istore_n (lv' := [(3, .int (-11)), (0, .ref h0), (1, .int 3), (2, .int x2)]) hx hb dX12_asFraction_29 rfl hl (by decide) rfl (fun ls hl => ?_)
        refine lv_iload_n hx hb dX12_asFraction_30 rfl (lv_at hl 0 rfl) ?_
        refine lv_if_eq (tgt := 41) hx hb dX12_asFraction_31 (by decide) (fun c9 => absurd c9 (by decide)) (fun _ => ?_)
        refine lv_ldc2 (v := (-4611686018427387904)) hx hb hown (hts (.constantLong RX12 324 (-4611686018427387904)) (List.mem_of_getElem? (i := 3) rfl)) dX12_asFraction_34 ?_
        refine lv_iload_n hx hb dX12_asFraction_37 rfl (lv_at hl 0 rfl) ?_
        refine lv_i2l (v := (-11)) hx hb dX12_asFraction_38 (by decide) ?_
        refine lv_ladd hx hb dX12_asFraction_39 ?_
        refine lv_topl (fun z_12 ez_12 => ?_)
        obtain rfl : z_12 = (-4611686018427387915) := ez_12.trans (by decide)
        exact W.lret hx hb hr (fun t ht hW => ⟨_, rfl, (by first | decide | (unfold sp_asFraction; (repeat' split) <;> first | rfl | (exfalso; omega))), ht⟩) (fun _ h => by cases h) dX12_asFraction_40
    · refine lv_if_ne (tgt := 20) hx hb dX12_asFraction_13 (by decide) (fun c9 => absurd c9 (by decide)) (fun _ => ?_)
      refine lv_ldc2 (v := (-4611686018427387906)) hx hb hown (hts (.constantLong RX12 183 (-4611686018427387906)) (List.mem_of_getElem? (i := 1) rfl)) dX12_asFraction_16 ?_
      exact W.lret hx hb hr (fun t ht hW => ⟨_, rfl, (by first | decide | (unfold sp_asFraction; (repeat' split) <;> first | rfl | (exfalso; omega))), ht⟩) (fun _ h => by cases h) dX12_asFraction_19
  · refine lv_if_eq (tgt := 16) hx hb dX12_asFraction_4 (by decide) (fun _ => ?_) (fun c9 => absurd c9 (by decide))
    refine lv_ldc2 (v := (-4611686018427387906)) hx hb hown (hts (.constantLong RX12 183 (-4611686018427387906)) (List.mem_of_getElem? (i := 1) rfl)) dX12_asFraction_16 ?_
    exact W.lret hx hb hr (fun t ht hW => ⟨_, rfl, (by first | decide | (unfold sp_asFraction; (repeat' split) <;> first | rfl | (exfalso; omega))), ht⟩) (fun _ h => by cases h) dX12_asFraction_19
theorem dX2_unnamed_0 : decode cX2_unnamed 0 = .ok (.iconst 0, 1) := by decide +kernel
theorem dX2_unnamed_1 : decode cX2_unnamed 1 = .ok (.istore_n 1, 1) := by decide +kernel
theorem dX2_unnamed_2 : decode cX2_unnamed 2 = .ok (.iconst 0, 1) := by decide +kernel
theorem dX2_unnamed_3 : decode cX2_unnamed 3 = .ok (.istore_n 2, 1) := by decide +kernel
theorem dX2_unnamed_4 : decode cX2_unnamed 4 = .ok (.iload_n 2, 1) := by decide +kernel
theorem dX2_unnamed_5 : decode cX2_unnamed 5 = .ok (.aload_n 0, 1) := by decide +kernel
theorem dX2_unnamed_6 : decode cX2_unnamed 6 = .ok (.getfield 9, 3) := by decide +kernel
theorem dX2_unnamed_60 : decode cX2_unnamed 60 = .ok (.aload_n 0, 1) := by decide +kernel
theorem dX2_unnamed_61 : decode cX2_unnamed 61 = .ok (.getfield 9, 3) := by decide +kernel
theorem dX2_unnamed_64 : decode cX2_unnamed 64 = .ok (.iload_n 1, 1) := by decide +kernel
theorem dX2_unnamed_65 : decode cX2_unnamed 65 = .ok (.invokestatic 75, 3) := by decide +kernel
theorem dX2_unnamed_68 : decode cX2_unnamed 68 = .ok (.isub, 1) := by decide +kernel
theorem dX2_unnamed_69 : decode cX2_unnamed 69 = .ok (.ireturn, 1) := by decide +kernel
theorem dX2_unnamed_9 : decode cX2_unnamed 9 = .ok (.if_icmp .ge 51, 3) := by decide +kernel
set_option maxRecDepth 20000 in
theorem ggX2_unnamed_J6_bitCount_0f7a4 : GoodIn wsX2_unnamed wsJ6_bitCount_0f7a4 := goodIn_r _ [7, 8, 9, 10] (by decide +kernel) (by decide +kernel)
set_option maxRecDepth 20000 in
theorem gX2_unnamed_J6_bitCount_0f7a4 : GoodIn wsX2_unnamed (va_wsS RX2 75 yJ6_bitCount_0f7a4 wsJ6_bitCount_0f7a4) := goodIn_app (goodIn_of _ (by decide +kernel)) ggX2_unnamed_J6_bitCount_0f7a4
set_option maxRecDepth 20000 in
theorem in_X2_unnamed_X2 : ∀ w ∈ wsX20, w ∈ wsX2_unnamed := by decide +kernel
set_option maxHeartbeats 4000000 in
set_option maxRecDepth 100000 in
theorem f_X2_unnamed (l : Launch) (D : va_G) (T : Nat → ClassId) (h0 : Nat) (fs0 : List Value) (e0_0 : fs0[0]? = some (.int 0)) : Met l yX2_unnamed wsX2_unnamed ({ frames := 1, cells := 0, slots := 0, locals := 20 }) (pR [.ref h0] D T [(h0, .inr (1, fs0))]) (vp_Si (fun r => r = 0)) 0 0 (fun _ => False) := by
  refine Met.ofW (cc := cX2_unnamed) (maxL := 3) (ret := (some .int)) (by decide) rfl ?_
  intro p e s m args below meth c s₁ B hml hv
  obtain ⟨rfl, hP, hE⟩ := hv
  have hx := B.exec
  have hb := B.bytes
  have hr := B.returns
  have hts := atoms_spec (ws := wsX2_unnamed) B.pre
  have hown : s.vm.findClass RX2 = some m.cls := findClass_of_methodNamed B.named
  have hlocks := B.notSynchronized
  have hP : va_P D vwCl [(h0, .inr (1, fs0))] s.heap := hP
  have hl := lv_entry ([.ref h0]) (n := 3) (Nat.le_of_ble_eq_true rfl)
  rw [lg_entry_eq]
  generalize (lg_sl ([.ref h0]) ++ List.replicate (3 - (lg_sl ([.ref h0])).length) Slot.unset).toArray = ls at hl ⊢
  have hl : lv_has ls 3 [(0, .ref h0)] := hl
  refine lv_iconst (v := 0) hx hb dX2_unnamed_0 (by decide) ?_
  refine lv_istore_n (lv' := [(1, .int 0), (0, .ref h0)]) hx hb dX2_unnamed_1 rfl hl (by decide) rfl (fun ls hl => ?_)
  refine lv_iconst (v := 0) hx hb dX2_unnamed_2 (by decide) ?_
  refine lv_istore_n (lv' := [(2, .int 0), (1, .int 0), (0, .ref h0)]) hx hb dX2_unnamed_3 rfl hl (by decide) rfl (fun ls hl => ?_)
  refine lv_iload_n hx hb dX2_unnamed_4 rfl (lv_at hl 0 rfl) ?_
  refine lv_aload_n hx hb dX2_unnamed_5 rfl (lv_at hl 2 rfl) ?_
  refine va_get (D := D) (ci := 1) (v := .int 0) (C := RX2) (T := TX2) (N := 8) hx hb hts in_X2_unnamed_X2 hown hE.1 hP 0 rfl rfl 0 (by decide) (hts (.fieldLink RX2 9 "ClauseBook$Clauses" "size" "I") (List.mem_of_getElem? (i := 1) rfl)) (fun _ h9 => h9) e0_0 dX2_unnamed_6 ?_
  refine lv_icmp_ge (tgt := 60) hx hb dX2_unnamed_9 (by decide) (fun _ => ?_) (fun c9 => absurd c9 (by decide))
  refine lv_aload_n hx hb dX2_unnamed_60 rfl (lv_at hl 2 rfl) ?_
  refine va_get (D := D) (ci := 1) (v := .int 0) (C := RX2) (T := TX2) (N := 8) hx hb hts in_X2_unnamed_X2 hown hE.1 hP 0 rfl rfl 0 (by decide) (hts (.fieldLink RX2 9 "ClauseBook$Clauses" "size" "I") (List.mem_of_getElem? (i := 1) rfl)) (fun _ h9 => h9) e0_0 dX2_unnamed_61 ?_
  refine lv_iload_n hx hb dX2_unnamed_64 rfl (lv_at hl 1 rfl) ?_
  refine vp_callSi (W.runS (As := [.int 0]) (rest := [.int 0]) ⟨hx, hb, hml, hown, hts⟩ (c_J6_bitCount_0f7a4 l D T 0) (va_cwS 1 hts gX2_unnamed_J6_bitCount_0f7a4 rfl rfl rfl (by decide +kernel) ⟨Nat.le_of_ble_eq_true rfl, Nat.le_of_ble_eq_true rfl⟩) (pR_S hP hE [] rfl) rfl rfl hl.1 rfl (lv_room (Nat.le_of_ble_eq_true rfl)) dX2_unnamed_65 ⟨Nat.le_of_ble_eq_true rfl, Nat.le_of_ble_eq_true rfl⟩) (fun r_1 hr_1 => ?_)
  obtain rfl : r_1 = 0 := hr_1.trans (by decide)
  refine lv_isub hx hb dX2_unnamed_68 ?_
  refine lv_topi (fun z_2 ez_2 => ?_)
  obtain rfl : z_2 = 0 := ez_2.trans (by decide)
  exact W.iret hx hb hr (fun t ht hW => ⟨_, rfl, rfl, ht⟩) (fun _ h => by cases h) dX2_unnamed_69
theorem dX12_inBags_0 : decode cX12_inBags 0 = .ok (.iconst 0, 1) := by decide +kernel
theorem dX12_inBags_1 : decode cX12_inBags 1 = .ok (.istore_n 1, 1) := by decide +kernel
theorem dX12_inBags_10 : decode cX12_inBags 10 = .ok (.istore_n 3, 1) := by decide +kernel
theorem dX12_inBags_11 : decode cX12_inBags 11 = .ok (.iload_n 3, 1) := by decide +kernel
theorem dX12_inBags_12 : decode cX12_inBags 12 = .ok (.aload_n 0, 1) := by decide +kernel
theorem dX12_inBags_13 : decode cX12_inBags 13 = .ok (.getfield 37, 3) := by decide +kernel
theorem dX12_inBags_16 : decode cX12_inBags 16 = .ok (.iload_n 2, 1) := by decide +kernel
theorem dX12_inBags_17 : decode cX12_inBags 17 = .ok (.aaload, 1) := by decide +kernel
theorem dX12_inBags_18 : decode cX12_inBags 18 = .ok (.getfield 307, 3) := by decide +kernel
theorem dX12_inBags_2 : decode cX12_inBags 2 = .ok (.iconst 0, 1) := by decide +kernel
theorem dX12_inBags_21 : decode cX12_inBags 21 = .ok (.if_icmp .ge 33, 3) := by decide +kernel
theorem dX12_inBags_3 : decode cX12_inBags 3 = .ok (.istore_n 2, 1) := by decide +kernel
theorem dX12_inBags_4 : decode cX12_inBags 4 = .ok (.iload_n 2, 1) := by decide +kernel
theorem dX12_inBags_5 : decode cX12_inBags 5 = .ok (.iconst 3, 1) := by decide +kernel
theorem dX12_inBags_54 : decode cX12_inBags 54 = .ok (.iinc 2 1, 3) := by decide +kernel
theorem dX12_inBags_57 : decode cX12_inBags 57 = .ok (.goto (-53), 3) := by decide +kernel
theorem dX12_inBags_6 : decode cX12_inBags 6 = .ok (.if_icmp .ge 54, 3) := by decide +kernel
theorem dX12_inBags_60 : decode cX12_inBags 60 = .ok (.iload_n 1, 1) := by decide +kernel
theorem dX12_inBags_61 : decode cX12_inBags 61 = .ok (.ireturn, 1) := by decide +kernel
theorem dX12_inBags_9 : decode cX12_inBags 9 = .ok (.iconst 0, 1) := by decide +kernel
set_option maxRecDepth 20000 in
theorem in_X12_inBags_X1 : ∀ w ∈ wsX10, w ∈ wsX12_inBags := by decide +kernel
set_option maxRecDepth 20000 in
theorem in_X12_inBags_X12 : ∀ w ∈ wsX120, w ∈ wsX12_inBags := by decide +kernel
set_option maxHeartbeats 4000000 in
set_option maxRecDepth 100000 in
theorem f_X12_inBags (l : Launch) (D : va_G) (T : Nat → ClassId) (h0 : Nat) (fs0 : List Value) (h1 : Nat) (f1 : Nat → Option Nat) (h2 : Nat) (fs2 : List Value) (h3 : Nat) (fs3 : List Value) (h4 : Nat) (fs4 : List Value) (e0_5 : fs0[5]? = some (.ref h1)) (e1_0 : f1 0 = some h2) (e1_1 : f1 1 = some h3) (e1_2 : f1 2 = some h4) (e2_0 : fs2[0]? = some (.int 0)) (e3_0 : fs3[0]? = some (.int 0)) (e4_0 : fs4[0]? = some (.int 0)) : Met l yX12_inBags wsX12_inBags ({ frames := 0, cells := 0, slots := 0, locals := 0 }) (pR [.ref h0] D T [(h0, .inr (9, fs0)), (h1, .inl (T 5, 3, .inr (.inr (.inr (.inr f1))))), (h2, .inr (0, fs2)), (h3, .inr (0, fs3)), (h4, .inr (0, fs4))]) (vp_Si (fun r => r = 0)) 0 0 (fun _ => False) := by
  refine Met.ofW (cc := cX12_inBags) (maxL := 4) (ret := (some .int)) (by decide) rfl ?_
  intro p e s m args below meth c s₁ B hml hv
  obtain ⟨rfl, hP, hE⟩ := hv
  have hx := B.exec
  have hb := B.bytes
  have hr := B.returns
  have hts := atoms_spec (ws := wsX12_inBags) B.pre
  have hown : s.vm.findClass RX12 = some m.cls := findClass_of_methodNamed B.named
  have hlocks := B.notSynchronized
  have hP : va_P D vwCl [(h0, .inr (9, fs0)), (h1, .inl (T 5, 3, .inr (.inr (.inr (.inr f1))))), (h2, .inr (0, fs2)), (h3, .inr (0, fs3)), (h4, .inr (0, fs4))] s.heap := hP
  have hl := lv_entry ([.ref h0]) (n := 4) (Nat.le_of_ble_eq_true rfl)
  rw [lg_entry_eq]
  generalize (lg_sl ([.ref h0]) ++ List.replicate (4 - (lg_sl ([.ref h0])).length) Slot.unset).toArray = ls at hl ⊢
  have hl : lv_has ls 4 [(0, .ref h0)] := hl
  refine lv_iconst (v := 0) hx hb dX12_inBags_0 (by decide) ?_
  refine lv_istore_n (lv' := [(1, .int 0), (0, .ref h0)]) hx hb dX12_inBags_1 rfl hl (by decide) rfl (fun ls hl => ?_)
  refine lv_iconst (v := 0) hx hb dX12_inBags_2 (by decide) ?_
  refine lv_istore_n (lv' := [(2, .int 0), (1, .int 0), (0, .ref h0)]) hx hb dX12_inBags_3 rfl hl (by decide) rfl (fun ls hl => ?_)
  refine lv_iload_n hx hb dX12_inBags_4 rfl (lv_at hl 0 rfl) ?_
  refine lv_iconst (v := 3) hx hb dX12_inBags_5 (by decide) ?_
  refine lv_icmp_ge (tgt := 60) hx hb dX12_inBags_6 (by decide) (fun c9 => absurd c9 (by decide)) (fun _ => ?_)
  refine lv_iconst (v := 0) hx hb dX12_inBags_9 (by decide) ?_
  refine lv_istore_n (lv' := [(3, .int 0), (2, .int 0), (1, .int 0), (0, .ref h0)]) hx hb dX12_inBags_10 rfl hl (by decide) rfl (fun ls hl => ?_)
  refine lv_iload_n hx hb dX12_inBags_11 rfl (lv_at hl 0 rfl) ?_
  refine lv_aload_n hx hb dX12_inBags_12 rfl (lv_at hl 3 rfl) ?_
  refine va_get (D := D) (ci := 9) (v := .ref h1) (C := RX12) (T := TX12) (N := 11) hx hb hts in_X12_inBags_X12 hown hE.1 hP 0 rfl rfl 5 (by decide) (hts (.fieldLink RX12 37 "ClauseBook" "bags" "[LClauseBook$Bag;") (List.mem_of_getElem? (i := 1) rfl)) (fun _ h9 => h9) e0_5 dX12_inBags_13 ?_
  refine lv_iload_n hx hb dX12_inBags_16 rfl (lv_at hl 1 rfl) ?_
  refine va_aldq hx hb hE.1 hP 1 5 rfl rfl (by unfold vp_in; decide) dX12_inBags_17 ?_
  refine W.eq (g2 := F0 m 18 ls [.ref h2, .int 0]) (by rw [show (0 : Int32).toNatClampNeg = 0 from rfl, e1_0]; rfl) ?_
  refine va_get (D := D) (ci := 0) (v := .int 0) (C := RX1) (T := TX1) (N := 2) hx hb hts in_X12_inBags_X1 hown hE.1 hP 2 rfl rfl 0 (by decide) (hts (.fieldLink RX12 307 "ClauseBook$Bag" "size" "I") (List.mem_of_getElem? (i := 2) rfl)) (fun _ h9 => h9) e2_0 dX12_inBags_18 ?_
  refine lv_icmp_ge (tgt := 54) hx hb dX12_inBags_21 (by decide) (fun _ => ?_) (fun c9 => absurd c9 (by decide))
  refine lv_iinc (v := 1) (lv' := [(2, .int 1), (3, .int 0), (1, .int 0), (0, .ref h0)]) hx hb dX12_inBags_54 hl (k := 1) rfl (by decide) (by decide) rfl (fun ls hl => ?_)
  refine lv_goto (tgt := 4) hx hb dX12_inBags_57 (by decide) ?_
  refine lv_iload_n hx hb dX12_inBags_4 rfl (lv_at hl 0 rfl) ?_
  refine lv_iconst (v := 3) hx hb dX12_inBags_5 (by decide) ?_
  refine lv_icmp_ge (tgt := 60) hx hb dX12_inBags_6 (by decide) (fun c9 => absurd c9 (by decide)) (fun _ => ?_)
  refine lv_iconst (v := 0) hx hb dX12_inBags_9 (by decide) ?_
  refine lv_istore_n (lv' := [(3, .int 0), (2, .int 1), (1, .int 0), (0, .ref h0)]) hx hb dX12_inBags_10 rfl hl (by decide) rfl (fun ls hl => ?_)
  refine lv_iload_n hx hb dX12_inBags_11 rfl (lv_at hl 0 rfl) ?_
  refine lv_aload_n hx hb dX12_inBags_12 rfl (lv_at hl 3 rfl) ?_
  refine va_get (D := D) (ci := 9) (v := .ref h1) (C := RX12) (T := TX12) (N := 11) hx hb hts in_X12_inBags_X12 hown hE.1 hP 0 rfl rfl 5 (by decide) (hts (.fieldLink RX12 37 "ClauseBook" "bags" "[LClauseBook$Bag;") (List.mem_of_getElem? (i := 1) rfl)) (fun _ h9 => h9) e0_5 dX12_inBags_13 ?_
  refine lv_iload_n hx hb dX12_inBags_16 rfl (lv_at hl 1 rfl) ?_
  refine va_aldq hx hb hE.1 hP 1 5 rfl rfl (by unfold vp_in; decide) dX12_inBags_17 ?_
  refine W.eq (g2 := F0 m 18 ls [.ref h3, .int 0]) (by rw [show (1 : Int32).toNatClampNeg = 1 from rfl, e1_1]; rfl) ?_
  refine va_get (D := D) (ci := 0) (v := .int 0) (C := RX1) (T := TX1) (N := 2) hx hb hts in_X12_inBags_X1 hown hE.1 hP 3 rfl rfl 0 (by decide) (hts (.fieldLink RX12 307 "ClauseBook$Bag" "size" "I") (List.mem_of_getElem? (i := 2) rfl)) (fun _ h9 => h9) e3_0 dX12_inBags_18 ?_
  refine lv_icmp_ge (tgt := 54) hx hb dX12_inBags_21 (by decide) (fun _ => ?_) (fun c9 => absurd c9 (by decide))
  refine lv_iinc (v := 2) (lv' := [(2, .int 2), (3, .int 0), (1, .int 0), (0, .ref h0)]) hx hb dX12_inBags_54 hl (k := 1) rfl (by decide) (by decide) rfl (fun ls hl => ?_)
  refine lv_goto (tgt := 4) hx hb dX12_inBags_57 (by decide) ?_
  refine lv_iload_n hx hb dX12_inBags_4 rfl (lv_at hl 0 rfl) ?_
  refine lv_iconst (v := 3) hx hb dX12_inBags_5 (by decide) ?_
  refine lv_icmp_ge (tgt := 60) hx hb dX12_inBags_6 (by decide) (fun c9 => absurd c9 (by decide)) (fun _ => ?_)
  refine lv_iconst (v := 0) hx hb dX12_inBags_9 (by decide) ?_
  refine lv_istore_n (lv' := [(3, .int 0), (2, .int 2), (1, .int 0), (0, .ref h0)]) hx hb dX12_inBags_10 rfl hl (by decide) rfl (fun ls hl => ?_)
  refine lv_iload_n hx hb dX12_inBags_11 rfl (lv_at hl 0 rfl) ?_
  refine lv_aload_n hx hb dX12_inBags_12 rfl (lv_at hl 3 rfl) ?_
  refine va_get (D := D) (ci := 9) (v := .ref h1) (C := RX12) (T := TX12) (N := 11) hx hb hts in_X12_inBags_X12 hown hE.1 hP 0 rfl rfl 5 (by decide) (hts (.fieldLink RX12 37 "ClauseBook" "bags" "[LClauseBook$Bag;") (List.mem_of_getElem? (i := 1) rfl)) (fun _ h9 => h9) e0_5 dX12_inBags_13 ?_
  refine lv_iload_n hx hb dX12_inBags_16 rfl (lv_at hl 1 rfl) ?_
  refine va_aldq hx hb hE.1 hP 1 5 rfl rfl (by unfold vp_in; decide) dX12_inBags_17 ?_
  refine W.eq (g2 := F0 m 18 ls [.ref h4, .int 0]) (by rw [show (2 : Int32).toNatClampNeg = 2 from rfl, e1_2]; rfl) ?_
  refine va_get (D := D) (ci := 0) (v := .int 0) (C := RX1) (T := TX1) (N := 2) hx hb hts in_X12_inBags_X1 hown hE.1 hP 4 rfl rfl 0 (by decide) (hts (.fieldLink RX12 307 "ClauseBook$Bag" "size" "I") (List.mem_of_getElem? (i := 2) rfl)) (fun _ h9 => h9) e4_0 dX12_inBags_18 ?_
  refine lv_icmp_ge (tgt := 54) hx hb dX12_inBags_21 (by decide) (fun _ => ?_) (fun c9 => absurd c9 (by decide))
  refine lv_iinc (v := 3) (lv' := [(2, .int 3), (3, .int 0), (1, .int 0), (0, .ref h0)]) hx hb dX12_inBags_54 hl (k := 1) rfl (by decide) (by decide) rfl (fun ls hl => ?_)
  refine lv_goto (tgt := 4) hx hb dX12_inBags_57 (by decide) ?_
  refine lv_iload_n hx hb dX12_inBags_4 rfl (lv_at hl 0 rfl) ?_
  refine lv_iconst (v := 3) hx hb dX12_inBags_5 (by decide) ?_
  refine lv_icmp_ge (tgt := 60) hx hb dX12_inBags_6 (by decide) (fun _ => ?_) (fun c9 => absurd c9 (by decide))
  refine lv_iload_n hx hb dX12_inBags_60 rfl (lv_at hl 2 rfl) ?_
  exact W.iret hx hb hr (fun t ht hW => ⟨_, rfl, rfl, ht⟩) (fun _ h => by cases h) dX12_inBags_61
theorem dX12_count_0 : decode cX12_count 0 = .ok (.iload_n 1, 1) := by decide +kernel
theorem dX12_count_1 : decode cX12_count 1 = .ok (.tableswitch 60 0 3 #[31, 39, 47, 55], 31) := by decide +kernel
theorem dX12_count_32 : decode cX12_count 32 = .ok (.aload_n 0, 1) := by decide +kernel
theorem dX12_count_33 : decode cX12_count 33 = .ok (.getfield 32, 3) := by decide +kernel
theorem dX12_count_36 : decode cX12_count 36 = .ok (.getfield 138, 3) := by decide +kernel
theorem dX12_count_39 : decode cX12_count 39 = .ok (.ireturn, 1) := by decide +kernel
theorem dX12_count_40 : decode cX12_count 40 = .ok (.aload_n 0, 1) := by decide +kernel
theorem dX12_count_41 : decode cX12_count 41 = .ok (.getfield 27, 3) := by decide +kernel
theorem dX12_count_44 : decode cX12_count 44 = .ok (.getfield 81, 3) := by decide +kernel
theorem dX12_count_47 : decode cX12_count 47 = .ok (.ireturn, 1) := by decide +kernel
theorem dX12_count_48 : decode cX12_count 48 = .ok (.aload_n 0, 1) := by decide +kernel
theorem dX12_count_49 : decode cX12_count 49 = .ok (.getfield 32, 3) := by decide +kernel
theorem dX12_count_52 : decode cX12_count 52 = .ok (.invokevirtual 380, 3) := by decide +kernel
theorem dX12_count_55 : decode cX12_count 55 = .ok (.ireturn, 1) := by decide +kernel
theorem dX12_count_56 : decode cX12_count 56 = .ok (.aload_n 0, 1) := by decide +kernel
theorem dX12_count_57 : decode cX12_count 57 = .ok (.invokevirtual 383, 3) := by decide +kernel
theorem dX12_count_60 : decode cX12_count 60 = .ok (.ireturn, 1) := by decide +kernel
theorem dX12_count_61 : decode cX12_count 61 = .ok (.bipush (-2), 2) := by decide +kernel
theorem dX12_count_63 : decode cX12_count 63 = .ok (.ireturn, 1) := by decide +kernel
set_option maxRecDepth 20000 in
theorem ggX12_count_X12_inBags : GoodIn wsX12_count wsX12_inBags := goodIn_r _ [24, 25, 26, 1, 27, 28, 29, 30, 8, 31, 10, 32, 23, 33, 34, 35, 36, 37, 38, 39, 40, 41, 42, 43, 44, 60, 61, 45, 46, 47, 48, 49, 50, 51, 52] (by decide +kernel) (by decide +kernel)
set_option maxRecDepth 20000 in
theorem ggX12_count_X2_unnamed : GoodIn wsX12_count wsX2_unnamed := goodIn_r _ [9, 10, 11, 12, 13, 14, 15, 16, 17, 18, 19, 45, 46, 47, 48, 49, 50, 51, 52] (by decide +kernel) (by decide +kernel)
set_option maxRecDepth 20000 in
theorem gX12_count_X12_inBags : GoodIn wsX12_count (wsV RX12 383 RX12 yX12_inBags wsX12_inBags) := goodIn_app (goodIn_of _ (by decide +kernel)) ggX12_count_X12_inBags
set_option maxRecDepth 20000 in
theorem gX12_count_X2_unnamed : GoodIn wsX12_count (wsV RX12 380 RX2 yX2_unnamed wsX2_unnamed) := goodIn_app (goodIn_of _ (by decide +kernel)) ggX12_count_X2_unnamed
set_option maxRecDepth 20000 in
theorem in_X12_count_X12 : ∀ w ∈ wsX120, w ∈ wsX12_count := by decide +kernel
set_option maxRecDepth 20000 in
theorem in_X12_count_X2 : ∀ w ∈ wsX20, w ∈ wsX12_count := by decide +kernel
set_option maxRecDepth 20000 in
theorem in_X12_count_X8 : ∀ w ∈ wsX80, w ∈ wsX12_count := by decide +kernel
set_option maxHeartbeats 4000000 in
set_option maxRecDepth 100000 in
theorem f_X12_count (l : Launch) (D : va_G) (T : Nat → ClassId) (h0 : Nat) (fs0 : List Value) (h1 : Nat) (fs1 : List Value) (h2 : Nat) (fs2 : List Value) (h3 : Nat) (f3 : Nat → Option Nat) (h4 : Nat) (fs4 : List Value) (h5 : Nat) (fs5 : List Value) (h6 : Nat) (fs6 : List Value) (x1 : Int32) (e0_3 : fs0[3]? = some (.ref h1)) (e0_4 : fs0[4]? = some (.ref h2)) (e0_5 : fs0[5]? = some (.ref h3)) (e1_0 : fs1[0]? = some (.int 0)) (e2_0 : fs2[0]? = some (.int 0)) (e3_0 : f3 0 = some h4) (e3_1 : f3 1 = some h5) (e3_2 : f3 2 = some h6) (e4_0 : fs4[0]? = some (.int 0)) (e5_0 : fs5[0]? = some (.int 0)) (e6_0 : fs6[0]? = some (.int 0)) : Met l yX12_count wsX12_count ({ frames := 2, cells := 0, slots := 0, locals := 42 }) (pR [.ref h0, .int x1] D T [(h0, .inr (9, fs0)), (h1, .inr (5, fs1)), (h2, .inr (1, fs2)), (h3, .inl (T 5, 3, .inr (.inr (.inr (.inr f3))))), (h4, .inr (0, fs4)), (h5, .inr (0, fs5)), (h6, .inr (0, fs6))]) (vp_Si (fun r => r = sp_count x1)) 0 0 (fun _ => False) := by
  refine Met.ofW (cc := cX12_count) (maxL := 2) (ret := (some .int)) (by decide) rfl ?_
  intro p e s m args below meth c s₁ B hml hv
  obtain ⟨rfl, hP, hE⟩ := hv
  have hx := B.exec
  have hb := B.bytes
  have hr := B.returns
  have hts := atoms_spec (ws := wsX12_count) B.pre
  have hown : s.vm.findClass RX12 = some m.cls := findClass_of_methodNamed B.named
  have hlocks := B.notSynchronized
  have hP : va_P D vwCl [(h0, .inr (9, fs0)), (h1, .inr (5, fs1)), (h2, .inr (1, fs2)), (h3, .inl (T 5, 3, .inr (.inr (.inr (.inr f3))))), (h4, .inr (0, fs4)), (h5, .inr (0, fs5)), (h6, .inr (0, fs6))] s.heap := hP
  have hl := lv_entry ([.ref h0, .int x1]) (n := 2) (Nat.le_of_ble_eq_true rfl)
  rw [lg_entry_eq]
  generalize (lg_sl ([.ref h0, .int x1]) ++ List.replicate (2 - (lg_sl ([.ref h0, .int x1])).length) Slot.unset).toArray = ls at hl ⊢
  have hl : lv_has ls 2 [(0, .ref h0), (1, .int x1)] := hl
  refine lv_iload_n hx hb dX12_count_0 rfl (lv_at hl 1 rfl) ?_
  by_cases k_1 : x1 = 0
  · subst k_1
    refine lv_tableIn (off := 31) (tgt := 32) hx hb dX12_count_1 (by decide) (by decide) (by decide) (by decide) ?_
    refine lv_aload_n hx hb dX12_count_32 rfl (lv_at hl 0 rfl) ?_
    refine va_get (D := D) (ci := 9) (v := .ref h2) (C := RX12) (T := TX12) (N := 11) hx hb hts in_X12_count_X12 hown hE.1 hP 0 rfl rfl 4 (by decide) (hts (.fieldLink RX12 32 "ClauseBook" "clauses" "LClauseBook$Clauses;") (List.mem_of_getElem? (i := 1) rfl)) (fun _ h9 => h9) e0_4 dX12_count_33 ?_
    refine va_get (D := D) (ci := 1) (v := .int 0) (C := RX2) (T := TX2) (N := 8) hx hb hts in_X12_count_X2 hown hE.1 hP 2 rfl rfl 0 (by decide) (hts (.fieldLink RX12 138 "ClauseBook$Clauses" "size" "I") (List.mem_of_getElem? (i := 2) rfl)) (fun _ h9 => h9) e2_0 dX12_count_36 ?_
    exact W.iret hx hb hr (fun t ht hW => ⟨_, rfl, (by first | decide | (unfold sp_count; (repeat' split) <;> first | rfl | (exfalso; omega))), ht⟩) (fun _ h => by cases h) dX12_count_39
  by_cases k_2 : x1 = 1
  · subst k_2
    refine lv_tableIn (off := 39) (tgt := 40) hx hb dX12_count_1 (by decide) (by decide) (by decide) (by decide) ?_
    refine lv_aload_n hx hb dX12_count_40 rfl (lv_at hl 0 rfl) ?_
    refine va_get (D := D) (ci := 9) (v := .ref h1) (C := RX12) (T := TX12) (N := 11) hx hb hts in_X12_count_X12 hown hE.1 hP 0 rfl rfl 3 (by decide) (hts (.fieldLink RX12 27 "ClauseBook" "lattice" "LClauseBook$Lattice;") (List.mem_of_getElem? (i := 3) rfl)) (fun _ h9 => h9) e0_3 dX12_count_41 ?_
    refine va_get (D := D) (ci := 5) (v := .int 0) (C := RX8) (T := TX8) (N := 7) hx hb hts in_X12_count_X8 hown hE.1 hP 1 rfl rfl 0 (by decide) (hts (.fieldLink RX12 81 "ClauseBook$Lattice" "start" "I") (List.mem_of_getElem? (i := 4) rfl)) (fun _ h9 => h9) e1_0 dX12_count_44 ?_
    exact W.iret hx hb hr (fun t ht hW => ⟨_, rfl, (by first | decide | (unfold sp_count; (repeat' split) <;> first | rfl | (exfalso; omega))), ht⟩) (fun _ h => by cases h) dX12_count_47
  by_cases k_3 : x1 = 2
  · subst k_3
    refine lv_tableIn (off := 47) (tgt := 48) hx hb dX12_count_1 (by decide) (by decide) (by decide) (by decide) ?_
    refine lv_aload_n hx hb dX12_count_48 rfl (lv_at hl 0 rfl) ?_
    refine va_get (D := D) (ci := 9) (v := .ref h2) (C := RX12) (T := TX12) (N := 11) hx hb hts in_X12_count_X12 hown hE.1 hP 0 rfl rfl 4 (by decide) (hts (.fieldLink RX12 32 "ClauseBook" "clauses" "LClauseBook$Clauses;") (List.mem_of_getElem? (i := 1) rfl)) (fun _ h9 => h9) e0_4 dX12_count_49 ?_
    refine vp_callSi (W.runV (As := []) (rest := []) ⟨hx, hb, hml, hown, hts⟩ (f_X2_unnamed l D T h2 fs2 e2_0) (cwV 0 hts gX12_count_X2_unnamed rfl rfl rfl (by decide +kernel) ⟨Nat.le_of_ble_eq_true rfl, Nat.le_of_ble_eq_true rfl⟩) (pR_V (ci := 1) (q0 := 2) hP hE rfl rfl [2] rfl) rfl rfl hl.1 rfl (lv_room (Nat.le_of_ble_eq_true rfl)) dX12_count_52 ⟨Nat.le_of_ble_eq_true rfl, Nat.le_of_ble_eq_true rfl⟩) (fun r_4 hr_4 => ?_)
    obtain rfl : r_4 = 0 := hr_4
    exact W.iret hx hb hr (fun t ht hW => ⟨_, rfl, (by first | decide | (unfold sp_count; (repeat' split) <;> first | rfl | (exfalso; omega))), ht⟩) (fun _ h => by cases h) dX12_count_55
  by_cases k_5 : x1 = 3
  · subst k_5
    refine lv_tableIn (off := 55) (tgt := 56) hx hb dX12_count_1 (by decide) (by decide) (by decide) (by decide) ?_
    refine lv_aload_n hx hb dX12_count_56 rfl (lv_at hl 0 rfl) ?_
    refine vp_callSi (W.runV (As := []) (rest := []) ⟨hx, hb, hml, hown, hts⟩ (f_X12_inBags l D T h0 fs0 h3 f3 h4 fs4 h5 fs5 h6 fs6 e0_5 e3_0 e3_1 e3_2 e4_0 e5_0 e6_0) (cwV 0 hts gX12_count_X12_inBags rfl rfl rfl (by decide +kernel) ⟨Nat.le_of_ble_eq_true rfl, Nat.le_of_ble_eq_true rfl⟩) (pR_V (ci := 9) (q0 := 0) hP hE rfl rfl [0, 3, 4, 5, 6] rfl) rfl rfl hl.1 rfl (lv_room (Nat.le_of_ble_eq_true rfl)) dX12_count_57 ⟨Nat.le_of_ble_eq_true rfl, Nat.le_of_ble_eq_true rfl⟩) (fun r_6 hr_6 => ?_)
    obtain rfl : r_6 = 0 := hr_6
    exact W.iret hx hb hr (fun t ht hW => ⟨_, rfl, (by first | decide | (unfold sp_count; (repeat' split) <;> first | rfl | (exfalso; omega))), ht⟩) (fun _ h => by cases h) dX12_count_60
  rw [fa_eq] at k_1 k_2 k_3 k_5
  try simp only [ti_0, ti_1, ti_2, ti_3] at k_1 k_2 k_3 k_5
  refine lv_tableOut (tgt := 61) hx hb dX12_count_1 (by omega) (by decide) ?_
  refine lv_bipush (v := (-2)) hx hb dX12_count_61 (by decide) ?_
  exact W.iret hx hb hr (fun t ht hW => ⟨_, rfl, (by first | decide | (unfold sp_count; (repeat' split) <;> first | rfl | (exfalso; omega))), ht⟩) (fun _ h => by cases h) dX12_count_63
