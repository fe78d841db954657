theorem dX13_start_0 : decode cX13_start 0 = .ok (.iload_n 1, 1) := by decide +kernel
theorem dX13_start_1 : decode cX13_start 1 = .ok (.i2l, 1) := by decide +kernel
theorem dX13_start_11 : decode cX13_start 11 = .ok (.ifCond .eq 27, 3) := by decide +kernel
theorem dX13_start_14 : decode cX13_start 14 = .ok (.iload_n 2, 1) := by decide +kernel
theorem dX13_start_15 : decode cX13_start 15 = .ok (.i2l, 1) := by decide +kernel
theorem dX13_start_16 : decode cX13_start 16 = .ok (.lconst 0, 1) := by decide +kernel
theorem dX13_start_17 : decode cX13_start 17 = .ok (.ldc2_w 179, 3) := by decide +kernel
theorem dX13_start_2 : decode cX13_start 2 = .ok (.ldc2_w 171, 3) := by decide +kernel
theorem dX13_start_20 : decode cX13_start 20 = .ok (.invokestatic 175, 3) := by decide +kernel
theorem dX13_start_23 : decode cX13_start 23 = .ok (.ifCond .eq 15, 3) := by decide +kernel
theorem dX13_start_26 : decode cX13_start 26 = .ok (.iload_n 3, 1) := by decide +kernel
theorem dX13_start_27 : decode cX13_start 27 = .ok (.i2l, 1) := by decide +kernel
theorem dX13_start_28 : decode cX13_start 28 = .ok (.lconst 0, 1) := by decide +kernel
theorem dX13_start_29 : decode cX13_start 29 = .ok (.ldc2_w 179, 3) := by decide +kernel
theorem dX13_start_32 : decode cX13_start 32 = .ok (.invokestatic 175, 3) := by decide +kernel
theorem dX13_start_35 : decode cX13_start 35 = .ok (.ifCond .ne 6, 3) := by decide +kernel
theorem dX13_start_38 : decode cX13_start 38 = .ok (.bipush (-2), 2) := by decide +kernel
theorem dX13_start_40 : decode cX13_start 40 = .ok (.ireturn, 1) := by decide +kernel
theorem dX13_start_41 : decode cX13_start 41 = .ok (.aload_n 0, 1) := by decide +kernel
theorem dX13_start_42 : decode cX13_start 42 = .ok (.iload_n 1, 1) := by decide +kernel
theorem dX13_start_43 : decode cX13_start 43 = .ok (.putfield 181, 3) := by decide +kernel
theorem dX13_start_46 : decode cX13_start 46 = .ok (.aload_n 0, 1) := by decide +kernel
theorem dX13_start_47 : decode cX13_start 47 = .ok (.iload_n 2, 1) := by decide +kernel
theorem dX13_start_48 : decode cX13_start 48 = .ok (.putfield 7, 3) := by decide +kernel
theorem dX13_start_5 : decode cX13_start 5 = .ok (.ldc2_w 173, 3) := by decide +kernel
theorem dX13_start_51 : decode cX13_start 51 = .ok (.aload_n 0, 1) := by decide +kernel
theorem dX13_start_52 : decode cX13_start 52 = .ok (.iload_n 3, 1) := by decide +kernel
theorem dX13_start_53 : decode cX13_start 53 = .ok (.putfield 13, 3) := by decide +kernel
theorem dX13_start_56 : decode cX13_start 56 = .ok (.iconst 1, 1) := by decide +kernel
theorem dX13_start_57 : decode cX13_start 57 = .ok (.ireturn, 1) := by decide +kernel
theorem dX13_start_8 : decode cX13_start 8 = .ok (.invokestatic 175, 3) := by decide +kernel
set_option maxRecDepth 20000 in
theorem ggX13_start_X13_in : GoodIn wsX13_start wsX13_in := goodIn_r _ [10] (by decide +kernel) (by decide +kernel)
set_option maxRecDepth 20000 in
theorem gX13_start_X13_in : GoodIn wsX13_start (va_wsS RX13 175 yX13_in wsX13_in) := goodIn_app (goodIn_of _ (by decide +kernel)) ggX13_start_X13_in
set_option maxRecDepth 20000 in
theorem in_X13_start_X13 : ∀ w ∈ wsX130, w ∈ wsX13_start := by decide +kernel
set_option maxHeartbeats 4000000 in
set_option maxRecDepth 100000 in
theorem f_X13_start (l : Launch) (D : va_G) (T : Nat → ClassId) (sz : Nat) (h0 : Nat) (fs0 : List Value) (x1 : Int32) (x2 : Int32) (x3 : Int32) (hl0 : fs0.length = 45) : Met l yX13_start wsX13_start ({ frames := 1, cells := 0, slots := 0, locals := 25 }) (pW [.ref h0, .int x1, .int x2, .int x3] D T [(h0, .inr (10, fs0))] sz) (va_Qi (fun (r : Int32) (u : Unit) => r = sp_start x1 x2 x3) (bW D (va_A [(h0, .inr (10, fs0))] sz) (fun (u : Unit) => ([] : va_W))) (va_A [(h0, .inr (10, fs0))] sz)) 0 0 (va_A [(h0, .inr (10, fs0))] sz) := by
  refine Met.ofW (cc := cX13_start) (maxL := 4) (ret := (some .int)) (by decide) rfl ?_
  intro p e s m args below meth c s₁ B hml hv
  obtain ⟨rfl, hsz, hP, hE, hD0⟩ := hv
  have hx := B.exec
  have hb := B.bytes
  have hr := B.returns
  have hts := atoms_spec (ws := wsX13_start) B.pre
  have hown : s.vm.findClass RX13 = some m.cls := findClass_of_methodNamed B.named
  have hlocks := B.notSynchronized
  subst hsz
  have hD := hD0.self (sz := s.heap.size)
  generalize hAe : va_A [(h0, .inr (10, fs0))] s.heap.size = A at hD ⊢
  have hA : ∀ q : Nat, s.heap.size ≤ q → A q := fun q h => by rw [← hAe]; exact Or.inr h
  have hS : va_S A s.heap s.heap [] := va_S.rf
  have hP : va_P D vwCl [(h0, .inr (10, fs0))] s.heap := hP
  have hl := lv_entry ([.ref h0, .int x1, .int x2, .int x3]) (n := 4) (Nat.le_of_ble_eq_true rfl)
  rw [lg_entry_eq]
  generalize (lg_sl ([.ref h0, .int x1, .int x2, .int x3]) ++ List.replicate (4 - (lg_sl ([.ref h0, .int x1, .int x2, .int x3])).length) Slot.unset).toArray = ls at hl ⊢
  have hl : lv_has ls 4 [(0, .ref h0), (1, .int x1), (2, .int x2), (3, .int x3)] := hl
  clear hD0
  refine lv_iload_n hx hb dX13_start_0 rfl (lv_at hl 1 rfl) ?_
  refine lv_i2l hx hb dX13_start_1 rfl ?_
  refine lv_ldc2 (v := (-99)) hx hb hown (hts (.constantLong RX13 171 (-99)) (List.mem_of_getElem? (i := 1) rfl)) dX13_start_2 ?_
  refine lv_ldc2 (v := 99) hx hb hown (hts (.constantLong RX13 173 (99)) (List.mem_of_getElem? (i := 2) rfl)) dX13_start_5 ?_
  refine vp_callSi (W.runS (As := [.long (x1.toInt64), .long (-99), .long 99]) (rest := []) ⟨hx, hb, hml, hown, hts⟩ (c_X13_in l D T (x1.toInt64) (-99) 99 x1.toInt (-99) 99 ((Int32.toInt_toInt64 _).trans rfl) (by decide) (by decide)) (va_cwS 3 hts gX13_start_X13_in rfl rfl rfl (by decide +kernel) ⟨Nat.le_of_ble_eq_true rfl, Nat.le_of_ble_eq_true rfl⟩) (pR_S hP hE [] rfl) rfl rfl hl.1 rfl (lv_room (Nat.le_of_ble_eq_true rfl)) dX13_start_8 ⟨Nat.le_of_ble_eq_true rfl, Nat.le_of_ble_eq_true rfl⟩) (fun r_1 hr_1 => ?_)
  rcases bool_post hr_1 with ⟨c_2, rfl⟩ | ⟨c_2, rfl⟩
  · refine lv_if_eq (tgt := 38) hx hb dX13_start_11 (by decide) (fun c9 => absurd c9 (by decide)) (fun _ => ?_)
    refine lv_iload_n hx hb dX13_start_14 rfl (lv_at hl 2 rfl) ?_
    refine lv_i2l hx hb dX13_start_15 rfl ?_
    refine lv_lconst (v := 0) hx hb dX13_start_16 (by decide) ?_
    refine lv_ldc2 (v := 9) hx hb hown (hts (.constantLong RX13 179 (9)) (List.mem_of_getElem? (i := 3) rfl)) dX13_start_17 ?_
    refine vp_callSi (W.runS (As := [.long (x2.toInt64), .long 0, .long 9]) (rest := []) ⟨hx, hb, hml, hown, hts⟩ (c_X13_in l D T (x2.toInt64) 0 9 x2.toInt 0 9 ((Int32.toInt_toInt64 _).trans rfl) (by decide) (by decide)) (va_cwS 3 hts gX13_start_X13_in rfl rfl rfl (by decide +kernel) ⟨Nat.le_of_ble_eq_true rfl, Nat.le_of_ble_eq_true rfl⟩) (pR_S hP hE [] rfl) rfl rfl hl.1 rfl (lv_room (Nat.le_of_ble_eq_true rfl)) dX13_start_20 ⟨Nat.le_of_ble_eq_true rfl, Nat.le_of_ble_eq_true rfl⟩) (fun r_3 hr_3 => ?_)
    rcases bool_post hr_3 with ⟨c_4, rfl⟩ | ⟨c_4, rfl⟩
    · refine lv_if_eq (tgt := 38) hx hb dX13_start_23 (by decide) (fun c9 => absurd c9 (by decide)) (fun _ => ?_)
      refine lv_iload_n hx hb dX13_start_26 rfl (lv_at hl 3 rfl) ?_
      refine lv_i2l hx hb dX13_start_27 rfl ?_
      refine lv_lconst (v := 0) hx hb dX13_start_28 (by decide) ?_
      refine lv_ldc2 (v := 9) hx hb hown (hts (.constantLong RX13 179 (9)) (List.mem_of_getElem? (i := 3) rfl)) dX13_start_29 ?_
      refine vp_callSi (W.runS (As := [.long (x3.toInt64), .long 0, .long 9]) (rest := []) ⟨hx, hb, hml, hown, hts⟩ (c_X13_in l D T (x3.toInt64) 0 9 x3.toInt 0 9 ((Int32.toInt_toInt64 _).trans rfl) (by decide) (by decide)) (va_cwS 3 hts gX13_start_X13_in rfl rfl rfl (by decide +kernel) ⟨Nat.le_of_ble_eq_true rfl, Nat.le_of_ble_eq_true rfl⟩) (pR_S hP hE [] rfl) rfl rfl hl.1 rfl (lv_room (Nat.le_of_ble_eq_true rfl)) dX13_start_32 ⟨Nat.le_of_ble_eq_true rfl, Nat.le_of_ble_eq_true rfl⟩) (fun r_5 hr_5 => ?_)
      rcases bool_post hr_5 with ⟨c_6, rfl⟩ | ⟨c_6, rfl⟩
      · refine lv_if_ne (tgt := 41) hx hb dX13_start_35 (by decide) (fun _ => ?_) (fun c9 => absurd c9 (by decide))
        refine lv_aload_n hx hb dX13_start_41 rfl (lv_at hl 0 rfl) ?_
        refine lv_iload_n hx hb dX13_start_42 rfl (lv_at hl 1 rfl) ?_
        refine va_put (D := D) (ci := 10) (v := .int x1) (ty := .int) (C := RX13) (T := TX13) (N := 45) hx hb hts in_X13_start_X13 tyX13 tyX13_ok nmX13 hown hE.1 hP hD hS 0 rfl rfl 0 (by decide) (hts (.fieldLink RX13 181 "ClauseBookModel" "start" "I") (List.mem_of_getElem? (i := 4) rfl)) (fun _ h9 => h9) rfl (by decide +kernel) rfl rfl (by rw [hl0]; decide) dX13_start_43 (fun H locs hP hD hS => ?_)
        obtain ⟨g_7, eg_7⟩ : ∃ z : List Value, z = fs0.set 0 (.int x1) := ⟨_, rfl⟩
        have hP : va_P D vwCl [(h0, .inr (10, g_7))] H := by rw [eg_7]; exact hP
        have hD : va_D A [(h0, .inr (10, g_7))] := by rw [eg_7]; exact hD
        have lg_7 : g_7.length = 45 := by rw [eg_7, List.length_set]; exact hl0
        have kg_7_0 : g_7[0]? = some (.int x1) := by rw [eg_7]; exact List.getElem?_set_self (by rw [hl0]; decide)
        refine lv_aload_n hx hb dX13_start_46 rfl (lv_at hl 0 rfl) ?_
        refine lv_iload_n hx hb dX13_start_47 rfl (lv_at hl 2 rfl) ?_
        refine va_put (D := D) (ci := 10) (v := .int x2) (ty := .int) (C := RX13) (T := TX13) (N := 45) hx hb hts in_X13_start_X13 tyX13 tyX13_ok nmX13 hown hE.1 hP hD hS 0 rfl rfl 1 (by decide) (hts (.fieldLink RX13 7 "ClauseBookModel" "up" "I") (List.mem_of_getElem? (i := 5) rfl)) (fun _ h9 => h9) rfl (by decide +kernel) rfl rfl (by rw [lg_7]; decide) dX13_start_48 (fun H locs hP hD hS => ?_)
        obtain ⟨g_8, eg_8⟩ : ∃ z : List Value, z = g_7.set 1 (.int x2) := ⟨_, rfl⟩
        have hP : va_P D vwCl [(h0, .inr (10, g_8))] H := by rw [eg_8]; exact hP
        have hD : va_D A [(h0, .inr (10, g_8))] := by rw [eg_8]; exact hD
        have lg_8 : g_8.length = 45 := by rw [eg_8, List.length_set]; exact lg_7
        have kg_8_1 : g_8[1]? = some (.int x2) := by rw [eg_8]; exact List.getElem?_set_self (by rw [lg_7]; decide)
        have kg_8_0 : g_8[0]? = some (.int x1) := by rw [eg_8, List.getElem?_set_ne (by decide)]; exact kg_7_0
        refine lv_aload_n hx hb dX13_start_51 rfl (lv_at hl 0 rfl) ?_
        refine lv_iload_n hx hb dX13_start_52 rfl (lv_at hl 3 rfl) ?_
        refine va_put (D := D) (ci := 10) (v := .int x3) (ty := .int) (C := RX13) (T := TX13) (N := 45) hx hb hts in_X13_start_X13 tyX13 tyX13_ok nmX13 hown hE.1 hP hD hS 0 rfl rfl 2 (by decide) (hts (.fieldLink RX13 13 "ClauseBookModel" "down" "I") (List.mem_of_getElem? (i := 6) rfl)) (fun _ h9 => h9) rfl (by decide +kernel) rfl rfl (by rw [lg_8]; decide) dX13_start_53 (fun H locs hP hD hS => ?_)
        obtain ⟨g_9, eg_9⟩ : ∃ z : List Value, z = g_8.set 2 (.int x3) := ⟨_, rfl⟩
        have hP : va_P D vwCl [(h0, .inr (10, g_9))] H := by rw [eg_9]; exact hP
        have hD : va_D A [(h0, .inr (10, g_9))] := by rw [eg_9]; exact hD
        have lg_9 : g_9.length = 45 := by rw [eg_9, List.length_set]; exact lg_8
        have kg_9_2 : g_9[2]? = some (.int x3) := by rw [eg_9]; exact List.getElem?_set_self (by rw [lg_8]; decide)
        have kg_9_1 : g_9[1]? = some (.int x2) := by rw [eg_9, List.getElem?_set_ne (by decide)]; exact kg_8_1
        have kg_9_0 : g_9[0]? = some (.int x1) := by rw [eg_9, List.getElem?_set_ne (by decide)]; exact kg_8_0
        refine lv_iconst (v := 1) hx hb dX13_start_56 (by decide) ?_
        exact W.iret hx hb hr (fun t ht hW => ⟨⟨_, (), rfl, (by first | decide | (unfold sp_start; (repeat' split) <;> first | rfl | (exfalso; omega))), by rw [ht]; exact hP.sub [] rfl, hD.sub [] (by decide) rfl⟩, hS.F ht⟩) hS.2.2 dX13_start_57
      · refine lv_if_ne (tgt := 41) hx hb dX13_start_35 (by decide) (fun c9 => absurd c9 (by decide)) (fun _ => ?_)
        refine lv_bipush (v := (-2)) hx hb dX13_start_38 (by decide) ?_
        exact W.iret hx hb hr (fun t ht hW => ⟨⟨_, (), rfl, (by first | decide | (unfold sp_start; (repeat' split) <;> first | rfl | (exfalso; omega))), by rw [ht]; exact hP.sub [] rfl, hD.sub [] (by decide) rfl⟩, hS.F ht⟩) hS.2.2 dX13_start_40
    · refine lv_if_eq (tgt := 38) hx hb dX13_start_23 (by decide) (fun _ => ?_) (fun c9 => absurd c9 (by decide))
      refine lv_bipush (v := (-2)) hx hb dX13_start_38 (by decide) ?_
      exact W.iret hx hb hr (fun t ht hW => ⟨⟨_, (), rfl, (by first | decide | (unfold sp_start; (repeat' split) <;> first | rfl | (exfalso; omega))), by rw [ht]; exact hP.sub [] rfl, hD.sub [] (by decide) rfl⟩, hS.F ht⟩) hS.2.2 dX13_start_40
  · refine lv_if_eq (tgt := 38) hx hb dX13_start_11 (by decide) (fun _ => ?_) (fun c9 => absurd c9 (by decide))
    refine lv_bipush (v := (-2)) hx hb dX13_start_38 (by decide) ?_
    exact W.iret hx hb hr (fun t ht hW => ⟨⟨_, (), rfl, (by first | decide | (unfold sp_start; (repeat' split) <;> first | rfl | (exfalso; omega))), by rw [ht]; exact hP.sub [] rfl, hD.sub [] (by decide) rfl⟩, hS.F ht⟩) hS.2.2 dX13_start_40
theorem dX13_odds_0 : decode cX13_odds 0 = .ok (.iload_n 2, 1) := by decide +kernel
theorem dX13_odds_1 : decode cX13_odds 1 = .ok (.i2l, 1) := by decide +kernel
theorem dX13_odds_11 : decode cX13_odds 11 = .ok (.ifCond .eq 14, 3) := by decide +kernel
theorem dX13_odds_14 : decode cX13_odds 14 = .ok (.iload_n 1, 1) := by decide +kernel
theorem dX13_odds_15 : decode cX13_odds 15 = .ok (.i2l, 1) := by decide +kernel
theorem dX13_odds_16 : decode cX13_odds 16 = .ok (.lconst 0, 1) := by decide +kernel
theorem dX13_odds_17 : decode cX13_odds 17 = .ok (.iload_n 2, 1) := by decide +kernel
theorem dX13_odds_18 : decode cX13_odds 18 = .ok (.i2l, 1) := by decide +kernel
theorem dX13_odds_19 : decode cX13_odds 19 = .ok (.invokestatic 175, 3) := by decide +kernel
theorem dX13_odds_2 : decode cX13_odds 2 = .ok (.ldc2_w 184, 3) := by decide +kernel
theorem dX13_odds_22 : decode cX13_odds 22 = .ok (.ifCond .ne 6, 3) := by decide +kernel
theorem dX13_odds_25 : decode cX13_odds 25 = .ok (.bipush (-2), 2) := by decide +kernel
theorem dX13_odds_27 : decode cX13_odds 27 = .ok (.ireturn, 1) := by decide +kernel
theorem dX13_odds_28 : decode cX13_odds 28 = .ok (.aload_n 0, 1) := by decide +kernel
theorem dX13_odds_29 : decode cX13_odds 29 = .ok (.iload_n 1, 1) := by decide +kernel
theorem dX13_odds_30 : decode cX13_odds 30 = .ok (.putfield 16, 3) := by decide +kernel
theorem dX13_odds_33 : decode cX13_odds 33 = .ok (.aload_n 0, 1) := by decide +kernel
theorem dX13_odds_34 : decode cX13_odds 34 = .ok (.iload_n 2, 1) := by decide +kernel
theorem dX13_odds_35 : decode cX13_odds 35 = .ok (.putfield 19, 3) := by decide +kernel
theorem dX13_odds_38 : decode cX13_odds 38 = .ok (.iconst 1, 1) := by decide +kernel
theorem dX13_odds_39 : decode cX13_odds 39 = .ok (.ireturn, 1) := by decide +kernel
theorem dX13_odds_5 : decode cX13_odds 5 = .ok (.ldc2_w 179, 3) := by decide +kernel
theorem dX13_odds_8 : decode cX13_odds 8 = .ok (.invokestatic 175, 3) := by decide +kernel
set_option maxRecDepth 20000 in
theorem ggX13_odds_X13_in : GoodIn wsX13_odds wsX13_in := goodIn_r _ [8] (by decide +kernel) (by decide +kernel)
set_option maxRecDepth 20000 in
theorem gX13_odds_X13_in : GoodIn wsX13_odds (va_wsS RX13 175 yX13_in wsX13_in) := goodIn_app (goodIn_of _ (by decide +kernel)) ggX13_odds_X13_in
set_option maxRecDepth 20000 in
theorem in_X13_odds_X13 : ∀ w ∈ wsX130, w ∈ wsX13_odds := by decide +kernel
set_option maxHeartbeats 4000000 in
set_option maxRecDepth 100000 in
theorem f_X13_odds (l : Launch) (D : va_G) (T : Nat → ClassId) (sz : Nat) (h0 : Nat) (fs0 : List Value) (x1 : Int32) (x2 : Int32) (hl0 : fs0.length = 45) : Met l yX13_odds wsX13_odds ({ frames := 1, cells := 0, slots := 0, locals := 25 }) (pW [.ref h0, .int x1, .int x2] D T [(h0, .inr (10, fs0))] sz) (va_Qi (fun (r : Int32) (u : Unit) => r = sp_odds x1 x2) (bW D (va_A [(h0, .inr (10, fs0))] sz) (fun (u : Unit) => ([] : va_W))) (va_A [(h0, .inr (10, fs0))] sz)) 0 0 (va_A [(h0, .inr (10, fs0))] sz) := by
  refine Met.ofW (cc := cX13_odds) (maxL := 3) (ret := (some .int)) (by decide) rfl ?_
  intro p e s m args below meth c s₁ B hml hv
  obtain ⟨rfl, hsz, hP, hE, hD0⟩ := hv
  have hx := B.exec
  have hb := B.bytes
  have hr := B.returns
  have hts := atoms_spec (ws := wsX13_odds) B.pre
  have hown : s.vm.findClass RX13 = some m.cls := findClass_of_methodNamed B.named
  have hlocks := B.notSynchronized
  subst hsz
  have hD := hD0.self (sz := s.heap.size)
  generalize hAe : va_A [(h0, .inr (10, fs0))] s.heap.size = A at hD ⊢
  have hA : ∀ q : Nat, s.heap.size ≤ q → A q := fun q h => by rw [← hAe]; exact Or.inr h
  have hS : va_S A s.heap s.heap [] := va_S.rf
  have hP : va_P D vwCl [(h0, .inr (10, fs0))] s.heap := hP
  have hl := lv_entry ([.ref h0, .int x1, .int x2]) (n := 3) (Nat.le_of_ble_eq_true rfl)
  rw [lg_entry_eq]
  generalize (lg_sl ([.ref h0, .int x1, .int x2]) ++ List.replicate (3 - (lg_sl ([.ref h0, .int x1, .int x2])).length) Slot.unset).toArray = ls at hl ⊢
  have hl : lv_has ls 3 [(0, .ref h0), (1, .int x1), (2, .int x2)] := hl
  clear hD0
  refine lv_iload_n hx hb dX13_odds_0 rfl (lv_at hl 2 rfl) ?_
  refine lv_i2l hx hb dX13_odds_1 rfl ?_
  refine lv_ldc2 (v := 2) hx hb hown (hts (.constantLong RX13 184 (2)) (List.mem_of_getElem? (i := 1) rfl)) dX13_odds_2 ?_
  refine lv_ldc2 (v := 9) hx hb hown (hts (.constantLong RX13 179 (9)) (List.mem_of_getElem? (i := 2) rfl)) dX13_odds_5 ?_
  refine vp_callSi (W.runS (As := [.long (x2.toInt64), .long 2, .long 9]) (rest := []) ⟨hx, hb, hml, hown, hts⟩ (c_X13_in l D T (x2.toInt64) 2 9 x2.toInt 2 9 ((Int32.toInt_toInt64 _).trans rfl) (by decide) (by decide)) (va_cwS 3 hts gX13_odds_X13_in rfl rfl rfl (by decide +kernel) ⟨Nat.le_of_ble_eq_true rfl, Nat.le_of_ble_eq_true rfl⟩) (pR_S hP hE [] rfl) rfl rfl hl.1 rfl (lv_room (Nat.le_of_ble_eq_true rfl)) dX13_odds_8 ⟨Nat.le_of_ble_eq_true rfl, Nat.le_of_ble_eq_true rfl⟩) (fun r_1 hr_1 => ?_)
  rcases bool_post hr_1 with ⟨c_2, rfl⟩ | ⟨c_2, rfl⟩
  · refine lv_if_eq (tgt := 25) hx hb dX13_odds_11 (by decide) (fun c9 => absurd c9 (by decide)) (fun _ => ?_)
    refine lv_iload_n hx hb dX13_odds_14 rfl (lv_at hl 1 rfl) ?_
    refine lv_i2l hx hb dX13_odds_15 rfl ?_
    refine lv_lconst (v := 0) hx hb dX13_odds_16 (by decide) ?_
    refine lv_iload_n hx hb dX13_odds_17 rfl (lv_at hl 2 rfl) ?_
    refine lv_i2l hx hb dX13_odds_18 rfl ?_
    refine vp_callSi (W.runS (As := [.long (x1.toInt64), .long 0, .long (x2.toInt64)]) (rest := []) ⟨hx, hb, hml, hown, hts⟩ (c_X13_in l D T (x1.toInt64) 0 (x2.toInt64) x1.toInt 0 x2.toInt ((Int32.toInt_toInt64 _).trans rfl) (by decide) ((Int32.toInt_toInt64 _).trans rfl)) (va_cwS 3 hts gX13_odds_X13_in rfl rfl rfl (by decide +kernel) ⟨Nat.le_of_ble_eq_true rfl, Nat.le_of_ble_eq_true rfl⟩) (pR_S hP hE [] rfl) rfl rfl hl.1 rfl (lv_room (Nat.le_of_ble_eq_true rfl)) dX13_odds_19 ⟨Nat.le_of_ble_eq_true rfl, Nat.le_of_ble_eq_true rfl⟩) (fun r_3 hr_3 => ?_)
    rcases bool_post hr_3 with ⟨c_4, rfl⟩ | ⟨c_4, rfl⟩
    · refine lv_if_ne (tgt := 28) hx hb dX13_odds_22 (by decide) (fun _ => ?_) (fun c9 => absurd c9 (by decide))
      refine lv_aload_n hx hb dX13_odds_28 rfl (lv_at hl 0 rfl) ?_
      refine lv_iload_n hx hb dX13_odds_29 rfl (lv_at hl 1 rfl) ?_
      refine va_put (D := D) (ci := 10) (v := .int x1) (ty := .int) (C := RX13) (T := TX13) (N := 45) hx hb hts in_X13_odds_X13 tyX13 tyX13_ok nmX13 hown hE.1 hP hD hS 0 rfl rfl 3 (by decide) (hts (.fieldLink RX13 16 "ClauseBookModel" "oddsP" "I") (List.mem_of_getElem? (i := 3) rfl)) (fun _ h9 => h9) rfl (by decide +kernel) rfl rfl (by rw [hl0]; decide) dX13_odds_30 (fun H locs hP hD hS => ?_)
      obtain ⟨g_5, eg_5⟩ : ∃ z : List Value, z = fs0.set 3 (.int x1) := ⟨_, rfl⟩
      have hP : va_P D vwCl [(h0, .inr (10, g_5))] H := by rw [eg_5]; exact hP
      have hD : va_D A [(h0, .inr (10, g_5))] := by rw [eg_5]; exact hD
      have lg_5 : g_5.length = 45 := by rw [eg_5, List.length_set]; exact hl0
      have kg_5_3 : g_5[3]? = some (.int x1) := by rw [eg_5]; exact List.getElem?_set_self (by rw [hl0]; decide)
      refine lv_aload_n hx hb dX13_odds_33 rfl (lv_at hl 0 rfl) ?_
      refine lv_iload_n hx hb dX13_odds_34 rfl (lv_at hl 2 rfl) ?_
      refine va_put (D := D) (ci := 10) (v := .int x2) (ty := .int) (C := RX13) (T := TX13) (N := 45) hx hb hts in_X13_odds_X13 tyX13 tyX13_ok nmX13 hown hE.1 hP hD hS 0 rfl rfl 4 (by decide) (hts (.fieldLink RX13 19 "ClauseBookModel" "oddsQ" "I") (List.mem_of_getElem? (i := 4) rfl)) (fun _ h9 => h9) rfl (by decide +kernel) rfl rfl (by rw [lg_5]; decide) dX13_odds_35 (fun H locs hP hD hS => ?_)
      obtain ⟨g_6, eg_6⟩ : ∃ z : List Value, z = g_5.set 4 (.int x2) := ⟨_, rfl⟩
      have hP : va_P D vwCl [(h0, .inr (10, g_6))] H := by rw [eg_6]; exact hP
      have hD : va_D A [(h0, .inr (10, g_6))] := by rw [eg_6]; exact hD
      have lg_6 : g_6.length = 45 := by rw [eg_6, List.length_set]; exact lg_5
      have kg_6_4 : g_6[4]? = some (.int x2) := by rw [eg_6]; exact List.getElem?_set_self (by rw [lg_5]; decide)
      have kg_6_3 : g_6[3]? = some (.int x1) := by rw [eg_6, List.getElem?_set_ne (by decide)]; exact kg_5_3
      refine lv_iconst (v := 1) hx hb dX13_odds_38 (by decide) ?_
      exact W.iret hx hb hr (fun t ht hW => ⟨⟨_, (), rfl, (by first | decide | (unfold sp_odds; (repeat' split) <;> first | rfl | (exfalso; omega))), by rw [ht]; exact hP.sub [] rfl, hD.sub [] (by decide) rfl⟩, hS.F ht⟩) hS.2.2 dX13_odds_39
    · refine lv_if_ne (tgt := 28) hx hb dX13_odds_22 (by decide) (fun c9 => absurd c9 (by decide)) (fun _ => ?_)
      refine lv_bipush (v := (-2)) hx hb dX13_odds_25 (by decide) ?_
      exact W.iret hx hb hr (fun t ht hW => ⟨⟨_, (), rfl, (by first | decide | (unfold sp_odds; (repeat' split) <;> first | rfl | (exfalso; omega))), by rw [ht]; exact hP.sub [] rfl, hD.sub [] (by decide) rfl⟩, hS.F ht⟩) hS.2.2 dX13_odds_27
  · refine lv_if_eq (tgt := 25) hx hb dX13_odds_11 (by decide) (fun _ => ?_) (fun c9 => absurd c9 (by decide))
    refine lv_bipush (v := (-2)) hx hb dX13_odds_25 (by decide) ?_
    exact W.iret hx hb hr (fun t ht hW => ⟨⟨_, (), rfl, (by first | decide | (unfold sp_odds; (repeat' split) <;> first | rfl | (exfalso; omega))), by rw [ht]; exact hP.sub [] rfl, hD.sub [] (by decide) rfl⟩, hS.F ht⟩) hS.2.2 dX13_odds_27
theorem dX13_wait_0 : decode cX13_wait 0 = .ok (.iload_n 2, 1) := by decide +kernel
theorem dX13_wait_1 : decode cX13_wait 1 = .ok (.i2l, 1) := by decide +kernel
theorem dX13_wait_12 : decode cX13_wait 12 = .ok (.iload_n 1, 1) := by decide +kernel
theorem dX13_wait_13 : decode cX13_wait 13 = .ok (.i2l, 1) := by decide +kernel
theorem dX13_wait_14 : decode cX13_wait 14 = .ok (.lconst 1, 1) := by decide +kernel
theorem dX13_wait_15 : decode cX13_wait 15 = .ok (.iload_n 2, 1) := by decide +kernel
theorem dX13_wait_16 : decode cX13_wait 16 = .ok (.i2l, 1) := by decide +kernel
theorem dX13_wait_17 : decode cX13_wait 17 = .ok (.invokestatic 175, 3) := by decide +kernel
theorem dX13_wait_2 : decode cX13_wait 2 = .ok (.lconst 1, 1) := by decide +kernel
theorem dX13_wait_20 : decode cX13_wait 20 = .ok (.ifCond .ne 6, 3) := by decide +kernel
theorem dX13_wait_23 : decode cX13_wait 23 = .ok (.bipush (-2), 2) := by decide +kernel
theorem dX13_wait_25 : decode cX13_wait 25 = .ok (.ireturn, 1) := by decide +kernel
theorem dX13_wait_26 : decode cX13_wait 26 = .ok (.aload_n 0, 1) := by decide +kernel
theorem dX13_wait_27 : decode cX13_wait 27 = .ok (.iload_n 1, 1) := by decide +kernel
theorem dX13_wait_28 : decode cX13_wait 28 = .ok (.putfield 22, 3) := by decide +kernel
theorem dX13_wait_3 : decode cX13_wait 3 = .ok (.ldc2_w 179, 3) := by decide +kernel
theorem dX13_wait_31 : decode cX13_wait 31 = .ok (.aload_n 0, 1) := by decide +kernel
theorem dX13_wait_32 : decode cX13_wait 32 = .ok (.iload_n 2, 1) := by decide +kernel
theorem dX13_wait_33 : decode cX13_wait 33 = .ok (.putfield 25, 3) := by decide +kernel
theorem dX13_wait_36 : decode cX13_wait 36 = .ok (.iconst 1, 1) := by decide +kernel
theorem dX13_wait_37 : decode cX13_wait 37 = .ok (.ireturn, 1) := by decide +kernel
theorem dX13_wait_6 : decode cX13_wait 6 = .ok (.invokestatic 175, 3) := by decide +kernel
theorem dX13_wait_9 : decode cX13_wait 9 = .ok (.ifCond .eq 14, 3) := by decide +kernel
set_option maxRecDepth 20000 in
theorem ggX13_wait_X13_in : GoodIn wsX13_wait wsX13_in := goodIn_r _ [7] (by decide +kernel) (by decide +kernel)
set_option maxRecDepth 20000 in
theorem gX13_wait_X13_in : GoodIn wsX13_wait (va_wsS RX13 175 yX13_in wsX13_in) := goodIn_app (goodIn_of _ (by decide +kernel)) ggX13_wait_X13_in
set_option maxRecDepth 20000 in
theorem in_X13_wait_X13 : ∀ w ∈ wsX130, w ∈ wsX13_wait := by decide +kernel
set_option maxHeartbeats 4000000 in
set_option maxRecDepth 100000 in
theorem f_X13_wait (l : Launch) (D : va_G) (T : Nat → ClassId) (sz : Nat) (h0 : Nat) (fs0 : List Value) (x1 : Int32) (x2 : Int32) (hl0 : fs0.length = 45) : Met l yX13_wait wsX13_wait ({ frames := 1, cells := 0, slots := 0, locals := 25 }) (pW [.ref h0, .int x1, .int x2] D T [(h0, .inr (10, fs0))] sz) (va_Qi (fun (r : Int32) (u : Unit) => r = sp_wait x1 x2) (bW D (va_A [(h0, .inr (10, fs0))] sz) (fun (u : Unit) => ([] : va_W))) (va_A [(h0, .inr (10, fs0))] sz)) 0 0 (va_A [(h0, .inr (10, fs0))] sz) := by
  refine Met.ofW (cc := cX13_wait) (maxL := 3) (ret := (some .int)) (by decide) rfl ?_
  intro p e s m args below meth c s₁ B hml hv
  obtain ⟨rfl, hsz, hP, hE, hD0⟩ := hv
  have hx := B.exec
  have hb := B.bytes
  have hr := B.returns
  have hts := atoms_spec (ws := wsX13_wait) B.pre
  have hown : s.vm.findClass RX13 = some m.cls := findClass_of_methodNamed B.named
  have hlocks := B.notSynchronized
  subst hsz
  have hD := hD0.self (sz := s.heap.size)
  generalize hAe : va_A [(h0, .inr (10, fs0))] s.heap.size = A at hD ⊢
  have hA : ∀ q : Nat, s.heap.size ≤ q → A q := fun q h => by rw [← hAe]; exact Or.inr h
  have hS : va_S A s.heap s.heap [] := va_S.rf
  have hP : va_P D vwCl [(h0, .inr (10, fs0))] s.heap := hP
  have hl := lv_entry ([.ref h0, .int x1, .int x2]) (n := 3) (Nat.le_of_ble_eq_true rfl)
  rw [lg_entry_eq]
  generalize (lg_sl ([.ref h0, .int x1, .int x2]) ++ List.replicate (3 - (lg_sl ([.ref h0, .int x1, .int x2])).length) Slot.unset).toArray = ls at hl ⊢
  have hl : lv_has ls 3 [(0, .ref h0), (1, .int x1), (2, .int x2)] := hl
  clear hD0
  refine lv_iload_n hx hb dX13_wait_0 rfl (lv_at hl 2 rfl) ?_
  refine lv_i2l hx hb dX13_wait_1 rfl ?_
  refine lv_lconst (v := 1) hx hb dX13_wait_2 (by decide) ?_
  refine lv_ldc2 (v := 9) hx hb hown (hts (.constantLong RX13 179 (9)) (List.mem_of_getElem? (i := 1) rfl)) dX13_wait_3 ?_
  refine vp_callSi (W.runS (As := [.long (x2.toInt64), .long 1, .long 9]) (rest := []) ⟨hx, hb, hml, hown, hts⟩ (c_X13_in l D T (x2.toInt64) 1 9 x2.toInt 1 9 ((Int32.toInt_toInt64 _).trans rfl) (by decide) (by decide)) (va_cwS 3 hts gX13_wait_X13_in rfl rfl rfl (by decide +kernel) ⟨Nat.le_of_ble_eq_true rfl, Nat.le_of_ble_eq_true rfl⟩) (pR_S hP hE [] rfl) rfl rfl hl.1 rfl (lv_room (Nat.le_of_ble_eq_true rfl)) dX13_wait_6 ⟨Nat.le_of_ble_eq_true rfl, Nat.le_of_ble_eq_true rfl⟩) (fun r_1 hr_1 => ?_)
  rcases bool_post hr_1 with ⟨c_2, rfl⟩ | ⟨c_2, rfl⟩
  · refine lv_if_eq (tgt := 23) hx hb dX13_wait_9 (by decide) (fun c9 => absurd c9 (by decide)) (fun _ => ?_)
    refine lv_iload_n hx hb dX13_wait_12 rfl (lv_at hl 1 rfl) ?_
    refine lv_i2l hx hb dX13_wait_13 rfl ?_
    refine lv_lconst (v := 1) hx hb dX13_wait_14 (by decide) ?_
    refine lv_iload_n hx hb dX13_wait_15 rfl (lv_at hl 2 rfl) ?_
    refine lv_i2l hx hb dX13_wait_16 rfl ?_
    refine vp_callSi (W.runS (As := [.long (x1.toInt64), .long 1, .long (x2.toInt64)]) (rest := []) ⟨hx, hb, hml, hown, hts⟩ (c_X13_in l D T (x1.toInt64) 1 (x2.toInt64) x1.toInt 1 x2.toInt ((Int32.toInt_toInt64 _).trans rfl) (by decide) ((Int32.toInt_toInt64 _).trans rfl)) (va_cwS 3 hts gX13_wait_X13_in rfl rfl rfl (by decide +kernel) ⟨Nat.le_of_ble_eq_true rfl, Nat.le_of_ble_eq_true rfl⟩) (pR_S hP hE [] rfl) rfl rfl hl.1 rfl (lv_room (Nat.le_of_ble_eq_true rfl)) dX13_wait_17 ⟨Nat.le_of_ble_eq_true rfl, Nat.le_of_ble_eq_true rfl⟩) (fun r_3 hr_3 => ?_)
    rcases bool_post hr_3 with ⟨c_4, rfl⟩ | ⟨c_4, rfl⟩
    · refine lv_if_ne (tgt := 26) hx hb dX13_wait_20 (by decide) (fun _ => ?_) (fun c9 => absurd c9 (by decide))
      refine lv_aload_n hx hb dX13_wait_26 rfl (lv_at hl 0 rfl) ?_
      refine lv_iload_n hx hb dX13_wait_27 rfl (lv_at hl 1 rfl) ?_
      refine va_put (D := D) (ci := 10) (v := .int x1) (ty := .int) (C := RX13) (T := TX13) (N := 45) hx hb hts in_X13_wait_X13 tyX13 tyX13_ok nmX13 hown hE.1 hP hD hS 0 rfl rfl 5 (by decide) (hts (.fieldLink RX13 22 "ClauseBookModel" "waitA" "I") (List.mem_of_getElem? (i := 2) rfl)) (fun _ h9 => h9) rfl (by decide +kernel) rfl rfl (by rw [hl0]; decide) dX13_wait_28 (fun H locs hP hD hS => ?_)
      obtain ⟨g_5, eg_5⟩ : ∃ z : List Value, z = fs0.set 5 (.int x1) := ⟨_, rfl⟩
      have hP : va_P D vwCl [(h0, .inr (10, g_5))] H := by rw [eg_5]; exact hP
      have hD : va_D A [(h0, .inr (10, g_5))] := by rw [eg_5]; exact hD
      have lg_5 : g_5.length = 45 := by rw [eg_5, List.length_set]; exact hl0
      have kg_5_5 : g_5[5]? = some (.int x1) := by rw [eg_5]; exact List.getElem?_set_self (by rw [hl0]; decide)
      refine lv_aload_n hx hb dX13_wait_31 rfl (lv_at hl 0 rfl) ?_
      refine lv_iload_n hx hb dX13_wait_32 rfl (lv_at hl 2 rfl) ?_
      refine va_put (D := D) (ci := 10) (v := .int x2) (ty := .int) (C := RX13) (T := TX13) (N := 45) hx hb hts in_X13_wait_X13 tyX13 tyX13_ok nmX13 hown hE.1 hP hD hS 0 rfl rfl 6 (by decide) (hts (.fieldLink RX13 25 "ClauseBookModel" "waitB" "I") (List.mem_of_getElem? (i := 3) rfl)) (fun _ h9 => h9) rfl (by decide +kernel) rfl rfl (by rw [lg_5]; decide) dX13_wait_33 (fun H locs hP hD hS => ?_)
      obtain ⟨g_6, eg_6⟩ : ∃ z : List Value, z = g_5.set 6 (.int x2) := ⟨_, rfl⟩
      have hP : va_P D vwCl [(h0, .inr (10, g_6))] H := by rw [eg_6]; exact hP
      have hD : va_D A [(h0, .inr (10, g_6))] := by rw [eg_6]; exact hD
      have lg_6 : g_6.length = 45 := by rw [eg_6, List.length_set]; exact lg_5
      have kg_6_6 : g_6[6]? = some (.int x2) := by rw [eg_6]; exact List.getElem?_set_self (by rw [lg_5]; decide)
      have kg_6_5 : g_6[5]? = some (.int x1) := by rw [eg_6, List.getElem?_set_ne (by decide)]; exact kg_5_5
      refine lv_iconst (v := 1) hx hb dX13_wait_36 (by decide) ?_
      exact W.iret hx hb hr (fun t ht hW => ⟨⟨_, (), rfl, (by first | decide | (unfold sp_wait; (repeat' split) <;> first | rfl | (exfalso; omega))), by rw [ht]; exact hP.sub [] rfl, hD.sub [] (by decide) rfl⟩, hS.F ht⟩) hS.2.2 dX13_wait_37
    · refine lv_if_ne (tgt := 26) hx hb dX13_wait_20 (by decide) (fun c9 => absurd c9 (by decide)) (fun _ => ?_)
      refine lv_bipush (v := (-2)) hx hb dX13_wait_23 (by decide) ?_
      exact W.iret hx hb hr (fun t ht hW => ⟨⟨_, (), rfl, (by first | decide | (unfold sp_wait; (repeat' split) <;> first | rfl | (exfalso; omega))), by rw [ht]; exact hP.sub [] rfl, hD.sub [] (by decide) rfl⟩, hS.F ht⟩) hS.2.2 dX13_wait_25
  · refine lv_if_eq (tgt := 23) hx hb dX13_wait_9 (by decide) (fun _ => ?_) (fun c9 => absurd c9 (by decide))
    refine lv_bipush (v := (-2)) hx hb dX13_wait_23 (by decide) ?_
    exact W.iret hx hb hr (fun t ht hW => ⟨⟨_, (), rfl, (by first | decide | (unfold sp_wait; (repeat' split) <;> first | rfl | (exfalso; omega))), by rw [ht]; exact hP.sub [] rfl, hD.sub [] (by decide) rfl⟩, hS.F ht⟩) hS.2.2 dX13_wait_25
theorem dX13_comes_0 : decode cX13_comes 0 = .ok (.aload_n 0, 1) := by decide +kernel
theorem dX13_comes_1 : decode cX13_comes 1 = .ok (.getfield 28, 3) := by decide +kernel
theorem dX13_comes_10 : decode cX13_comes 10 = .ok (.aload_n 0, 1) := by decide +kernel
theorem dX13_comes_11 : decode cX13_comes 11 = .ok (.getfield 32, 3) := by decide +kernel
theorem dX13_comes_14 : decode cX13_comes 14 = .ok (.aload_n 0, 1) := by decide +kernel
theorem dX13_comes_15 : decode cX13_comes 15 = .ok (.getfield 205, 3) := by decide +kernel
theorem dX13_comes_18 : decode cX13_comes 18 = .ok (.iload_n 2, 1) := by decide +kernel
theorem dX13_comes_19 : decode cX13_comes 19 = .ok (.iastore, 1) := by decide +kernel
theorem dX13_comes_20 : decode cX13_comes 20 = .ok (.aload_n 0, 1) := by decide +kernel
theorem dX13_comes_21 : decode cX13_comes 21 = .ok (.getfield 35, 3) := by decide +kernel
theorem dX13_comes_24 : decode cX13_comes 24 = .ok (.aload_n 0, 1) := by decide +kernel
theorem dX13_comes_25 : decode cX13_comes 25 = .ok (.getfield 205, 3) := by decide +kernel
theorem dX13_comes_28 : decode cX13_comes 28 = .ok (.iload_n 3, 1) := by decide +kernel
theorem dX13_comes_29 : decode cX13_comes 29 = .ok (.iastore, 1) := by decide +kernel
theorem dX13_comes_30 : decode cX13_comes 30 = .ok (.aload_n 0, 1) := by decide +kernel
theorem dX13_comes_31 : decode cX13_comes 31 = .ok (.getfield 38, 3) := by decide +kernel
theorem dX13_comes_34 : decode cX13_comes 34 = .ok (.aload_n 0, 1) := by decide +kernel
theorem dX13_comes_35 : decode cX13_comes 35 = .ok (.getfield 205, 3) := by decide +kernel
theorem dX13_comes_38 : decode cX13_comes 38 = .ok (.iload 4, 2) := by decide +kernel
theorem dX13_comes_4 : decode cX13_comes 4 = .ok (.aload_n 0, 1) := by decide +kernel
theorem dX13_comes_40 : decode cX13_comes 40 = .ok (.iastore, 1) := by decide +kernel
theorem dX13_comes_41 : decode cX13_comes 41 = .ok (.aload_n 0, 1) := by decide +kernel
theorem dX13_comes_42 : decode cX13_comes 42 = .ok (.dup, 1) := by decide +kernel
theorem dX13_comes_43 : decode cX13_comes 43 = .ok (.getfield 205, 3) := by decide +kernel
theorem dX13_comes_46 : decode cX13_comes 46 = .ok (.iconst 1, 1) := by decide +kernel
theorem dX13_comes_47 : decode cX13_comes 47 = .ok (.iadd, 1) := by decide +kernel
theorem dX13_comes_48 : decode cX13_comes 48 = .ok (.putfield 205, 3) := by decide +kernel
theorem dX13_comes_5 : decode cX13_comes 5 = .ok (.getfield 205, 3) := by decide +kernel
theorem dX13_comes_51 : decode cX13_comes 51 = .ok (.aload_n 0, 1) := by decide +kernel
theorem dX13_comes_52 : decode cX13_comes 52 = .ok (.getfield 205, 3) := by decide +kernel
theorem dX13_comes_55 : decode cX13_comes 55 = .ok (.iconst 1, 1) := by decide +kernel
theorem dX13_comes_56 : decode cX13_comes 56 = .ok (.isub, 1) := by decide +kernel
theorem dX13_comes_57 : decode cX13_comes 57 = .ok (.ireturn, 1) := by decide +kernel
theorem dX13_comes_8 : decode cX13_comes 8 = .ok (.iload_n 1, 1) := by decide +kernel
theorem dX13_comes_9 : decode cX13_comes 9 = .ok (.iastore, 1) := by decide +kernel
set_option maxRecDepth 20000 in
theorem in_X13_comes_X13 : ∀ w ∈ wsX130, w ∈ wsX13_comes := by decide +kernel
set_option maxHeartbeats 4000000 in
set_option maxRecDepth 100000 in
theorem f_X13_comes (l : Launch) (D : va_G) (T : Nat → ClassId) (sz : Nat) (h0 : Nat) (fs0 : List Value) (a0 : Nat) (f8 : Nat → Int32) (a1 : Nat) (f9 : Nat → Int32) (a2 : Nat) (f10 : Nat → Int32) (a3 : Nat) (f11 : Nat → Int32) (x1 : Int32) (x2 : Int32) (x3 : Int32) (x4 : Int32) (hl0 : fs0.length = 45) (e0_7 : fs0[7]? = some (.int 0)) (e0_8 : fs0[8]? = some (.ref a0)) (e0_9 : fs0[9]? = some (.ref a1)) (e0_10 : fs0[10]? = some (.ref a2)) (e0_11 : fs0[11]? = some (.ref a3)) : Met l yX13_comes wsX13_comes ({ frames := 0, cells := 0, slots := 0, locals := 0 }) (pW [.ref h0, .int x1, .int x2, .int x3, .int x4] D T [(h0, .inr (10, fs0)), (a0, .inl (T 0, 24, .inl f8)), (a1, .inl (T 0, 24, .inl f9)), (a2, .inl (T 0, 24, .inl f10)), (a3, .inl (T 0, 24, .inl f11))] sz) (va_Qi (fun (r : Int32) (u : Unit) => r = 0) (bW D (va_A [(h0, .inr (10, fs0)), (a0, .inl (T 0, 24, .inl f8)), (a1, .inl (T 0, 24, .inl f9)), (a2, .inl (T 0, 24, .inl f10)), (a3, .inl (T 0, 24, .inl f11))] sz) (fun (u : Unit) => ([] : va_W))) (va_A [(h0, .inr (10, fs0)), (a0, .inl (T 0, 24, .inl f8)), (a1, .inl (T 0, 24, .inl f9)), (a2, .inl (T 0, 24, .inl f10)), (a3, .inl (T 0, 24, .inl f11))] sz)) 0 0 (va_A [(h0, .inr (10, fs0)), (a0, .inl (T 0, 24, .inl f8)), (a1, .inl (T 0, 24, .inl f9)), (a2, .inl (T 0, 24, .inl f10)), (a3, .inl (T 0, 24, .inl f11))] sz) := by
  refine Met.ofW (cc := cX13_comes) (maxL := 5) (ret := (some .int)) (by decide) rfl ?_
  intro p e s m args below meth c s₁ B hml hv
  obtain ⟨rfl, hsz, hP, hE, hD0⟩ := hv
  have hx := B.exec
  have hb := B.bytes
  have hr := B.returns
  have hts := atoms_spec (ws := wsX13_comes) B.pre
  have hown : s.vm.findClass RX13 = some m.cls := findClass_of_methodNamed B.named
  have hlocks := B.notSynchronized
  subst hsz
  have hD := hD0.self (sz := s.heap.size)
  generalize hAe : va_A [(h0, .inr (10, fs0)), (a0, .inl (T 0, 24, .inl f8)), (a1, .inl (T 0, 24, .inl f9)), (a2, .inl (T 0, 24, .inl f10)), (a3, .inl (T 0, 24, .inl f11))] s.heap.size = A at hD ⊢
  have hA : ∀ q : Nat, s.heap.size ≤ q → A q := fun q h => by rw [← hAe]; exact Or.inr h
  have hS : va_S A s.heap s.heap [] := va_S.rf
  have hP : va_P D vwCl [(h0, .inr (10, fs0)), (a0, .inl (T 0, 24, .inl f8)), (a1, .inl (T 0, 24, .inl f9)), (a2, .inl (T 0, 24, .inl f10)), (a3, .inl (T 0, 24, .inl f11))] s.heap := hP
  have hl := lv_entry ([.ref h0, .int x1, .int x2, .int x3, .int x4]) (n := 5) (Nat.le_of_ble_eq_true rfl)
  rw [lg_entry_eq]
  generalize (lg_sl ([.ref h0, .int x1, .int x2, .int x3, .int x4]) ++ List.replicate (5 - (lg_sl ([.ref h0, .int x1, .int x2, .int x3, .int x4])).length) Slot.unset).toArray = ls at hl ⊢
  have hl : lv_has ls 5 [(0, .ref h0), (1, .int x1), (2, .int x2), (3, .int x3), (4, .int x4)] := hl
  clear hD0
  refine lv_aload_n hx hb dX13_comes_0 rfl (lv_at hl 0 rfl) ?_
  refine va_get (D := D) (ci := 10) (v := .ref a0) (C := RX13) (T := TX13) (N := 45) hx hb hts in_X13_comes_X13 hown hE.1 hP 0 rfl rfl 8 (by decide) (hts (.fieldLink RX13 28 "ClauseBookModel" "kind" "[I") (List.mem_of_getElem? (i := 1) rfl)) (fun _ h9 => h9) e0_8 dX13_comes_1 ?_
  refine lv_aload_n hx hb dX13_comes_4 rfl (lv_at hl 0 rfl) ?_
  refine va_get (D := D) (ci := 10) (v := .int 0) (C := RX13) (T := TX13) (N := 45) hx hb hts in_X13_comes_X13 hown hE.1 hP 0 rfl rfl 7 (by decide) (hts (.fieldLink RX13 205 "ClauseBookModel" "many" "I") (List.mem_of_getElem? (i := 2) rfl)) (fun _ h9 => h9) e0_7 dX13_comes_5 ?_
  refine lv_iload_n hx hb dX13_comes_8 rfl (lv_at hl 1 rfl) ?_
  refine va_iast hx hb hE.1 hP hD hS 1 0 rfl rfl (by unfold vp_in; decide) dX13_comes_9 (fun H locs hP hD hS => ?_)
  have hP : va_P D vwCl [(h0, .inr (10, fs0)), (a0, .inl (T 0, 24, .inl (upd f8 0 x1))), (a1, .inl (T 0, 24, .inl f9)), (a2, .inl (T 0, 24, .inl f10)), (a3, .inl (T 0, 24, .inl f11))] H := hP
  have hD : va_D A [(h0, .inr (10, fs0)), (a0, .inl (T 0, 24, .inl (upd f8 0 x1))), (a1, .inl (T 0, 24, .inl f9)), (a2, .inl (T 0, 24, .inl f10)), (a3, .inl (T 0, 24, .inl f11))] := hD
  refine lv_aload_n hx hb dX13_comes_10 rfl (lv_at hl 0 rfl) ?_
  refine va_get (D := D) (ci := 10) (v := .ref a1) (C := RX13) (T := TX13) (N := 45) hx hb hts in_X13_comes_X13 hown hE.1 hP 0 rfl rfl 9 (by decide) (hts (.fieldLink RX13 32 "ClauseBookModel" "number" "[I") (List.mem_of_getElem? (i := 3) rfl)) (fun _ h9 => h9) e0_9 dX13_comes_11 ?_
  refine lv_aload_n hx hb dX13_comes_14 rfl (lv_at hl 0 rfl) ?_
  refine va_get (D := D) (ci := 10) (v := .int 0) (C := RX13) (T := TX13) (N := 45) hx hb hts in_X13_comes_X13 hown hE.1 hP 0 rfl rfl 7 (by decide) (hts (.fieldLink RX13 205 "ClauseBookModel" "many" "I") (List.mem_of_getElem? (i := 2) rfl)) (fun _ h9 => h9) e0_7 dX13_comes_15 ?_
  refine lv_iload_n hx hb dX13_comes_18 rfl (lv_at hl 2 rfl) ?_
  refine va_iast hx hb hE.1 hP hD hS 2 0 rfl rfl (by unfold vp_in; decide) dX13_comes_19 (fun H locs hP hD hS => ?_)
  have hP : va_P D vwCl [(h0, .inr (10, fs0)), (a0, .inl (T 0, 24, .inl (upd f8 0 x1))), (a1, .inl (T 0, 24, .inl (upd f9 0 x2))), (a2, .inl (T 0, 24, .inl f10)), (a3, .inl (T 0, 24, .inl f11))] H := hP
  have hD : va_D A [(h0, .inr (10, fs0)), (a0, .inl (T 0, 24, .inl (upd f8 0 x1))), (a1, .inl (T 0, 24, .inl (upd f9 0 x2))), (a2, .inl (T 0, 24, .inl f10)), (a3, .inl (T 0, 24, .inl f11))] := hD
  refine lv_aload_n hx hb dX13_comes_20 rfl (lv_at hl 0 rfl) ?_
  refine va_get (D := D) (ci := 10) (v := .ref a2) (C := RX13) (T := TX13) (N := 45) hx hb hts in_X13_comes_X13 hown hE.1 hP 0 rfl rfl 10 (by decide) (hts (.fieldLink RX13 35 "ClauseBookModel" "one" "[I") (List.mem_of_getElem? (i := 4) rfl)) (fun _ h9 => h9) e0_10 dX13_comes_21 ?_
  refine lv_aload_n hx hb dX13_comes_24 rfl (lv_at hl 0 rfl) ?_
  refine va_get (D := D) (ci := 10) (v := .int 0) (C := RX13) (T := TX13) (N := 45) hx hb hts in_X13_comes_X13 hown hE.1 hP 0 rfl rfl 7 (by decide) (hts (.fieldLink RX13 205 "ClauseBookModel" "many" "I") (List.mem_of_getElem? (i := 2) rfl)) (fun _ h9 => h9) e0_7 dX13_comes_25 ?_
  refine lv_iload_n hx hb dX13_comes_28 rfl (lv_at hl 3 rfl) ?_
  refine va_iast hx hb hE.1 hP hD hS 3 0 rfl rfl (by unfold vp_in; decide) dX13_comes_29 (fun H locs hP hD hS => ?_)
  have hP : va_P D vwCl [(h0, .inr (10, fs0)), (a0, .inl (T 0, 24, .inl (upd f8 0 x1))), (a1, .inl (T 0, 24, .inl (upd f9 0 x2))), (a2, .inl (T 0, 24, .inl (upd f10 0 x3))), (a3, .inl (T 0, 24, .inl f11))] H := hP
  have hD : va_D A [(h0, .inr (10, fs0)), (a0, .inl (T 0, 24, .inl (upd f8 0 x1))), (a1, .inl (T 0, 24, .inl (upd f9 0 x2))), (a2, .inl (T 0, 24, .inl (upd f10 0 x3))), (a3, .inl (T 0, 24, .inl f11))] := hD
  refine lv_aload_n hx hb dX13_comes_30 rfl (lv_at hl 0 rfl) ?_
  refine va_get (D := D) (ci := 10) (v := .ref a3) (C := RX13) (T := TX13) (N := 45) hx hb hts in_X13_comes_X13 hown hE.1 hP 0 rfl rfl 11 (by decide) (hts (.fieldLink RX13 38 "ClauseBookModel" "two" "[I") (List.mem_of_getElem? (i := 5) rfl)) (fun _ h9 => h9) e0_11 dX13_comes_31 ?_
  refine lv_aload_n hx hb dX13_comes_34 rfl (lv_at hl 0 rfl) ?_
  refine va_get (D := D) (ci := 10) (v := .int 0) (C := RX13) (T := TX13) (N := 45) hx hb hts in_X13_comes_X13 hown hE.1 hP 0 rfl rfl 7 (by decide) (hts (.fieldLink RX13 205 "ClauseBookModel" "many" "I") (List.mem_of_getElem? (i := 2) rfl)) (fun _ h9 => h9) e0_7 dX13_comes_35 ?_
  refine lv_iload hx hb dX13_comes_38 (lv_at hl 4 rfl) ?_
  refine va_iast hx hb hE.1 hP hD hS 4 0 rfl rfl (by unfold vp_in; decide) dX13_comes_40 (fun H locs hP hD hS => ?_)
  have hP : va_P D vwCl [(h0, .inr (10, fs0)), (a0, .inl (T 0, 24, .inl (upd f8 0 x1))), (a1, .inl (T 0, 24, .inl (upd f9 0 x2))), (a2, .inl (T 0, 24, .inl (upd f10 0 x3))), (a3, .inl (T 0, 24, .inl (upd f11 0 x4)))] H := hP
  have hD : va_D A [(h0, .inr (10, fs0)), (a0, .inl (T 0, 24, .inl (upd f8 0 x1))), (a1, .inl (T 0, 24, .inl (upd f9 0 x2))), (a2, .inl (T 0, 24, .inl (upd f10 0 x3))), (a3, .inl (T 0, 24, .inl (upd f11 0 x4)))] := hD
  refine lv_aload_n hx hb dX13_comes_41 rfl (lv_at hl 0 rfl) ?_
  refine lv_dup hx hb dX13_comes_42 rfl ?_
  refine va_get (D := D) (ci := 10) (v := .int 0) (C := RX13) (T := TX13) (N := 45) hx hb hts in_X13_comes_X13 hown hE.1 hP 0 rfl rfl 7 (by decide) (hts (.fieldLink RX13 205 "ClauseBookModel" "many" "I") (List.mem_of_getElem? (i := 2) rfl)) (fun _ h9 => h9) e0_7 dX13_comes_43 ?_
  refine lv_iconst (v := 1) hx hb dX13_comes_46 (by decide) ?_
  refine lv_iadd hx hb dX13_comes_47 ?_
  refine lv_topi (fun z_1 ez_1 => ?_)
  obtain rfl : z_1 = 1 := ez_1.trans (by decide)
  refine va_put (D := D) (ci := 10) (v := .int 1) (ty := .int) (C := RX13) (T := TX13) (N := 45) hx hb hts in_X13_comes_X13 tyX13 tyX13_ok nmX13 hown hE.1 hP hD hS 0 rfl rfl 7 (by decide) (hts (.fieldLink RX13 205 "ClauseBookModel" "many" "I") (List.mem_of_getElem? (i := 2) rfl)) (fun _ h9 => h9) rfl (by decide +kernel) rfl rfl (by rw [hl0]; decide) dX13_comes_48 (fun H locs hP hD hS => ?_)
  obtain ⟨g_2, eg_2⟩ : ∃ z : List Value, z = fs0.set 7 (.int 1) := ⟨_, rfl⟩
  have hP : va_P D vwCl [(h0, .inr (10, g_2)), (a0, .inl (T 0, 24, .inl (upd f8 0 x1))), (a1, .inl (T 0, 24, .inl (upd f9 0 x2))), (a2, .inl (T 0, 24, .inl (upd f10 0 x3))), (a3, .inl (T 0, 24, .inl (upd f11 0 x4)))] H := by rw [eg_2]; exact hP
  have hD : va_D A [(h0, .inr (10, g_2)), (a0, .inl (T 0, 24, .inl (upd f8 0 x1))), (a1, .inl (T 0, 24, .inl (upd f9 0 x2))), (a2, .inl (T 0, 24, .inl (upd f10 0 x3))), (a3, .inl (T 0, 24, .inl (upd f11 0 x4)))] := by rw [eg_2]; exact hD
  have lg_2 : g_2.length = 45 := by rw [eg_2, List.length_set]; exact hl0
  have kg_2_7 : g_2[7]? = some (.int 1) := by rw [eg_2]; exact List.getElem?_set_self (by rw [hl0]; decide)
  have kg_2_8 : g_2[8]? = some (.ref a0) := by rw [eg_2, List.getElem?_set_ne (by decide)]; exact e0_8
  have kg_2_9 : g_2[9]? = some (.ref a1) := by rw [eg_2, List.getElem?_set_ne (by decide)]; exact e0_9
  have kg_2_10 : g_2[10]? = some (.ref a2) := by rw [eg_2, List.getElem?_set_ne (by decide)]; exact e0_10
  have kg_2_11 : g_2[11]? = some (.ref a3) := by rw [eg_2, List.getElem?_set_ne (by decide)]; exact e0_11
  refine lv_aload_n hx hb dX13_comes_51 rfl (lv_at hl 0 rfl) ?_
  refine va_get (D := D) (ci := 10) (v := .int 1) (C := RX13) (T := TX13) (N := 45) hx hb hts in_X13_comes_X13 hown hE.1 hP 0 rfl rfl 7 (by decide) (hts (.fieldLink RX13 205 "ClauseBookModel" "many" "I") (List.mem_of_getElem? (i := 2) rfl)) (fun _ h9 => h9) kg_2_7 dX13_comes_52 ?_
  refine lv_iconst (v := 1) hx hb dX13_comes_55 (by decide) ?_
  refine lv_isub hx hb dX13_comes_56 ?_
  refine lv_topi (fun z_3 ez_3 => ?_)
  obtain rfl : z_3 = 0 := ez_3.trans (by decide)
  exact W.iret hx hb hr (fun t ht hW => ⟨⟨_, (), rfl, rfl, by rw [ht]; exact hP.sub [] rfl, hD.sub [] (by decide) rfl⟩, hS.F ht⟩) hS.2.2 dX13_comes_57
theorem dX13_clause_0 : decode cX13_clause 0 = .ok (.iload_n 1, 1) := by decide +kernel
theorem dX13_clause_1 : decode cX13_clause 1 = .ok (.i2l, 1) := by decide +kernel
theorem dX13_clause_12 : decode cX13_clause 12 = .ok (.iload_n 1, 1) := by decide +kernel
theorem dX13_clause_13 : decode cX13_clause 13 = .ok (.iload_n 2, 1) := by decide +kernel
theorem dX13_clause_14 : decode cX13_clause 14 = .ok (.invokestatic 216, 3) := by decide +kernel
theorem dX13_clause_17 : decode cX13_clause 17 = .ok (.ifCond .eq 17, 3) := by decide +kernel
theorem dX13_clause_2 : decode cX13_clause 2 = .ok (.lconst 0, 1) := by decide +kernel
theorem dX13_clause_20 : decode cX13_clause 20 = .ok (.iload_n 1, 1) := by decide +kernel
theorem dX13_clause_21 : decode cX13_clause 21 = .ok (.iload_n 3, 1) := by decide +kernel
theorem dX13_clause_22 : decode cX13_clause 22 = .ok (.iload 4, 2) := by decide +kernel
theorem dX13_clause_24 : decode cX13_clause 24 = .ok (.aload_n 0, 1) := by decide +kernel
theorem dX13_clause_25 : decode cX13_clause 25 = .ok (.getfield 205, 3) := by decide +kernel
theorem dX13_clause_28 : decode cX13_clause 28 = .ok (.invokestatic 219, 3) := by decide +kernel
theorem dX13_clause_3 : decode cX13_clause 3 = .ok (.ldc2_w 214, 3) := by decide +kernel
theorem dX13_clause_31 : decode cX13_clause 31 = .ok (.ifCond .ne 6, 3) := by decide +kernel
theorem dX13_clause_34 : decode cX13_clause 34 = .ok (.bipush (-2), 2) := by decide +kernel
theorem dX13_clause_36 : decode cX13_clause 36 = .ok (.ireturn, 1) := by decide +kernel
theorem dX13_clause_37 : decode cX13_clause 37 = .ok (.aload_n 0, 1) := by decide +kernel
theorem dX13_clause_38 : decode cX13_clause 38 = .ok (.getfield 205, 3) := by decide +kernel
theorem dX13_clause_41 : decode cX13_clause 41 = .ok (.bipush 24, 2) := by decide +kernel
theorem dX13_clause_43 : decode cX13_clause 43 = .ok (.if_icmp .ne 8, 3) := by decide +kernel
theorem dX13_clause_51 : decode cX13_clause 51 = .ok (.aload_n 0, 1) := by decide +kernel
theorem dX13_clause_52 : decode cX13_clause 52 = .ok (.iload_n 1, 1) := by decide +kernel
theorem dX13_clause_53 : decode cX13_clause 53 = .ok (.iload_n 2, 1) := by decide +kernel
theorem dX13_clause_54 : decode cX13_clause 54 = .ok (.iload_n 3, 1) := by decide +kernel
theorem dX13_clause_55 : decode cX13_clause 55 = .ok (.iload 4, 2) := by decide +kernel
theorem dX13_clause_57 : decode cX13_clause 57 = .ok (.invokevirtual 223, 3) := by decide +kernel
theorem dX13_clause_6 : decode cX13_clause 6 = .ok (.invokestatic 175, 3) := by decide +kernel
theorem dX13_clause_60 : decode cX13_clause 60 = .ok (.ireturn, 1) := by decide +kernel
theorem dX13_clause_9 : decode cX13_clause 9 = .ok (.ifCond .eq 25, 3) := by decide +kernel
set_option maxRecDepth 20000 in
theorem ggX13_clause_X13_areNamed : GoodIn wsX13_clause wsX13_areNamed := goodIn_r _ [17, 18, 19, 5, 20, 3, 4, 6] (by decide +kernel) (by decide +kernel)
set_option maxRecDepth 20000 in
theorem ggX13_clause_X13_comes : GoodIn wsX13_clause wsX13_comes := goodIn_r _ [24, 25, 2, 26, 27, 28, 29, 30, 31, 32, 33, 34, 35, 36, 37, 38, 39, 40, 41, 42, 43, 44, 45, 46, 47, 48, 49, 50, 51, 52, 53, 54, 55, 56, 57, 58, 59, 60, 61, 62, 63, 64, 65, 66, 67, 68, 69, 70, 71, 72, 73] (by decide +kernel) (by decide +kernel)
set_option maxRecDepth 20000 in
theorem ggX13_clause_X13_in : GoodIn wsX13_clause wsX13_in := goodIn_r _ [6] (by decide +kernel) (by decide +kernel)
set_option maxRecDepth 20000 in
theorem ggX13_clause_X13_isNumber : GoodIn wsX13_clause wsX13_isNumber := goodIn_r _ [9, 10, 11, 12, 13, 14, 3, 4, 5, 6] (by decide +kernel) (by decide +kernel)
set_option maxRecDepth 20000 in
theorem gX13_clause_X13_areNamed : GoodIn wsX13_clause (va_wsS RX13 219 yX13_areNamed wsX13_areNamed) := goodIn_app (goodIn_of _ (by decide +kernel)) ggX13_clause_X13_areNamed
set_option maxRecDepth 20000 in
theorem gX13_clause_X13_comes : GoodIn wsX13_clause (wsV RX13 223 RX13 yX13_comes wsX13_comes) := goodIn_app (goodIn_of _ (by decide +kernel)) ggX13_clause_X13_comes
set_option maxRecDepth 20000 in
theorem gX13_clause_X13_in : GoodIn wsX13_clause (va_wsS RX13 175 yX13_in wsX13_in) := goodIn_app (goodIn_of _ (by decide +kernel)) ggX13_clause_X13_in
set_option maxRecDepth 20000 in
theorem gX13_clause_X13_isNumber : GoodIn wsX13_clause (va_wsS RX13 216 yX13_isNumber wsX13_isNumber) := goodIn_app (goodIn_of _ (by decide +kernel)) ggX13_clause_X13_isNumber
set_option maxRecDepth 20000 in
theorem in_X13_clause_X13 : ∀ w ∈ wsX130, w ∈ wsX13_clause := by decide +kernel
set_option maxHeartbeats 4000000 in
set_option maxRecDepth 100000 in
theorem f_X13_clause (l : Launch) (D : va_G) (T : Nat → ClassId) (sz : Nat) (h0 : Nat) (fs0 : List Value) (a0 : Nat) (f8 : Nat → Int32) (a1 : Nat) (f9 : Nat → Int32) (a2 : Nat) (f10 : Nat → Int32) (a3 : Nat) (f11 : Nat → Int32) (x1 : Int32) (x2 : Int32) (x3 : Int32) (x4 : Int32) (hl0 : fs0.length = 45) (e0_7 : fs0[7]? = some (.int 0)) (e0_8 : fs0[8]? = some (.ref a0)) (e0_9 : fs0[9]? = some (.ref a1)) (e0_10 : fs0[10]? = some (.ref a2)) (e0_11 : fs0[11]? = some (.ref a3)) : Met l yX13_clause wsX13_clause ({ frames := 2, cells := 0, slots := 0, locals := 48 }) (pW [.ref h0, .int x1, .int x2, .int x3, .int x4] D T [(h0, .inr (10, fs0)), (a0, .inl (T 0, 24, .inl f8)), (a1, .inl (T 0, 24, .inl f9)), (a2, .inl (T 0, 24, .inl f10)), (a3, .inl (T 0, 24, .inl f11))] sz) (va_Qi (fun (r : Int32) (u : Unit) => r = sp_clause x1 x2 x3 x4) (bW D (va_A [(h0, .inr (10, fs0)), (a0, .inl (T 0, 24, .inl f8)), (a1, .inl (T 0, 24, .inl f9)), (a2, .inl (T 0, 24, .inl f10)), (a3, .inl (T 0, 24, .inl f11))] sz) (fun (u : Unit) => ([] : va_W))) (va_A [(h0, .inr (10, fs0)), (a0, .inl (T 0, 24, .inl f8)), (a1, .inl (T 0, 24, .inl f9)), (a2, .inl (T 0, 24, .inl f10)), (a3, .inl (T 0, 24, .inl f11))] sz)) 0 0 (va_A [(h0, .inr (10, fs0)), (a0, .inl (T 0, 24, .inl f8)), (a1, .inl (T 0, 24, .inl f9)), (a2, .inl (T 0, 24, .inl f10)), (a3, .inl (T 0, 24, .inl f11))] sz) := by
  refine Met.ofW (cc := cX13_clause) (maxL := 5) (ret := (some .int)) (by decide) rfl ?_
  intro p e s m args below meth c s₁ B hml hv
  obtain ⟨rfl, hsz, hP, hE, hD0⟩ := hv
  have hx := B.exec
  have hb := B.bytes
  have hr := B.returns
  have hts := atoms_spec (ws := wsX13_clause) B.pre
  have hown : s.vm.findClass RX13 = some m.cls := findClass_of_methodNamed B.named
  have hlocks := B.notSynchronized
  subst hsz
  have hD := hD0.self (sz := s.heap.size)
  generalize hAe : va_A [(h0, .inr (10, fs0)), (a0, .inl (T 0, 24, .inl f8)), (a1, .inl (T 0, 24, .inl f9)), (a2, .inl (T 0, 24, .inl f10)), (a3, .inl (T 0, 24, .inl f11))] s.heap.size = A at hD ⊢
  have hA : ∀ q : Nat, s.heap.size ≤ q → A q := fun q h => by rw [← hAe]; exact Or.inr h
  have hS : va_S A s.heap s.heap [] := va_S.rf
  have hP : va_P D vwCl [(h0, .inr (10, fs0)), (a0, .inl (T 0, 24, .inl f8)), (a1, .inl (T 0, 24, .inl f9)), (a2, .inl (T 0, 24, .inl f10)), (a3, .inl (T 0, 24, .inl f11))] s.heap := hP
  have hl := lv_entry ([.ref h0, .int x1, .int x2, .int x3, .int x4]) (n := 5) (Nat.le_of_ble_eq_true rfl)
  rw [lg_entry_eq]
  generalize (lg_sl ([.ref h0, .int x1, .int x2, .int x3, .int x4]) ++ List.replicate (5 - (lg_sl ([.ref h0, .int x1, .int x2, .int x3, .int x4])).length) Slot.unset).toArray = ls at hl ⊢
  have hl : lv_has ls 5 [(0, .ref h0), (1, .int x1), (2, .int x2), (3, .int x3), (4, .int x4)] := hl
  clear hD0
  refine lv_iload_n hx hb dX13_clause_0 rfl (lv_at hl 1 rfl) ?_
  refine lv_i2l hx hb dX13_clause_1 rfl ?_
  refine lv_lconst (v := 0) hx hb dX13_clause_2 (by decide) ?_
  refine lv_ldc2 (v := 12) hx hb hown (hts (.constantLong RX13 214 (12)) (List.mem_of_getElem? (i := 1) rfl)) dX13_clause_3 ?_
  refine vp_callSi (W.runS (As := [.long (x1.toInt64), .long 0, .long 12]) (rest := []) ⟨hx, hb, hml, hown, hts⟩ (c_X13_in l D T (x1.toInt64) 0 12 x1.toInt 0 12 ((Int32.toInt_toInt64 _).trans rfl) (by decide) (by decide)) (va_cwS 3 hts gX13_clause_X13_in rfl rfl rfl (by decide +kernel) ⟨Nat.le_of_ble_eq_true rfl, Nat.le_of_ble_eq_true rfl⟩) (pR_S hP hE [] rfl) rfl rfl hl.1 rfl (lv_room (Nat.le_of_ble_eq_true rfl)) dX13_clause_6 ⟨Nat.le_of_ble_eq_true rfl, Nat.le_of_ble_eq_true rfl⟩) (fun r_1 hr_1 => ?_)
  rcases bool_post hr_1 with ⟨c_2, rfl⟩ | ⟨c_2, rfl⟩
  · refine lv_if_eq (tgt := 34) hx hb dX13_clause_9 (by decide) (fun c9 => absurd c9 (by decide)) (fun _ => ?_)
    refine lv_iload_n hx hb dX13_clause_12 rfl (lv_at hl 1 rfl) ?_
    refine lv_iload_n hx hb dX13_clause_13 rfl (lv_at hl 2 rfl) ?_
    refine vp_callSi (W.runS (As := [.int x1, .int x2]) (rest := []) ⟨hx, hb, hml, hown, hts⟩ (c_X13_isNumber l D T x1 x2) (va_cwS 2 hts gX13_clause_X13_isNumber rfl rfl rfl (by decide +kernel) ⟨Nat.le_of_ble_eq_true rfl, Nat.le_of_ble_eq_true rfl⟩) (pR_S hP hE [] rfl) rfl rfl hl.1 rfl (lv_room (Nat.le_of_ble_eq_true rfl)) dX13_clause_14 ⟨Nat.le_of_ble_eq_true rfl, Nat.le_of_ble_eq_true rfl⟩) (fun r_3 hr_3 => ?_)
    rcases bool_post hr_3 with ⟨c_4, rfl⟩ | ⟨c_4, rfl⟩
    · refine lv_if_eq (tgt := 34) hx hb dX13_clause_17 (by decide) (fun c9 => absurd c9 (by decide)) (fun _ => ?_)
      refine lv_iload_n hx hb dX13_clause_20 rfl (lv_at hl 1 rfl) ?_
      refine lv_iload_n hx hb dX13_clause_21 rfl (lv_at hl 3 rfl) ?_
      refine lv_iload hx hb dX13_clause_22 (lv_at hl 4 rfl) ?_
      refine lv_aload_n hx hb dX13_clause_24 rfl (lv_at hl 0 rfl) ?_
      refine va_get (D := D) (ci := 10) (v := .int 0) (C := RX13) (T := TX13) (N := 45) hx hb hts in_X13_clause_X13 hown hE.1 hP 0 rfl rfl 7 (by decide) (hts (.fieldLink RX13 205 "ClauseBookModel" "many" "I") (List.mem_of_getElem? (i := 2) rfl)) (fun _ h9 => h9) e0_7 dX13_clause_25 ?_
      refine vp_callSi (W.runS (As := [.int x1, .int x3, .int x4, .int 0]) (rest := []) ⟨hx, hb, hml, hown, hts⟩ (c_X13_areNamed l D T x1 x3 x4 0 (-1) (by decide)) (va_cwS 4 hts gX13_clause_X13_areNamed rfl rfl rfl (by decide +kernel) ⟨Nat.le_of_ble_eq_true rfl, Nat.le_of_ble_eq_true rfl⟩) (pR_S hP hE [] rfl) rfl rfl hl.1 rfl (lv_room (Nat.le_of_ble_eq_true rfl)) dX13_clause_28 ⟨Nat.le_of_ble_eq_true rfl, Nat.le_of_ble_eq_true rfl⟩) (fun r_5 hr_5 => ?_)
      rcases bool_post hr_5 with ⟨c_6, rfl⟩ | ⟨c_6, rfl⟩
      · refine lv_if_ne (tgt := 37) hx hb dX13_clause_31 (by decide) (fun _ => ?_) (fun c9 => absurd c9 (by decide))
        refine lv_aload_n hx hb dX13_clause_37 rfl (lv_at hl 0 rfl) ?_
        refine va_get (D := D) (ci := 10) (v := .int 0) (C := RX13) (T := TX13) (N := 45) hx hb hts in_X13_clause_X13 hown hE.1 hP 0 rfl rfl 7 (by decide) (hts (.fieldLink RX13 205 "ClauseBookModel" "many" "I") (List.mem_of_getElem? (i := 2) rfl)) (fun _ h9 => h9) e0_7 dX13_clause_38 ?_
        refine lv_bipush (v := 24) hx hb dX13_clause_41 (by decide) ?_
        refine lv_icmp_ne (tgt := 51) hx hb dX13_clause_43 (by decide) (fun _ => ?_) (fun c9 => absurd c9 (by decide))
        refine lv_aload_n hx hb dX13_clause_51 rfl (lv_at hl 0 rfl) ?_
        refine lv_iload_n hx hb dX13_clause_52 rfl (lv_at hl 1 rfl) ?_
        refine lv_iload_n hx hb dX13_clause_53 rfl (lv_at hl 2 rfl) ?_
        refine lv_iload_n hx hb dX13_clause_54 rfl (lv_at hl 3 rfl) ?_
        refine lv_iload hx hb dX13_clause_55 (lv_at hl 4 rfl) ?_
        have hFc := va_free (wc := [(h0, .inr (10, fs0)), (a0, .inl (T 0, 24, .inl f8)), (a1, .inl (T 0, 24, .inl f9)), (a2, .inl (T 0, 24, .inl f10)), (a3, .inl (T 0, 24, .inl f11))]) hD hS hA [0, 1, 2, 3, 4] rfl
        refine va_calli (va_runV (As := [.int x1, .int x2, .int x3, .int x4]) (rest := []) ⟨hx, hb, hml, hown, hts⟩ (f_X13_comes l D T _ h0 fs0 a0 f8 a1 f9 a2 f10 a3 f11 x1 x2 x3 x4 hl0 e0_7 e0_8 e0_9 e0_10 e0_11) (cwV 4 hts gX13_clause_X13_comes rfl rfl rfl (by decide +kernel) ⟨Nat.le_of_ble_eq_true rfl, Nat.le_of_ble_eq_true rfl⟩) (pW_V (ci := 10) (q0 := 0) hP hE hD rfl rfl [0, 1, 2, 3, 4] (by decide) rfl rfl) rfl rfl hl.1 rfl (lv_room (Nat.le_of_ble_eq_true rfl)) dX13_clause_57 ⟨Nat.le_of_ble_eq_true rfl, Nat.le_of_ble_eq_true rfl⟩) hS (fun q _ h => hFc q h) hFc (fun r_7 u_8 t H1 locs ht hvm hr_7 hB hz1 hk1 hS => ?_)
        obtain ⟨hP1, hD1⟩ := hB
        rw [ht] at hP1
        obtain ⟨hP, hD⟩ := va_join (wr := []) (w1 := []) hP hD [0, 1, 2, 3, 4] [] rfl rfl (by decide) (by decide) hk1 hFc hP1 hD1
        clear hP1 hD1 hFc
        generalize H1 = H at hP hS ⊢
        have hP : va_P D vwCl [] H := hP
        have hD : va_D A [] := hD
        obtain rfl : r_7 = 0 := hr_7
        exact W.iret hx hb hr (fun t ht hW => ⟨⟨_, (), rfl, (by first | decide | (unfold sp_clause; (repeat' split) <;> first | rfl | (exfalso; omega))), by rw [ht]; exact hP.sub [] rfl, hD.sub [] (by decide) rfl⟩, hS.F ht⟩) hS.2.2 dX13_clause_60
      · refine lv_if_ne (tgt := 37) hx hb dX13_clause_31 (by decide) (fun c9 => absurd c9 (by decide)) (fun _ => ?_)
        refine lv_bipush (v := (-2)) hx hb dX13_clause_34 (by decide) ?_
        exact W.iret hx hb hr (fun t ht hW => ⟨⟨_, (), rfl, (by first | decide | (unfold sp_clause; (repeat' split) <;> first | rfl | (exfalso; omega))), by rw [ht]; exact hP.sub [] rfl, hD.sub [] (by decide) rfl⟩, hS.F ht⟩) hS.2.2 dX13_clause_36
    · refine lv_if_eq (tgt := 34) hx hb dX13_clause_17 (by decide) (fun _ => ?_) (fun c9 => absurd c9 (by decide))
      refine lv_bipush (v := (-2)) hx hb dX13_clause_34 (by decide) ?_
      exact W.iret hx hb hr (fun t ht hW => ⟨⟨_, (), rfl, (by first | decide | (unfold sp_clause; (repeat' split) <;> first | rfl | (exfalso; omega))), by rw [ht]; exact hP.sub [] rfl, hD.sub [] (by decide) rfl⟩, hS.F ht⟩) hS.2.2 dX13_clause_36
  · refine lv_if_eq (tgt := 34) hx hb dX13_clause_9 (by decide) (fun _ => ?_) (fun c9 => absurd c9 (by decide))
    refine lv_bipush (v := (-2)) hx hb dX13_clause_34 (by decide) ?_
    exact W.iret hx hb hr (fun t ht hW => ⟨⟨_, (), rfl, (by first | decide | (unfold sp_clause; (repeat' split) <;> first | rfl | (exfalso; omega))), by rw [ht]; exact hP.sub [] rfl, hD.sub [] (by decide) rfl⟩, hS.F ht⟩) hS.2.2 dX13_clause_36
theorem dX13_feed_0 : decode cX13_feed 0 = .ok (.iload_n 1, 1) := by decide +kernel
theorem dX13_feed_1 : decode cX13_feed 1 = .ok (.i2l, 1) := by decide +kernel
theorem dX13_feed_12 : decode cX13_feed 12 = .ok (.bipush (-2), 2) := by decide +kernel
theorem dX13_feed_14 : decode cX13_feed 14 = .ok (.ireturn, 1) := by decide +kernel
theorem dX13_feed_15 : decode cX13_feed 15 = .ok (.aload_n 0, 1) := by decide +kernel
theorem dX13_feed_16 : decode cX13_feed 16 = .ok (.getfield 341, 3) := by decide +kernel
theorem dX13_feed_19 : decode cX13_feed 19 = .ok (.iload_n 1, 1) := by decide +kernel
theorem dX13_feed_2 : decode cX13_feed 2 = .ok (.lconst 1, 1) := by decide +kernel
theorem dX13_feed_20 : decode cX13_feed 20 = .ok (.iadd, 1) := by decide +kernel
theorem dX13_feed_21 : decode cX13_feed 21 = .ok (.bipush 120, 2) := by decide +kernel
theorem dX13_feed_23 : decode cX13_feed 23 = .ok (.if_icmp .le 6, 3) := by decide +kernel
theorem dX13_feed_29 : decode cX13_feed 29 = .ok (.iconst 0, 1) := by decide +kernel
theorem dX13_feed_3 : decode cX13_feed 3 = .ok (.ldc2_w 339, 3) := by decide +kernel
theorem dX13_feed_30 : decode cX13_feed 30 = .ok (.istore_n 3, 1) := by decide +kernel
theorem dX13_feed_31 : decode cX13_feed 31 = .ok (.iload_n 3, 1) := by decide +kernel
theorem dX13_feed_32 : decode cX13_feed 32 = .ok (.iload_n 1, 1) := by decide +kernel
theorem dX13_feed_33 : decode cX13_feed 33 = .ok (.if_icmp .ge 41, 3) := by decide +kernel
theorem dX13_feed_36 : decode cX13_feed 36 = .ok (.aload_n 0, 1) := by decide +kernel
theorem dX13_feed_37 : decode cX13_feed 37 = .ok (.getfield 70, 3) := by decide +kernel
theorem dX13_feed_40 : decode cX13_feed 40 = .ok (.aload_n 0, 1) := by decide +kernel
theorem dX13_feed_41 : decode cX13_feed 41 = .ok (.getfield 341, 3) := by decide +kernel
theorem dX13_feed_44 : decode cX13_feed 44 = .ok (.iload_n 2, 1) := by decide +kernel
theorem dX13_feed_45 : decode cX13_feed 45 = .ok (.bipush 24, 2) := by decide +kernel
theorem dX13_feed_47 : decode cX13_feed 47 = .ok (.bipush 8, 2) := by decide +kernel
theorem dX13_feed_49 : decode cX13_feed 49 = .ok (.iload_n 3, 1) := by decide +kernel
theorem dX13_feed_50 : decode cX13_feed 50 = .ok (.imul, 1) := by decide +kernel
theorem dX13_feed_51 : decode cX13_feed 51 = .ok (.isub, 1) := by decide +kernel
theorem dX13_feed_52 : decode cX13_feed 52 = .ok (.iushr, 1) := by decide +kernel
theorem dX13_feed_53 : decode cX13_feed 53 = .ok (.sipush 255, 3) := by decide +kernel
theorem dX13_feed_56 : decode cX13_feed 56 = .ok (.iand, 1) := by decide +kernel
theorem dX13_feed_57 : decode cX13_feed 57 = .ok (.iastore, 1) := by decide +kernel
theorem dX13_feed_58 : decode cX13_feed 58 = .ok (.aload_n 0, 1) := by decide +kernel
theorem dX13_feed_59 : decode cX13_feed 59 = .ok (.dup, 1) := by decide +kernel
theorem dX13_feed_6 : decode cX13_feed 6 = .ok (.invokestatic 175, 3) := by decide +kernel
theorem dX13_feed_60 : decode cX13_feed 60 = .ok (.getfield 341, 3) := by decide +kernel
theorem dX13_feed_63 : decode cX13_feed 63 = .ok (.iconst 1, 1) := by decide +kernel
theorem dX13_feed_64 : decode cX13_feed 64 = .ok (.iadd, 1) := by decide +kernel
theorem dX13_feed_65 : decode cX13_feed 65 = .ok (.putfield 341, 3) := by decide +kernel
theorem dX13_feed_68 : decode cX13_feed 68 = .ok (.iinc 3 1, 3) := by decide +kernel
theorem dX13_feed_71 : decode cX13_feed 71 = .ok (.goto (-40), 3) := by decide +kernel
theorem dX13_feed_74 : decode cX13_feed 74 = .ok (.aload_n 0, 1) := by decide +kernel
theorem dX13_feed_75 : decode cX13_feed 75 = .ok (.getfield 341, 3) := by decide +kernel
theorem dX13_feed_78 : decode cX13_feed 78 = .ok (.ireturn, 1) := by decide +kernel
theorem dX13_feed_9 : decode cX13_feed 9 = .ok (.ifCond .ne 6, 3) := by decide +kernel
set_option maxRecDepth 20000 in
theorem ggX13_feed_X13_in : GoodIn wsX13_feed wsX13_in := goodIn_r _ [7] (by decide +kernel) (by decide +kernel)
set_option maxRecDepth 20000 in
theorem gX13_feed_X13_in : GoodIn wsX13_feed (va_wsS RX13 175 yX13_in wsX13_in) := goodIn_app (goodIn_of _ (by decide +kernel)) ggX13_feed_X13_in
set_option maxRecDepth 20000 in
theorem in_X13_feed_X13 : ∀ w ∈ wsX130, w ∈ wsX13_feed := by decide +kernel
set_option maxHeartbeats 4000000 in
set_option maxRecDepth 100000 in
theorem f_X13_feed (l : Launch) (D : va_G) (T : Nat → ClassId) (sz : Nat) (h0 : Nat) (fs0 : List Value) (a0 : Nat) (f25 : Nat → Int32) (x1 : Int32) (x2 : Int32) (hl0 : fs0.length = 45) (e0_26 : fs0[26]? = some (.int 0)) (e0_25 : fs0[25]? = some (.ref a0)) : Met l yX13_feed wsX13_feed ({ frames := 1, cells := 0, slots := 0, locals := 25 }) (pW [.ref h0, .int x1, .int x2] D T [(h0, .inr (10, fs0)), (a0, .inl (T 0, 120, .inl f25))] sz) (va_Qi (fun (r : Int32) (u : Unit) => r = sp_feed x1) (bW D (va_A [(h0, .inr (10, fs0)), (a0, .inl (T 0, 120, .inl f25))] sz) (fun (u : Unit) => ([] : va_W))) (va_A [(h0, .inr (10, fs0)), (a0, .inl (T 0, 120, .inl f25))] sz)) 0 0 (va_A [(h0, .inr (10, fs0)), (a0, .inl (T 0, 120, .inl f25))] sz) := by
  refine Met.ofW (cc := cX13_feed) (maxL := 4) (ret := (some .int)) (by decide) rfl ?_
  intro p e s m args below meth c s₁ B hml hv
  obtain ⟨rfl, hsz, hP, hE, hD0⟩ := hv
  have hx := B.exec
  have hb := B.bytes
  have hr := B.returns
  have hts := atoms_spec (ws := wsX13_feed) B.pre
  have hown : s.vm.findClass RX13 = some m.cls := findClass_of_methodNamed B.named
  have hlocks := B.notSynchronized
  subst hsz
  have hD := hD0.self (sz := s.heap.size)
  generalize hAe : va_A [(h0, .inr (10, fs0)), (a0, .inl (T 0, 120, .inl f25))] s.heap.size = A at hD ⊢
  have hA : ∀ q : Nat, s.heap.size ≤ q → A q := fun q h => by rw [← hAe]; exact Or.inr h
  have hS : va_S A s.heap s.heap [] := va_S.rf
  have hP : va_P D vwCl [(h0, .inr (10, fs0)), (a0, .inl (T 0, 120, .inl f25))] s.heap := hP
  have hl := lv_entry ([.ref h0, .int x1, .int x2]) (n := 4) (Nat.le_of_ble_eq_true rfl)
  rw [lg_entry_eq]
  generalize (lg_sl ([.ref h0, .int x1, .int x2]) ++ List.replicate (4 - (lg_sl ([.ref h0, .int x1, .int x2])).length) Slot.unset).toArray = ls at hl ⊢
  have hl : lv_has ls 4 [(0, .ref h0), (1, .int x1), (2, .int x2)] := hl
  clear hD0
  refine lv_iload_n hx hb dX13_feed_0 rfl (lv_at hl 1 rfl) ?_
  refine lv_i2l hx hb dX13_feed_1 rfl ?_
  refine lv_lconst (v := 1) hx hb dX13_feed_2 (by decide) ?_
  refine lv_ldc2 (v := 4) hx hb hown (hts (.constantLong RX13 339 (4)) (List.mem_of_getElem? (i := 1) rfl)) dX13_feed_3 ?_
  refine vp_callSi (W.runS (As := [.long (x1.toInt64), .long 1, .long 4]) (rest := []) ⟨hx, hb, hml, hown, hts⟩ (c_X13_in l D T (x1.toInt64) 1 4 x1.toInt 1 4 ((Int32.toInt_toInt64 _).trans rfl) (by decide) (by decide)) (va_cwS 3 hts gX13_feed_X13_in rfl rfl rfl (by decide +kernel) ⟨Nat.le_of_ble_eq_true rfl, Nat.le_of_ble_eq_true rfl⟩) (pR_S hP hE [] rfl) rfl rfl hl.1 rfl (lv_room (Nat.le_of_ble_eq_true rfl)) dX13_feed_6 ⟨Nat.le_of_ble_eq_true rfl, Nat.le_of_ble_eq_true rfl⟩) (fun r_1 hr_1 => ?_)
  rcases bool_post hr_1 with ⟨c_2, rfl⟩ | ⟨c_2, rfl⟩
  · refine lv_if_ne (tgt := 15) hx hb dX13_feed_9 (by decide) (fun _ => ?_) (fun c9 => absurd c9 (by decide))
    rcases in14 (x := x1) (by omega) with rfl | rfl | rfl | rfl
    · refine lv_aload_n hx hb dX13_feed_15 rfl (lv_at hl 0 rfl) ?_
      refine va_get (D := D) (ci := 10) (v := .int 0) (C := RX13) (T := TX13) (N := 45) hx hb hts in_X13_feed_X13 hown hE.1 hP 0 rfl rfl 26 (by decide) (hts (.fieldLink RX13 341 "ClauseBookModel" "taped" "I") (List.mem_of_getElem? (i := 2) rfl)) (fun _ h9 => h9) e0_26 dX13_feed_16 ?_
      refine lv_iload_n hx hb dX13_feed_19 rfl (lv_at hl 1 rfl) ?_
      refine lv_iadd hx hb dX13_feed_20 ?_
      refine lv_topi (fun z_3 ez_3 => ?_)
      obtain rfl : z_3 = 1 := ez_3.trans (by decide)
      refine lv_bipush (v := 120) hx hb dX13_feed_21 (by decide) ?_
      refine lv_icmp_le (tgt := 29) hx hb dX13_feed_23 (by decide) (fun _ => ?_) (fun c9 => absurd c9 (by decide))
      refine lv_iconst (v := 0) hx hb dX13_feed_29 (by decide) ?_
      refine lv_istore_n (lv' := [(3, .int 0), (0, .ref h0), (1, .int 1), (2, .int x2)]) hx hb dX13_feed_30 rfl hl (by decide) rfl (fun ls hl => ?_)
      refine lv_iload_n hx hb dX13_feed_31 rfl (lv_at hl 0 rfl) ?_
      refine lv_iload_n hx hb dX13_feed_32 rfl (lv_at hl 2 rfl) ?_
      refine lv_icmp_ge (tgt := 74) hx hb dX13_feed_33 (by decide) (fun c9 => absurd c9 (by decide)) (fun _ => ?_)
      refine lv_aload_n hx hb dX13_feed_36 rfl (lv_at hl 1 rfl) ?_
      refine va_get (D := D) (ci := 10) (v := .ref a0) (C := RX13) (T := TX13) (N := 45) hx hb hts in_X13_feed_X13 hown hE.1 hP 0 rfl rfl 25 (by decide) (hts (.fieldLink RX13 70 "ClauseBookModel" "tape" "[I") (List.mem_of_getElem? (i := 3) rfl)) (fun _ h9 => h9) e0_25 dX13_feed_37 ?_
      refine lv_aload_n hx hb dX13_feed_40 rfl (lv_at hl 1 rfl) ?_
      refine va_get (D := D) (ci := 10) (v := .int 0) (C := RX13) (T := TX13) (N := 45) hx hb hts in_X13_feed_X13 hown hE.1 hP 0 rfl rfl 26 (by decide) (hts (.fieldLink RX13 341 "ClauseBookModel" "taped" "I") (List.mem_of_getElem? (i := 2) rfl)) (fun _ h9 => h9) e0_26 dX13_feed_41 ?_
      refine lv_iload_n hx hb dX13_feed_44 rfl (lv_at hl 3 rfl) ?_
      refine lv_bipush (v := 24) hx hb dX13_feed_45 (by decide) ?_
      refine lv_bipush (v := 8) hx hb dX13_feed_47 (by decide) ?_
      refine lv_iload_n hx hb dX13_feed_49 rfl (lv_at hl 0 rfl) ?_
      refine lv_imul hx hb dX13_feed_50 ?_
      refine lv_topi (fun z_4 ez_4 => ?_)
      obtain rfl : z_4 = 0 := ez_4.trans (by decide)
      refine lv_isub hx hb dX13_feed_51 ?_
      refine lv_topi (fun z_5 ez_5 => ?_)
      obtain rfl : z_5 = 24 := ez_5.trans (by decide)
      obtain ⟨z_6, ez_6⟩ : ∃ y : Int32, (x2.toUInt32 >>> ((24 : Int32).toUInt32 &&& Int32.toUInt32 31)).toInt32 = y := ⟨_, rfl⟩
      refine lv_iushr (v := z_6) hx hb dX13_feed_52 ez_6 ?_
      refine lv_sipush (v := 255) hx hb dX13_feed_53 (by decide) ?_
      refine lv_iand hx hb dX13_feed_56 ?_
      refine va_iast hx hb hE.1 hP hD hS 1 0 rfl rfl (by unfold vp_in; decide) dX13_feed_57 (fun H locs hP hD hS => ?_)
      have hP : va_P D vwCl [(h0, .inr (10, fs0)), (a0, .inl (T 0, 120, .inl (upd f25 0 (z_6 &&& 255))))] H := hP
      have hD : va_D A [(h0, .inr (10, fs0)), (a0, .inl (T 0, 120, .inl (upd f25 0 (z_6 &&& 255))))] := hD
      refine lv_aload_n hx hb dX13_feed_58 rfl (lv_at hl 1 rfl) ?_
      refine lv_dup hx hb dX13_feed_59 rfl ?_
      refine va_get (D := D) (ci := 10) (v := .int 0) (C := RX13) (T := TX13) (N := 45) hx hb hts in_X13_feed_X13 hown hE.1 hP 0 rfl rfl 26 (by decide) (hts (.fieldLink RX13 341 "ClauseBookModel" "taped" "I") (List.mem_of_getElem? (i := 2) rfl)) (fun _ h9 => h9) e0_26 dX13_feed_60 ?_
      refine lv_iconst (v := 1) hx hb dX13_feed_63 (by decide) ?_
      refine lv_iadd hx hb dX13_feed_64 ?_
      refine lv_topi (fun z_7 ez_7 => ?_)
      obtain rfl : z_7 = 1 := ez_7.trans (by decide)
      refine va_put (D := D) (ci := 10) (v := .int 1) (ty := .int) (C := RX13) (T := TX13) (N := 45) hx hb hts in_X13_feed_X13 tyX13 tyX13_ok nmX13 hown hE.1 hP hD hS 0 rfl rfl 26 (by decide) (hts (.fieldLink RX13 341 "ClauseBookModel" "taped" "I") (List.mem_of_getElem? (i := 2) rfl)) (fun _ h9 => h9) rfl (by decide +kernel) rfl rfl (by rw [hl0]; decide) dX13_feed_65 (fun H locs hP hD hS => ?_)
      obtain ⟨g_8, eg_8⟩ : ∃ z : List Value, z = fs0.set 26 (.int 1) := ⟨_, rfl⟩
      have hP : va_P D vwCl [(h0, .inr (10, g_8)), (a0, .inl (T 0, 120, .inl (upd f25 0 (z_6 &&& 255))))] H := by rw [eg_8]; exact hP
      have hD : va_D A [(h0, .inr (10, g_8)), (a0, .inl (T 0, 120, .inl (upd f25 0 (z_6 &&& 255))))] := by rw [eg_8]; exact hD
      have lg_8 : g_8.length = 45 := by rw [eg_8, List.length_set]; exact hl0
      have kg_8_26 : g_8[26]? = some (.int 1) := by rw [eg_8]; exact List.getElem?_set_self (by rw [hl0]; decide)
      have kg_8_25 : g_8[25]? = some (.ref a0) := by rw [eg_8, List.getElem?_set_ne (by decide)]; exact e0_25
      refine lv_iinc (v := 1) (lv' := [(3, .int 1), (0, .ref h0), (1, .int 1), (2, .int x2)]) hx hb dX13_feed_68 hl (k := 0) rfl (by decide) (by decide) rfl (fun ls hl => ?_)
      refine lv_goto (tgt := 31) hx hb dX13_feed_71 (by decide) ?_
      refine lv_iload_n hx hb dX13_feed_31 rfl (lv_at hl 0 rfl) ?_
      refine lv_iload_n hx hb dX13_feed_32 rfl (lv_at hl 2 rfl) ?_
      refine lv_icmp_ge (tgt := 74) hx hb dX13_feed_33 (by decide) (fun _ => ?_) (fun c9 => absurd c9 (by decide))
      refine lv_aload_n hx hb dX13_feed_74 rfl (lv_at hl 1 rfl) ?_
      refine va_get (D := D) (ci := 10) (v := .int 1) (C := RX13) (T := TX13) (N := 45) hx hb hts in_X13_feed_X13 hown hE.1 hP 0 rfl rfl 26 (by decide) (hts (.fieldLink RX13 341 "ClauseBookModel" "taped" "I") (List.mem_of_getElem? (i := 2) rfl)) (fun _ h9 => h9) kg_8_26 dX13_feed_75 ?_
      exact W.iret hx hb hr (fun t ht hW => ⟨⟨_, (), rfl, (by first | decide | (unfold sp_feed; (repeat' split) <;> first | rfl | (exfalso; omega))), by rw [ht]; exact hP.sub [] rfl, hD.sub [] (by decide) rfl⟩, hS.F ht⟩) hS.2.2 dX13_feed_78
    · refine lv_aload_n hx hb dX13_feed_15 rfl (lv_at hl 0 rfl) ?_
      refine va_get (D := D) (ci := 10) (v := .int 0) (C := RX13) (T := TX13) (N := 45) hx hb hts in_X13_feed_X13 hown hE.1 hP 0 rfl rfl 26 (by decide) (hts (.fieldLink RX13 341 "ClauseBookModel" "taped" "I") (List.mem_of_getElem? (i := 2) rfl)) (fun _ h9 => h9) e0_26 dX13_feed_16 ?_
      refine lv_iload_n hx hb dX13_feed_19 rfl (lv_at hl 1 rfl) ?_
      refine lv_iadd hx hb dX13_feed_20 ?_
      refine lv_topi (fun z_9 ez_9 => ?_)
      obtain rfl : z_9 = 2 := ez_9.trans (by decide)
      refine lv_bipush (v := 120) hx hb dX13_feed_21 (by decide) ?_
      refine lv_icmp_le (tgt := 29) hx hb dX13_feed_23 (by decide) (fun _ => ?_) (fun c9 => absurd c9 (by decide))
      refine lv_iconst (v := 0) hx hb dX13_feed_29 (by decide) ?_
      refine lv_istore_n (lv' := [(3, .int 0), (0, .ref h0), (1, .int 2), (2, .int x2)]) hx hb dX13_feed_30 rfl hl (by decide) rfl (fun ls hl => ?_)
      refine lv_iload_n hx hb dX13_feed_31 rfl (lv_at hl 0 rfl) ?_
      refine lv_iload_n hx hb dX13_feed_32 rfl (lv_at hl 2 rfl) ?_
      refine lv_icmp_ge (tgt := 74) hx hb dX13_feed_33 (by decide) (fun c9 => absurd c9 (by decide)) (fun _ => ?_)
      refine lv_aload_n hx hb dX13_feed_36 rfl (lv_at hl 1 rfl) ?_
      refine va_get (D := D) (ci := 10) (v := .ref a0) (C := RX13) (T := TX13) (N := 45) hx hb hts in_X13_feed_X13 hown hE.1 hP 0 rfl rfl 25 (by decide) (hts (.fieldLink RX13 70 "ClauseBookModel" "tape" "[I") (List.mem_of_getElem? (i := 3) rfl)) (fun _ h9 => h9) e0_25 dX13_feed_37 ?_
      refine lv_aload_n hx hb dX13_feed_40 rfl (lv_at hl 1 rfl) ?_
      refine va_get (D := D) (ci := 10) (v := .int 0) (C := RX13) (T := TX13) (N := 45) hx hb hts in_X13_feed_X13 hown hE.1 hP 0 rfl rfl 26 (by decide) (hts (.fieldLink RX13 341 "ClauseBookModel" "taped" "I") (List.mem_of_getElem? (i := 2) rfl)) (fun _ h9 => h9) e0_26 dX13_feed_41 ?_
      refine lv_iload_n hx hb dX13_feed_44 rfl (lv_at hl 3 rfl) ?_
      refine lv_bipush (v := 24) hx hb dX13_feed_45 (by decide) ?_
      refine lv_bipush (v := 8) hx hb dX13_feed_47 (by decide) ?_
      refine lv_iload_n hx hb dX13_feed_49 rfl (lv_at hl 0 rfl) ?_
      refine lv_imul hx hb dX13_feed_50 ?_
      refine lv_topi (fun z_10 ez_10 => ?_)
      obtain rfl : z_10 = 0 := ez_10.trans (by decide)
      refine lv_isub hx hb dX13_feed_51 ?_
      refine lv_topi (fun z_11 ez_11 => ?_)
      obtain rfl : z_11 = 24 := ez_11.trans (by decide)
      obtain ⟨z_12, ez_12⟩ : ∃ y : Int32, (x2.toUInt32 >>> ((24 : Int32).toUInt32 &&& Int32.toUInt32 31)).toInt32 = y := ⟨_, rfl⟩
      refine lv_iushr (v := z_12) hx hb dX13_feed_52 ez_12 ?_
      refine lv_sipush (v := 255) hx hb dX13_feed_53 (by decide) ?_
      refine lv_iand hx hb dX13_feed_56 ?_
      refine va_iast hx hb hE.1 hP hD hS 1 0 rfl rfl (by unfold vp_in; decide) dX13_feed_57 (fun H locs hP hD hS => ?_)
      have hP : va_P D vwCl [(h0, .inr (10, fs0)), (a0, .inl (T 0, 120, .inl (upd f25 0 (z_12 &&& 255))))] H := hP
      have hD : va_D A [(h0, .inr (10, fs0)), (a0, .inl (T 0, 120, .inl (upd f25 0 (z_12 &&& 255))))] := hD
      refine lv_aload_n hx hb dX13_feed_58 rfl (lv_at hl 1 rfl) ?_
      refine lv_dup hx hb dX13_feed_59 rfl ?_
      refine va_get (D := D) (ci := 10) (v := .int 0) (C := RX13) (T := TX13) (N := 45) hx hb hts in_X13_feed_X13 hown hE.1 hP 0 rfl rfl 26 (by decide) (hts (.fieldLink RX13 341 "ClauseBookModel" "taped" "I") (List.mem_of_getElem? (i := 2) rfl)) (fun _ h9 => h9) e0_26 dX13_feed_60 ?_
      refine lv_iconst (v := 1) hx hb dX13_feed_63 (by decide) ?_
      refine lv_iadd hx hb dX13_feed_64 ?_
      refine lv_topi (fun z_13 ez_13 => ?_)
      obtain rfl : z_13 = 1 := ez_13.trans (by decide)
      refine va_put (D := D) (ci := 10) (v := .int 1) (ty := .int) (C := RX13) (T := TX13) (N := 45) hx hb hts in_X13_feed_X13 tyX13 tyX13_ok nmX13 hown hE.1 hP hD hS 0 rfl rfl 26 (by decide) (hts (.fieldLink RX13 341 "ClauseBookModel" "taped" "I") (List.mem_of_getElem? (i := 2) rfl)) (fun _ h9 => h9) rfl (by decide +kernel) rfl rfl (by rw [hl0]; decide) dX13_feed_65 (fun H locs hP hD hS => ?_)
      obtain ⟨g_14, eg_14⟩ : ∃ z : List Value, z = fs0.set 26 (.int 1) := ⟨_, rfl⟩
      have hP : va_P D vwCl [(h0, .inr (10, g_14)), (a0, .inl (T 0, 120, .inl (upd f25 0 (z_12 &&& 255))))] H := by rw [eg_14]; exact hP
      have hD : va_D A [(h0, .inr (10, g_14)), (a0, .inl (T 0, 120, .inl (upd f25 0 (z_12 &&& 255))))] := by rw [eg_14]; exact hD
      have lg_14 : g_14.length = 45 := by rw [eg_14, List.length_set]; exact hl0
      have kg_14_26 : g_14[26]? = some (.int 1) := by rw [eg_14]; exact List.getElem?_set_self (by rw [hl0]; decide)
      have kg_14_25 : g_14[25]? = some (.ref a0) := by rw [eg_14, List.getElem?_set_ne (by decide)]; exact e0_25
      refine lv_iinc (v := 1) (lv' := [(3, .int 1), (0, .ref h0), (1, .int 2), (2, .int x2)]) hx hb dX13_feed_68 hl (k := 0) rfl (by decide) (by decide) rfl (fun ls hl => ?_)
      refine lv_goto (tgt := 31) hx hb dX13_feed_71 (by decide) ?_
      refine lv_iload_n hx hb dX13_feed_31 rfl (lv_at hl 0 rfl) ?_
      refine lv_iload_n hx hb dX13_feed_32 rfl (lv_at hl 2 rfl) ?_
      refine lv_icmp_ge (tgt := 74) hx hb dX13_feed_33 (by decide) (fun c9 => absurd c9 (by decide)) (fun _ => ?_)
      refine lv_aload_n hx hb dX13_feed_36 rfl (lv_at hl 1 rfl) ?_
      refine va_get (D := D) (ci := 10) (v := .ref a0) (C := RX13) (T := TX13) (N := 45) hx hb hts in_X13_feed_X13 hown hE.1 hP 0 rfl rfl 25 (by decide) (hts (.fieldLink RX13 70 "ClauseBookModel" "tape" "[I") (List.mem_of_getElem? (i := 3) rfl)) (fun _ h9 => h9) kg_14_25 dX13_feed_37 ?_
      refine lv_aload_n hx hb dX13_feed_40 rfl (lv_at hl 1 rfl) ?_
      refine va_get (D := D) (ci := 10) (v := .int 1) (C := RX13) (T := TX13) (N := 45) hx hb hts in_X13_feed_X13 hown hE.1 hP 0 rfl rfl 26 (by decide) (hts (.fieldLink RX13 341 "ClauseBookModel" "taped" "I") (List.mem_of_getElem? (i := 2) rfl)) (fun _ h9 => h9) kg_14_26 dX13_feed_41 ?_
      refine lv_iload_n hx hb dX13_feed_44 rfl (lv_at hl 3 rfl) ?_
      refine lv_bipush (v := 24) hx hb dX13_feed_45 (by decide) ?_
      refine lv_bipush (v := 8) hx hb dX13_feed_47 (by decide) ?_
      refine lv_iload_n hx hb dX13_feed_49 rfl (lv_at hl 0 rfl) ?_
      refine lv_imul hx hb dX13_feed_50 ?_
      refine lv_topi (fun z_15 ez_15 => ?_)
      obtain rfl : z_15 = 8 := ez_15.trans (by decide)
      refine lv_isub hx hb dX13_feed_51 ?_
      refine lv_topi (fun z_16 ez_16 => ?_)
      obtain rfl : z_16 = 16 := ez_16.trans (by decide)
      obtain ⟨z_17, ez_17⟩ : ∃ y : Int32, (x2.toUInt32 >>> ((16 : Int32).toUInt32 &&& Int32.toUInt32 31)).toInt32 = y := ⟨_, rfl⟩
      refine lv_iushr (v := z_17) hx hb dX13_feed_52 ez_17 ?_
      refine lv_sipush (v := 255) hx hb dX13_feed_53 (by decide) ?_
      refine lv_iand hx hb dX13_feed_56 ?_
      refine va_iast hx hb hE.1 hP hD hS 1 0 rfl rfl (by unfold vp_in; decide) dX13_feed_57 (fun H locs hP hD hS => ?_)
      have hP : va_P D vwCl [(h0, .inr (10, g_14)), (a0, .inl (T 0, 120, .inl (upd (upd f25 0 (z_12 &&& 255)) 1 (z_17 &&& 255))))] H := hP
      have hD : va_D A [(h0, .inr (10, g_14)), (a0, .inl (T 0, 120, .inl (upd (upd f25 0 (z_12 &&& 255)) 1 (z_17 &&& 255))))] := hD
      refine lv_aload_n hx hb dX13_feed_58 rfl (lv_at hl 1 rfl) ?_
      refine lv_dup hx hb dX13_feed_59 rfl ?_
      refine va_get (D := D) (ci := 10) (v := .int 1) (C := RX13) (T := TX13) (N := 45) hx hb hts in_X13_feed_X13 hown hE.1 hP 0 rfl rfl 26 (by decide) (hts (.fieldLink RX13 341 "ClauseBookModel" "taped" "I") (List.mem_of_getElem? (i := 2) rfl)) (fun _ h9 => h9) kg_14_26 dX13_feed_60 ?_
      refine lv_iconst (v := 1) hx hb dX13_feed_63 (by decide) ?_
      refine lv_iadd hx hb dX13_feed_64 ?_
      refine lv_topi (fun z_18 ez_18 => ?_)
      obtain rfl : z_18 = 2 := ez_18.trans (by decide)
      refine va_put (D := D) (ci := 10) (v := .int 2) (ty := .int) (C := RX13) (T := TX13) (N := 45) hx hb hts in_X13_feed_X13 tyX13 tyX13_ok nmX13 hown hE.1 hP hD hS 0 rfl rfl 26 (by decide) (hts (.fieldLink RX13 341 "ClauseBookModel" "taped" "I") (List.mem_of_getElem? (i := 2) rfl)) (fun _ h9 => h9) rfl (by decide +kernel) rfl rfl (by rw [lg_14]; decide) dX13_feed_65 (fun H locs hP hD hS => ?_)
      obtain ⟨g_19, eg_19⟩ : ∃ z : List Value, z = g_14.set 26 (.int 2) := ⟨_, rfl⟩
      have hP : va_P D vwCl [(h0, .inr (10, g_19)), (a0, .inl (T 0, 120, .inl (upd (upd f25 0 (z_12 &&& 255)) 1 (z_17 &&& 255))))] H := by rw [eg_19]; exact hP
      have hD : va_D A [(h0, .inr (10, g_19)), (a0, .inl (T 0, 120, .inl (upd (upd f25 0 (z_12 &&& 255)) 1 (z_17 &&& 255))))] := by rw [eg_19]; exact hD
      have lg_19 : g_19.length = 45 := by rw [eg_19, List.length_set]; exact lg_14
      have kg_19_26 : g_19[26]? = some (.int 2) := by rw [eg_19]; exact List.getElem?_set_self (by rw [lg_14]; decide)
      have kg_19_25 : g_19[25]? = some (.ref a0) := by rw [eg_19, List.getElem?_set_ne (by decide)]; exact kg_14_25
      refine lv_iinc (v := 2) (lv' := [(3, .int 2), (0, .ref h0), (1, .int 2), (2, .int x2)]) hx hb dX13_feed_68 hl (k := 0) rfl (by decide) (by decide) rfl (fun ls hl => ?_)
      refine lv_goto (tgt := 31) hx hb dX13_feed_71 (by decide) ?_
      refine lv_iload_n hx hb dX13_feed_31 rfl (lv_at hl 0 rfl) ?_
      refine lv_iload_n hx hb dX13_feed_32 rfl (lv_at hl 2 rfl) ?_
      refine lv_icmp_ge (tgt := 74) hx hb dX13_feed_33 (by decide) (fun _ => ?_) (fun c9 => absurd c9 (by decide))
      refine lv_aload_n hx hb dX13_feed_74 rfl (lv_at hl 1 rfl) ?_
      refine va_get (D := D) (ci := 10) (v := .int 2) (C := RX13) (T := TX13) (N := 45) hx hb hts in_X13_feed_X13 hown hE.1 hP 0 rfl rfl 26 (by decide) (hts (.fieldLink RX13 341 "ClauseBookModel" "taped" "I") (List.mem_of_getElem? (i := 2) rfl)) (fun _ h9 => h9) kg_19_26 dX13_feed_75 ?_
      exact W.iret hx hb hr (fun t ht hW => ⟨⟨_, (), rfl, (by first | decide | (unfold sp_feed; (repeat' split) <;> first | rfl | (exfalso; omega))), by rw [ht]; exact hP.sub [] rfl, hD.sub [] (by decide) rfl⟩, hS.F ht⟩) hS.2.2 dX13_feed_78
    · refine lv_aload_n hx hb dX13_feed_15 rfl (lv_at hl 0 rfl) ?_
      refine va_get (D := D) (ci := 10) (v := .int 0) (C := RX13) (T := TX13) (N := 45) hx hb hts in_X13_feed_X13 hown hE.1 hP 0 rfl rfl 26 (by decide) (hts (.fieldLink RX13 341 "ClauseBookModel" "taped" "I") (List.mem_of_getElem? (i := 2) rfl)) (fun _ h9 => h9) e0_26 dX13_feed_16 ?_
      refine lv_iload_n hx hb dX13_feed_19 rfl (lv_at hl 1 rfl) ?_
      refine lv_iadd hx hb dX13_feed_20 ?_
      refine lv_topi (fun z_20 ez_20 => ?_)
      obtain rfl : z_20 = 3 := ez_20.trans (by decide)
      refine lv_bipush (v := 120) hx hb dX13_feed_21 (by decide) ?_
      refine lv_icmp_le (tgt := 29) hx hb dX13_feed_23 (by decide) (fun _ => ?_) (fun c9 => absurd c9 (by decide))
      refine lv_iconst (v := 0) hx hb dX13_feed_29 (by decide) ?_
      refine lv_istore_n (lv' := [(3, .int 0), (0, .ref h0), (1, .int 3), (2, .int x2)]) hx hb dX13_feed_30 rfl hl (by decide) rfl (fun ls hl => ?_)
      refine lv_iload_n hx hb dX13_feed_31 rfl (lv_at hl 0 rfl) ?_
      refine lv_iload_n hx hb dX13_feed_32 rfl (lv_at hl 2 rfl) ?_
      refine lv_icmp_ge (tgt := 74) hx hb dX13_feed_33 (by decide) (fun c9 => absurd c9 (by decide)) (fun _ => ?_)
      refine lv_aload_n hx hb dX13_feed_36 rfl (lv_at hl 1 rfl) ?_
      refine va_get (D := D) (ci := 10) (v := .ref a0) (C := RX13) (T := TX13) (N := 45) hx hb hts in_X13_feed_X13 hown hE.1 hP 0 rfl rfl 25 (by decide) (hts (.fieldLink RX13 70 "ClauseBookModel" "tape" "[I") (List.mem_of_getElem? (i := 3) rfl)) (fun _ h9 => h9) e0_25 dX13_feed_37 ?_
      refine lv_aload_n hx hb dX13_feed_40 rfl (lv_at hl 1 rfl) ?_
      refine va_get (D := D) (ci := 10) (v := .int 0) (C := RX13) (T := TX13) (N := 45) hx hb hts in_X13_feed_X13 hown hE.1 hP 0 rfl rfl 26 (by decide) (hts (.fieldLink RX13 341 "ClauseBookModel" "taped" "I") (List.mem_of_getElem? (i := 2) rfl)) (fun _ h9 => h9) e0_26 dX13_feed_41 ?_
      refine lv_iload_n hx hb dX13_feed_44 rfl (lv_at hl 3 rfl) ?_
      refine lv_bipush (v := 24) hx hb dX13_feed_45 (by decide) ?_
      refine lv_bipush (v := 8) hx hb dX13_feed_47 (by decide) ?_
      refine lv_iload_n hx hb dX13_feed_49 rfl (lv_at hl 0 rfl) ?_
      refine lv_imul hx hb dX13_feed_50 ?_
      refine lv_topi (fun z_21 ez_21 => ?_)
      obtain rfl : z_21 = 0 := ez_21.trans (by decide)
      refine lv_isub hx hb dX13_feed_51 ?_
      refine lv_topi (fun z_22 ez_22 => ?_)
      obtain rfl : z_22 = 24 := ez_22.trans (by decide)
      obtain ⟨z_23, ez_23⟩ : ∃ y : Int32, (x2.toUInt32 >>> ((24 : Int32).toUInt32 &&& Int32.toUInt32 31)).toInt32 = y := ⟨_, rfl⟩
      refine lv_iushr (v := z_23) hx hb dX13_feed_52 ez_23 ?_
      refine lv_sipush (v := 255) hx hb dX13_feed_53 (by decide) ?_
      refine lv_iand hx hb dX13_feed_56 ?_
      refine va_iast hx hb hE.1 hP hD hS 1 0 rfl rfl (by unfold vp_in; decide) dX13_feed_57 (fun H locs hP hD hS => ?_)
      have hP : va_P D vwCl [(h0, .inr (10, fs0)), (a0, .inl (T 0, 120, .inl (upd f25 0 (z_23 &&& 255))))] H := hP
      have hD : va_D A [(h0, .inr (10, fs0)), (a0, .inl (T 0, 120, .inl (upd f25 0 (z_23 &&& 255))))] := hD
      refine lv_aload_n hx hb dX13_feed_58 rfl (lv_at hl 1 rfl) ?_
      refine lv_dup hx hb dX13_feed_59 rfl ?_
      refine va_get (D := D) (ci := 10) (v := .int 0) (C := RX13) (T := TX13) (N := 45) hx hb hts in_X13_feed_X13 hown hE.1 hP 0 rfl rfl 26 (by decide) (hts (.fieldLink RX13 341 "ClauseBookModel" "taped" "I") (List.mem_of_getElem? (i := 2) rfl)) (fun _ h9 => h9) e0_26 dX13_feed_60 ?_
      refine lv_iconst (v := 1) hx hb dX13_feed_63 (by decide) ?_
      refine lv_iadd hx hb dX13_feed_64 ?_
      refine lv_topi (fun z_24 ez_24 => ?_)
      obtain rfl : z_24 = 1 := ez_24.trans (by decide)
      refine va_put (D := D) (ci := 10) (v := .int 1) (ty := .int) (C := RX13) (T := TX13) (N := 45) hx hb hts in_X13_feed_X13 tyX13 tyX13_ok nmX13 hown hE.1 hP hD hS 0 rfl rfl 26 (by decide) (hts (.fieldLink RX13 341 "ClauseBookModel" "taped" "I") (List.mem_of_getElem? (i := 2) rfl)) (fun _ h9 => h9) rfl (by decide +kernel) rfl rfl (by rw [hl0]; decide) dX13_feed_65 (fun H locs hP hD hS => ?_)
      obtain ⟨g_25, eg_25⟩ : ∃ z : List Value, z = fs0.set 26 (.int 1) := ⟨_, rfl⟩
      have hP : va_P D vwCl [(h0, .inr (10, g_25)), (a0, .inl (T 0, 120, .inl (upd f25 0 (z_23 &&& 255))))] H := by rw [eg_25]; exact hP
      have hD : va_D A [(h0, .inr (10, g_25)), (a0, .inl (T 0, 120, .inl (upd f25 0 (z_23 &&& 255))))] := by rw [eg_25]; exact hD
      have lg_25 : g_25.length = 45 := by rw [eg_25, List.length_set]; exact hl0
      have kg_25_26 : g_25[26]? = some (.int 1) := by rw [eg_25]; exact List.getElem?_set_self (by rw [hl0]; decide)
      have kg_25_25 : g_25[25]? = some (.ref a0) := by rw [eg_25, List.getElem?_set_ne (by decide)]; exact e0_25
      refine lv_iinc (v := 1) (lv' := [(3, .int 1), (0, .ref h0), (1, .int 3), (2, .int x2)]) hx hb dX13_feed_68 hl (k := 0) rfl (by decide) (by decide) rfl (fun ls hl => ?_)
      refine lv_goto (tgt := 31) hx hb dX13_feed_71 (by decide) ?_
      refine lv_iload_n hx hb dX13_feed_31 rfl (lv_at hl 0 rfl) ?_
      refine lv_iload_n hx hb dX13_feed_32 rfl (lv_at hl 2 rfl) ?_
      refine lv_icmp_ge (tgt := 74) hx hb dX13_feed_33 (by decide) (fun c9 => absurd c9 (by decide)) (fun _ => ?_)
      refine lv_aload_n hx hb dX13_feed_36 rfl (lv_at hl 1 rfl) ?_
      refine va_get (D := D) (ci := 10) (v := .ref a0) (C := RX13) (T := TX13) (N := 45) hx hb hts in_X13_feed_X13 hown hE.1 hP 0 rfl rfl 25 (by decide) (hts (.fieldLink RX13 70 "ClauseBookModel" "tape" "[I") (List.mem_of_getElem? (i := 3) rfl)) (fun _ h9 => h9) kg_25_25 dX13_feed_37 ?_
      refine lv_aload_n hx hb dX13_feed_40 rfl (lv_at hl 1 rfl) ?_
      refine va_get (D := D) (ci := 10) (v := .int 1) (C := RX13) (T := TX13) (N := 45) hx hb hts in_X13_feed_X13 hown hE.1 hP 0 rfl rfl 26 (by decide) (hts (.fieldLink RX13 341 "ClauseBookModel" "taped" "I") (List.mem_of_getElem? (i := 2) rfl)) (fun _ h9 => h9) kg_25_26 dX13_feed_41 ?_
      refine lv_iload_n hx hb dX13_feed_44 rfl (lv_at hl 3 rfl) ?_
      refine lv_bipush (v := 24) hx hb dX13_feed_45 (by decide) ?_
      refine lv_bipush (v := 8) hx hb dX13_feed_47 (by decide) ?_
      refine lv_iload_n hx hb dX13_feed_49 rfl (lv_at hl 0 rfl) ?_
      refine lv_imul hx hb dX13_feed_50 ?_
      refine lv_topi (fun z_26 ez_26 => ?_)
      obtain rfl : z_26 = 8 := ez_26.trans (by decide)
      refine lv_isub hx hb dX13_feed_51 ?_
      refine lv_topi (fun z_27 ez_27 => ?_)
      obtain rfl : z_27 = 16 := ez_27.trans (by decide)
      obtain ⟨z_28, ez_28⟩ : ∃ y : Int32, (x2.toUInt32 >>> ((16 : Int32).toUInt32 &&& Int32.toUInt32 31)).toInt32 = y := ⟨_, rfl⟩
      refine lv_iushr (v := z_28) hx hb dX13_feed_52 ez_28 ?_
      refine lv_sipush (v := 255) hx hb dX13_feed_53 (by decide) ?_
      refine lv_iand hx hb dX13_feed_56 ?_
      refine va_iast hx hb hE.1 hP hD hS 1 0 rfl rfl (by unfold vp_in; decide) dX13_feed_57 (fun H locs hP hD hS => ?_)
      have hP : va_P D vwCl [(h0, .inr (10, g_25)), (a0, .inl (T 0, 120, .inl (upd (upd f25 0 (z_23 &&& 255)) 1 (z_28 &&& 255))))] H := hP
      have hD : va_D A [(h0, .inr (10, g_25)), (a0, .inl (T 0, 120, .inl (upd (upd f25 0 (z_23 &&& 255)) 1 (z_28 &&& 255))))] := hD
      refine lv_aload_n hx hb dX13_feed_58 rfl (lv_at hl 1 rfl) ?_
      refine lv_dup hx hb dX13_feed_59 rfl ?_
      refine va_get (D := D) (ci := 10) (v := .int 1) (C := RX13) (T := TX13) (N := 45) hx hb hts in_X13_feed_X13 hown hE.1 hP 0 rfl rfl 26 (by decide) (hts (.fieldLink RX13 341 "ClauseBookModel" "taped" "I") (List.mem_of_getElem? (i := 2) rfl)) (fun _ h9 => h9) kg_25_26 dX13_feed_60 ?_
      refine lv_iconst (v := 1) hx hb dX13_feed_63 (by decide) ?_
      refine lv_iadd hx hb dX13_feed_64 ?_
      refine lv_topi (fun z_29 ez_29 => ?_)
      obtain rfl : z_29 = 2 := ez_29.trans (by decide)
      refine va_put (D := D) (ci := 10) (v := .int 2) (ty := .int) (C := RX13) (T := TX13) (N := 45) hx hb hts in_X13_feed_X13 tyX13 tyX13_ok nmX13 hown hE.1 hP hD hS 0 rfl rfl 26 (by decide) (hts (.fieldLink RX13 341 "ClauseBookModel" "taped" "I") (List.mem_of_getElem? (i := 2) rfl)) (fun _ h9 => h9) rfl (by decide +kernel) rfl rfl (by rw [lg_25]; decide) dX13_feed_65 (fun H locs hP hD hS => ?_)
      obtain ⟨g_30, eg_30⟩ : ∃ z : List Value, z = g_25.set 26 (.int 2) := ⟨_, rfl⟩
      have hP : va_P D vwCl [(h0, .inr (10, g_30)), (a0, .inl (T 0, 120, .inl (upd (upd f25 0 (z_23 &&& 255)) 1 (z_28 &&& 255))))] H := by rw [eg_30]; exact hP
      have hD : va_D A [(h0, .inr (10, g_30)), (a0, .inl (T 0, 120, .inl (upd (upd f25 0 (z_23 &&& 255)) 1 (z_28 &&& 255))))] := by rw [eg_30]; exact hD
      have lg_30 : g_30.length = 45 := by rw [eg_30, List.length_set]; exact lg_25
      have kg_30_26 : g_30[26]? = some (.int 2) := by rw [eg_30]; exact List.getElem?_set_self (by rw [lg_25]; decide)
      have kg_30_25 : g_30[25]? = some (.ref a0) := by rw [eg_30, List.getElem?_set_ne (by decide)]; exact kg_25_25
      refine lv_iinc (v := 2) (lv' := [(3, .int 2), (0, .ref h0), (1, .int 3), (2, .int x2)]) hx hb dX13_feed_68 hl (k := 0) rfl (by decide) (by decide) rfl (fun ls hl => ?_)
      refine lv_goto (tgt := 31) hx hb dX13_feed_71 (by decide) ?_
      refine lv_iload_n hx hb dX13_feed_31 rfl (lv_at hl 0 rfl) ?_
      refine lv_iload_n hx hb dX13_feed_32 rfl (lv_at hl 2 rfl) ?_
      refine lv_icmp_ge (tgt := 74) hx hb dX13_feed_33 (by decide) (fun c9 => absurd c9 (by decide)) (fun _ => ?_)
      refine lv_aload_n hx hb dX13_feed_36 rfl (lv_at hl 1 rfl) ?_
      refine va_get (D := D) (ci := 10) (v := .ref a0) (C := RX13) (T := TX13) (N := 45) hx hb hts in_X13_feed_X13 hown hE.1 hP 0 rfl rfl 25 (by decide) (hts (.fieldLink RX13 70 "ClauseBookModel" "tape" "[I") (List.mem_of_getElem? (i := 3) rfl)) (fun _ h9 => h9) kg_30_25 dX13_feed_37 ?_
      refine lv_aload_n hx hb dX13_feed_40 rfl (lv_at hl 1 rfl) ?_
      refine va_get (D := D) (ci := 10) (v := .int 2) (C := RX13) (T := TX13) (N := 45) hx hb hts in_X13_feed_X13 hown hE.1 hP 0 rfl rfl 26 (by decide) (hts (.fieldLink RX13 341 "ClauseBookModel" "taped" "I") (List.mem_of_getElem? (i := 2) rfl)) (fun _ h9 => h9) kg_30_26 dX13_feed_41 ?_
      refine lv_iload_n hx hb dX13_feed_44 rfl (lv_at hl 3 rfl) ?_
      refine lv_bipush (v := 24) hx hb dX13_feed_45 (by decide) ?_
      refine lv_bipush (v := 8) hx hb dX13_feed_47 (by decide) ?_
      refine lv_iload_n hx hb dX13_feed_49 rfl (lv_at hl 0 rfl) ?_
      refine lv_imul hx hb dX13_feed_50 ?_
      refine lv_topi (fun z_31 ez_31 => ?_)
      obtain rfl : z_31 = 16 := ez_31.trans (by decide)
      refine lv_isub hx hb dX13_feed_51 ?_
      refine lv_topi (fun z_32 ez_32 => ?_)
      obtain rfl : z_32 = 8 := ez_32.trans (by decide)
      obtain ⟨z_33, ez_33⟩ : ∃ y : Int32, (x2.toUInt32 >>> ((8 : Int32).toUInt32 &&& Int32.toUInt32 31)).toInt32 = y := ⟨_, rfl⟩
      refine lv_iushr (v := z_33) hx hb dX13_feed_52 ez_33 ?_
      refine lv_sipush (v := 255) hx hb dX13_feed_53 (by decide) ?_
      refine lv_iand hx hb dX13_feed_56 ?_
      refine va_iast hx hb hE.1 hP hD hS 1 0 rfl rfl (by unfold vp_in; decide) dX13_feed_57 (fun H locs hP hD hS => ?_)
      have hP : va_P D vwCl [(h0, .inr (10, g_30)), (a0, .inl (T 0, 120, .inl (upd (upd (upd f25 0 (z_23 &&& 255)) 1 (z_28 &&& 255)) 2 (z_33 &&& 255))))] H := hP
      have hD : va_D A [(h0, .inr (10, g_30)), (a0, .inl (T 0, 120, .inl (upd (upd (upd f25 0 (z_23 &&& 255)) 1 (z_28 &&& 255)) 2 (z_33 &&& 255))))] := hD
      refine lv_aload_n hx hb dX13_feed_58 rfl (lv_at hl 1 rfl) ?_
      refine lv_dup hx hb dX13_feed_59 rfl ?_
      refine va_get (D := D) (ci := 10) (v := .int 2) (C := RX13) (T := TX13) (N := 45) hx hb hts in_X13_feed_X13 hown hE.1 hP 0 rfl rfl 26 (by decide) (hts (.fieldLink RX13 341 "ClauseBookModel" "taped" "I") (List.mem_of_getElem? (i := 2) rfl)) (fun _ h9 => h9) kg_30_26 dX13_feed_60 ?_
      refine lv_iconst (v := 1) hx hb dX13_feed_63 (by decide) ?_
      refine lv_iadd hx hb dX13_feed_64 ?_
      refine lv_topi (fun z_34 ez_34 => ?_)
      obtain rfl : z_34 = 3 := ez_34.trans (by decide)
      refine va_put (D := D) (ci := 10) (v := .int 3) (ty := .int) (C := RX13) (T := TX13) (N := 45) hx hb hts in_X13_feed_X13 tyX13 tyX13_ok nmX13 hown hE.1 hP hD hS 0 rfl rfl 26 (by decide) (hts (.fieldLink RX13 341 "ClauseBookModel" "taped" "I") (List.mem_of_getElem? (i := 2) rfl)) (fun _ h9 => h9) rfl (by decide +kernel) rfl rfl (by rw [lg_30]; decide) dX13_feed_65 (fun H locs hP hD hS => ?_)
      obtain ⟨g_35, eg_35⟩ : ∃ z : List Value, z = g_30.set 26 (.int 3) := ⟨_, rfl⟩
      have hP : va_P D vwCl [(h0, .inr (10, g_35)), (a0, .inl (T 0, 120, .inl (upd (upd (upd f25 0 (z_23 &&& 255)) 1 (z_28 &&& 255)) 2 (z_33 &&& 255))))] H := by rw [eg_35]; exact hP
      have hD : va_D A [(h0, .inr (10, g_35)), (a0, .inl (T 0, 120, .inl (upd (upd (upd f25 0 (z_23 &&& 255)) 1 (z_28 &&& 255)) 2 (z_33 &&& 255))))] := by rw [eg_35]; exact hD
      have lg_35 : g_35.length = 45 := by rw [eg_35, List.length_set]; exact lg_30
      have kg_35_26 : g_35[26]? = some (.int 3) := by rw [eg_35]; exact List.getElem?_set_self (by rw [lg_30]; decide)
      have kg_35_25 : g_35[25]? = some (.ref a0) := by rw [eg_35, List.getElem?_set_ne (by decide)]; exact kg_30_25
      refine lv_iinc (v := 3) (lv' := [(3, .int 3), (0, .ref h0), (1, .int 3), (2, .int x2)]) hx hb dX13_feed_68 hl (k := 0) rfl (by decide) (by decide) rfl (fun ls hl => ?_)
      refine lv_goto (tgt := 31) hx hb dX13_feed_71 (by decide) ?_
      refine lv_iload_n hx hb dX13_feed_31 rfl (lv_at hl 0 rfl) ?_
      refine lv_iload_n hx hb dX13_feed_32 rfl (lv_at hl 2 rfl) ?_
      refine lv_icmp_ge (tgt := 74) hx hb dX13_feed_33 (by decide) (fun _ => ?_) (fun c9 => absurd c9 (by decide))
      refine lv_aload_n hx hb dX13_feed_74 rfl (lv_at hl 1 rfl) ?_
      refine va_get (D := D) (ci := 10) (v := .int 3) (C := RX13) (T := TX13) (N := 45) hx hb hts in_X13_feed_X13 hown hE.1 hP 0 rfl rfl 26 (by decide) (hts (.fieldLink RX13 341 "ClauseBookModel" "taped" "I") (List.mem_of_getElem? (i := 2) rfl)) (fun _ h9 => h9) kg_35_26 dX13_feed_75 ?_
      exact W.iret hx hb hr (fun t ht hW => ⟨⟨_, (), rfl, (by first | decide | (unfold sp_feed; (repeat' split) <;> first | rfl | (exfalso; omega))), by rw [ht]; exact hP.sub [] rfl, hD.sub [] (by decide) rfl⟩, hS.F ht⟩) hS.2.2 dX13_feed_78
    · refine lv_aload_n hx hb dX13_feed_15 rfl (lv_at hl 0 rfl) ?_
      refine va_get (D := D) (ci := 10) (v := .int 0) (C := RX13) (T := TX13) (N := 45) hx hb hts in_X13_feed_X13 hown hE.1 hP 0 rfl rfl 26 (by decide) (hts (.fieldLink RX13 341 "ClauseBookModel" "taped" "I") (List.mem_of_getElem? (i := 2) rfl)) (fun _ h9 => h9) e0_26 dX13_feed_16 ?_
      refine lv_iload_n hx hb dX13_feed_19 rfl (lv_at hl 1 rfl) ?_
      refine lv_iadd hx hb dX13_feed_20 ?_
      refine lv_topi (fun z_36 ez_36 => ?_)
      obtain rfl : z_36 = 4 := ez_36.trans (by decide)
      refine lv_bipush (v := 120) hx hb dX13_feed_21 (by decide) ?_
      refine lv_icmp_le (tgt := 29) hx hb dX13_feed_23 (by decide) (fun _ => ?_) (fun c9 => absurd c9 (by decide))
      refine lv_iconst (v := 0) hx hb dX13_feed_29 (by decide) ?_
      refine lv_istore_n (lv' := [(3, .int 0), (0, .ref h0), (1, .int 4), (2, .int x2)]) hx hb dX13_feed_30 rfl hl (by decide) rfl (fun ls hl => ?_)
      refine lv_iload_n hx hb dX13_feed_31 rfl (lv_at hl 0 rfl) ?_
      refine lv_iload_n hx hb dX13_feed_32 rfl (lv_at hl 2 rfl) ?_
      refine lv_icmp_ge (tgt := 74) hx hb dX13_feed_33 (by decide) (fun c9 => absurd c9 (by decide)) (fun _ => ?_)
      refine lv_aload_n hx hb dX13_feed_36 rfl (lv_at hl 1 rfl) ?_
      refine va_get (D := D) (ci := 10) (v := .ref a0) (C := RX13) (T := TX13) (N := 45) hx hb hts in_X13_feed_X13 hown hE.1 hP 0 rfl rfl 25 (by decide) (hts (.fieldLink RX13 70 "ClauseBookModel" "tape" "[I") (List.mem_of_getElem? (i := 3) rfl)) (fun _ h9 => h9) e0_25 dX13_feed_37 ?_
      refine lv_aload_n hx hb dX13_feed_40 rfl (lv_at hl 1 rfl) ?_
      refine va_get (D := D) (ci := 10) (v := .int 0) (C := RX13) (T := TX13) (N := 45) hx hb hts in_X13_feed_X13 hown hE.1 hP 0 rfl rfl 26 (by decide) (hts (.fieldLink RX13 341 "ClauseBookModel" "taped" "I") (List.mem_of_getElem? (i := 2) rfl)) (fun _ h9 => h9) e0_26 dX13_feed_41 ?_
      refine lv_iload_n hx hb dX13_feed_44 rfl (lv_at hl 3 rfl) ?_
      refine lv_bipush (v := 24) hx hb dX13_feed_45 (by decide) ?_
      refine lv_bipush (v := 8) hx hb dX13_feed_47 (by decide) ?_
      refine lv_iload_n hx hb dX13_feed_49 rfl (lv_at hl 0 rfl) ?_
      refine lv_imul hx hb dX13_feed_50 ?_
      refine lv_topi (fun z_37 ez_37 => ?_)
      obtain rfl : z_37 = 0 := ez_37.trans (by decide)
      refine lv_isub hx hb dX13_feed_51 ?_
      refine lv_topi (fun z_38 ez_38 => ?_)
      obtain rfl : z_38 = 24 := ez_38.trans (by decide)
      obtain ⟨z_39, ez_39⟩ : ∃ y : Int32, (x2.toUInt32 >>> ((24 : Int32).toUInt32 &&& Int32.toUInt32 31)).toInt32 = y := ⟨_, rfl⟩
      refine lv_iushr (v := z_39) hx hb dX13_feed_52 ez_39 ?_
      refine lv_sipush (v := 255) hx hb dX13_feed_53 (by decide) ?_
      refine lv_iand hx hb dX13_feed_56 ?_
      refine va_iast hx hb hE.1 hP hD hS 1 0 rfl rfl (by unfold vp_in; decide) dX13_feed_57 (fun H locs hP hD hS => ?_)
      have hP : va_P D vwCl [(h0, .inr (10, fs0)), (a0, .inl (T 0, 120, .inl (upd f25 0 (z_39 &&& 255))))] H := hP
      have hD : va_D A [(h0, .inr (10, fs0)), (a0, .inl (T 0, 120, .inl (upd f25 0 (z_39 &&& 255))))] := hD
      refine lv_aload_n hx hb dX13_feed_58 rfl (lv_at hl 1 rfl) ?_
      refine lv_dup hx hb dX13_feed_59 rfl ?_
      refine va_get (D := D) (ci := 10) (v := .int 0) (C := RX13) (T := TX13) (N := 45) hx hb hts in_X13_feed_X13 hown hE.1 hP 0 rfl rfl 26 (by decide) (hts (.fieldLink RX13 341 "ClauseBookModel" "taped" "I") (List.mem_of_getElem? (i := 2) rfl)) (fun _ h9 => h9) e0_26 dX13_feed_60 ?_
      refine lv_iconst (v := 1) hx hb dX13_feed_63 (by decide) ?_
      refine lv_iadd hx hb dX13_feed_64 ?_
      refine lv_topi (fun z_40 ez_40 => ?_)
      obtain rfl : z_40 = 1 := ez_40.trans (by decide)
      refine va_put (D := D) (ci := 10) (v := .int 1) (ty := .int) (C := RX13) (T := TX13) (N := 45) hx hb hts in_X13_feed_X13 tyX13 tyX13_ok nmX13 hown hE.1 hP hD hS 0 rfl rfl 26 (by decide) (hts (.fieldLink RX13 341 "ClauseBookModel" "taped" "I") (List.mem_of_getElem? (i := 2) rfl)) (fun _ h9 => h9) rfl (by decide +kernel) rfl rfl (by rw [hl0]; decide) dX13_feed_65 (fun H locs hP hD hS => ?_)
      obtain ⟨g_41, eg_41⟩ : ∃ z : List Value, z = fs0.set 26 (.int 1) := ⟨_, rfl⟩
      have hP : va_P D vwCl [(h0, .inr (10, g_41)), (a0, .inl (T 0, 120, .inl (upd f25 0 (z_39 &&& 255))))] H := by rw [eg_41]; exact hP
      have hD : va_D A [(h0, .inr (10, g_41)), (a0, .inl (T 0, 120, .inl (upd f25 0 (z_39 &&& 255))))] := by rw [eg_41]; exact hD
      have lg_41 : g_41.length = 45 := by rw [eg_41, List.length_set]; exact hl0
      have kg_41_26 : g_41[26]? = some (.int 1) := by rw [eg_41]; exact List.getElem?_set_self (by rw [hl0]; decide)
      have kg_41_25 : g_41[25]? = some (.ref a0) := by rw [eg_41, List.getElem?_set_ne (by decide)]; exact e0_25
      refine lv_iinc (v := 1) (lv' := [(3, .int 1), (0, .ref h0), (1, .int 4), (2, .int x2)]) hx hb dX13_feed_68 hl (k := 0) rfl (by decide) (by decide) rfl (fun ls hl => ?_)
      refine lv_goto (tgt := 31) hx hb dX13_feed_71 (by decide) ?_
      refine lv_iload_n hx hb dX13_feed_31 rfl (lv_at hl 0 rfl) ?_
      refine lv_iload_n hx hb dX13_feed_32 rfl (lv_at hl 2 rfl) ?_
      refine lv_icmp_ge (tgt := 74) hx hb dX13_feed_33 (by decide) (fun c9 => absurd c9 (by decide)) (fun _ => ?_)
      refine lv_aload_n hx hb dX13_feed_36 rfl (lv_at hl 1 rfl) ?_
      refine va_get (D := D) (ci := 10) (v := .ref a0) (C := RX13) (T := TX13) (N := 45) hx hb hts in_X13_feed_X13 hown hE.1 hP 0 rfl rfl 25 (by decide) (hts (.fieldLink RX13 70 "ClauseBookModel" "tape" "[I") (List.mem_of_getElem? (i := 3) rfl)) (fun _ h9 => h9) kg_41_25 dX13_feed_37 ?_
      refine lv_aload_n hx hb dX13_feed_40 rfl (lv_at hl 1 rfl) ?_
      refine va_get (D := D) (ci := 10) (v := .int 1) (C := RX13) (T := TX13) (N := 45) hx hb hts in_X13_feed_X13 hown hE.1 hP 0 rfl rfl 26 (by decide) (hts (.fieldLink RX13 341 "ClauseBookModel" "taped" "I") (List.mem_of_getElem? (i := 2) rfl)) (fun _ h9 => h9) kg_41_26 dX13_feed_41 ?_
      refine lv_iload_n hx hb dX13_feed_44 rfl (lv_at hl 3 rfl) ?_
      refine lv_bipush (v := 24) hx hb dX13_feed_45 (by decide) ?_
      refine lv_bipush (v := 8) hx hb dX13_feed_47 (by decide) ?_
      refine lv_iload_n hx hb dX13_feed_49 rfl (lv_at hl 0 rfl) ?_
      refine lv_imul hx hb dX13_feed_50 ?_
      refine lv_topi (fun z_42 ez_42 => ?_)
      obtain rfl : z_42 = 8 := ez_42.trans (by decide)
      refine lv_isub hx hb dX13_feed_51 ?_
      refine lv_topi (fun z_43 ez_43 => ?_)
      obtain rfl : z_43 = 16 := ez_43.trans (by decide)
      obtain ⟨z_44, ez_44⟩ : ∃ y : Int32, (x2.toUInt32 >>> ((16 : Int32).toUInt32 &&& Int32.toUInt32 31)).toInt32 = y := ⟨_, rfl⟩
      refine lv_iushr (v := z_44) hx hb dX13_feed_52 ez_44 ?_
      refine lv_sipush (v := 255) hx hb dX13_feed_53 (by decide) ?_
      refine lv_iand hx hb dX13_feed_56 ?_
      refine va_iast hx hb hE.1 hP hD hS 1 0 rfl rfl (by unfold vp_in; decide) dX13_feed_57 (fun H locs hP hD hS => ?_)
      have hP : va_P D vwCl [(h0, .inr (10, g_41)), (a0, .inl (T 0, 120, .inl (upd (upd f25 0 (z_39 &&& 255)) 1 (z_44 &&& 255))))] H := hP
      have hD : va_D A [(h0, .inr (10, g_41)), (a0, .inl (T 0, 120, .inl (upd (upd f25 0 (z_39 &&& 255)) 1 (z_44 &&& 255))))] := hD
      refine lv_aload_n hx hb dX13_feed_58 rfl (lv_at hl 1 rfl) ?_
      refine lv_dup hx hb dX13_feed_59 rfl ?_
      refine va_get (D := D) (ci := 10) (v := .int 1) (C := RX13) (T := TX13) (N := 45) hx hb hts in_X13_feed_X13 hown hE.1 hP 0 rfl rfl 26 (by decide) (hts (.fieldLink RX13 341 "ClauseBookModel" "taped" "I") (List.mem_of_getElem? (i := 2) rfl)) (fun _ h9 => h9) kg_41_26 dX13_feed_60 ?_
      refine lv_iconst (v := 1) hx hb dX13_feed_63 (by decide) ?_
      refine lv_iadd hx hb dX13_feed_64 ?_
      refine lv_topi (fun z_45 ez_45 => ?_)
      obtain rfl : z_45 = 2 := ez_45.trans (by decide)
      refine va_put (D := D) (ci := 10) (v := .int 2) (ty := .int) (C := RX13) (T := TX13) (N := 45) hx hb hts in_X13_feed_X13 tyX13 tyX13_ok nmX13 hown hE.1 hP hD hS 0 rfl rfl 26 (by decide) (hts (.fieldLink RX13 341 "ClauseBookModel" "taped" "I") (List.mem_of_getElem? (i := 2) rfl)) (fun _ h9 => h9) rfl (by decide +kernel) rfl rfl (by rw [lg_41]; decide) dX13_feed_65 (fun H locs hP hD hS => ?_)
      obtain ⟨g_46, eg_46⟩ : ∃ z : List Value, z = g_41.set 26 (.int 2) := ⟨_, rfl⟩
      have hP : va_P D vwCl [(h0, .inr (10, g_46)), (a0, .inl (T 0, 120, .inl (upd (upd f25 0 (z_39 &&& 255)) 1 (z_44 &&& 255))))] H := by rw [eg_46]; exact hP
      have hD : va_D A [(h0, .inr (10, g_46)), (a0, .inl (T 0, 120, .inl (upd (upd f25 0 (z_39 &&& 255)) 1 (z_44 &&& 255))))] := by rw [eg_46]; exact hD
      have lg_46 : g_46.length = 45 := by rw [eg_46, List.length_set]; exact lg_41
      have kg_46_26 : g_46[26]? = some (.int 2) := by rw [eg_46]; exact List.getElem?_set_self (by rw [lg_41]; decide)
      have kg_46_25 : g_46[25]? = some (.ref a0) := by rw [eg_46, List.getElem?_set_ne (by decide)]; exact kg_41_25
      refine lv_iinc (v := 2) (lv' := [(3, .int 2), (0, .ref h0), (1, .int 4), (2, .int x2)]) hx hb dX13_feed_68 hl (k := 0) rfl (by decide) (by decide) rfl (fun ls hl => ?_)
      refine lv_goto (tgt := 31) hx hb dX13_feed_71 (by decide) ?_
      refine lv_iload_n hx hb dX13_feed_31 rfl (lv_at hl 0 rfl) ?_
      refine lv_iload_n hx hb dX13_feed_32 rfl (lv_at hl 2 rfl) ?_
      refine lv_icmp_ge (tgt := 74) hx hb dX13_feed_33 (by decide) (fun c9 => absurd c9 (by decide)) (fun _ => ?_)
      refine lv_aload_n hx hb dX13_feed_36 rfl (lv_at hl 1 rfl) ?_
      refine va_get (D := D) (ci := 10) (v := .ref a0) (C := RX13) (T := TX13) (N := 45) hx hb hts in_X13_feed_X13 hown hE.1 hP 0 rfl rfl 25 (by decide) (hts (.fieldLink RX13 70 "ClauseBookModel" "tape" "[I") (List.mem_of_getElem? (i := 3) rfl)) (fun _ h9 => h9) kg_46_25 dX13_feed_37 ?_
      refine lv_aload_n hx hb dX13_feed_40 rfl (lv_at hl 1 rfl) ?_
      refine va_get (D := D) (ci := 10) (v := .int 2) (C := RX13) (T := TX13) (N := 45) hx hb hts in_X13_feed_X13 hown hE.1 hP 0 rfl rfl 26 (by decide) (hts (.fieldLink RX13 341 "ClauseBookModel" "taped" "I") (List.mem_of_getElem? (i := 2) rfl)) (fun _ h9 => h9) kg_46_26 dX13_feed_41 ?_
      refine lv_iload_n hx hb dX13_feed_44 rfl (lv_at hl 3 rfl) ?_
      refine lv_bipush (v := 24) hx hb dX13_feed_45 (by decide) ?_
      refine lv_bipush (v := 8) hx hb dX13_feed_47 (by decide) ?_
      refine lv_iload_n hx hb dX13_feed_49 rfl (lv_at hl 0 rfl) ?_
      refine lv_imul hx hb dX13_feed_50 ?_
      refine lv_topi (fun z_47 ez_47 => ?_)
      obtain rfl : z_47 = 16 := ez_47.trans (by decide)
      refine lv_isub hx hb dX13_feed_51 ?_
      refine lv_topi (fun z_48 ez_48 => ?_)
      obtain rfl : z_48 = 8 := ez_48.trans (by decide)
      obtain ⟨z_49, ez_49⟩ : ∃ y : Int32, (x2.toUInt32 >>> ((8 : Int32).toUInt32 &&& Int32.toUInt32 31)).toInt32 = y := ⟨_, rfl⟩
      refine lv_iushr (v := z_49) hx hb dX13_feed_52 ez_49 ?_
      refine lv_sipush (v := 255) hx hb dX13_feed_53 (by decide) ?_
      refine lv_iand hx hb dX13_feed_56 ?_
      refine va_iast hx hb hE.1 hP hD hS 1 0 rfl rfl (by unfold vp_in; decide) dX13_feed_57 (fun H locs hP hD hS => ?_)
      have hP : va_P D vwCl [(h0, .inr (10, g_46)), (a0, .inl (T 0, 120, .inl (upd (upd (upd f25 0 (z_39 &&& 255)) 1 (z_44 &&& 255)) 2 (z_49 &&& 255))))] H := hP
      have hD : va_D A [(h0, .inr (10, g_46)), (a0, .inl (T 0, 120, .inl (upd (upd (upd f25 0 (z_39 &&& 255)) 1 (z_44 &&& 255)) 2 (z_49 &&& 255))))] := hD
      refine lv_aload_n hx hb dX13_feed_58 rfl (lv_at hl 1 rfl) ?_
      refine lv_dup hx hb dX13_feed_59 rfl ?_
      refine va_get (D := D) (ci := 10) (v := .int 2) (C := RX13) (T := TX13) (N := 45) hx hb hts in_X13_feed_X13 hown hE.1 hP 0 rfl rfl 26 (by decide) (hts (.fieldLink RX13 341 "ClauseBookModel" "taped" "I") (List.mem_of_getElem? (i := 2) rfl)) (fun _ h9 => h9) kg_46_26 dX13_feed_60 ?_
      refine lv_iconst (v := 1) hx hb dX13_feed_63 (by decide) ?_
      refine lv_iadd hx hb dX13_feed_64 ?_
      refine lv_topi (fun z_50 ez_50 => ?_)
      obtain rfl : z_50 = 3 := ez_50.trans (by decide)
      refine va_put (D := D) (ci := 10) (v := .int 3) (ty := .int) (C := RX13) (T := TX13) (N := 45) hx hb hts in_X13_feed_X13 tyX13 tyX13_ok nmX13 hown hE.1 hP hD hS 0 rfl rfl 26 (by decide) (hts (.fieldLink RX13 341 "ClauseBookModel" "taped" "I") (List.mem_of_getElem? (i := 2) rfl)) (fun _ h9 => h9) rfl (by decide +kernel) rfl rfl (by rw [lg_46]; decide) dX13_feed_65 (fun H locs hP hD hS => ?_)
      obtain ⟨g_51, eg_51⟩ : ∃ z : List Value, z = g_46.set 26 (.int 3) := ⟨_, rfl⟩
      have hP : va_P D vwCl [(h0, .inr (10, g_51)), (a0, .inl (T 0, 120, .inl (upd (upd (upd f25 0 (z_39 &&& 255)) 1 (z_44 &&& 255)) 2 (z_49 &&& 255))))] H := by rw [eg_51]; exact hP
      have hD : va_D A [(h0, .inr (10, g_51)), (a0, .inl (T 0, 120, .inl (upd (upd (upd f25 0 (z_39 &&& 255)) 1 (z_44 &&& 255)) 2 (z_49 &&& 255))))] := by rw [eg_51]; exact hD
      have lg_51 : g_51.length = 45 := by rw [eg_51, List.length_set]; exact lg_46
      have kg_51_26 : g_51[26]? = some (.int 3) := by rw [eg_51]; exact List.getElem?_set_self (by rw [lg_46]; decide)
      have kg_51_25 : g_51[25]? = some (.ref a0) := by rw [eg_51, List.getElem?_set_ne (by decide)]; exact kg_46_25
      refine lv_iinc (v := 3) (lv' := [(3, .int 3), (0, .ref h0), (1, .int 4), (2, .int x2)]) hx hb dX13_feed_68 hl (k := 0) rfl (by decide) (by decide) rfl (fun ls hl => ?_)
      refine lv_goto (tgt := 31) hx hb dX13_feed_71 (by decide) ?_
      refine lv_iload_n hx hb dX13_feed_31 rfl (lv_at hl 0 rfl) ?_
      refine lv_iload_n hx hb dX13_feed_32 rfl (lv_at hl 2 rfl) ?_
      refine lv_icmp_ge (tgt := 74) hx hb dX13_feed_33 (by decide) (fun c9 => absurd c9 (by decide)) (fun _ => ?_)
      refine lv_aload_n hx hb dX13_feed_36 rfl (lv_at hl 1 rfl) ?_
      refine va_get (D := D) (ci := 10) (v := .ref a0) (C := RX13) (T := TX13) (N := 45) hx hb hts in_X13_feed_X13 hown hE.1 hP 0 rfl rfl 25 (by decide) (hts (.fieldLink RX13 70 "ClauseBookModel" "tape" "[I") (List.mem_of_getElem? (i := 3) rfl)) (fun _ h9 => h9) kg_51_25 dX13_feed_37 ?_
      refine lv_aload_n hx hb dX13_feed_40 rfl (lv_at hl 1 rfl) ?_
      refine va_get (D := D) (ci := 10) (v := .int 3) (C := RX13) (T := TX13) (N := 45) hx hb hts in_X13_feed_X13 hown hE.1 hP 0 rfl rfl 26 (by decide) (hts (.fieldLink RX13 341 "ClauseBookModel" "taped" "I") (List.mem_of_getElem? (i := 2) rfl)) (fun _ h9 => h9) kg_51_26 dX13_feed_41 ?_
      refine lv_iload_n hx hb dX13_feed_44 rfl (lv_at hl 3 rfl) ?_
      refine lv_bipush (v := 24) hx hb dX13_feed_45 (by decide) ?_
      refine lv_bipush (v := 8) hx hb dX13_feed_47 (by decide) ?_
      refine lv_iload_n hx hb dX13_feed_49 rfl (lv_at hl 0 rfl) ?_
      refine lv_imul hx hb dX13_feed_50 ?_
      refine lv_topi (fun z_52 ez_52 => ?_)
      obtain rfl : z_52 = 24 := ez_52.trans (by decide)
      refine lv_isub hx hb dX13_feed_51 ?_
      refine lv_topi (fun z_53 ez_53 => ?_)
      obtain rfl : z_53 = 0 := ez_53.trans (by decide)
      obtain ⟨z_54, ez_54⟩ : ∃ y : Int32, (x2.toUInt32 >>> ((0 : Int32).toUInt32 &&& Int32.toUInt32 31)).toInt32 = y := ⟨_, rfl⟩
      refine lv_iushr (v := z_54) hx hb dX13_feed_52 ez_54 ?_
      refine lv_sipush (v := 255) hx hb dX13_feed_53 (by decide) ?_
      refine lv_iand hx hb dX13_feed_56 ?_
      refine va_iast hx hb hE.1 hP hD hS 1 0 rfl rfl (by unfold vp_in; decide) dX13_feed_57 (fun H locs hP hD hS => ?_)
      have hP : va_P D vwCl [(h0, .inr (10, g_51)), (a0, .inl (T 0, 120, .inl (upd (upd (upd (upd f25 0 (z_39 &&& 255)) 1 (z_44 &&& 255)) 2 (z_49 &&& 255)) 3 (z_54 &&& 255))))] H := hP
      have hD : va_D A [(h0, .inr (10, g_51)), (a0, .inl (T 0, 120, .inl (upd (upd (upd (upd f25 0 (z_39 &&& 255)) 1 (z_44 &&& 255)) 2 (z_49 &&& 255)) 3 (z_54 &&& 255))))] := hD
      refine lv_aload_n hx hb dX13_feed_58 rfl (lv_at hl 1 rfl) ?_
      refine lv_dup hx hb dX13_feed_59 rfl ?_
      refine va_get (D := D) (ci := 10) (v := .int 3) (C := RX13) (T := TX13) (N := 45) hx hb hts in_X13_feed_X13 hown hE.1 hP 0 rfl rfl 26 (by decide) (hts (.fieldLink RX13 341 "ClauseBookModel" "taped" "I") (List.mem_of_getElem? (i := 2) rfl)) (fun _ h9 => h9) kg_51_26 dX13_feed_60 ?_
      refine lv_iconst (v := 1) hx hb dX13_feed_63 (by decide) ?_
      refine lv_iadd hx hb dX13_feed_64 ?_
      refine lv_topi (fun z_55 ez_55 => ?_)
      obtain rfl : z_55 = 4 := ez_55.trans (by decide)
      refine va_put (D := D) (ci := 10) (v := .int 4) (ty := .int) (C := RX13) (T := TX13) (N := 45) hx hb hts in_X13_feed_X13 tyX13 tyX13_ok nmX13 hown hE.1 hP hD hS 0 rfl rfl 26 (by decide) (hts (.fieldLink RX13 341 "ClauseBookModel" "taped" "I") (List.mem_of_getElem? (i := 2) rfl)) (fun _ h9 => h9) rfl (by decide +kernel) rfl rfl (by rw [lg_51]; decide) dX13_feed_65 (fun H locs hP hD hS => ?_)
      obtain ⟨g_56, eg_56⟩ : ∃ z : List Value, z = g_51.set 26 (.int 4) := ⟨_, rfl⟩
      have hP : va_P D vwCl [(h0, .inr (10, g_56)), (a0, .inl (T 0, 120, .inl (upd (upd (upd (upd f25 0 (z_39 &&& 255)) 1 (z_44 &&& 255)) 2 (z_49 &&& 255)) 3 (z_54 &&& 255))))] H := by rw [eg_56]; exact hP
      have hD : va_D A [(h0, .inr (10, g_56)), (a0, .inl (T 0, 120, .inl (upd (upd (upd (upd f25 0 (z_39 &&& 255)) 1 (z_44 &&& 255)) 2 (z_49 &&& 255)) 3 (z_54 &&& 255))))] := by rw [eg_56]; exact hD
      have lg_56 : g_56.length = 45 := by rw [eg_56, List.length_set]; exact lg_51
      have kg_56_26 : g_56[26]? = some (.int 4) := by rw [eg_56]; exact List.getElem?_set_self (by rw [lg_51]; decide)
      have kg_56_25 : g_56[25]? = some (.ref a0) := by rw [eg_56, List.getElem?_set_ne (by decide)]; exact kg_51_25
      refine lv_iinc (v := 4) (lv' := [(3, .int 4), (0, .ref h0), (1, .int 4), (2, .int x2)]) hx hb dX13_feed_68 hl (k := 0) rfl (by decide) (by decide) rfl (fun ls hl => ?_)
      refine lv_goto (tgt := 31) hx hb dX13_feed_71 (by decide) ?_
      refine lv_iload_n hx hb dX13_feed_31 rfl (lv_at hl 0 rfl) ?_
      refine lv_iload_n hx hb dX13_feed_32 rfl (lv_at hl 2 rfl) ?_
      refine lv_icmp_ge (tgt := 74) hx hb dX13_feed_33 (by decide) (fun _ => ?_) (fun c9 => absurd c9 (by decide))
      refine lv_aload_n hx hb dX13_feed_74 rfl (lv_at hl 1 rfl) ?_
      refine va_get (D := D) (ci := 10) (v := .int 4) (C := RX13) (T := TX13) (N := 45) hx hb hts in_X13_feed_X13 hown hE.1 hP 0 rfl rfl 26 (by decide) (hts (.fieldLink RX13 341 "ClauseBookModel" "taped" "I") (List.mem_of_getElem? (i := 2) rfl)) (fun _ h9 => h9) kg_56_26 dX13_feed_75 ?_
      exact W.iret hx hb hr (fun t ht hW => ⟨⟨_, (), rfl, (by first | decide | (unfold sp_feed; (repeat' split) <;> first | rfl | (exfalso; omega))), by rw [ht]; exact hP.sub [] rfl, hD.sub [] (by decide) rfl⟩, hS.F ht⟩) hS.2.2 dX13_feed_78
  · refine lv_if_ne (tgt := 15) hx hb dX13_feed_9 (by decide) (fun c9 => absurd c9 (by decide)) (fun _ => ?_)
    refine lv_bipush (v := (-2)) hx hb dX13_feed_12 (by decide) ?_
    exact W.iret hx hb hr (fun t ht hW => ⟨⟨_, (), rfl, (by first | decide | (unfold sp_feed; (repeat' split) <;> first | rfl | (exfalso; omega))), by rw [ht]; exact hP.sub [] rfl, hD.sub [] (by decide) rfl⟩, hS.F ht⟩) hS.2.2 dX13_feed_14
theorem dX13_pour_0 : decode cX13_pour 0 = .ok (.iload_n 1, 1) := by decide +kernel
theorem dX13_pour_1 : decode cX13_pour 1 = .ok (.invokestatic 405, 3) := by decide +kernel
theorem dX13_pour_11 : decode cX13_pour 11 = .ok (.ifCond .eq 22, 3) := by decide +kernel
theorem dX13_pour_14 : decode cX13_pour 14 = .ok (.iload_n 1, 1) := by decide +kernel
theorem dX13_pour_15 : decode cX13_pour 15 = .ok (.iload_n 2, 1) := by decide +kernel
theorem dX13_pour_16 : decode cX13_pour 16 = .ok (.if_icmp .eq 17, 3) := by decide +kernel
theorem dX13_pour_175 : decode cX13_pour 175 = .ok (.aload_n 0, 1) := by decide +kernel
theorem dX13_pour_176 : decode cX13_pour 176 = .ok (.getfield 44, 3) := by decide +kernel
theorem dX13_pour_179 : decode cX13_pour 179 = .ok (.iload_n 1, 1) := by decide +kernel
theorem dX13_pour_180 : decode cX13_pour 180 = .ok (.iload 5, 2) := by decide +kernel
theorem dX13_pour_182 : decode cX13_pour 182 = .ok (.iastore, 1) := by decide +kernel
theorem dX13_pour_183 : decode cX13_pour 183 = .ok (.iload 4, 2) := by decide +kernel
theorem dX13_pour_185 : decode cX13_pour 185 = .ok (.ireturn, 1) := by decide +kernel
theorem dX13_pour_19 : decode cX13_pour 19 = .ok (.iload_n 3, 1) := by decide +kernel
theorem dX13_pour_20 : decode cX13_pour 20 = .ok (.i2l, 1) := by decide +kernel
theorem dX13_pour_21 : decode cX13_pour 21 = .ok (.ldc2_w 135, 3) := by decide +kernel
theorem dX13_pour_24 : decode cX13_pour 24 = .ok (.ldc2_w 214, 3) := by decide +kernel
theorem dX13_pour_27 : decode cX13_pour 27 = .ok (.invokestatic 175, 3) := by decide +kernel
theorem dX13_pour_30 : decode cX13_pour 30 = .ok (.ifCond .ne 6, 3) := by decide +kernel
theorem dX13_pour_33 : decode cX13_pour 33 = .ok (.bipush (-2), 2) := by decide +kernel
theorem dX13_pour_35 : decode cX13_pour 35 = .ok (.ireturn, 1) := by decide +kernel
theorem dX13_pour_36 : decode cX13_pour 36 = .ok (.iconst 0, 1) := by decide +kernel
theorem dX13_pour_37 : decode cX13_pour 37 = .ok (.istore 4, 2) := by decide +kernel
theorem dX13_pour_39 : decode cX13_pour 39 = .ok (.iconst 0, 1) := by decide +kernel
theorem dX13_pour_4 : decode cX13_pour 4 = .ok (.ifCond .eq 29, 3) := by decide +kernel
theorem dX13_pour_40 : decode cX13_pour 40 = .ok (.istore 5, 2) := by decide +kernel
theorem dX13_pour_42 : decode cX13_pour 42 = .ok (.iconst 0, 1) := by decide +kernel
theorem dX13_pour_43 : decode cX13_pour 43 = .ok (.istore 6, 2) := by decide +kernel
theorem dX13_pour_45 : decode cX13_pour 45 = .ok (.iload 6, 2) := by decide +kernel
theorem dX13_pour_47 : decode cX13_pour 47 = .ok (.aload_n 0, 1) := by decide +kernel
theorem dX13_pour_48 : decode cX13_pour 48 = .ok (.getfield 44, 3) := by decide +kernel
theorem dX13_pour_51 : decode cX13_pour 51 = .ok (.iload_n 1, 1) := by decide +kernel
theorem dX13_pour_52 : decode cX13_pour 52 = .ok (.iaload, 1) := by decide +kernel
theorem dX13_pour_53 : decode cX13_pour 53 = .ok (.if_icmp .ge 122, 3) := by decide +kernel
theorem dX13_pour_7 : decode cX13_pour 7 = .ok (.iload_n 2, 1) := by decide +kernel
theorem dX13_pour_8 : decode cX13_pour 8 = .ok (.invokestatic 405, 3) := by decide +kernel
set_option maxRecDepth 20000 in
theorem ggX13_pour_X13_in : GoodIn wsX13_pour wsX13_in := goodIn_r _ [13] (by decide +kernel) (by decide +kernel)
set_option maxRecDepth 20000 in
theorem ggX13_pour_X13_isBag : GoodIn wsX13_pour wsX13_isBag := goodIn_r _ [9, 10, 11, 12, 8, 13] (by decide +kernel) (by decide +kernel)
set_option maxRecDepth 20000 in
theorem gX13_pour_X13_in : GoodIn wsX13_pour (va_wsS RX13 175 yX13_in wsX13_in) := goodIn_app (goodIn_of _ (by decide +kernel)) ggX13_pour_X13_in
set_option maxRecDepth 20000 in
theorem gX13_pour_X13_isBag : GoodIn wsX13_pour (va_wsS RX13 405 yX13_isBag wsX13_isBag) := goodIn_app (goodIn_of _ (by decide +kernel)) ggX13_pour_X13_isBag
set_option maxRecDepth 20000 in
theorem in_X13_pour_X13 : ∀ w ∈ wsX130, w ∈ wsX13_pour := by decide +kernel
set_option maxHeartbeats 4000000 in
set_option maxRecDepth 100000 in
theorem f_X13_pour (l : Launch) (D : va_G) (T : Nat → ClassId) (sz : Nat) (h0 : Nat) (fs0 : List Value) (a0 : Nat) (f12 : Nat → Int32) (a1 : Nat) (f13 : Nat → Int32) (x1 : Int32) (x2 : Int32) (x3 : Int32) (hl0 : fs0.length = 45) (e0_7 : fs0[7]? = some (.int 0)) (e0_12 : fs0[12]? = some (.ref a0)) (e0_13 : fs0[13]? = some (.ref a1)) (ef13_0 : f13 0 = 0) (ef13_1 : f13 1 = 0) (ef13_2 : f13 2 = 0) : Met l yX13_pour wsX13_pour ({ frames := 2, cells := 0, slots := 0, locals := 45 }) (pW [.ref h0, .int x1, .int x2, .int x3] D T [(h0, .inr (10, fs0)), (a0, .inl (T 0, 36, .inl f12)), (a1, .inl (T 0, 3, .inl f13))] sz) (va_Qi (fun (r : Int32) (u : Unit) => r = sp_pour x1 x2 x3) (bW D (va_A [(h0, .inr (10, fs0)), (a0, .inl (T 0, 36, .inl f12)), (a1, .inl (T 0, 3, .inl f13))] sz) (fun (u : Unit) => ([] : va_W))) (va_A [(h0, .inr (10, fs0)), (a0, .inl (T 0, 36, .inl f12)), (a1, .inl (T 0, 3, .inl f13))] sz)) 0 0 (va_A [(h0, .inr (10, fs0)), (a0, .inl (T 0, 36, .inl f12)), (a1, .inl (T 0, 3, .inl f13))] sz) := by
  refine Met.ofW (cc := cX13_pour) (maxL := 9) (ret := (some .int)) (by decide) rfl ?_
  intro p e s m args below meth c s₁ B hml hv
  obtain ⟨rfl, hsz, hP, hE, hD0⟩ := hv
  have hx := B.exec
  have hb := B.bytes
  have hr := B.returns
  have hts := atoms_spec (ws := wsX13_pour) B.pre
  have hown : s.vm.findClass RX13 = some m.cls := findClass_of_methodNamed B.named
  have hlocks := B.notSynchronized
  subst hsz
  have hD := hD0.self (sz := s.heap.size)
  generalize hAe : va_A [(h0, .inr (10, fs0)), (a0, .inl (T 0, 36, .inl f12)), (a1, .inl (T 0, 3, .inl f13))] s.heap.size = A at hD ⊢
  have hA : ∀ q : Nat, s.heap.size ≤ q → A q := fun q h => by rw [← hAe]; exact Or.inr h
  have hS : va_S A s.heap s.heap [] := va_S.rf
  have hP : va_P D vwCl [(h0, .inr (10, fs0)), (a0, .inl (T 0, 36, .inl f12)), (a1, .inl (T 0, 3, .inl f13))] s.heap := hP
  have hl := lv_entry ([.ref h0, .int x1, .int x2, .int x3]) (n := 9) (Nat.le_of_ble_eq_true rfl)
  rw [lg_entry_eq]
  generalize (lg_sl ([.ref h0, .int x1, .int x2, .int x3]) ++ List.replicate (9 - (lg_sl ([.ref h0, .int x1, .int x2, .int x3])).length) Slot.unset).toArray = ls at hl ⊢
  have hl : lv_has ls 9 [(0, .ref h0), (1, .int x1), (2, .int x2), (3, .int x3)] := hl
  clear hD0
  refine lv_iload_n hx hb dX13_pour_0 rfl (lv_at hl 1 rfl) ?_
  refine vp_callSi (W.runS (As := [.int x1]) (rest := []) ⟨hx, hb, hml, hown, hts⟩ (c_X13_isBag l D T x1) (va_cwS 1 hts gX13_pour_X13_isBag rfl rfl rfl (by decide +kernel) ⟨Nat.le_of_ble_eq_true rfl, Nat.le_of_ble_eq_true rfl⟩) (pR_S hP hE [] rfl) rfl rfl hl.1 rfl (lv_room (Nat.le_of_ble_eq_true rfl)) dX13_pour_1 ⟨Nat.le_of_ble_eq_true rfl, Nat.le_of_ble_eq_true rfl⟩) (fun r_1 hr_1 => ?_)
  rcases bool_post hr_1 with ⟨c_2, rfl⟩ | ⟨c_2, rfl⟩
  · refine lv_if_eq (tgt := 33) hx hb dX13_pour_4 (by decide) (fun c9 => absurd c9 (by decide)) (fun _ => ?_)
    refine lv_iload_n hx hb dX13_pour_7 rfl (lv_at hl 2 rfl) ?_
    refine vp_callSi (W.runS (As := [.int x2]) (rest := []) ⟨hx, hb, hml, hown, hts⟩ (c_X13_isBag l D T x2) (va_cwS 1 hts gX13_pour_X13_isBag rfl rfl rfl (by decide +kernel) ⟨Nat.le_of_ble_eq_true rfl, Nat.le_of_ble_eq_true rfl⟩) (pR_S hP hE [] rfl) rfl rfl hl.1 rfl (lv_room (Nat.le_of_ble_eq_true rfl)) dX13_pour_8 ⟨Nat.le_of_ble_eq_true rfl, Nat.le_of_ble_eq_true rfl⟩) (fun r_3 hr_3 => ?_)
    rcases bool_post hr_3 with ⟨c_4, rfl⟩ | ⟨c_4, rfl⟩
    · refine lv_if_eq (tgt := 33) hx hb dX13_pour_11 (by decide) (fun c9 => absurd c9 (by decide)) (fun _ => ?_)
      refine lv_iload_n hx hb dX13_pour_14 rfl (lv_at hl 1 rfl) ?_
      refine lv_iload_n hx hb dX13_pour_15 rfl (lv_at hl 2 rfl) ?_
      refine lv_icmp_eq (tgt := 33) hx hb dX13_pour_16 (by decide) (fun c_5 => ?_) (fun c_5 => ?_)
      · rw [fa_eq] at c_5
        refine lv_bipush (v := (-2)) hx hb dX13_pour_33 (by decide) ?_
        exact W.iret hx hb hr (fun t ht hW => ⟨⟨_, (), rfl, (by first | decide | (unfold sp_pour; (repeat' split) <;> first | rfl | (exfalso; omega))), by rw [ht]; exact hP.sub [] rfl, hD.sub [] (by decide) rfl⟩, hS.F ht⟩) hS.2.2 dX13_pour_35
      · rw [fa_eq] at c_5
        refine lv_iload_n hx hb dX13_pour_19 rfl (lv_at hl 3 rfl) ?_
        refine lv_i2l hx hb dX13_pour_20 rfl ?_
        refine lv_ldc2 (v := (-1)) hx hb hown (hts (.constantLong RX13 135 (-1)) (List.mem_of_getElem? (i := 1) rfl)) dX13_pour_21 ?_
        refine lv_ldc2 (v := 12) hx hb hown (hts (.constantLong RX13 214 (12)) (List.mem_of_getElem? (i := 2) rfl)) dX13_pour_24 ?_
        refine vp_callSi (W.runS (As := [.long (x3.toInt64), .long (-1), .long 12]) (rest := []) ⟨hx, hb, hml, hown, hts⟩ (c_X13_in l D T (x3.toInt64) (-1) 12 x3.toInt (-1) 12 ((Int32.toInt_toInt64 _).trans rfl) (by decide) (by decide)) (va_cwS 3 hts gX13_pour_X13_in rfl rfl rfl (by decide +kernel) ⟨Nat.le_of_ble_eq_true rfl, Nat.le_of_ble_eq_true rfl⟩) (pR_S hP hE [] rfl) rfl rfl hl.1 rfl (lv_room (Nat.le_of_ble_eq_true rfl)) dX13_pour_27 ⟨Nat.le_of_ble_eq_true rfl, Nat.le_of_ble_eq_true rfl⟩) (fun r_6 hr_6 => ?_)
        rcases bool_post hr_6 with ⟨c_7, rfl⟩ | ⟨c_7, rfl⟩
        · refine lv_if_ne (tgt := 36) hx hb dX13_pour_30 (by decide) (fun _ => ?_) (fun c9 => absurd c9 (by decide))
          refine lv_iconst (v := 0) hx hb dX13_pour_36 (by decide) ?_
          refine lv_istore (lv' := [(4, .int 0), (0, .ref h0), (1, .int x1), (2, .int x2), (3, .int x3)]) hx hb dX13_pour_37 hl (by decide) rfl (fun ls hl => ?_)
          refine lv_iconst (v := 0) hx hb dX13_pour_39 (by decide) ?_
          refine lv_istore (lv' := [(5, .int 0), (4, .int 0), (0, .ref h0), (1, .int x1), (2, .int x2), (3, .int x3)]) hx hb dX13_pour_40 hl (by decide) rfl (fun ls hl => ?_)
          refine lv_iconst (v := 0) hx hb dX13_pour_42 (by decide) ?_
          refine lv_istore (lv' := [(6, .int 0), (5, .int 0), (4, .int 0), (0, .ref h0), (1, .int x1), (2, .int x2), (3, .int x3)]) hx hb dX13_pour_43 hl (by decide) rfl (fun ls hl => ?_)
          refine lv_iload hx hb dX13_pour_45 (lv_at hl 0 rfl) ?_
          refine lv_aload_n hx hb dX13_pour_47 rfl (lv_at hl 3 rfl) ?_
          refine va_get (D := D) (ci := 10) (v := .ref a1) (C := RX13) (T := TX13) (N := 45) hx hb hts in_X13_pour_X13 hown hE.1 hP 0 rfl rfl 13 (by decide) (hts (.fieldLink RX13 44 "ClauseBookModel" "bagged" "[I") (List.mem_of_getElem? (i := 3) rfl)) (fun _ h9 => h9) e0_13 dX13_pour_48 ?_
          refine lv_iload_n hx hb dX13_pour_51 rfl (lv_at hl 4 rfl) ?_
          rcases in3 (x := x1) (by omega) with rfl | rfl | rfl
          · refine va_iald hx hb hE.1 hP 2 0 rfl rfl (by unfold vp_in; decide) dX13_pour_52 ?_
            refine lv_topi (fun z_8 ez_8 => ?_)
            obtain rfl : z_8 = 0 := ez_8.trans ef13_0
            refine lv_icmp_ge (tgt := 175) hx hb dX13_pour_53 (by decide) (fun _ => ?_) (fun c9 => absurd c9 (by decide))
            refine lv_aload_n hx hb dX13_pour_175 rfl (lv_at hl 3 rfl) ?_
            refine va_get (D := D) (ci := 10) (v := .ref a1) (C := RX13) (T := TX13) (N := 45) hx hb hts in_X13_pour_X13 hown hE.1 hP 0 rfl rfl 13 (by decide) (hts (.fieldLink RX13 44 "ClauseBookModel" "bagged" "[I") (List.mem_of_getElem? (i := 3) rfl)) (fun _ h9 => h9) e0_13 dX13_pour_176 ?_
            refine lv_iload_n hx hb dX13_pour_179 rfl (lv_at hl 4 rfl) ?_
            refine lv_iload hx hb dX13_pour_180 (lv_at hl 1 rfl) ?_
            refine va_iast hx hb hE.1 hP hD hS 2 0 rfl rfl (by unfold vp_in; decide) dX13_pour_182 (fun H locs hP hD hS => ?_)
            have hP : va_P D vwCl [(h0, .inr (10, fs0)), (a0, .inl (T 0, 36, .inl f12)), (a1, .inl (T 0, 3, .inl (upd f13 0 0)))] H := hP
            have hD : va_D A [(h0, .inr (10, fs0)), (a0, .inl (T 0, 36, .inl f12)), (a1, .inl (T 0, 3, .inl (upd f13 0 0)))] := hD
            refine lv_iload hx hb dX13_pour_183 (lv_at hl 2 rfl) ?_
            exact W.iret hx hb hr (fun t ht hW => ⟨⟨_, (), rfl, (by first | decide | (unfold sp_pour; (repeat' split) <;> first | rfl | (exfalso; omega))), by rw [ht]; exact hP.sub [] rfl, hD.sub [] (by decide) rfl⟩, hS.F ht⟩) hS.2.2 dX13_pour_185
          · refine va_iald hx hb hE.1 hP 2 0 rfl rfl (by unfold vp_in; decide) dX13_pour_52 ?_
            refine lv_topi (fun z_9 ez_9 => ?_)
            obtain rfl : z_9 = 0 := ez_9.trans ef13_1
            refine lv_icmp_ge (tgt := 175) hx hb dX13_pour_53 (by decide) (fun _ => ?_) (fun c9 => absurd c9 (by decide))
            refine lv_aload_n hx hb dX13_pour_175 rfl (lv_at hl 3 rfl) ?_
            refine va_get (D := D) (ci := 10) (v := .ref a1) (C := RX13) (T := TX13) (N := 45) hx hb hts in_X13_pour_X13 hown hE.1 hP 0 rfl rfl 13 (by decide) (hts (.fieldLink RX13 44 "ClauseBookModel" "bagged" "[I") (List.mem_of_getElem? (i := 3) rfl)) (fun _ h9 => h9) e0_13 dX13_pour_176 ?_
            refine lv_iload_n hx hb dX13_pour_179 rfl (lv_at hl 4 rfl) ?_
            refine lv_iload hx hb dX13_pour_180 (lv_at hl 1 rfl) ?_
            refine va_iast hx hb hE.1 hP hD hS 2 0 rfl rfl (by unfold vp_in; decide) dX13_pour_182 (fun H locs hP hD hS => ?_)
            have hP : va_P D vwCl [(h0, .inr (10, fs0)), (a0, .inl (T 0, 36, .inl f12)), (a1, .inl (T 0, 3, .inl (upd f13 1 0)))] H := hP
            have hD : va_D A [(h0, .inr (10, fs0)), (a0, .inl (T 0, 36, .inl f12)), (a1, .inl (T 0, 3, .inl (upd f13 1 0)))] := hD
            refine lv_iload hx hb dX13_pour_183 (lv_at hl 2 rfl) ?_
            exact W.iret hx hb hr (fun t ht hW => ⟨⟨_, (), rfl, (by first | decide | (unfold sp_pour; (repeat' split) <;> first | rfl | (exfalso; omega))), by rw [ht]; exact hP.sub [] rfl, hD.sub [] (by decide) rfl⟩, hS.F ht⟩) hS.2.2 dX13_pour_185
          · refine va_iald hx hb hE.1 hP 2 0 rfl rfl (by unfold vp_in; decide) dX13_pour_52 ?_
            refine lv_topi (fun z_10 ez_10 => ?_)
            obtain rfl : z_10 = 0 := ez_10.trans ef13_2
            refine lv_icmp_ge (tgt := 175) hx hb dX13_pour_53 (by decide) (fun _ => ?_) (fun c9 => absurd c9 (by decide))
            refine lv_aload_n hx hb dX13_pour_175 rfl (lv_at hl 3 rfl) ?_
            refine va_get (D := D) (ci := 10) (v := .ref a1) (C := RX13) (T := TX13) (N := 45) hx hb hts in_X13_pour_X13 hown hE.1 hP 0 rfl rfl 13 (by decide) (hts (.fieldLink RX13 44 "ClauseBookModel" "bagged" "[I") (List.mem_of_getElem? (i := 3) rfl)) (fun _ h9 => h9) e0_13 dX13_pour_176 ?_
            refine lv_iload_n hx hb dX13_pour_179 rfl (lv_at hl 4 rfl) ?_
            refine lv_iload hx hb dX13_pour_180 (lv_at hl 1 rfl) ?_
            refine va_iast hx hb hE.1 hP hD hS 2 0 rfl rfl (by unfold vp_in; decide) dX13_pour_182 (fun H locs hP hD hS => ?_)
            have hP : va_P D vwCl [(h0, .inr (10, fs0)), (a0, .inl (T 0, 36, .inl f12)), (a1, .inl (T 0, 3, .inl (upd f13 2 0)))] H := hP
            have hD : va_D A [(h0, .inr (10, fs0)), (a0, .inl (T 0, 36, .inl f12)), (a1, .inl (T 0, 3, .inl (upd f13 2 0)))] := hD
            refine lv_iload hx hb dX13_pour_183 (lv_at hl 2 rfl) ?_
            exact W.iret hx hb hr (fun t ht hW => ⟨⟨_, (), rfl, (by first | decide | (unfold sp_pour; (repeat' split) <;> first | rfl | (exfalso; omega))), by rw [ht]; exact hP.sub [] rfl, hD.sub [] (by decide) rfl⟩, hS.F ht⟩) hS.2.2 dX13_pour_185
        · refine lv_if_ne (tgt := 36) hx hb dX13_pour_30 (by decide) (fun c9 => absurd c9 (by decide)) (fun _ => ?_)
          refine lv_bipush (v := (-2)) hx hb dX13_pour_33 (by decide) ?_
          exact W.iret hx hb hr (fun t ht hW => ⟨⟨_, (), rfl, (by first | decide | (unfold sp_pour; (repeat' split) <;> first | rfl | (exfalso; omega))), by rw [ht]; exact hP.sub [] rfl, hD.sub [] (by decide) rfl⟩, hS.F ht⟩) hS.2.2 dX13_pour_35
    · refine lv_if_eq (tgt := 33) hx hb dX13_pour_11 (by decide) (fun _ => ?_) (fun c9 => absurd c9 (by decide))
      refine lv_bipush (v := (-2)) hx hb dX13_pour_33 (by decide) ?_
      exact W.iret hx hb hr (fun t ht hW => ⟨⟨_, (), rfl, (by first | decide | (unfold sp_pour; (repeat' split) <;> first | rfl | (exfalso; omega))), by rw [ht]; exact hP.sub [] rfl, hD.sub [] (by decide) rfl⟩, hS.F ht⟩) hS.2.2 dX13_pour_35
  · refine lv_if_eq (tgt := 33) hx hb dX13_pour_4 (by decide) (fun _ => ?_) (fun c9 => absurd c9 (by decide))
    refine lv_bipush (v := (-2)) hx hb dX13_pour_33 (by decide) ?_
    exact W.iret hx hb hr (fun t ht hW => ⟨⟨_, (), rfl, (by first | decide | (unfold sp_pour; (repeat' split) <;> first | rfl | (exfalso; omega))), by rw [ht]; exact hP.sub [] rfl, hD.sub [] (by decide) rfl⟩, hS.F ht⟩) hS.2.2 dX13_pour_35
theorem dX13_laysParts_0 : decode cX13_laysParts 0 = .ok (.iconst 0, 1) := by decide +kernel
theorem dX13_laysParts_1 : decode cX13_laysParts 1 = .ok (.istore_n 1, 1) := by decide +kernel
theorem dX13_laysParts_2 : decode cX13_laysParts 2 = .ok (.iload_n 1, 1) := by decide +kernel
theorem dX13_laysParts_212 : decode cX13_laysParts 212 = .ok (.return_, 1) := by decide +kernel
theorem dX13_laysParts_3 : decode cX13_laysParts 3 = .ok (.aload_n 0, 1) := by decide +kernel
theorem dX13_laysParts_4 : decode cX13_laysParts 4 = .ok (.getfield 205, 3) := by decide +kernel
theorem dX13_laysParts_7 : decode cX13_laysParts 7 = .ok (.if_icmp .ge 205, 3) := by decide +kernel
set_option maxRecDepth 20000 in
theorem in_X13_laysParts_X13 : ∀ w ∈ wsX130, w ∈ wsX13_laysParts := by decide +kernel
set_option maxHeartbeats 4000000 in
set_option maxRecDepth 100000 in
theorem f_X13_laysParts (l : Launch) (D : va_G) (T : Nat → ClassId) (h0 : Nat) (fs0 : List Value) (e0_7 : fs0[7]? = some (.int 0)) : Met l yX13_laysParts wsX13_laysParts ({ frames := 0, cells := 0, slots := 0, locals := 0 }) (pR [.ref h0] D T [(h0, .inr (10, fs0))]) (va_Sv (fun r => True)) 0 0 (fun _ => False) := by
  refine Met.ofW (cc := cX13_laysParts) (maxL := 5) (ret := none) (by decide) rfl ?_
  intro p e s m args below meth c s₁ B hml hv
  obtain ⟨rfl, hP, hE⟩ := hv
  have hx := B.exec
  have hb := B.bytes
  have hr := B.returns
  have hts := atoms_spec (ws := wsX13_laysParts) B.pre
  have hown : s.vm.findClass RX13 = some m.cls := findClass_of_methodNamed B.named
  have hlocks := B.notSynchronized
  have hP : va_P D vwCl [(h0, .inr (10, fs0))] s.heap := hP
  have hl := lv_entry ([.ref h0]) (n := 5) (Nat.le_of_ble_eq_true rfl)
  rw [lg_entry_eq]
  generalize (lg_sl ([.ref h0]) ++ List.replicate (5 - (lg_sl ([.ref h0])).length) Slot.unset).toArray = ls at hl ⊢
  have hl : lv_has ls 5 [(0, .ref h0)] := hl
  refine lv_iconst (v := 0) hx hb dX13_laysParts_0 (by decide) ?_
  refine lv_istore_n (lv' := [(1, .int 0), (0, .ref h0)]) hx hb dX13_laysParts_1 rfl hl (by decide) rfl (fun ls hl => ?_)
  refine lv_iload_n hx hb dX13_laysParts_2 rfl (lv_at hl 0 rfl) ?_
  refine lv_aload_n hx hb dX13_laysParts_3 rfl (lv_at hl 1 rfl) ?_
  refine va_get (D := D) (ci := 10) (v := .int 0) (C := RX13) (T := TX13) (N := 45) hx hb hts in_X13_laysParts_X13 hown hE.1 hP 0 rfl rfl 7 (by decide) (hts (.fieldLink RX13 205 "ClauseBookModel" "many" "I") (List.mem_of_getElem? (i := 1) rfl)) (fun _ h9 => h9) e0_7 dX13_laysParts_4 ?_
  refine lv_icmp_ge (tgt := 212) hx hb dX13_laysParts_7 (by decide) (fun _ => ?_) (fun c9 => absurd c9 (by decide))
  exact W.vret hx hb hr (fun t ht hW => ⟨rfl, trivial, ht⟩) (fun _ h => by cases h) dX13_laysParts_212
theorem dX13_laysWorths_0 : decode cX13_laysWorths 0 = .ok (.aload_n 0, 1) := by decide +kernel
theorem dX13_laysWorths_1 : decode cX13_laysWorths 1 = .ok (.invokevirtual 236, 3) := by decide +kernel
theorem dX13_laysWorths_141 : decode cX13_laysWorths 141 = .ok (.aload_n 0, 1) := by decide +kernel
theorem dX13_laysWorths_142 : decode cX13_laysWorths 142 = .ok (.iconst 0, 1) := by decide +kernel
theorem dX13_laysWorths_143 : decode cX13_laysWorths 143 = .ok (.putfield 131, 3) := by decide +kernel
theorem dX13_laysWorths_146 : decode cX13_laysWorths 146 = .ok (.return_, 1) := by decide +kernel
theorem dX13_laysWorths_4 : decode cX13_laysWorths 4 = .ok (.iconst 0, 1) := by decide +kernel
theorem dX13_laysWorths_5 : decode cX13_laysWorths 5 = .ok (.istore_n 2, 1) := by decide +kernel
theorem dX13_laysWorths_6 : decode cX13_laysWorths 6 = .ok (.iload_n 2, 1) := by decide +kernel
theorem dX13_laysWorths_7 : decode cX13_laysWorths 7 = .ok (.iload_n 1, 1) := by decide +kernel
theorem dX13_laysWorths_8 : decode cX13_laysWorths 8 = .ok (.if_icmp .gt 133, 3) := by decide +kernel
set_option maxRecDepth 20000 in
theorem ggX13_laysWorths_X13_laysParts : GoodIn wsX13_laysWorths wsX13_laysParts := goodIn_r _ [12, 13, 14, 15, 16, 2, 17, 18, 19, 20, 21, 22, 23, 24, 25, 26, 27, 28, 11, 29, 100, 101, 102, 103, 104, 105, 106, 107, 108, 109, 110, 111, 112, 113, 114, 115, 116, 117, 118, 119, 120, 121, 122, 123, 124, 125, 126, 127, 128, 129, 130, 131, 132, 133, 134, 135, 136, 137, 138, 139, 140, 141, 142, 143, 144] (by decide +kernel) (by decide +kernel)
set_option maxRecDepth 20000 in
theorem gX13_laysWorths_X13_laysParts : GoodIn wsX13_laysWorths (wsV RX13 236 RX13 yX13_laysParts wsX13_laysParts) := goodIn_app (goodIn_of _ (by decide +kernel)) ggX13_laysWorths_X13_laysParts
set_option maxRecDepth 20000 in
theorem in_X13_laysWorths_X13 : ∀ w ∈ wsX130, w ∈ wsX13_laysWorths := by decide +kernel
set_option maxHeartbeats 4000000 in
set_option maxRecDepth 100000 in
theorem f_X13_laysWorths (l : Launch) (D : va_G) (T : Nat → ClassId) (sz : Nat) (h0 : Nat) (fs0 : List Value) (w12 : Value) (w13 : Value) (hl0 : fs0.length = 45) (e0_7 : fs0[7]? = some (.int 0)) (e0_12 : fs0[12]? = some w12) (e0_13 : fs0[13]? = some w13) : Met l yX13_laysWorths wsX13_laysWorths ({ frames := 1, cells := 0, slots := 0, locals := 24 }) (pW [.ref h0, .int (-1)] D T [(h0, .inr (10, fs0))] sz) (va_Qv (fun (u : List Value) => True ∧ u.length = 45 ∧ u[12]? = some (w12) ∧ u[13]? = some (w13)) (bW D (va_A [(h0, .inr (10, fs0))] sz) (fun (u : List Value) => [(h0, .inr (10, u))])) (va_A [(h0, .inr (10, fs0))] sz)) 0 0 (va_A [(h0, .inr (10, fs0))] sz) := by
  refine Met.ofW (cc := cX13_laysWorths) (maxL := 6) (ret := none) (by decide) rfl ?_
  intro p e s m args below meth c s₁ B hml hv
  obtain ⟨rfl, hsz, hP, hE, hD0⟩ := hv
  have hx := B.exec
  have hb := B.bytes
  have hr := B.returns
  have hts := atoms_spec (ws := wsX13_laysWorths) B.pre
  have hown : s.vm.findClass RX13 = some m.cls := findClass_of_methodNamed B.named
  have hlocks := B.notSynchronized
  subst hsz
  have hD := hD0.self (sz := s.heap.size)
  generalize hAe : va_A [(h0, .inr (10, fs0))] s.heap.size = A at hD ⊢
  have hA : ∀ q : Nat, s.heap.size ≤ q → A q := fun q h => by rw [← hAe]; exact Or.inr h
  have hS : va_S A s.heap s.heap [] := va_S.rf
  have hP : va_P D vwCl [(h0, .inr (10, fs0))] s.heap := hP
  have hl := lv_entry ([.ref h0, .int (-1)]) (n := 6) (Nat.le_of_ble_eq_true rfl)
  rw [lg_entry_eq]
  generalize (lg_sl ([.ref h0, .int (-1)]) ++ List.replicate (6 - (lg_sl ([.ref h0, .int (-1)])).length) Slot.unset).toArray = ls at hl ⊢
  have hl : lv_has ls 6 [(0, .ref h0), (1, .int (-1))] := hl
  clear hD0
  refine lv_aload_n hx hb dX13_laysWorths_0 rfl (lv_at hl 0 rfl) ?_
  refine va_csv (W.runV (As := []) (rest := []) ⟨hx, hb, hml, hown, hts⟩ (f_X13_laysParts l D T h0 fs0 e0_7) (cwV 0 hts gX13_laysWorths_X13_laysParts rfl rfl rfl (by decide +kernel) ⟨Nat.le_of_ble_eq_true rfl, Nat.le_of_ble_eq_true rfl⟩) (pR_V (ci := 10) (q0 := 0) hP hE rfl rfl [0] rfl) rfl rfl hl.1 rfl (lv_room (Nat.le_of_ble_eq_true rfl)) dX13_laysWorths_1 ⟨Nat.le_of_ble_eq_true rfl, Nat.le_of_ble_eq_true rfl⟩) (fun hr_1 => ?_)
  refine lv_iconst (v := 0) hx hb dX13_laysWorths_4 (by decide) ?_
  refine lv_istore_n (lv' := [(2, .int 0), (0, .ref h0), (1, .int (-1))]) hx hb dX13_laysWorths_5 rfl hl (by decide) rfl (fun ls hl => ?_)
  refine lv_iload_n hx hb dX13_laysWorths_6 rfl (lv_at hl 0 rfl) ?_
  refine lv_iload_n hx hb dX13_laysWorths_7 rfl (lv_at hl 2 rfl) ?_
  refine lv_icmp_gt (tgt := 141) hx hb dX13_laysWorths_8 (by decide) (fun _ => ?_) (fun c9 => absurd c9 (by decide))
  refine lv_aload_n hx hb dX13_laysWorths_141 rfl (lv_at hl 1 rfl) ?_
  refine lv_iconst (v := 0) hx hb dX13_laysWorths_142 (by decide) ?_
  refine va_put (D := D) (ci := 10) (v := .int 0) (ty := .boolean) (C := RX13) (T := TX13) (N := 45) hx hb hts in_X13_laysWorths_X13 tyX13 tyX13_ok nmX13 hown hE.1 hP hD hS 0 rfl rfl 14 (by decide) (hts (.fieldLink RX13 131 "ClauseBookModel" "isMuch" "Z") (List.mem_of_getElem? (i := 1) rfl)) (fun _ h9 => h9) rfl (by decide +kernel) rfl rfl (by rw [hl0]; decide) dX13_laysWorths_143 (fun H locs hP hD hS => ?_)
  obtain ⟨g_2, eg_2⟩ : ∃ z : List Value, z = fs0.set 14 (.int 0) := ⟨_, rfl⟩
  have hP : va_P D vwCl [(h0, .inr (10, g_2))] H := by rw [eg_2]; exact hP
  have hD : va_D A [(h0, .inr (10, g_2))] := by rw [eg_2]; exact hD
  have lg_2 : g_2.length = 45 := by rw [eg_2, List.length_set]; exact hl0
  have kg_2_14 : g_2[14]? = some (.int 0) := by rw [eg_2]; exact List.getElem?_set_self (by rw [hl0]; decide)
  have kg_2_7 : g_2[7]? = some (.int 0) := by rw [eg_2, List.getElem?_set_ne (by decide)]; exact e0_7
  have kg_2_12 : g_2[12]? = some (w12) := by rw [eg_2, List.getElem?_set_ne (by decide)]; exact e0_12
  have kg_2_13 : g_2[13]? = some (w13) := by rw [eg_2, List.getElem?_set_ne (by decide)]; exact e0_13
  exact W.vret hx hb hr (fun t ht hW => ⟨⟨g_2, rfl, ⟨trivial, lg_2, kg_2_12, kg_2_13⟩, by rw [ht]; exact hP.sub [0] rfl, hD.sub [0] (by decide) rfl⟩, hS.F ht⟩) hS.2.2 dX13_laysWorths_146
theorem dX13_bagBest_0 : decode cX13_bagBest 0 = .ok (.iload_n 1, 1) := by decide +kernel
theorem dX13_bagBest_1 : decode cX13_bagBest 1 = .ok (.invokestatic 405, 3) := by decide +kernel
theorem dX13_bagBest_12 : decode cX13_bagBest 12 = .ok (.ifCond .ne 6, 3) := by decide +kernel
theorem dX13_bagBest_128 : decode cX13_bagBest 128 = .ok (.iload 5, 2) := by decide +kernel
theorem dX13_bagBest_130 : decode cX13_bagBest 130 = .ok (.ifCond .eq 8, 3) := by decide +kernel
theorem dX13_bagBest_138 : decode cX13_bagBest 138 = .ok (.iload 4, 2) := by decide +kernel
theorem dX13_bagBest_140 : decode cX13_bagBest 140 = .ok (.ireturn, 1) := by decide +kernel
theorem dX13_bagBest_15 : decode cX13_bagBest 15 = .ok (.bipush (-2), 2) := by decide +kernel
theorem dX13_bagBest_17 : decode cX13_bagBest 17 = .ok (.ireturn, 1) := by decide +kernel
theorem dX13_bagBest_18 : decode cX13_bagBest 18 = .ok (.aload_n 0, 1) := by decide +kernel
theorem dX13_bagBest_19 : decode cX13_bagBest 19 = .ok (.aload_n 0, 1) := by decide +kernel
theorem dX13_bagBest_20 : decode cX13_bagBest 20 = .ok (.getfield 205, 3) := by decide +kernel
theorem dX13_bagBest_23 : decode cX13_bagBest 23 = .ok (.iconst 1, 1) := by decide +kernel
theorem dX13_bagBest_24 : decode cX13_bagBest 24 = .ok (.isub, 1) := by decide +kernel
theorem dX13_bagBest_25 : decode cX13_bagBest 25 = .ok (.invokevirtual 274, 3) := by decide +kernel
theorem dX13_bagBest_28 : decode cX13_bagBest 28 = .ok (.iconst (-1), 1) := by decide +kernel
theorem dX13_bagBest_29 : decode cX13_bagBest 29 = .ok (.istore 4, 2) := by decide +kernel
theorem dX13_bagBest_31 : decode cX13_bagBest 31 = .ok (.iconst 0, 1) := by decide +kernel
theorem dX13_bagBest_32 : decode cX13_bagBest 32 = .ok (.istore 5, 2) := by decide +kernel
theorem dX13_bagBest_34 : decode cX13_bagBest 34 = .ok (.iconst 0, 1) := by decide +kernel
theorem dX13_bagBest_35 : decode cX13_bagBest 35 = .ok (.istore 6, 2) := by decide +kernel
theorem dX13_bagBest_37 : decode cX13_bagBest 37 = .ok (.iload 6, 2) := by decide +kernel
theorem dX13_bagBest_39 : decode cX13_bagBest 39 = .ok (.aload_n 0, 1) := by decide +kernel
theorem dX13_bagBest_4 : decode cX13_bagBest 4 = .ok (.ifCond .eq 11, 3) := by decide +kernel
theorem dX13_bagBest_40 : decode cX13_bagBest 40 = .ok (.getfield 44, 3) := by decide +kernel
theorem dX13_bagBest_43 : decode cX13_bagBest 43 = .ok (.iload_n 1, 1) := by decide +kernel
theorem dX13_bagBest_44 : decode cX13_bagBest 44 = .ok (.iaload, 1) := by decide +kernel
theorem dX13_bagBest_45 : decode cX13_bagBest 45 = .ok (.if_icmp .ge 83, 3) := by decide +kernel
theorem dX13_bagBest_7 : decode cX13_bagBest 7 = .ok (.iload_n 2, 1) := by decide +kernel
theorem dX13_bagBest_8 : decode cX13_bagBest 8 = .ok (.iload_n 3, 1) := by decide +kernel
theorem dX13_bagBest_9 : decode cX13_bagBest 9 = .ok (.invokestatic 188, 3) := by decide +kernel
set_option maxRecDepth 20000 in
theorem ggX13_bagBest_X13_isBag : GoodIn wsX13_bagBest wsX13_isBag := goodIn_r _ [7, 8, 9, 10, 6, 11] (by decide +kernel) (by decide +kernel)
set_option maxRecDepth 20000 in
theorem ggX13_bagBest_X13_isSpot : GoodIn wsX13_bagBest wsX13_isSpot := goodIn_r _ [14, 15, 9, 10, 6, 11] (by decide +kernel) (by decide +kernel)
set_option maxRecDepth 20000 in
theorem ggX13_bagBest_X13_laysWorths : GoodIn wsX13_bagBest wsX13_laysWorths := goodIn_r _ [19, 20, 21, 22, 23, 24, 25, 26, 27, 28, 29, 6, 30, 1, 31, 32, 33, 34, 35, 36, 37, 38, 39, 40, 41, 42, 43, 44, 45, 46, 47, 48, 49, 50, 51, 52, 53, 54, 55, 56, 57, 58, 59, 60, 61, 62, 63, 64, 65, 66, 67, 68, 69, 70, 71, 72, 73, 74, 75, 76, 77, 78, 79, 80, 81, 82, 83, 84, 85, 86, 87, 88, 89, 90, 91, 92, 93, 94, 95, 96, 97, 98, 99, 100, 101, 102, 103, 104, 105, 106, 107, 108, 109, 110, 111, 112, 113, 114, 115, 116, 129, 130, 131, 132, 133, 134, 135, 136, 137, 138, 139, 140, 141, 142, 143, 144, 145, 146, 147, 148, 149, 150, 151, 152, 153, 154, 155, 156, 157, 158, 159, 160, 161, 162, 163, 164, 165, 166, 167, 168, 169, 170, 171, 172, 173] (by decide +kernel) (by decide +kernel)
set_option maxRecDepth 20000 in
theorem gX13_bagBest_X13_isBag : GoodIn wsX13_bagBest (va_wsS RX13 405 yX13_isBag wsX13_isBag) := goodIn_app (goodIn_of _ (by decide +kernel)) ggX13_bagBest_X13_isBag
set_option maxRecDepth 20000 in
theorem gX13_bagBest_X13_isSpot : GoodIn wsX13_bagBest (va_wsS RX13 188 yX13_isSpot wsX13_isSpot) := goodIn_app (goodIn_of _ (by decide +kernel)) ggX13_bagBest_X13_isSpot
set_option maxRecDepth 20000 in
theorem gX13_bagBest_X13_laysWorths : GoodIn wsX13_bagBest (wsV RX13 274 RX13 yX13_laysWorths wsX13_laysWorths) := goodIn_app (goodIn_of _ (by decide +kernel)) ggX13_bagBest_X13_laysWorths
set_option maxRecDepth 20000 in
theorem in_X13_bagBest_X13 : ∀ w ∈ wsX130, w ∈ wsX13_bagBest := by decide +kernel
set_option maxHeartbeats 4000000 in
set_option maxRecDepth 100000 in
theorem f_X13_bagBest (l : Launch) (D : va_G) (T : Nat → ClassId) (sz : Nat) (h0 : Nat) (fs0 : List Value) (a0 : Nat) (f12 : Nat → Int32) (a1 : Nat) (f13 : Nat → Int32) (x1 : Int32) (x2 : Int32) (x3 : Int32) (hl0 : fs0.length = 45) (e0_7 : fs0[7]? = some (.int 0)) (e0_12 : fs0[12]? = some (.ref a0)) (e0_13 : fs0[13]? = some (.ref a1)) (ef13_0 : f13 0 = 0) (ef13_1 : f13 1 = 0) (ef13_2 : f13 2 = 0) : Met l yX13_bagBest wsX13_bagBest ({ frames := 2, cells := 0, slots := 0, locals := 49 }) (pW [.ref h0, .int x1, .int x2, .int x3] D T [(h0, .inr (10, fs0)), (a0, .inl (T 0, 36, .inl f12)), (a1, .inl (T 0, 3, .inl f13))] sz) (va_Qi (fun (r : Int32) (u : Unit) => r = sp_bagBest x1 x2 x3) (bW D (va_A [(h0, .inr (10, fs0)), (a0, .inl (T 0, 36, .inl f12)), (a1, .inl (T 0, 3, .inl f13))] sz) (fun (u : Unit) => ([] : va_W))) (va_A [(h0, .inr (10, fs0)), (a0, .inl (T 0, 36, .inl f12)), (a1, .inl (T 0, 3, .inl f13))] sz)) 0 0 (va_A [(h0, .inr (10, fs0)), (a0, .inl (T 0, 36, .inl f12)), (a1, .inl (T 0, 3, .inl f13))] sz) := by
  refine Met.ofW (cc := cX13_bagBest) (maxL := 8) (ret := (some .int)) (by decide) rfl ?_
  intro p e s m args below meth c s₁ B hml hv
  obtain ⟨rfl, hsz, hP, hE, hD0⟩ := hv
  have hx := B.exec
  have hb := B.bytes
  have hr := B.returns
  have hts := atoms_spec (ws := wsX13_bagBest) B.pre
  have hown : s.vm.findClass RX13 = some m.cls := findClass_of_methodNamed B.named
  have hlocks := B.notSynchronized
  subst hsz
  have hD := hD0.self (sz := s.heap.size)
  generalize hAe : va_A [(h0, .inr (10, fs0)), (a0, .inl (T 0, 36, .inl f12)), (a1, .inl (T 0, 3, .inl f13))] s.heap.size = A at hD ⊢
  have hA : ∀ q : Nat, s.heap.size ≤ q → A q := fun q h => by rw [← hAe]; exact Or.inr h
  have hS : va_S A s.heap s.heap [] := va_S.rf
  have hP : va_P D vwCl [(h0, .inr (10, fs0)), (a0, .inl (T 0, 36, .inl f12)), (a1, .inl (T 0, 3, .inl f13))] s.heap := hP
  have hl := lv_entry ([.ref h0, .int x1, .int x2, .int x3]) (n := 8) (Nat.le_of_ble_eq_true rfl)
  rw [lg_entry_eq]
  generalize (lg_sl ([.ref h0, .int x1, .int x2, .int x3]) ++ List.replicate (8 - (lg_sl ([.ref h0, .int x1, .int x2, .int x3])).length) Slot.unset).toArray = ls at hl ⊢
  have hl : lv_has ls 8 [(0, .ref h0), (1, .int x1), (2, .int x2), (3, .int x3)] := hl
  clear hD0
  refine lv_iload_n hx hb dX13_bagBest_0 rfl (lv_at hl 1 rfl) ?_
  refine vp_callSi (W.runS (As := [.int x1]) (rest := []) ⟨hx, hb, hml, hown, hts⟩ (c_X13_isBag l D T x1) (va_cwS 1 hts gX13_bagBest_X13_isBag rfl rfl rfl (by decide +kernel) ⟨Nat.le_of_ble_eq_true rfl, Nat.le_of_ble_eq_true rfl⟩) (pR_S hP hE [] rfl) rfl rfl hl.1 rfl (lv_room (Nat.le_of_ble_eq_true rfl)) dX13_bagBest_1 ⟨Nat.le_of_ble_eq_true rfl, Nat.le_of_ble_eq_true rfl⟩) (fun r_1 hr_1 => ?_)
  rcases bool_post hr_1 with ⟨c_2, rfl⟩ | ⟨c_2, rfl⟩
  · refine lv_if_eq (tgt := 15) hx hb dX13_bagBest_4 (by decide) (fun c9 => absurd c9 (by decide)) (fun _ => ?_)
    refine lv_iload_n hx hb dX13_bagBest_7 rfl (lv_at hl 2 rfl) ?_
    refine lv_iload_n hx hb dX13_bagBest_8 rfl (lv_at hl 3 rfl) ?_
    refine vp_callSi (W.runS (As := [.int x2, .int x3]) (rest := []) ⟨hx, hb, hml, hown, hts⟩ (c_X13_isSpot l D T x2 x3) (va_cwS 2 hts gX13_bagBest_X13_isSpot rfl rfl rfl (by decide +kernel) ⟨Nat.le_of_ble_eq_true rfl, Nat.le_of_ble_eq_true rfl⟩) (pR_S hP hE [] rfl) rfl rfl hl.1 rfl (lv_room (Nat.le_of_ble_eq_true rfl)) dX13_bagBest_9 ⟨Nat.le_of_ble_eq_true rfl, Nat.le_of_ble_eq_true rfl⟩) (fun r_3 hr_3 => ?_)
    rcases bool_post hr_3 with ⟨c_4, rfl⟩ | ⟨c_4, rfl⟩
    · refine lv_if_ne (tgt := 18) hx hb dX13_bagBest_12 (by decide) (fun _ => ?_) (fun c9 => absurd c9 (by decide))
      refine lv_aload_n hx hb dX13_bagBest_18 rfl (lv_at hl 0 rfl) ?_
      refine lv_aload_n hx hb dX13_bagBest_19 rfl (lv_at hl 0 rfl) ?_
      refine va_get (D := D) (ci := 10) (v := .int 0) (C := RX13) (T := TX13) (N := 45) hx hb hts in_X13_bagBest_X13 hown hE.1 hP 0 rfl rfl 7 (by decide) (hts (.fieldLink RX13 205 "ClauseBookModel" "many" "I") (List.mem_of_getElem? (i := 1) rfl)) (fun _ h9 => h9) e0_7 dX13_bagBest_20 ?_
      refine lv_iconst (v := 1) hx hb dX13_bagBest_23 (by decide) ?_
      refine lv_isub hx hb dX13_bagBest_24 ?_
      refine lv_topi (fun z_5 ez_5 => ?_)
      obtain rfl : z_5 = (-1) := ez_5.trans (by decide)
      have hFc := va_free (wc := [(h0, .inr (10, fs0))]) hD hS hA [0] rfl
      refine va_callv (va_runV (As := [.int (-1)]) (rest := []) ⟨hx, hb, hml, hown, hts⟩ (f_X13_laysWorths l D T _ h0 fs0 (.ref a0) (.ref a1) hl0 e0_7 e0_12 e0_13) (cwV 1 hts gX13_bagBest_X13_laysWorths rfl rfl rfl (by decide +kernel) ⟨Nat.le_of_ble_eq_true rfl, Nat.le_of_ble_eq_true rfl⟩) (pW_V (ci := 10) (q0 := 0) hP hE hD rfl rfl [0] (by decide) rfl rfl) rfl rfl hl.1 rfl (lv_room (Nat.le_of_ble_eq_true rfl)) dX13_bagBest_25 ⟨Nat.le_of_ble_eq_true rfl, Nat.le_of_ble_eq_true rfl⟩) hS (fun q _ h => hFc q h) hFc (fun u_7 t H1 locs ht hvm hr_6 hB hz1 hk1 hS => ?_)
      obtain ⟨hxu_7, lu_7, ku_7_12, ku_7_13⟩ := hr_6
      obtain ⟨hP1, hD1⟩ := hB
      rw [ht] at hP1
      obtain ⟨hP, hD⟩ := va_join (wr := [(a0, .inl (T 0, 36, .inl f12)), (a1, .inl (T 0, 3, .inl f13))]) (w1 := [(h0, .inr (10, u_7))]) hP hD [0] [1, 2] rfl rfl (by decide) (by decide) hk1 hFc hP1 hD1
      clear hP1 hD1 hFc
      generalize H1 = H at hP hS ⊢
      have hP : va_P D vwCl [(a0, .inl (T 0, 36, .inl f12)), (a1, .inl (T 0, 3, .inl f13)), (h0, .inr (10, u_7))] H := hP
      have hD : va_D A [(a0, .inl (T 0, 36, .inl f12)), (a1, .inl (T 0, 3, .inl f13)), (h0, .inr (10, u_7))] := hD
      refine lv_iconst (v := (-1)) hx hb dX13_bagBest_28 (by decide) ?_
      refine lv_istore (lv' := [(4, .int (-1)), (0, .ref h0), (1, .int x1), (2, .int x2), (3, .int x3)]) hx hb dX13_bagBest_29 hl (by decide) rfl (fun ls hl => ?_)
      refine lv_iconst (v := 0) hx hb dX13_bagBest_31 (by decide) ?_
      refine lv_istore (lv' := [(5, .int 0), (4, .int (-1)), (0, .ref h0), (1, .int x1), (2, .int x2), (3, .int x3)]) hx hb dX13_bagBest_32 hl (by decide) rfl (fun ls hl => ?_)
      refine lv_iconst (v := 0) hx hb dX13_bagBest_34 (by decide) ?_
      refine lv_istore (lv' := [(6, .int 0), (5, .int 0), (4, .int (-1)), (0, .ref h0), (1, .int x1), (2, .int x2), (3, .int x3)]) hx hb dX13_bagBest_35 hl (by decide) rfl (fun ls hl => ?_)
      refine lv_iload hx hb dX13_bagBest_37 (lv_at hl 0 rfl) ?_
      refine lv_aload_n hx hb dX13_bagBest_39 rfl (lv_at hl 3 rfl) ?_
      refine va_get (D := D) (ci := 10) (v := .ref a1) (C := RX13) (T := TX13) (N := 45) hx hb hts in_X13_bagBest_X13 hown hE.1 hP 2 rfl rfl 13 (by decide) (hts (.fieldLink RX13 44 "ClauseBookModel" "bagged" "[I") (List.mem_of_getElem? (i := 2) rfl)) (fun _ h9 => h9) ku_7_13 dX13_bagBest_40 ?_
      refine lv_iload_n hx hb dX13_bagBest_43 rfl (lv_at hl 4 rfl) ?_
      rcases in3 (x := x1) (by omega) with rfl | rfl | rfl
      · refine va_iald hx hb hE.1 hP 1 0 rfl rfl (by unfold vp_in; decide) dX13_bagBest_44 ?_
        refine lv_topi (fun z_8 ez_8 => ?_)
        obtain rfl : z_8 = 0 := ez_8.trans ef13_0
        refine lv_icmp_ge (tgt := 128) hx hb dX13_bagBest_45 (by decide) (fun _ => ?_) (fun c9 => absurd c9 (by decide))
        refine lv_iload hx hb dX13_bagBest_128 (lv_at hl 1 rfl) ?_
        refine lv_if_eq (tgt := 138) hx hb dX13_bagBest_130 (by decide) (fun _ => ?_) (fun c9 => absurd c9 (by decide))
        refine lv_iload hx hb dX13_bagBest_138 (lv_at hl 2 rfl) ?_
        exact W.iret hx hb hr (fun t ht hW => ⟨⟨_, (), rfl, (by first | decide | (unfold sp_bagBest; (repeat' split) <;> first | rfl | (exfalso; omega))), by rw [ht]; exact hP.sub [] rfl, hD.sub [] (by decide) rfl⟩, hS.F ht⟩) hS.2.2 dX13_bagBest_140
      · refine va_iald hx hb hE.1 hP 1 0 rfl rfl (by unfold vp_in; decide) dX13_bagBest_44 ?_
        refine lv_topi (fun z_9 ez_9 => ?_)
        obtain rfl : z_9 = 0 := ez_9.trans ef13_1
        refine lv_icmp_ge (tgt := 128) hx hb dX13_bagBest_45 (by decide) (fun _ => ?_) (fun c9 => absurd c9 (by decide))
        refine lv_iload hx hb dX13_bagBest_128 (lv_at hl 1 rfl) ?_
        refine lv_if_eq (tgt := 138) hx hb dX13_bagBest_130 (by decide) (fun _ => ?_) (fun c9 => absurd c9 (by decide))
        refine lv_iload hx hb dX13_bagBest_138 (lv_at hl 2 rfl) ?_
        exact W.iret hx hb hr (fun t ht hW => ⟨⟨_, (), rfl, (by first | decide | (unfold sp_bagBest; (repeat' split) <;> first | rfl | (exfalso; omega))), by rw [ht]; exact hP.sub [] rfl, hD.sub [] (by decide) rfl⟩, hS.F ht⟩) hS.2.2 dX13_bagBest_140
      · refine va_iald hx hb hE.1 hP 1 0 rfl rfl (by unfold vp_in; decide) dX13_bagBest_44 ?_
        refine lv_topi (fun z_10 ez_10 => ?_)
        obtain rfl : z_10 = 0 := ez_10.trans ef13_2
        refine lv_icmp_ge (tgt := 128) hx hb dX13_bagBest_45 (by decide) (fun _ => ?_) (fun c9 => absurd c9 (by decide))
        refine lv_iload hx hb dX13_bagBest_128 (lv_at hl 1 rfl) ?_
        refine lv_if_eq (tgt := 138) hx hb dX13_bagBest_130 (by decide) (fun _ => ?_) (fun c9 => absurd c9 (by decide))
        refine lv_iload hx hb dX13_bagBest_138 (lv_at hl 2 rfl) ?_
        exact W.iret hx hb hr (fun t ht hW => ⟨⟨_, (), rfl, (by first | decide | (unfold sp_bagBest; (repeat' split) <;> first | rfl | (exfalso; omega))), by rw [ht]; exact hP.sub [] rfl, hD.sub [] (by decide) rfl⟩, hS.F ht⟩) hS.2.2 dX13_bagBest_140
    · refine lv_if_ne (tgt := 18) hx hb dX13_bagBest_12 (by decide) (fun c9 => absurd c9 (by decide)) (fun _ => ?_)
      refine lv_bipush (v := (-2)) hx hb dX13_bagBest_15 (by decide) ?_
      exact W.iret hx hb hr (fun t ht hW => ⟨⟨_, (), rfl, (by first | decide | (unfold sp_bagBest; (repeat' split) <;> first | rfl | (exfalso; omega))), by rw [ht]; exact hP.sub [] rfl, hD.sub [] (by decide) rfl⟩, hS.F ht⟩) hS.2.2 dX13_bagBest_17
  · refine lv_if_eq (tgt := 15) hx hb dX13_bagBest_4 (by decide) (fun _ => ?_) (fun c9 => absurd c9 (by decide))
    refine lv_bipush (v := (-2)) hx hb dX13_bagBest_15 (by decide) ?_
    exact W.iret hx hb hr (fun t ht hW => ⟨⟨_, (), rfl, (by first | decide | (unfold sp_bagBest; (repeat' split) <;> first | rfl | (exfalso; omega))), by rw [ht]; exact hP.sub [] rfl, hD.sub [] (by decide) rfl⟩, hS.F ht⟩) hS.2.2 dX13_bagBest_17
