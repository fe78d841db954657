theorem dX12_within_0 : decode cX12_within 0 = .ok (.iload_n 0, 1) := by decide +kernel
theorem dX12_within_1 : decode cX12_within 1 = .ok (.iload_n 1, 1) := by decide +kernel
theorem dX12_within_10 : decode cX12_within 10 = .ok (.iconst 1, 1) := by decide +kernel
theorem dX12_within_11 : decode cX12_within 11 = .ok (.goto 4, 3) := by decide +kernel
theorem dX12_within_14 : decode cX12_within 14 = .ok (.iconst 0, 1) := by decide +kernel
theorem dX12_within_15 : decode cX12_within 15 = .ok (.ireturn, 1) := by decide +kernel
theorem dX12_within_2 : decode cX12_within 2 = .ok (.if_icmp .lt 12, 3) := by decide +kernel
theorem dX12_within_5 : decode cX12_within 5 = .ok (.iload_n 0, 1) := by decide +kernel
theorem dX12_within_6 : decode cX12_within 6 = .ok (.iload_n 2, 1) := by decide +kernel
theorem dX12_within_7 : decode cX12_within 7 = .ok (.if_icmp .gt 7, 3) := by decide +kernel
set_option maxHeartbeats 4000000 in
set_option maxRecDepth 100000 in
/-- within -/
theorem c_X12_within (l : Launch) (D : va_G) (T : Nat → ClassId) (x0 : Int32) (x1 : Int32) (x2 : Int32) (LO : Int) (HI : Int) (hLO : x1.toInt = LO) (hHI : x2.toInt = HI) : Met l yX12_within wsX12_within ({ frames := 0, cells := 0, slots := 0, locals := 0 }) (pR [.int x0, .int x1, .int x2] D T []) (vp_Si (fun r => r = if LO ≤ x0.toInt ∧ x0.toInt ≤ HI then 1 else 0)) 0 0 (fun _ => False) := by
  refine Met.ofW (cc := cX12_within) (maxL := 3) (ret := (some .boolean)) (by decide) rfl ?_
  intro p e s m args below meth c s₁ B hml hv
  obtain ⟨rfl, hP, hE⟩ := hv
  have hx := B.exec
  have hb := B.bytes
  have hr := B.returns
  have hts := atoms_spec (ws := wsX12_within) B.pre
  have hown : s.vm.findClass RX12 = some m.cls := findClass_of_methodNamed B.named
  have hlocks := B.notSynchronized
  have hP : va_P D vwCl [] s.heap := hP
  have hl := lv_entry ([.int x0, .int x1, .int x2]) (n := 3) (Nat.le_of_ble_eq_true rfl)
  rw [lg_entry_eq]
  generalize (lg_sl ([.int x0, .int x1, .int x2]) ++ List.replicate (3 - (lg_sl ([.int x0, .int x1, .int x2])).length) Slot.unset).toArray = ls at hl ⊢
  have hl : lv_has ls 3 [(0, .int x0), (1, .int x1), (2, .int x2)] := hl
  refine lv_iload_n hx hb dX12_within_0 rfl (lv_at hl 0 rfl) ?_
  refine lv_iload_n hx hb dX12_within_1 rfl (lv_at hl 1 rfl) ?_
  refine lv_icmp_lt (tgt := 14) hx hb dX12_within_2 (by decide) (fun c_1 => ?_) (fun c_1 => ?_)
  · rw [fa_lt] at c_1
    refine lv_iconst (v := 0) hx hb dX12_within_14 (by decide) ?_
    exact W.zret hx hb hr rfl (fun t ht hW => ⟨_, rfl, (by first | exact (if_pos (by omega)).symm | exact (if_neg (by omega)).symm), ht⟩) (fun _ h => by cases h) dX12_within_15
  · rw [fa_lt] at c_1
    refine lv_iload_n hx hb dX12_within_5 rfl (lv_at hl 0 rfl) ?_
    refine lv_iload_n hx hb dX12_within_6 rfl (lv_at hl 2 rfl) ?_
    refine lv_icmp_gt (tgt := 14) hx hb dX12_within_7 (by decide) (fun c_2 => ?_) (fun c_2 => ?_)
    · rw [fa_lt] at c_2
      refine lv_iconst (v := 0) hx hb dX12_within_14 (by decide) ?_
      exact W.zret hx hb hr rfl (fun t ht hW => ⟨_, rfl, (by first | exact (if_pos (by omega)).symm | exact (if_neg (by omega)).symm), ht⟩) (fun _ h => by cases h) dX12_within_15
    · rw [fa_lt] at c_2
      refine lv_iconst (v := 1) hx hb dX12_within_10 (by decide) ?_
      refine lv_goto (tgt := 15) hx hb dX12_within_11 (by decide) ?_
      exact W.zret hx hb hr rfl (fun t ht hW => ⟨_, rfl, (by first | exact (if_pos (by omega)).symm | exact (if_neg (by omega)).symm), ht⟩) (fun _ h => by cases h) dX12_within_15
theorem dX12_isDay_0 : decode cX12_isDay 0 = .ok (.iload_n 0, 1) := by decide +kernel
theorem dX12_isDay_1 : decode cX12_isDay 1 = .ok (.iconst 0, 1) := by decide +kernel
theorem dX12_isDay_2 : decode cX12_isDay 2 = .ok (.bipush 6, 2) := by decide +kernel
theorem dX12_isDay_4 : decode cX12_isDay 4 = .ok (.invokestatic 77, 3) := by decide +kernel
theorem dX12_isDay_7 : decode cX12_isDay 7 = .ok (.ireturn, 1) := by decide +kernel
set_option maxRecDepth 20000 in
theorem ggX12_isDay_X12_within : GoodIn wsX12_isDay wsX12_within := goodIn_r _ [4] (by decide +kernel) (by decide +kernel)
set_option maxRecDepth 20000 in
theorem gX12_isDay_X12_within : GoodIn wsX12_isDay (va_wsS RX12 77 yX12_within wsX12_within) := goodIn_app (goodIn_of _ (by decide +kernel)) ggX12_isDay_X12_within
set_option maxHeartbeats 4000000 in
set_option maxRecDepth 100000 in
theorem c_X12_isDay (l : Launch) (D : va_G) (T : Nat → ClassId) (x0 : Int32)  : Met l yX12_isDay wsX12_isDay ({ frames := 1, cells := 0, slots := 0, locals := 22 }) (pR [.int x0] D T []) (vp_Si (fun r => r = if 0 ≤ x0.toInt ∧ x0.toInt ≤ 6 then 1 else 0)) 0 0 (fun _ => False) := by
  refine Met.ofW (cc := cX12_isDay) (maxL := 1) (ret := (some .boolean)) (by decide) rfl ?_
  intro p e s m args below meth c s₁ B hml hv
  obtain ⟨rfl, hP, hE⟩ := hv
  have hx := B.exec
  have hb := B.bytes
  have hr := B.returns
  have hts := atoms_spec (ws := wsX12_isDay) B.pre
  have hown : s.vm.findClass RX12 = some m.cls := findClass_of_methodNamed B.named
  have hlocks := B.notSynchronized
  have hP : va_P D vwCl [] s.heap := hP
  have hl := lv_entry ([.int x0]) (n := 1) (Nat.le_of_ble_eq_true rfl)
  rw [lg_entry_eq]
  generalize (lg_sl ([.int x0]) ++ List.replicate (1 - (lg_sl ([.int x0])).length) Slot.unset).toArray = ls at hl ⊢
  have hl : lv_has ls 1 [(0, .int x0)] := hl
  refine lv_iload_n hx hb dX12_isDay_0 rfl (lv_at hl 0 rfl) ?_
  refine lv_iconst (v := 0) hx hb dX12_isDay_1 (by decide) ?_
  refine lv_bipush (v := 6) hx hb dX12_isDay_2 (by decide) ?_
  refine vp_callSi (W.runS (As := [.int x0, .int 0, .int 6]) (rest := []) ⟨hx, hb, hml, hown, hts⟩ (c_X12_within l D T x0 0 6 0 6 (by decide) (by decide)) (va_cwS 3 hts gX12_isDay_X12_within rfl rfl rfl (by decide +kernel) ⟨Nat.le_of_ble_eq_true rfl, Nat.le_of_ble_eq_true rfl⟩) (pR_S hP hE [] rfl) rfl rfl hl.1 rfl (lv_room (Nat.le_of_ble_eq_true rfl)) dX12_isDay_4 ⟨Nat.le_of_ble_eq_true rfl, Nat.le_of_ble_eq_true rfl⟩) (fun r_1 hr_1 => ?_)
  rcases bool_post hr_1 with ⟨c_2, rfl⟩ | ⟨c_2, rfl⟩
  · exact W.zret hx hb hr rfl (fun t ht hW => ⟨_, rfl, (by first | exact (if_pos (by omega)).symm | exact (if_neg (by omega)).symm), ht⟩) (fun _ h => by cases h) dX12_isDay_7
  · exact W.zret hx hb hr rfl (fun t ht hW => ⟨_, rfl, (by first | exact (if_pos (by omega)).symm | exact (if_neg (by omega)).symm), ht⟩) (fun _ h => by cases h) dX12_isDay_7
theorem dX12_isPath_0 : decode cX12_isPath 0 = .ok (.iload_n 0, 1) := by decide +kernel
theorem dX12_isPath_1 : decode cX12_isPath 1 = .ok (.iconst 0, 1) := by decide +kernel
theorem dX12_isPath_2 : decode cX12_isPath 2 = .ok (.bipush 63, 2) := by decide +kernel
theorem dX12_isPath_4 : decode cX12_isPath 4 = .ok (.invokestatic 77, 3) := by decide +kernel
theorem dX12_isPath_7 : decode cX12_isPath 7 = .ok (.ireturn, 1) := by decide +kernel
set_option maxRecDepth 20000 in
theorem ggX12_isPath_X12_within : GoodIn wsX12_isPath wsX12_within := goodIn_r _ [4] (by decide +kernel) (by decide +kernel)
set_option maxRecDepth 20000 in
theorem gX12_isPath_X12_within : GoodIn wsX12_isPath (va_wsS RX12 77 yX12_within wsX12_within) := goodIn_app (goodIn_of _ (by decide +kernel)) ggX12_isPath_X12_within
set_option maxHeartbeats 4000000 in
set_option maxRecDepth 100000 in
theorem c_X12_isPath (l : Launch) (D : va_G) (T : Nat → ClassId) (x0 : Int32)  : Met l yX12_isPath wsX12_isPath ({ frames := 1, cells := 0, slots := 0, locals := 22 }) (pR [.int x0] D T []) (vp_Si (fun r => r = if 0 ≤ x0.toInt ∧ x0.toInt ≤ 63 then 1 else 0)) 0 0 (fun _ => False) := by
  refine Met.ofW (cc := cX12_isPath) (maxL := 1) (ret := (some .boolean)) (by decide) rfl ?_
  intro p e s m args below meth c s₁ B hml hv
  obtain ⟨rfl, hP, hE⟩ := hv
  have hx := B.exec
  have hb := B.bytes
  have hr := B.returns
  have hts := atoms_spec (ws := wsX12_isPath) B.pre
  have hown : s.vm.findClass RX12 = some m.cls := findClass_of_methodNamed B.named
  have hlocks := B.notSynchronized
  have hP : va_P D vwCl [] s.heap := hP
  have hl := lv_entry ([.int x0]) (n := 1) (Nat.le_of_ble_eq_true rfl)
  rw [lg_entry_eq]
  generalize (lg_sl ([.int x0]) ++ List.replicate (1 - (lg_sl ([.int x0])).length) Slot.unset).toArray = ls at hl ⊢
  have hl : lv_has ls 1 [(0, .int x0)] := hl
  refine lv_iload_n hx hb dX12_isPath_0 rfl (lv_at hl 0 rfl) ?_
  refine lv_iconst (v := 0) hx hb dX12_isPath_1 (by decide) ?_
  refine lv_bipush (v := 63) hx hb dX12_isPath_2 (by decide) ?_
  refine vp_callSi (W.runS (As := [.int x0, .int 0, .int 63]) (rest := []) ⟨hx, hb, hml, hown, hts⟩ (c_X12_within l D T x0 0 63 0 63 (by decide) (by decide)) (va_cwS 3 hts gX12_isPath_X12_within rfl rfl rfl (by decide +kernel) ⟨Nat.le_of_ble_eq_true rfl, Nat.le_of_ble_eq_true rfl⟩) (pR_S hP hE [] rfl) rfl rfl hl.1 rfl (lv_room (Nat.le_of_ble_eq_true rfl)) dX12_isPath_4 ⟨Nat.le_of_ble_eq_true rfl, Nat.le_of_ble_eq_true rfl⟩) (fun r_1 hr_1 => ?_)
  rcases bool_post hr_1 with ⟨c_2, rfl⟩ | ⟨c_2, rfl⟩
  · exact W.zret hx hb hr rfl (fun t ht hW => ⟨_, rfl, (by first | exact (if_pos (by omega)).symm | exact (if_neg (by omega)).symm), ht⟩) (fun _ h => by cases h) dX12_isPath_7
  · exact W.zret hx hb hr rfl (fun t ht hW => ⟨_, rfl, (by first | exact (if_pos (by omega)).symm | exact (if_neg (by omega)).symm), ht⟩) (fun _ h => by cases h) dX12_isPath_7
theorem dX12_isBag_0 : decode cX12_isBag 0 = .ok (.iload_n 0, 1) := by decide +kernel
theorem dX12_isBag_1 : decode cX12_isBag 1 = .ok (.iconst 0, 1) := by decide +kernel
theorem dX12_isBag_2 : decode cX12_isBag 2 = .ok (.iconst 2, 1) := by decide +kernel
theorem dX12_isBag_3 : decode cX12_isBag 3 = .ok (.invokestatic 77, 3) := by decide +kernel
theorem dX12_isBag_6 : decode cX12_isBag 6 = .ok (.ireturn, 1) := by decide +kernel
set_option maxRecDepth 20000 in
theorem ggX12_isBag_X12_within : GoodIn wsX12_isBag wsX12_within := goodIn_r _ [4] (by decide +kernel) (by decide +kernel)
set_option maxRecDepth 20000 in
theorem gX12_isBag_X12_within : GoodIn wsX12_isBag (va_wsS RX12 77 yX12_within wsX12_within) := goodIn_app (goodIn_of _ (by decide +kernel)) ggX12_isBag_X12_within
set_option maxHeartbeats 4000000 in
set_option maxRecDepth 100000 in
theorem c_X12_isBag (l : Launch) (D : va_G) (T : Nat → ClassId) (x0 : Int32)  : Met l yX12_isBag wsX12_isBag ({ frames := 1, cells := 0, slots := 0, locals := 22 }) (pR [.int x0] D T []) (vp_Si (fun r => r = if 0 ≤ x0.toInt ∧ x0.toInt ≤ 2 then 1 else 0)) 0 0 (fun _ => False) := by
  refine Met.ofW (cc := cX12_isBag) (maxL := 1) (ret := (some .boolean)) (by decide) rfl ?_
  intro p e s m args below meth c s₁ B hml hv
  obtain ⟨rfl, hP, hE⟩ := hv
  have hx := B.exec
  have hb := B.bytes
  have hr := B.returns
  have hts := atoms_spec (ws := wsX12_isBag) B.pre
  have hown : s.vm.findClass RX12 = some m.cls := findClass_of_methodNamed B.named
  have hlocks := B.notSynchronized
  have hP : va_P D vwCl [] s.heap := hP
  have hl := lv_entry ([.int x0]) (n := 1) (Nat.le_of_ble_eq_true rfl)
  rw [lg_entry_eq]
  generalize (lg_sl ([.int x0]) ++ List.replicate (1 - (lg_sl ([.int x0])).length) Slot.unset).toArray = ls at hl ⊢
  have hl : lv_has ls 1 [(0, .int x0)] := hl
  refine lv_iload_n hx hb dX12_isBag_0 rfl (lv_at hl 0 rfl) ?_
  refine lv_iconst (v := 0) hx hb dX12_isBag_1 (by decide) ?_
  refine lv_iconst (v := 2) hx hb dX12_isBag_2 (by decide) ?_
  refine vp_callSi (W.runS (As := [.int x0, .int 0, .int 2]) (rest := []) ⟨hx, hb, hml, hown, hts⟩ (c_X12_within l D T x0 0 2 0 2 (by decide) (by decide)) (va_cwS 3 hts gX12_isBag_X12_within rfl rfl rfl (by decide +kernel) ⟨Nat.le_of_ble_eq_true rfl, Nat.le_of_ble_eq_true rfl⟩) (pR_S hP hE [] rfl) rfl rfl hl.1 rfl (lv_room (Nat.le_of_ble_eq_true rfl)) dX12_isBag_3 ⟨Nat.le_of_ble_eq_true rfl, Nat.le_of_ble_eq_true rfl⟩) (fun r_1 hr_1 => ?_)
  rcases bool_post hr_1 with ⟨c_2, rfl⟩ | ⟨c_2, rfl⟩
  · exact W.zret hx hb hr rfl (fun t ht hW => ⟨_, rfl, (by first | exact (if_pos (by omega)).symm | exact (if_neg (by omega)).symm), ht⟩) (fun _ h => by cases h) dX12_isBag_6
  · exact W.zret hx hb hr rfl (fun t ht hW => ⟨_, rfl, (by first | exact (if_pos (by omega)).symm | exact (if_neg (by omega)).symm), ht⟩) (fun _ h => by cases h) dX12_isBag_6
theorem dX12_isHand_0 : decode cX12_isHand 0 = .ok (.iload_n 0, 1) := by decide +kernel
theorem dX12_isHand_1 : decode cX12_isHand 1 = .ok (.iconst 0, 1) := by decide +kernel
theorem dX12_isHand_2 : decode cX12_isHand 2 = .ok (.iconst 3, 1) := by decide +kernel
theorem dX12_isHand_3 : decode cX12_isHand 3 = .ok (.invokestatic 77, 3) := by decide +kernel
theorem dX12_isHand_6 : decode cX12_isHand 6 = .ok (.ireturn, 1) := by decide +kernel
set_option maxRecDepth 20000 in
theorem ggX12_isHand_X12_within : GoodIn wsX12_isHand wsX12_within := goodIn_r _ [4] (by decide +kernel) (by decide +kernel)
set_option maxRecDepth 20000 in
theorem gX12_isHand_X12_within : GoodIn wsX12_isHand (va_wsS RX12 77 yX12_within wsX12_within) := goodIn_app (goodIn_of _ (by decide +kernel)) ggX12_isHand_X12_within
set_option maxHeartbeats 4000000 in
set_option maxRecDepth 100000 in
theorem c_X12_isHand (l : Launch) (D : va_G) (T : Nat → ClassId) (x0 : Int32)  : Met l yX12_isHand wsX12_isHand ({ frames := 1, cells := 0, slots := 0, locals := 22 }) (pR [.int x0] D T []) (vp_Si (fun r => r = if 0 ≤ x0.toInt ∧ x0.toInt ≤ 3 then 1 else 0)) 0 0 (fun _ => False) := by
  refine Met.ofW (cc := cX12_isHand) (maxL := 1) (ret := (some .boolean)) (by decide) rfl ?_
  intro p e s m args below meth c s₁ B hml hv
  obtain ⟨rfl, hP, hE⟩ := hv
  have hx := B.exec
  have hb := B.bytes
  have hr := B.returns
  have hts := atoms_spec (ws := wsX12_isHand) B.pre
  have hown : s.vm.findClass RX12 = some m.cls := findClass_of_methodNamed B.named
  have hlocks := B.notSynchronized
  have hP : va_P D vwCl [] s.heap := hP
  have hl := lv_entry ([.int x0]) (n := 1) (Nat.le_of_ble_eq_true rfl)
  rw [lg_entry_eq]
  generalize (lg_sl ([.int x0]) ++ List.replicate (1 - (lg_sl ([.int x0])).length) Slot.unset).toArray = ls at hl ⊢
  have hl : lv_has ls 1 [(0, .int x0)] := hl
  refine lv_iload_n hx hb dX12_isHand_0 rfl (lv_at hl 0 rfl) ?_
  refine lv_iconst (v := 0) hx hb dX12_isHand_1 (by decide) ?_
  refine lv_iconst (v := 3) hx hb dX12_isHand_2 (by decide) ?_
  refine vp_callSi (W.runS (As := [.int x0, .int 0, .int 3]) (rest := []) ⟨hx, hb, hml, hown, hts⟩ (c_X12_within l D T x0 0 3 0 3 (by decide) (by decide)) (va_cwS 3 hts gX12_isHand_X12_within rfl rfl rfl (by decide +kernel) ⟨Nat.le_of_ble_eq_true rfl, Nat.le_of_ble_eq_true rfl⟩) (pR_S hP hE [] rfl) rfl rfl hl.1 rfl (lv_room (Nat.le_of_ble_eq_true rfl)) dX12_isHand_3 ⟨Nat.le_of_ble_eq_true rfl, Nat.le_of_ble_eq_true rfl⟩) (fun r_1 hr_1 => ?_)
  rcases bool_post hr_1 with ⟨c_2, rfl⟩ | ⟨c_2, rfl⟩
  · exact W.zret hx hb hr rfl (fun t ht hW => ⟨_, rfl, (by first | exact (if_pos (by omega)).symm | exact (if_neg (by omega)).symm), ht⟩) (fun _ h => by cases h) dX12_isHand_6
  · exact W.zret hx hb hr rfl (fun t ht hW => ⟨_, rfl, (by first | exact (if_pos (by omega)).symm | exact (if_neg (by omega)).symm), ht⟩) (fun _ h => by cases h) dX12_isHand_6
theorem dX12_isSpot_0 : decode cX12_isSpot 0 = .ok (.iload_n 0, 1) := by decide +kernel
theorem dX12_isSpot_1 : decode cX12_isSpot 1 = .ok (.invokestatic 120, 3) := by decide +kernel
theorem dX12_isSpot_10 : decode cX12_isSpot 10 = .ok (.invokestatic 77, 3) := by decide +kernel
theorem dX12_isSpot_13 : decode cX12_isSpot 13 = .ok (.ifCond .eq 7, 3) := by decide +kernel
theorem dX12_isSpot_16 : decode cX12_isSpot 16 = .ok (.iconst 1, 1) := by decide +kernel
theorem dX12_isSpot_17 : decode cX12_isSpot 17 = .ok (.goto 4, 3) := by decide +kernel
theorem dX12_isSpot_20 : decode cX12_isSpot 20 = .ok (.iconst 0, 1) := by decide +kernel
theorem dX12_isSpot_21 : decode cX12_isSpot 21 = .ok (.ireturn, 1) := by decide +kernel
theorem dX12_isSpot_4 : decode cX12_isSpot 4 = .ok (.ifCond .eq 16, 3) := by decide +kernel
theorem dX12_isSpot_7 : decode cX12_isSpot 7 = .ok (.iload_n 1, 1) := by decide +kernel
theorem dX12_isSpot_8 : decode cX12_isSpot 8 = .ok (.iconst 0, 1) := by decide +kernel
theorem dX12_isSpot_9 : decode cX12_isSpot 9 = .ok (.iload_n 0, 1) := by decide +kernel
set_option maxRecDepth 20000 in
theorem ggX12_isSpot_X12_isDay : GoodIn wsX12_isSpot wsX12_isDay := goodIn_r _ [4, 5, 6, 3, 7] (by decide +kernel) (by decide +kernel)
set_option maxRecDepth 20000 in
theorem ggX12_isSpot_X12_within : GoodIn wsX12_isSpot wsX12_within := goodIn_r _ [7] (by decide +kernel) (by decide +kernel)
set_option maxRecDepth 20000 in
theorem gX12_isSpot_X12_isDay : GoodIn wsX12_isSpot (va_wsS RX12 120 yX12_isDay wsX12_isDay) := goodIn_app (goodIn_of _ (by decide +kernel)) ggX12_isSpot_X12_isDay
set_option maxRecDepth 20000 in
theorem gX12_isSpot_X12_within : GoodIn wsX12_isSpot (va_wsS RX12 77 yX12_within wsX12_within) := goodIn_app (goodIn_of _ (by decide +kernel)) ggX12_isSpot_X12_within
set_option maxHeartbeats 4000000 in
set_option maxRecDepth 100000 in
theorem c_X12_isSpot (l : Launch) (D : va_G) (T : Nat → ClassId) (x0 : Int32) (x1 : Int32)  : Met l yX12_isSpot wsX12_isSpot ({ frames := 2, cells := 0, slots := 0, locals := 42 }) (pR [.int x0, .int x1] D T []) (vp_Si (fun r => r = if (0 ≤ x0.toInt ∧ x0.toInt ≤ 6) ∧ 0 ≤ x1.toInt ∧ x1.toInt ≤ x0.toInt then 1 else 0)) 0 0 (fun _ => False) := by
  refine Met.ofW (cc := cX12_isSpot) (maxL := 2) (ret := (some .boolean)) (by decide) rfl ?_
  intro p e s m args below meth c s₁ B hml hv
  obtain ⟨rfl, hP, hE⟩ := hv
  have hx := B.exec
  have hb := B.bytes
  have hr := B.returns
  have hts := atoms_spec (ws := wsX12_isSpot) B.pre
  have hown : s.vm.findClass RX12 = some m.cls := findClass_of_methodNamed B.named
  have hlocks := B.notSynchronized
  have hP : va_P D vwCl [] s.heap := hP
  have hl := lv_entry ([.int x0, .int x1]) (n := 2) (Nat.le_of_ble_eq_true rfl)
  rw [lg_entry_eq]
  generalize (lg_sl ([.int x0, .int x1]) ++ List.replicate (2 - (lg_sl ([.int x0, .int x1])).length) Slot.unset).toArray = ls at hl ⊢
  have hl : lv_has ls 2 [(0, .int x0), (1, .int x1)] := hl
  refine lv_iload_n hx hb dX12_isSpot_0 rfl (lv_at hl 0 rfl) ?_
  refine vp_callSi (W.runS (As := [.int x0]) (rest := []) ⟨hx, hb, hml, hown, hts⟩ (c_X12_isDay l D T x0) (va_cwS 1 hts gX12_isSpot_X12_isDay rfl rfl rfl (by decide +kernel) ⟨Nat.le_of_ble_eq_true rfl, Nat.le_of_ble_eq_true rfl⟩) (pR_S hP hE [] rfl) rfl rfl hl.1 rfl (lv_room (Nat.le_of_ble_eq_true rfl)) dX12_isSpot_1 ⟨Nat.le_of_ble_eq_true rfl, Nat.le_of_ble_eq_true rfl⟩) (fun r_1 hr_1 => ?_)
  rcases bool_post hr_1 with ⟨c_2, rfl⟩ | ⟨c_2, rfl⟩
  · refine lv_if_eq (tgt := 20) hx hb dX12_isSpot_4 (by decide) (fun c9 => absurd c9 (by decide)) (fun _ => ?_)
    refine lv_iload_n hx hb dX12_isSpot_7 rfl (lv_at hl 1 rfl) ?_
    refine lv_iconst (v := 0) hx hb dX12_isSpot_8 (by decide) ?_
    refine lv_iload_n hx hb dX12_isSpot_9 rfl (lv_at hl 0 rfl) ?_
    refine vp_callSi (W.runS (As := [.int x1, .int 0, .int x0]) (rest := []) ⟨hx, hb, hml, hown, hts⟩ (c_X12_within l D T x1 0 x0 0 x0.toInt (by decide) rfl) (va_cwS 3 hts gX12_isSpot_X12_within rfl rfl rfl (by decide +kernel) ⟨Nat.le_of_ble_eq_true rfl, Nat.le_of_ble_eq_true rfl⟩) (pR_S hP hE [] rfl) rfl rfl hl.1 rfl (lv_room (Nat.le_of_ble_eq_true rfl)) dX12_isSpot_10 ⟨Nat.le_of_ble_eq_true rfl, Nat.le_of_ble_eq_true rfl⟩) (fun r_3 hr_3 => ?_)
    rcases bool_post hr_3 with ⟨c_4, rfl⟩ | ⟨c_4, rfl⟩
    · refine lv_if_eq (tgt := 20) hx hb dX12_isSpot_13 (by decide) (fun c9 => absurd c9 (by decide)) (fun _ => ?_)
      refine lv_iconst (v := 1) hx hb dX12_isSpot_16 (by decide) ?_
      refine lv_goto (tgt := 21) hx hb dX12_isSpot_17 (by decide) ?_
      exact W.zret hx hb hr rfl (fun t ht hW => ⟨_, rfl, (by first | exact (if_pos (by omega)).symm | exact (if_neg (by omega)).symm), ht⟩) (fun _ h => by cases h) dX12_isSpot_21
    · refine lv_if_eq (tgt := 20) hx hb dX12_isSpot_13 (by decide) (fun _ => ?_) (fun c9 => absurd c9 (by decide))
      refine lv_iconst (v := 0) hx hb dX12_isSpot_20 (by decide) ?_
      exact W.zret hx hb hr rfl (fun t ht hW => ⟨_, rfl, (by first | exact (if_pos (by omega)).symm | exact (if_neg (by omega)).symm), ht⟩) (fun _ h => by cases h) dX12_isSpot_21
  · refine lv_if_eq (tgt := 20) hx hb dX12_isSpot_4 (by decide) (fun _ => ?_) (fun c9 => absurd c9 (by decide))
    refine lv_iconst (v := 0) hx hb dX12_isSpot_20 (by decide) ?_
    exact W.zret hx hb hr rfl (fun t ht hW => ⟨_, rfl, (by first | exact (if_pos (by omega)).symm | exact (if_neg (by omega)).symm), ht⟩) (fun _ h => by cases h) dX12_isSpot_21
theorem dX2_has_0 : decode cX2_has 0 = .ok (.iload_n 1, 1) := by decide +kernel
theorem dX2_has_1 : decode cX2_has 1 = .ok (.iconst 0, 1) := by decide +kernel
theorem dX2_has_11 : decode cX2_has 11 = .ok (.ireturn, 1) := by decide +kernel
theorem dX2_has_2 : decode cX2_has 2 = .ok (.aload_n 0, 1) := by decide +kernel
theorem dX2_has_3 : decode cX2_has 3 = .ok (.getfield 9, 3) := by decide +kernel
theorem dX2_has_6 : decode cX2_has 6 = .ok (.iconst 1, 1) := by decide +kernel
theorem dX2_has_7 : decode cX2_has 7 = .ok (.isub, 1) := by decide +kernel
theorem dX2_has_8 : decode cX2_has 8 = .ok (.invokestatic 37, 3) := by decide +kernel
set_option maxRecDepth 20000 in
theorem ggX2_has_X12_within : GoodIn wsX2_has wsX12_within := goodIn_r _ [4] (by decide +kernel) (by decide +kernel)
set_option maxRecDepth 20000 in
theorem gX2_has_X12_within_n37 : GoodIn wsX2_has (wsX12_within) := ggX2_has_X12_within
set_option maxRecDepth 20000 in
theorem in_X2_has_X2 : ∀ w ∈ wsX20, w ∈ wsX2_has := by decide +kernel
set_option maxHeartbeats 4000000 in
set_option maxRecDepth 100000 in
theorem c_X2_has (l : Launch) (D : va_G) (T : Nat → ClassId) (h0 : Nat) (fs0 : List Value) (x1 : Int32) (n : Int32) (HI : Int) (e0_0 : fs0[0]? = some (.int n)) (hHI : (n - 1).toInt = HI) : Met l yX2_has wsX2_has ({ frames := 1, cells := 0, slots := 0, locals := 22 }) (pR [.ref h0, .int x1] D T [(h0, .inr (1, fs0))]) (vp_Si (fun r => r = if 0 ≤ x1.toInt ∧ x1.toInt ≤ HI then 1 else 0)) 0 0 (fun _ => False) := by
  refine Met.ofW (cc := cX2_has) (maxL := 2) (ret := (some .boolean)) (by decide) rfl ?_
  intro p e s m args below meth c s₁ B hml hv
  obtain ⟨rfl, hP, hE⟩ := hv
  have hx := B.exec
  have hb := B.bytes
  have hr := B.returns
  have hts := atoms_spec (ws := wsX2_has) B.pre
  have hown : s.vm.findClass RX2 = some m.cls := findClass_of_methodNamed B.named
  have hlocks := B.notSynchronized
  have hP : va_P D vwCl [(h0, .inr (1, fs0))] s.heap := hP
  have hl := lv_entry ([.ref h0, .int x1]) (n := 2) (Nat.le_of_ble_eq_true rfl)
  rw [lg_entry_eq]
  generalize (lg_sl ([.ref h0, .int x1]) ++ List.replicate (2 - (lg_sl ([.ref h0, .int x1])).length) Slot.unset).toArray = ls at hl ⊢
  have hl : lv_has ls 2 [(0, .ref h0), (1, .int x1)] := hl
  refine lv_iload_n hx hb dX2_has_0 rfl (lv_at hl 1 rfl) ?_
  refine lv_iconst (v := 0) hx hb dX2_has_1 (by decide) ?_
  refine lv_aload_n hx hb dX2_has_2 rfl (lv_at hl 0 rfl) ?_
  refine va_get (D := D) (ci := 1) (v := .int n) (C := RX2) (T := TX2) (N := 8) hx hb hts in_X2_has_X2 hown hE.1 hP 0 rfl rfl 0 (by decide) (hts (.fieldLink RX2 9 "ClauseBook$Clauses" "size" "I") (List.mem_of_getElem? (i := 1) rfl)) (fun _ h9 => h9) e0_0 dX2_has_3 ?_
  refine lv_iconst (v := 1) hx hb dX2_has_6 (by decide) ?_
  refine lv_isub hx hb dX2_has_7 ?_
  refine vp_callSi (va_Run.run (va_runSN (As := [.int x1, .int 0, .int (n - 1)]) (rest := []) ⟨hx, hb, hml, hown, hts⟩ (c_X12_within l D T x1 0 (n - 1) 0 ((n - 1)).toInt (by decide) rfl) ⟨(va_cnB 3 hts gX2_has_X12_within_n37 rfl rfl rfl (hE.2.1 _ (List.mem_of_getElem? (i := 7) rfl)) (hts (.initialized RX12) (List.mem_of_getElem? (i := 3) rfl)) (by decide +kernel) ⟨Nat.le_of_ble_eq_true rfl, Nat.le_of_ble_eq_true rfl⟩), (hts (.static yX12_within) (List.mem_of_getElem? (i := 2) rfl)), trivial⟩ (pR_S hP hE [] rfl) rfl rfl hl.1 rfl (lv_room (Nat.le_of_ble_eq_true rfl)) dX2_has_8 ⟨Nat.le_of_ble_eq_true rfl, Nat.le_of_ble_eq_true rfl⟩)) (fun r_1 hr_1 => ?_)
  rcases bool_post hr_1 with ⟨c_2, rfl⟩ | ⟨c_2, rfl⟩
  · exact W.zret hx hb hr rfl (fun t ht hW => ⟨_, rfl, (by first | exact (if_pos (by omega)).symm | exact (if_neg (by omega)).symm), ht⟩) (fun _ h => by cases h) dX2_has_11
  · exact W.zret hx hb hr rfl (fun t ht hW => ⟨_, rfl, (by first | exact (if_pos (by omega)).symm | exact (if_neg (by omega)).symm), ht⟩) (fun _ h => by cases h) dX2_has_11
theorem dX12_isHad_0 : decode cX12_isHad 0 = .ok (.aload_n 0, 1) := by decide +kernel
theorem dX12_isHad_1 : decode cX12_isHad 1 = .ok (.getfield 32, 3) := by decide +kernel
theorem dX12_isHad_29 : decode cX12_isHad 29 = .ok (.iconst 0, 1) := by decide +kernel
theorem dX12_isHad_30 : decode cX12_isHad 30 = .ok (.ireturn, 1) := by decide +kernel
theorem dX12_isHad_4 : decode cX12_isHad 4 = .ok (.iload_n 1, 1) := by decide +kernel
theorem dX12_isHad_5 : decode cX12_isHad 5 = .ok (.invokevirtual 150, 3) := by decide +kernel
theorem dX12_isHad_8 : decode cX12_isHad 8 = .ok (.ifCond .eq 21, 3) := by decide +kernel
set_option maxRecDepth 20000 in
theorem ggX12_isHad_X2_has : GoodIn wsX12_isHad wsX2_has := goodIn_r _ [6, 7, 8, 9, 10, 29, 30, 31, 32, 33, 34, 35, 36] (by decide +kernel) (by decide +kernel)
set_option maxRecDepth 20000 in
theorem gX12_isHad_X2_has : GoodIn wsX12_isHad (wsV RX12 150 RX2 yX2_has wsX2_has) := goodIn_app (goodIn_of _ (by decide +kernel)) ggX12_isHad_X2_has
set_option maxRecDepth 20000 in
theorem in_X12_isHad_X12 : ∀ w ∈ wsX120, w ∈ wsX12_isHad := by decide +kernel
set_option maxHeartbeats 4000000 in
set_option maxRecDepth 100000 in
theorem f_X12_isHad (l : Launch) (D : va_G) (T : Nat → ClassId) (h0 : Nat) (fs0 : List Value) (h1 : Nat) (fs1 : List Value) (x1 : Int32) (x2 : Int32) (x3 : Int32) (e0_4 : fs0[4]? = some (.ref h1)) (e1_0 : fs1[0]? = some (.int 0)) : Met l yX12_isHad wsX12_isHad ({ frames := 2, cells := 0, slots := 0, locals := 43 }) (pR [.ref h0, .int x1, .int x2, .int x3] D T [(h0, .inr (9, fs0)), (h1, .inr (1, fs1))]) (vp_Si (fun r => r = 0)) 0 0 (fun _ => False) := by
  refine Met.ofW (cc := cX12_isHad) (maxL := 4) (ret := (some .boolean)) (by decide) rfl ?_
  intro p e s m args below meth c s₁ B hml hv
  obtain ⟨rfl, hP, hE⟩ := hv
  have hx := B.exec
  have hb := B.bytes
  have hr := B.returns
  have hts := atoms_spec (ws := wsX12_isHad) B.pre
  have hown : s.vm.findClass RX12 = some m.cls := findClass_of_methodNamed B.named
  have hlocks := B.notSynchronized
  have hP : va_P D vwCl [(h0, .inr (9, fs0)), (h1, .inr (1, fs1))] s.heap := hP
  have hl := lv_entry ([.ref h0, .int x1, .int x2, .int x3]) (n := 4) (Nat.le_of_ble_eq_true rfl)
  rw [lg_entry_eq]
  generalize (lg_sl ([.ref h0, .int x1, .int x2, .int x3]) ++ List.replicate (4 - (lg_sl ([.ref h0, .int x1, .int x2, .int x3])).length) Slot.unset).toArray = ls at hl ⊢
  have hl : lv_has ls 4 [(0, .ref h0), (1, .int x1), (2, .int x2), (3, .int x3)] := hl
  refine lv_aload_n hx hb dX12_isHad_0 rfl (lv_at hl 0 rfl) ?_
  refine va_get (D := D) (ci := 9) (v := .ref h1) (C := RX12) (T := TX12) (N := 11) hx hb hts in_X12_isHad_X12 hown hE.1 hP 0 rfl rfl 4 (by decide) (hts (.fieldLink RX12 32 "ClauseBook" "clauses" "LClauseBook$Clauses;") (List.mem_of_getElem? (i := 1) rfl)) (fun _ h9 => h9) e0_4 dX12_isHad_1 ?_
  refine lv_iload_n hx hb dX12_isHad_4 rfl (lv_at hl 1 rfl) ?_
  refine vp_callSi (W.runV (As := [.int x1]) (rest := []) ⟨hx, hb, hml, hown, hts⟩ (c_X2_has l D T h1 fs1 x1 0 (-1) e1_0 (by decide)) (cwV 1 hts gX12_isHad_X2_has rfl rfl rfl (by decide +kernel) ⟨Nat.le_of_ble_eq_true rfl, Nat.le_of_ble_eq_true rfl⟩) (pR_V (ci := 1) (q0 := 1) hP hE rfl rfl [1] rfl) rfl rfl hl.1 rfl (lv_room (Nat.le_of_ble_eq_true rfl)) dX12_isHad_5 ⟨Nat.le_of_ble_eq_true rfl, Nat.le_of_ble_eq_true rfl⟩) (fun r_1 hr_1 => ?_)
  rcases bool_post hr_1 with ⟨c_2, rfl⟩ | ⟨c_2, rfl⟩
  · exact absurd c_2 (by omega)
  refine lv_if_eq (tgt := 29) hx hb dX12_isHad_8 (by decide) (fun _ => ?_) (fun c9 => absurd c9 (by decide))
  refine lv_iconst (v := 0) hx hb dX12_isHad_29 (by decide) ?_
  exact W.zret hx hb hr rfl (fun t ht hW => ⟨_, rfl, rfl, ht⟩) (fun _ h => by cases h) dX12_isHad_30
theorem dX12_clauseOf_0 : decode cX12_clauseOf 0 = .ok (.aload_n 0, 1) := by decide +kernel
theorem dX12_clauseOf_1 : decode cX12_clauseOf 1 = .ok (.getfield 32, 3) := by decide +kernel
theorem dX12_clauseOf_11 : decode cX12_clauseOf 11 = .ok (.bipush (-2), 2) := by decide +kernel
theorem dX12_clauseOf_13 : decode cX12_clauseOf 13 = .ok (.ireturn, 1) := by decide +kernel
theorem dX12_clauseOf_4 : decode cX12_clauseOf 4 = .ok (.iload_n 1, 1) := by decide +kernel
theorem dX12_clauseOf_5 : decode cX12_clauseOf 5 = .ok (.invokevirtual 150, 3) := by decide +kernel
theorem dX12_clauseOf_8 : decode cX12_clauseOf 8 = .ok (.ifCond .ne 6, 3) := by decide +kernel
set_option maxRecDepth 20000 in
theorem ggX12_clauseOf_X2_has : GoodIn wsX12_clauseOf wsX2_has := goodIn_r _ [13, 14, 15, 16, 17, 29, 30, 31, 32, 33, 34, 35, 36] (by decide +kernel) (by decide +kernel)
set_option maxRecDepth 20000 in
theorem gX12_clauseOf_X2_has : GoodIn wsX12_clauseOf (wsV RX12 150 RX2 yX2_has wsX2_has) := goodIn_app (goodIn_of _ (by decide +kernel)) ggX12_clauseOf_X2_has
set_option maxRecDepth 20000 in
theorem in_X12_clauseOf_X12 : ∀ w ∈ wsX120, w ∈ wsX12_clauseOf := by decide +kernel
set_option maxHeartbeats 4000000 in
set_option maxRecDepth 100000 in
theorem f_X12_clauseOf (l : Launch) (D : va_G) (T : Nat → ClassId) (h0 : Nat) (fs0 : List Value) (h1 : Nat) (fs1 : List Value) (x1 : Int32) (x2 : Int32) (e0_4 : fs0[4]? = some (.ref h1)) (e1_0 : fs1[0]? = some (.int 0)) : Met l yX12_clauseOf wsX12_clauseOf ({ frames := 2, cells := 0, slots := 0, locals := 43 }) (pR [.ref h0, .int x1, .int x2] D T [(h0, .inr (9, fs0)), (h1, .inr (1, fs1))]) (vp_Si (fun r => r = -2)) 0 0 (fun _ => False) := by
  refine Met.ofW (cc := cX12_clauseOf) (maxL := 3) (ret := (some .int)) (by decide) rfl ?_
  intro p e s m args below meth c s₁ B hml hv
  obtain ⟨rfl, hP, hE⟩ := hv
  have hx := B.exec
  have hb := B.bytes
  have hr := B.returns
  have hts := atoms_spec (ws := wsX12_clauseOf) B.pre
  have hown : s.vm.findClass RX12 = some m.cls := findClass_of_methodNamed B.named
  have hlocks := B.notSynchronized
  have hP : va_P D vwCl [(h0, .inr (9, fs0)), (h1, .inr (1, fs1))] s.heap := hP
  have hl := lv_entry ([.ref h0, .int x1, .int x2]) (n := 3) (Nat.le_of_ble_eq_true rfl)
  rw [lg_entry_eq]
  generalize (lg_sl ([.ref h0, .int x1, .int x2]) ++ List.replicate (3 - (lg_sl ([.ref h0, .int x1, .int x2])).length) Slot.unset).toArray = ls at hl ⊢
  have hl : lv_has ls 3 [(0, .ref h0), (1, .int x1), (2, .int x2)] := hl
  refine lv_aload_n hx hb dX12_clauseOf_0 rfl (lv_at hl 0 rfl) ?_
  refine va_get (D := D) (ci := 9) (v := .ref h1) (C := RX12) (T := TX12) (N := 11) hx hb hts in_X12_clauseOf_X12 hown hE.1 hP 0 rfl rfl 4 (by decide) (hts (.fieldLink RX12 32 "ClauseBook" "clauses" "LClauseBook$Clauses;") (List.mem_of_getElem? (i := 1) rfl)) (fun _ h9 => h9) e0_4 dX12_clauseOf_1 ?_
  refine lv_iload_n hx hb dX12_clauseOf_4 rfl (lv_at hl 1 rfl) ?_
  refine vp_callSi (W.runV (As := [.int x1]) (rest := []) ⟨hx, hb, hml, hown, hts⟩ (c_X2_has l D T h1 fs1 x1 0 (-1) e1_0 (by decide)) (cwV 1 hts gX12_clauseOf_X2_has rfl rfl rfl (by decide +kernel) ⟨Nat.le_of_ble_eq_true rfl, Nat.le_of_ble_eq_true rfl⟩) (pR_V (ci := 1) (q0 := 1) hP hE rfl rfl [1] rfl) rfl rfl hl.1 rfl (lv_room (Nat.le_of_ble_eq_true rfl)) dX12_clauseOf_5 ⟨Nat.le_of_ble_eq_true rfl, Nat.le_of_ble_eq_true rfl⟩) (fun r_1 hr_1 => ?_)
  rcases bool_post hr_1 with ⟨c_2, rfl⟩ | ⟨c_2, rfl⟩
  · exact absurd c_2 (by omega)
  refine lv_if_ne (tgt := 14) hx hb dX12_clauseOf_8 (by decide) (fun c9 => absurd c9 (by decide)) (fun _ => ?_)
  refine lv_bipush (v := (-2)) hx hb dX12_clauseOf_11 (by decide) ?_
  exact W.iret hx hb hr (fun t ht hW => ⟨_, rfl, rfl, ht⟩) (fun _ h => by cases h) dX12_clauseOf_13
theorem dX12_swap_0 : decode cX12_swap 0 = .ok (.aload_n 0, 1) := by decide +kernel
theorem dX12_swap_1 : decode cX12_swap 1 = .ok (.getfield 32, 3) := by decide +kernel
theorem dX12_swap_28 : decode cX12_swap 28 = .ok (.bipush (-2), 2) := by decide +kernel
theorem dX12_swap_30 : decode cX12_swap 30 = .ok (.ireturn, 1) := by decide +kernel
theorem dX12_swap_4 : decode cX12_swap 4 = .ok (.iload_n 1, 1) := by decide +kernel
theorem dX12_swap_5 : decode cX12_swap 5 = .ok (.invokevirtual 150, 3) := by decide +kernel
theorem dX12_swap_8 : decode cX12_swap 8 = .ok (.ifCond .eq 20, 3) := by decide +kernel
set_option maxRecDepth 20000 in
theorem ggX12_swap_X2_has : GoodIn wsX12_swap wsX2_has := goodIn_r _ [7, 8, 9, 10, 11, 64, 65, 66, 67, 68, 69, 70, 71] (by decide +kernel) (by decide +kernel)
set_option maxRecDepth 20000 in
theorem gX12_swap_X2_has : GoodIn wsX12_swap (wsV RX12 150 RX2 yX2_has wsX2_has) := goodIn_app (goodIn_of _ (by decide +kernel)) ggX12_swap_X2_has
set_option maxRecDepth 20000 in
theorem in_X12_swap_X12 : ∀ w ∈ wsX120, w ∈ wsX12_swap := by decide +kernel
set_option maxHeartbeats 4000000 in
set_option maxRecDepth 100000 in
theorem f_X12_swap (l : Launch) (D : va_G) (T : Nat → ClassId) (h0 : Nat) (fs0 : List Value) (h1 : Nat) (fs1 : List Value) (x1 : Int32) (x2 : Int32) (x3 : Int32) (e0_4 : fs0[4]? = some (.ref h1)) (e1_0 : fs1[0]? = some (.int 0)) : Met l yX12_swap wsX12_swap ({ frames := 2, cells := 0, slots := 0, locals := 43 }) (pR [.ref h0, .int x1, .int x2, .int x3] D T [(h0, .inr (9, fs0)), (h1, .inr (1, fs1))]) (vp_Si (fun r => r = -2)) 0 0 (fun _ => False) := by
  refine Met.ofW (cc := cX12_swap) (maxL := 4) (ret := (some .int)) (by decide) rfl ?_
  intro p e s m args below meth c s₁ B hml hv
  obtain ⟨rfl, hP, hE⟩ := hv
  have hx := B.exec
  have hb := B.bytes
  have hr := B.returns
  have hts := atoms_spec (ws := wsX12_swap) B.pre
  have hown : s.vm.findClass RX12 = some m.cls := findClass_of_methodNamed B.named
  have hlocks := B.notSynchronized
  have hP : va_P D vwCl [(h0, .inr (9, fs0)), (h1, .inr (1, fs1))] s.heap := hP
  have hl := lv_entry ([.ref h0, .int x1, .int x2, .int x3]) (n := 4) (Nat.le_of_ble_eq_true rfl)
  rw [lg_entry_eq]
  generalize (lg_sl ([.ref h0, .int x1, .int x2, .int x3]) ++ List.replicate (4 - (lg_sl ([.ref h0, .int x1, .int x2, .int x3])).length) Slot.unset).toArray = ls at hl ⊢
  have hl : lv_has ls 4 [(0, .ref h0), (1, .int x1), (2, .int x2), (3, .int x3)] := hl
  refine lv_aload_n hx hb dX12_swap_0 rfl (lv_at hl 0 rfl) ?_
  refine va_get (D := D) (ci := 9) (v := .ref h1) (C := RX12) (T := TX12) (N := 11) hx hb hts in_X12_swap_X12 hown hE.1 hP 0 rfl rfl 4 (by decide) (hts (.fieldLink RX12 32 "ClauseBook" "clauses" "LClauseBook$Clauses;") (List.mem_of_getElem? (i := 1) rfl)) (fun _ h9 => h9) e0_4 dX12_swap_1 ?_
  refine lv_iload_n hx hb dX12_swap_4 rfl (lv_at hl 1 rfl) ?_
  refine vp_callSi (W.runV (As := [.int x1]) (rest := []) ⟨hx, hb, hml, hown, hts⟩ (c_X2_has l D T h1 fs1 x1 0 (-1) e1_0 (by decide)) (cwV 1 hts gX12_swap_X2_has rfl rfl rfl (by decide +kernel) ⟨Nat.le_of_ble_eq_true rfl, Nat.le_of_ble_eq_true rfl⟩) (pR_V (ci := 1) (q0 := 1) hP hE rfl rfl [1] rfl) rfl rfl hl.1 rfl (lv_room (Nat.le_of_ble_eq_true rfl)) dX12_swap_5 ⟨Nat.le_of_ble_eq_true rfl, Nat.le_of_ble_eq_true rfl⟩) (fun r_1 hr_1 => ?_)
  rcases bool_post hr_1 with ⟨c_2, rfl⟩ | ⟨c_2, rfl⟩
  · exact absurd c_2 (by omega)
  refine lv_if_eq (tgt := 28) hx hb dX12_swap_8 (by decide) (fun _ => ?_) (fun c9 => absurd c9 (by decide))
  refine lv_bipush (v := (-2)) hx hb dX12_swap_28 (by decide) ?_
  exact W.iret hx hb hr (fun t ht hW => ⟨_, rfl, rfl, ht⟩) (fun _ h => by cases h) dX12_swap_30
theorem dX12_chosen_0 : decode cX12_chosen 0 = .ok (.aload_n 0, 1) := by decide +kernel
theorem dX12_chosen_1 : decode cX12_chosen 1 = .ok (.getfield 32, 3) := by decide +kernel
theorem dX12_chosen_19 : decode cX12_chosen 19 = .ok (.bipush (-2), 2) := by decide +kernel
theorem dX12_chosen_21 : decode cX12_chosen 21 = .ok (.ireturn, 1) := by decide +kernel
theorem dX12_chosen_4 : decode cX12_chosen 4 = .ok (.iload_n 1, 1) := by decide +kernel
theorem dX12_chosen_5 : decode cX12_chosen 5 = .ok (.invokevirtual 150, 3) := by decide +kernel
theorem dX12_chosen_8 : decode cX12_chosen 8 = .ok (.ifCond .eq 11, 3) := by decide +kernel
set_option maxRecDepth 20000 in
theorem ggX12_chosen_X2_has : GoodIn wsX12_chosen wsX2_has := goodIn_r _ [10, 11, 12, 13, 14, 140, 141, 142, 143, 144, 145, 146, 147] (by decide +kernel) (by decide +kernel)
set_option maxRecDepth 20000 in
theorem gX12_chosen_X2_has : GoodIn wsX12_chosen (wsV RX12 150 RX2 yX2_has wsX2_has) := goodIn_app (goodIn_of _ (by decide +kernel)) ggX12_chosen_X2_has
set_option maxRecDepth 20000 in
theorem in_X12_chosen_X12 : ∀ w ∈ wsX120, w ∈ wsX12_chosen := by decide +kernel
set_option maxHeartbeats 4000000 in
set_option maxRecDepth 100000 in
theorem f_X12_chosen (l : Launch) (D : va_G) (T : Nat → ClassId) (h0 : Nat) (fs0 : List Value) (h1 : Nat) (fs1 : List Value) (x1 : Int32) (x2 : Int32) (x3 : Int32) (e0_4 : fs0[4]? = some (.ref h1)) (e1_0 : fs1[0]? = some (.int 0)) : Met l yX12_chosen wsX12_chosen ({ frames := 2, cells := 0, slots := 0, locals := 43 }) (pR [.ref h0, .int x1, .int x2, .int x3] D T [(h0, .inr (9, fs0)), (h1, .inr (1, fs1))]) (vp_Si (fun r => r = -2)) 0 0 (fun _ => False) := by
  refine Met.ofW (cc := cX12_chosen) (maxL := 5) (ret := (some .int)) (by decide) rfl ?_
  intro p e s m args below meth c s₁ B hml hv
  obtain ⟨rfl, hP, hE⟩ := hv
  have hx := B.exec
  have hb := B.bytes
  have hr := B.returns
  have hts := atoms_spec (ws := wsX12_chosen) B.pre
  have hown : s.vm.findClass RX12 = some m.cls := findClass_of_methodNamed B.named
  have hlocks := B.notSynchronized
  have hP : va_P D vwCl [(h0, .inr (9, fs0)), (h1, .inr (1, fs1))] s.heap := hP
  have hl := lv_entry ([.ref h0, .int x1, .int x2, .int x3]) (n := 5) (Nat.le_of_ble_eq_true rfl)
  rw [lg_entry_eq]
  generalize (lg_sl ([.ref h0, .int x1, .int x2, .int x3]) ++ List.replicate (5 - (lg_sl ([.ref h0, .int x1, .int x2, .int x3])).length) Slot.unset).toArray = ls at hl ⊢
  have hl : lv_has ls 5 [(0, .ref h0), (1, .int x1), (2, .int x2), (3, .int x3)] := hl
  refine lv_aload_n hx hb dX12_chosen_0 rfl (lv_at hl 0 rfl) ?_
  refine va_get (D := D) (ci := 9) (v := .ref h1) (C := RX12) (T := TX12) (N := 11) hx hb hts in_X12_chosen_X12 hown hE.1 hP 0 rfl rfl 4 (by decide) (hts (.fieldLink RX12 32 "ClauseBook" "clauses" "LClauseBook$Clauses;") (List.mem_of_getElem? (i := 1) rfl)) (fun _ h9 => h9) e0_4 dX12_chosen_1 ?_
  refine lv_iload_n hx hb dX12_chosen_4 rfl (lv_at hl 1 rfl) ?_
  refine vp_callSi (W.runV (As := [.int x1]) (rest := []) ⟨hx, hb, hml, hown, hts⟩ (c_X2_has l D T h1 fs1 x1 0 (-1) e1_0 (by decide)) (cwV 1 hts gX12_chosen_X2_has rfl rfl rfl (by decide +kernel) ⟨Nat.le_of_ble_eq_true rfl, Nat.le_of_ble_eq_true rfl⟩) (pR_V (ci := 1) (q0 := 1) hP hE rfl rfl [1] rfl) rfl rfl hl.1 rfl (lv_room (Nat.le_of_ble_eq_true rfl)) dX12_chosen_5 ⟨Nat.le_of_ble_eq_true rfl, Nat.le_of_ble_eq_true rfl⟩) (fun r_1 hr_1 => ?_)
  rcases bool_post hr_1 with ⟨c_2, rfl⟩ | ⟨c_2, rfl⟩
  · exact absurd c_2 (by omega)
  refine lv_if_eq (tgt := 19) hx hb dX12_chosen_8 (by decide) (fun _ => ?_) (fun c9 => absurd c9 (by decide))
  refine lv_bipush (v := (-2)) hx hb dX12_chosen_19 (by decide) ?_
  exact W.iret hx hb hr (fun t ht hW => ⟨_, rfl, rfl, ht⟩) (fun _ h => by cases h) dX12_chosen_21
theorem dX12_taken_0 : decode cX12_taken 0 = .ok (.aload_n 0, 1) := by decide +kernel
theorem dX12_taken_1 : decode cX12_taken 1 = .ok (.getfield 32, 3) := by decide +kernel
theorem dX12_taken_25 : decode cX12_taken 25 = .ok (.bipush (-2), 2) := by decide +kernel
theorem dX12_taken_27 : decode cX12_taken 27 = .ok (.ireturn, 1) := by decide +kernel
theorem dX12_taken_4 : decode cX12_taken 4 = .ok (.iload_n 1, 1) := by decide +kernel
theorem dX12_taken_5 : decode cX12_taken 5 = .ok (.invokevirtual 150, 3) := by decide +kernel
theorem dX12_taken_8 : decode cX12_taken 8 = .ok (.ifCond .eq 17, 3) := by decide +kernel
set_option maxRecDepth 20000 in
theorem ggX12_taken_X2_has : GoodIn wsX12_taken wsX2_has := goodIn_r _ [9, 10, 11, 12, 13, 152, 153, 154, 155, 156, 157, 158, 159] (by decide +kernel) (by decide +kernel)
set_option maxRecDepth 20000 in
theorem gX12_taken_X2_has : GoodIn wsX12_taken (wsV RX12 150 RX2 yX2_has wsX2_has) := goodIn_app (goodIn_of _ (by decide +kernel)) ggX12_taken_X2_has
set_option maxRecDepth 20000 in
theorem in_X12_taken_X12 : ∀ w ∈ wsX120, w ∈ wsX12_taken := by decide +kernel
set_option maxHeartbeats 4000000 in
set_option maxRecDepth 100000 in
theorem f_X12_taken (l : Launch) (D : va_G) (T : Nat → ClassId) (h0 : Nat) (fs0 : List Value) (h1 : Nat) (fs1 : List Value) (x1 : Int32) (x2 : Int32) (x3 : Int32) (e0_4 : fs0[4]? = some (.ref h1)) (e1_0 : fs1[0]? = some (.int 0)) : Met l yX12_taken wsX12_taken ({ frames := 2, cells := 0, slots := 0, locals := 43 }) (pR [.ref h0, .int x1, .int x2, .int x3] D T [(h0, .inr (9, fs0)), (h1, .inr (1, fs1))]) (vp_Si (fun r => r = -2)) 0 0 (fun _ => False) := by
  refine Met.ofW (cc := cX12_taken) (maxL := 4) (ret := (some .int)) (by decide) rfl ?_
  intro p e s m args below meth c s₁ B hml hv
  obtain ⟨rfl, hP, hE⟩ := hv
  have hx := B.exec
  have hb := B.bytes
  have hr := B.returns
  have hts := atoms_spec (ws := wsX12_taken) B.pre
  have hown : s.vm.findClass RX12 = some m.cls := findClass_of_methodNamed B.named
  have hlocks := B.notSynchronized
  have hP : va_P D vwCl [(h0, .inr (9, fs0)), (h1, .inr (1, fs1))] s.heap := hP
  have hl := lv_entry ([.ref h0, .int x1, .int x2, .int x3]) (n := 4) (Nat.le_of_ble_eq_true rfl)
  rw [lg_entry_eq]
  generalize (lg_sl ([.ref h0, .int x1, .int x2, .int x3]) ++ List.replicate (4 - (lg_sl ([.ref h0, .int x1, .int x2, .int x3])).length) Slot.unset).toArray = ls at hl ⊢
  have hl : lv_has ls 4 [(0, .ref h0), (1, .int x1), (2, .int x2), (3, .int x3)] := hl
  refine lv_aload_n hx hb dX12_taken_0 rfl (lv_at hl 0 rfl) ?_
  refine va_get (D := D) (ci := 9) (v := .ref h1) (C := RX12) (T := TX12) (N := 11) hx hb hts in_X12_taken_X12 hown hE.1 hP 0 rfl rfl 4 (by decide) (hts (.fieldLink RX12 32 "ClauseBook" "clauses" "LClauseBook$Clauses;") (List.mem_of_getElem? (i := 1) rfl)) (fun _ h9 => h9) e0_4 dX12_taken_1 ?_
  refine lv_iload_n hx hb dX12_taken_4 rfl (lv_at hl 1 rfl) ?_
  refine vp_callSi (W.runV (As := [.int x1]) (rest := []) ⟨hx, hb, hml, hown, hts⟩ (c_X2_has l D T h1 fs1 x1 0 (-1) e1_0 (by decide)) (cwV 1 hts gX12_taken_X2_has rfl rfl rfl (by decide +kernel) ⟨Nat.le_of_ble_eq_true rfl, Nat.le_of_ble_eq_true rfl⟩) (pR_V (ci := 1) (q0 := 1) hP hE rfl rfl [1] rfl) rfl rfl hl.1 rfl (lv_room (Nat.le_of_ble_eq_true rfl)) dX12_taken_5 ⟨Nat.le_of_ble_eq_true rfl, Nat.le_of_ble_eq_true rfl⟩) (fun r_1 hr_1 => ?_)
  rcases bool_post hr_1 with ⟨c_2, rfl⟩ | ⟨c_2, rfl⟩
  · exact absurd c_2 (by omega)
  refine lv_if_eq (tgt := 25) hx hb dX12_taken_8 (by decide) (fun _ => ?_) (fun c9 => absurd c9 (by decide))
  refine lv_bipush (v := (-2)) hx hb dX12_taken_25 (by decide) ?_
  exact W.iret hx hb hr (fun t ht hW => ⟨_, rfl, rfl, ht⟩) (fun _ h => by cases h) dX12_taken_27
theorem dX12_alike_0 : decode cX12_alike 0 = .ok (.aload_n 0, 1) := by decide +kernel
theorem dX12_alike_1 : decode cX12_alike 1 = .ok (.getfield 32, 3) := by decide +kernel
theorem dX12_alike_22 : decode cX12_alike 22 = .ok (.bipush (-2), 2) := by decide +kernel
theorem dX12_alike_24 : decode cX12_alike 24 = .ok (.ireturn, 1) := by decide +kernel
theorem dX12_alike_4 : decode cX12_alike 4 = .ok (.iload_n 1, 1) := by decide +kernel
theorem dX12_alike_5 : decode cX12_alike 5 = .ok (.invokevirtual 150, 3) := by decide +kernel
theorem dX12_alike_8 : decode cX12_alike 8 = .ok (.ifCond .eq 14, 3) := by decide +kernel
set_option maxRecDepth 20000 in
theorem ggX12_alike_X2_has : GoodIn wsX12_alike wsX2_has := goodIn_r _ [8, 9, 10, 11, 12, 132, 133, 134, 135, 136, 137, 138, 139] (by decide +kernel) (by decide +kernel)
set_option maxRecDepth 20000 in
theorem gX12_alike_X2_has : GoodIn wsX12_alike (wsV RX12 150 RX2 yX2_has wsX2_has) := goodIn_app (goodIn_of _ (by decide +kernel)) ggX12_alike_X2_has
set_option maxRecDepth 20000 in
theorem in_X12_alike_X12 : ∀ w ∈ wsX120, w ∈ wsX12_alike := by decide +kernel
set_option maxHeartbeats 4000000 in
set_option maxRecDepth 100000 in
theorem f_X12_alike (l : Launch) (D : va_G) (T : Nat → ClassId) (h0 : Nat) (fs0 : List Value) (h1 : Nat) (fs1 : List Value) (x1 : Int32) (x2 : Int32) (e0_4 : fs0[4]? = some (.ref h1)) (e1_0 : fs1[0]? = some (.int 0)) : Met l yX12_alike wsX12_alike ({ frames := 2, cells := 0, slots := 0, locals := 43 }) (pR [.ref h0, .int x1, .int x2] D T [(h0, .inr (9, fs0)), (h1, .inr (1, fs1))]) (vp_Si (fun r => r = -2)) 0 0 (fun _ => False) := by
  refine Met.ofW (cc := cX12_alike) (maxL := 8) (ret := (some .int)) (by decide) rfl ?_
  intro p e s m args below meth c s₁ B hml hv
  obtain ⟨rfl, hP, hE⟩ := hv
  have hx := B.exec
  have hb := B.bytes
  have hr := B.returns
  have hts := atoms_spec (ws := wsX12_alike) B.pre
  have hown : s.vm.findClass RX12 = some m.cls := findClass_of_methodNamed B.named
  have hlocks := B.notSynchronized
  have hP : va_P D vwCl [(h0, .inr (9, fs0)), (h1, .inr (1, fs1))] s.heap := hP
  have hl := lv_entry ([.ref h0, .int x1, .int x2]) (n := 8) (Nat.le_of_ble_eq_true rfl)
  rw [lg_entry_eq]
  generalize (lg_sl ([.ref h0, .int x1, .int x2]) ++ List.replicate (8 - (lg_sl ([.ref h0, .int x1, .int x2])).length) Slot.unset).toArray = ls at hl ⊢
  have hl : lv_has ls 8 [(0, .ref h0), (1, .int x1), (2, .int x2)] := hl
  refine lv_aload_n hx hb dX12_alike_0 rfl (lv_at hl 0 rfl) ?_
  refine va_get (D := D) (ci := 9) (v := .ref h1) (C := RX12) (T := TX12) (N := 11) hx hb hts in_X12_alike_X12 hown hE.1 hP 0 rfl rfl 4 (by decide) (hts (.fieldLink RX12 32 "ClauseBook" "clauses" "LClauseBook$Clauses;") (List.mem_of_getElem? (i := 1) rfl)) (fun _ h9 => h9) e0_4 dX12_alike_1 ?_
  refine lv_iload_n hx hb dX12_alike_4 rfl (lv_at hl 1 rfl) ?_
  refine vp_callSi (W.runV (As := [.int x1]) (rest := []) ⟨hx, hb, hml, hown, hts⟩ (c_X2_has l D T h1 fs1 x1 0 (-1) e1_0 (by decide)) (cwV 1 hts gX12_alike_X2_has rfl rfl rfl (by decide +kernel) ⟨Nat.le_of_ble_eq_true rfl, Nat.le_of_ble_eq_true rfl⟩) (pR_V (ci := 1) (q0 := 1) hP hE rfl rfl [1] rfl) rfl rfl hl.1 rfl (lv_room (Nat.le_of_ble_eq_true rfl)) dX12_alike_5 ⟨Nat.le_of_ble_eq_true rfl, Nat.le_of_ble_eq_true rfl⟩) (fun r_1 hr_1 => ?_)
  rcases bool_post hr_1 with ⟨c_2, rfl⟩ | ⟨c_2, rfl⟩
  · exact absurd c_2 (by omega)
  refine lv_if_eq (tgt := 22) hx hb dX12_alike_8 (by decide) (fun _ => ?_) (fun c9 => absurd c9 (by decide))
  refine lv_bipush (v := (-2)) hx hb dX12_alike_22 (by decide) ?_
  exact W.iret hx hb hr (fun t ht hW => ⟨_, rfl, rfl, ht⟩) (fun _ h => by cases h) dX12_alike_24
theorem dX12_unlike_0 : decode cX12_unlike 0 = .ok (.aload_n 0, 1) := by decide +kernel
theorem dX12_unlike_1 : decode cX12_unlike 1 = .ok (.getfield 32, 3) := by decide +kernel
theorem dX12_unlike_22 : decode cX12_unlike 22 = .ok (.bipush (-2), 2) := by decide +kernel
theorem dX12_unlike_24 : decode cX12_unlike 24 = .ok (.ireturn, 1) := by decide +kernel
theorem dX12_unlike_4 : decode cX12_unlike 4 = .ok (.iload_n 1, 1) := by decide +kernel
theorem dX12_unlike_5 : decode cX12_unlike 5 = .ok (.invokevirtual 150, 3) := by decide +kernel
theorem dX12_unlike_8 : decode cX12_unlike 8 = .ok (.ifCond .eq 14, 3) := by decide +kernel
set_option maxRecDepth 20000 in
theorem ggX12_unlike_X2_has : GoodIn wsX12_unlike wsX2_has := goodIn_r _ [7, 8, 9, 10, 11, 131, 132, 133, 134, 135, 136, 137, 138] (by decide +kernel) (by decide +kernel)
set_option maxRecDepth 20000 in
theorem gX12_unlike_X2_has : GoodIn wsX12_unlike (wsV RX12 150 RX2 yX2_has wsX2_has) := goodIn_app (goodIn_of _ (by decide +kernel)) ggX12_unlike_X2_has
set_option maxRecDepth 20000 in
theorem in_X12_unlike_X12 : ∀ w ∈ wsX120, w ∈ wsX12_unlike := by decide +kernel
set_option maxHeartbeats 4000000 in
set_option maxRecDepth 100000 in
theorem f_X12_unlike (l : Launch) (D : va_G) (T : Nat → ClassId) (h0 : Nat) (fs0 : List Value) (h1 : Nat) (fs1 : List Value) (x1 : Int32) (x2 : Int32) (e0_4 : fs0[4]? = some (.ref h1)) (e1_0 : fs1[0]? = some (.int 0)) : Met l yX12_unlike wsX12_unlike ({ frames := 2, cells := 0, slots := 0, locals := 43 }) (pR [.ref h0, .int x1, .int x2] D T [(h0, .inr (9, fs0)), (h1, .inr (1, fs1))]) (vp_Si (fun r => r = -2)) 0 0 (fun _ => False) := by
  refine Met.ofW (cc := cX12_unlike) (maxL := 7) (ret := (some .int)) (by decide) rfl ?_
  intro p e s m args below meth c s₁ B hml hv
  obtain ⟨rfl, hP, hE⟩ := hv
  have hx := B.exec
  have hb := B.bytes
  have hr := B.returns
  have hts := atoms_spec (ws := wsX12_unlike) B.pre
  have hown : s.vm.findClass RX12 = some m.cls := findClass_of_methodNamed B.named
  have hlocks := B.notSynchronized
  have hP : va_P D vwCl [(h0, .inr (9, fs0)), (h1, .inr (1, fs1))] s.heap := hP
  have hl := lv_entry ([.ref h0, .int x1, .int x2]) (n := 7) (Nat.le_of_ble_eq_true rfl)
  rw [lg_entry_eq]
  generalize (lg_sl ([.ref h0, .int x1, .int x2]) ++ List.replicate (7 - (lg_sl ([.ref h0, .int x1, .int x2])).length) Slot.unset).toArray = ls at hl ⊢
  have hl : lv_has ls 7 [(0, .ref h0), (1, .int x1), (2, .int x2)] := hl
  refine lv_aload_n hx hb dX12_unlike_0 rfl (lv_at hl 0 rfl) ?_
  refine va_get (D := D) (ci := 9) (v := .ref h1) (C := RX12) (T := TX12) (N := 11) hx hb hts in_X12_unlike_X12 hown hE.1 hP 0 rfl rfl 4 (by decide) (hts (.fieldLink RX12 32 "ClauseBook" "clauses" "LClauseBook$Clauses;") (List.mem_of_getElem? (i := 1) rfl)) (fun _ h9 => h9) e0_4 dX12_unlike_1 ?_
  refine lv_iload_n hx hb dX12_unlike_4 rfl (lv_at hl 1 rfl) ?_
  refine vp_callSi (W.runV (As := [.int x1]) (rest := []) ⟨hx, hb, hml, hown, hts⟩ (c_X2_has l D T h1 fs1 x1 0 (-1) e1_0 (by decide)) (cwV 1 hts gX12_unlike_X2_has rfl rfl rfl (by decide +kernel) ⟨Nat.le_of_ble_eq_true rfl, Nat.le_of_ble_eq_true rfl⟩) (pR_V (ci := 1) (q0 := 1) hP hE rfl rfl [1] rfl) rfl rfl hl.1 rfl (lv_room (Nat.le_of_ble_eq_true rfl)) dX12_unlike_5 ⟨Nat.le_of_ble_eq_true rfl, Nat.le_of_ble_eq_true rfl⟩) (fun r_1 hr_1 => ?_)
  rcases bool_post hr_1 with ⟨c_2, rfl⟩ | ⟨c_2, rfl⟩
  · exact absurd c_2 (by omega)
  refine lv_if_eq (tgt := 22) hx hb dX12_unlike_8 (by decide) (fun _ => ?_) (fun c9 => absurd c9 (by decide))
  refine lv_bipush (v := (-2)) hx hb dX12_unlike_22 (by decide) ?_
  exact W.iret hx hb hr (fun t ht hW => ⟨_, rfl, rfl, ht⟩) (fun _ h => by cases h) dX12_unlike_24
theorem dX12_most_0 : decode cX12_most 0 = .ok (.aload_n 0, 1) := by decide +kernel
theorem dX12_most_1 : decode cX12_most 1 = .ok (.getfield 32, 3) := by decide +kernel
theorem dX12_most_18 : decode cX12_most 18 = .ok (.bipush (-2), 2) := by decide +kernel
theorem dX12_most_20 : decode cX12_most 20 = .ok (.ireturn, 1) := by decide +kernel
theorem dX12_most_4 : decode cX12_most 4 = .ok (.iload_n 1, 1) := by decide +kernel
theorem dX12_most_5 : decode cX12_most 5 = .ok (.invokevirtual 150, 3) := by decide +kernel
theorem dX12_most_8 : decode cX12_most 8 = .ok (.ifCond .eq 10, 3) := by decide +kernel
set_option maxRecDepth 20000 in
theorem ggX12_most_X2_has : GoodIn wsX12_most wsX2_has := goodIn_r _ [7, 8, 9, 10, 11, 135, 136, 137, 138, 139, 140, 141, 142] (by decide +kernel) (by decide +kernel)
set_option maxRecDepth 20000 in
theorem gX12_most_X2_has : GoodIn wsX12_most (wsV RX12 150 RX2 yX2_has wsX2_has) := goodIn_app (goodIn_of _ (by decide +kernel)) ggX12_most_X2_has
set_option maxRecDepth 20000 in
theorem in_X12_most_X12 : ∀ w ∈ wsX120, w ∈ wsX12_most := by decide +kernel
set_option maxHeartbeats 4000000 in
set_option maxRecDepth 100000 in
theorem f_X12_most (l : Launch) (D : va_G) (T : Nat → ClassId) (h0 : Nat) (fs0 : List Value) (h1 : Nat) (fs1 : List Value) (x1 : Int32) (x2 : Int32) (e0_4 : fs0[4]? = some (.ref h1)) (e1_0 : fs1[0]? = some (.int 0)) : Met l yX12_most wsX12_most ({ frames := 2, cells := 0, slots := 0, locals := 43 }) (pR [.ref h0, .int x1, .int x2] D T [(h0, .inr (9, fs0)), (h1, .inr (1, fs1))]) (vp_Si (fun r => r = -2)) 0 0 (fun _ => False) := by
  refine Met.ofW (cc := cX12_most) (maxL := 7) (ret := (some .int)) (by decide) rfl ?_
  intro p e s m args below meth c s₁ B hml hv
  obtain ⟨rfl, hP, hE⟩ := hv
  have hx := B.exec
  have hb := B.bytes
  have hr := B.returns
  have hts := atoms_spec (ws := wsX12_most) B.pre
  have hown : s.vm.findClass RX12 = some m.cls := findClass_of_methodNamed B.named
  have hlocks := B.notSynchronized
  have hP : va_P D vwCl [(h0, .inr (9, fs0)), (h1, .inr (1, fs1))] s.heap := hP
  have hl := lv_entry ([.ref h0, .int x1, .int x2]) (n := 7) (Nat.le_of_ble_eq_true rfl)
  rw [lg_entry_eq]
  generalize (lg_sl ([.ref h0, .int x1, .int x2]) ++ List.replicate (7 - (lg_sl ([.ref h0, .int x1, .int x2])).length) Slot.unset).toArray = ls at hl ⊢
  have hl : lv_has ls 7 [(0, .ref h0), (1, .int x1), (2, .int x2)] := hl
  refine lv_aload_n hx hb dX12_most_0 rfl (lv_at hl 0 rfl) ?_
  refine va_get (D := D) (ci := 9) (v := .ref h1) (C := RX12) (T := TX12) (N := 11) hx hb hts in_X12_most_X12 hown hE.1 hP 0 rfl rfl 4 (by decide) (hts (.fieldLink RX12 32 "ClauseBook" "clauses" "LClauseBook$Clauses;") (List.mem_of_getElem? (i := 1) rfl)) (fun _ h9 => h9) e0_4 dX12_most_1 ?_
  refine lv_iload_n hx hb dX12_most_4 rfl (lv_at hl 1 rfl) ?_
  refine vp_callSi (W.runV (As := [.int x1]) (rest := []) ⟨hx, hb, hml, hown, hts⟩ (c_X2_has l D T h1 fs1 x1 0 (-1) e1_0 (by decide)) (cwV 1 hts gX12_most_X2_has rfl rfl rfl (by decide +kernel) ⟨Nat.le_of_ble_eq_true rfl, Nat.le_of_ble_eq_true rfl⟩) (pR_V (ci := 1) (q0 := 1) hP hE rfl rfl [1] rfl) rfl rfl hl.1 rfl (lv_room (Nat.le_of_ble_eq_true rfl)) dX12_most_5 ⟨Nat.le_of_ble_eq_true rfl, Nat.le_of_ble_eq_true rfl⟩) (fun r_1 hr_1 => ?_)
  rcases bool_post hr_1 with ⟨c_2, rfl⟩ | ⟨c_2, rfl⟩
  · exact absurd c_2 (by omega)
  refine lv_if_eq (tgt := 18) hx hb dX12_most_8 (by decide) (fun _ => ?_) (fun c9 => absurd c9 (by decide))
  refine lv_bipush (v := (-2)) hx hb dX12_most_18 (by decide) ?_
  exact W.iret hx hb hr (fun t ht hW => ⟨_, rfl, rfl, ht⟩) (fun _ h => by cases h) dX12_most_20
theorem dX12_dueDays_0 : decode cX12_dueDays 0 = .ok (.aload_n 0, 1) := by decide +kernel
theorem dX12_dueDays_1 : decode cX12_dueDays 1 = .ok (.iload_n 1, 1) := by decide +kernel
theorem dX12_dueDays_10 : decode cX12_dueDays 10 = .ok (.bipush (-2), 2) := by decide +kernel
theorem dX12_dueDays_12 : decode cX12_dueDays 12 = .ok (.ireturn, 1) := by decide +kernel
theorem dX12_dueDays_2 : decode cX12_dueDays 2 = .ok (.iload_n 2, 1) := by decide +kernel
theorem dX12_dueDays_3 : decode cX12_dueDays 3 = .ok (.iload_n 3, 1) := by decide +kernel
theorem dX12_dueDays_4 : decode cX12_dueDays 4 = .ok (.invokevirtual 250, 3) := by decide +kernel
theorem dX12_dueDays_7 : decode cX12_dueDays 7 = .ok (.ifCond .ne 6, 3) := by decide +kernel
set_option maxRecDepth 20000 in
theorem ggX12_dueDays_X12_isHad : GoodIn wsX12_dueDays wsX12_isHad := goodIn_r _ [8, 9, 10, 11, 12, 13, 14, 15, 16, 7, 17, 18, 19, 20, 21, 22, 23, 24, 182, 183, 184, 185, 186, 187, 188, 189, 190, 191, 192, 200, 201, 202, 203, 204, 205, 206, 207] (by decide +kernel) (by decide +kernel)
set_option maxRecDepth 20000 in
theorem gX12_dueDays_X12_isHad : GoodIn wsX12_dueDays (wsV RX12 250 RX12 yX12_isHad wsX12_isHad) := goodIn_app (goodIn_of _ (by decide +kernel)) ggX12_dueDays_X12_isHad
set_option maxHeartbeats 4000000 in
set_option maxRecDepth 100000 in
theorem f_X12_dueDays (l : Launch) (D : va_G) (T : Nat → ClassId) (h0 : Nat) (fs0 : List Value) (h1 : Nat) (fs1 : List Value) (x1 : Int32) (x2 : Int32) (x3 : Int32) (e0_4 : fs0[4]? = some (.ref h1)) (e1_0 : fs1[0]? = some (.int 0)) : Met l yX12_dueDays wsX12_dueDays ({ frames := 3, cells := 0, slots := 0, locals := 66 }) (pR [.ref h0, .int x1, .int x2, .int x3] D T [(h0, .inr (9, fs0)), (h1, .inr (1, fs1))]) (vp_Si (fun r => r = -2)) 0 0 (fun _ => False) := by
  refine Met.ofW (cc := cX12_dueDays) (maxL := 4) (ret := (some .int)) (by decide) rfl ?_
  intro p e s m args below meth c s₁ B hml hv
  obtain ⟨rfl, hP, hE⟩ := hv
  have hx := B.exec
  have hb := B.bytes
  have hr := B.returns
  have hts := atoms_spec (ws := wsX12_dueDays) B.pre
  have hown : s.vm.findClass RX12 = some m.cls := findClass_of_methodNamed B.named
  have hlocks := B.notSynchronized
  have hP : va_P D vwCl [(h0, .inr (9, fs0)), (h1, .inr (1, fs1))] s.heap := hP
  have hl := lv_entry ([.ref h0, .int x1, .int x2, .int x3]) (n := 4) (Nat.le_of_ble_eq_true rfl)
  rw [lg_entry_eq]
  generalize (lg_sl ([.ref h0, .int x1, .int x2, .int x3]) ++ List.replicate (4 - (lg_sl ([.ref h0, .int x1, .int x2, .int x3])).length) Slot.unset).toArray = ls at hl ⊢
  have hl : lv_has ls 4 [(0, .ref h0), (1, .int x1), (2, .int x2), (3, .int x3)] := hl
  refine lv_aload_n hx hb dX12_dueDays_0 rfl (lv_at hl 0 rfl) ?_
  refine lv_iload_n hx hb dX12_dueDays_1 rfl (lv_at hl 1 rfl) ?_
  refine lv_iload_n hx hb dX12_dueDays_2 rfl (lv_at hl 2 rfl) ?_
  refine lv_iload_n hx hb dX12_dueDays_3 rfl (lv_at hl 3 rfl) ?_
  refine vp_callSi (W.runV (As := [.int x1, .int x2, .int x3]) (rest := []) ⟨hx, hb, hml, hown, hts⟩ (f_X12_isHad l D T h0 fs0 h1 fs1 x1 x2 x3 e0_4 e1_0) (cwV 3 hts gX12_dueDays_X12_isHad rfl rfl rfl (by decide +kernel) ⟨Nat.le_of_ble_eq_true rfl, Nat.le_of_ble_eq_true rfl⟩) (pR_V (ci := 9) (q0 := 0) hP hE rfl rfl [0, 1] rfl) rfl rfl hl.1 rfl (lv_room (Nat.le_of_ble_eq_true rfl)) dX12_dueDays_4 ⟨Nat.le_of_ble_eq_true rfl, Nat.le_of_ble_eq_true rfl⟩) (fun r_1 hr_1 => ?_)
  obtain rfl : r_1 = 0 := hr_1
  refine lv_if_ne (tgt := 13) hx hb dX12_dueDays_7 (by decide) (fun c9 => absurd c9 (by decide)) (fun _ => ?_)
  refine lv_bipush (v := (-2)) hx hb dX12_dueDays_10 (by decide) ?_
  exact W.iret hx hb hr (fun t ht hW => ⟨_, rfl, rfl, ht⟩) (fun _ h => by cases h) dX12_dueDays_12
theorem dX12_dues_0 : decode cX12_dues 0 = .ok (.aload_n 0, 1) := by decide +kernel
theorem dX12_dues_1 : decode cX12_dues 1 = .ok (.iload_n 1, 1) := by decide +kernel
theorem dX12_dues_2 : decode cX12_dues 2 = .ok (.iload_n 2, 1) := by decide +kernel
theorem dX12_dues_20 : decode cX12_dues 20 = .ok (.bipush (-2), 2) := by decide +kernel
theorem dX12_dues_22 : decode cX12_dues 22 = .ok (.ireturn, 1) := by decide +kernel
theorem dX12_dues_3 : decode cX12_dues 3 = .ok (.iload_n 3, 1) := by decide +kernel
theorem dX12_dues_4 : decode cX12_dues 4 = .ok (.invokevirtual 250, 3) := by decide +kernel
theorem dX12_dues_7 : decode cX12_dues 7 = .ok (.ifCond .eq 13, 3) := by decide +kernel
set_option maxRecDepth 20000 in
theorem ggX12_dues_X12_isHad : GoodIn wsX12_dues wsX12_isHad := goodIn_r _ [11, 12, 13, 14, 15, 16, 17, 18, 19, 10, 20, 21, 22, 23, 24, 25, 26, 27, 195, 196, 197, 198, 199, 200, 201, 202, 203, 204, 205, 219, 220, 221, 222, 223, 224, 225, 226] (by decide +kernel) (by decide +kernel)
set_option maxRecDepth 20000 in
theorem gX12_dues_X12_isHad : GoodIn wsX12_dues (wsV RX12 250 RX12 yX12_isHad wsX12_isHad) := goodIn_app (goodIn_of _ (by decide +kernel)) ggX12_dues_X12_isHad
set_option maxHeartbeats 4000000 in
set_option maxRecDepth 100000 in
theorem f_X12_dues (l : Launch) (D : va_G) (T : Nat → ClassId) (h0 : Nat) (fs0 : List Value) (h1 : Nat) (fs1 : List Value) (x1 : Int32) (x2 : Int32) (x3 : Int32) (x4 : Int32) (e0_4 : fs0[4]? = some (.ref h1)) (e1_0 : fs1[0]? = some (.int 0)) : Met l yX12_dues wsX12_dues ({ frames := 3, cells := 0, slots := 0, locals := 66 }) (pR [.ref h0, .int x1, .int x2, .int x3, .int x4] D T [(h0, .inr (9, fs0)), (h1, .inr (1, fs1))]) (vp_Si (fun r => r = -2)) 0 0 (fun _ => False) := by
  refine Met.ofW (cc := cX12_dues) (maxL := 7) (ret := (some .int)) (by decide) rfl ?_
  intro p e s m args below meth c s₁ B hml hv
  obtain ⟨rfl, hP, hE⟩ := hv
  have hx := B.exec
  have hb := B.bytes
  have hr := B.returns
  have hts := atoms_spec (ws := wsX12_dues) B.pre
  have hown : s.vm.findClass RX12 = some m.cls := findClass_of_methodNamed B.named
  have hlocks := B.notSynchronized
  have hP : va_P D vwCl [(h0, .inr (9, fs0)), (h1, .inr (1, fs1))] s.heap := hP
  have hl := lv_entry ([.ref h0, .int x1, .int x2, .int x3, .int x4]) (n := 7) (Nat.le_of_ble_eq_true rfl)
  rw [lg_entry_eq]
  generalize (lg_sl ([.ref h0, .int x1, .int x2, .int x3, .int x4]) ++ List.replicate (7 - (lg_sl ([.ref h0, .int x1, .int x2, .int x3, .int x4])).length) Slot.unset).toArray = ls at hl ⊢
  have hl : lv_has ls 7 [(0, .ref h0), (1, .int x1), (2, .int x2), (3, .int x3), (4, .int x4)] := hl
  refine lv_aload_n hx hb dX12_dues_0 rfl (lv_at hl 0 rfl) ?_
  refine lv_iload_n hx hb dX12_dues_1 rfl (lv_at hl 1 rfl) ?_
  refine lv_iload_n hx hb dX12_dues_2 rfl (lv_at hl 2 rfl) ?_
  refine lv_iload_n hx hb dX12_dues_3 rfl (lv_at hl 3 rfl) ?_
  refine vp_callSi (W.runV (As := [.int x1, .int x2, .int x3]) (rest := []) ⟨hx, hb, hml, hown, hts⟩ (f_X12_isHad l D T h0 fs0 h1 fs1 x1 x2 x3 e0_4 e1_0) (cwV 3 hts gX12_dues_X12_isHad rfl rfl rfl (by decide +kernel) ⟨Nat.le_of_ble_eq_true rfl, Nat.le_of_ble_eq_true rfl⟩) (pR_V (ci := 9) (q0 := 0) hP hE rfl rfl [0, 1] rfl) rfl rfl hl.1 rfl (lv_room (Nat.le_of_ble_eq_true rfl)) dX12_dues_4 ⟨Nat.le_of_ble_eq_true rfl, Nat.le_of_ble_eq_true rfl⟩) (fun r_1 hr_1 => ?_)
  obtain rfl : r_1 = 0 := hr_1
  refine lv_if_eq (tgt := 20) hx hb dX12_dues_7 (by decide) (fun _ => ?_) (fun c9 => absurd c9 (by decide))
  refine lv_bipush (v := (-2)) hx hb dX12_dues_20 (by decide) ?_
  exact W.iret hx hb hr (fun t ht hW => ⟨_, rfl, rfl, ht⟩) (fun _ h => by cases h) dX12_dues_22
theorem dX12_value_0 : decode cX12_value 0 = .ok (.aload_n 0, 1) := by decide +kernel
theorem dX12_value_1 : decode cX12_value 1 = .ok (.getfield 32, 3) := by decide +kernel
theorem dX12_value_29 : decode cX12_value 29 = .ok (.ldc2_w 183, 3) := by decide +kernel
theorem dX12_value_32 : decode cX12_value 32 = .ok (.lreturn, 1) := by decide +kernel
theorem dX12_value_4 : decode cX12_value 4 = .ok (.iload_n 1, 1) := by decide +kernel
theorem dX12_value_5 : decode cX12_value 5 = .ok (.invokevirtual 150, 3) := by decide +kernel
theorem dX12_value_8 : decode cX12_value 8 = .ok (.ifCond .eq 21, 3) := by decide +kernel
set_option maxRecDepth 20000 in
theorem ggX12_value_X2_has : GoodIn wsX12_value wsX2_has := goodIn_r _ [8, 9, 10, 11, 12, 142, 143, 144, 145, 146, 147, 148, 149] (by decide +kernel) (by decide +kernel)
set_option maxRecDepth 20000 in
theorem gX12_value_X2_has : GoodIn wsX12_value (wsV RX12 150 RX2 yX2_has wsX2_has) := goodIn_app (goodIn_of _ (by decide +kernel)) ggX12_value_X2_has
set_option maxRecDepth 20000 in
theorem in_X12_value_X12 : ∀ w ∈ wsX120, w ∈ wsX12_value := by decide +kernel
set_option maxHeartbeats 4000000 in
set_option maxRecDepth 100000 in
theorem f_X12_value (l : Launch) (D : va_G) (T : Nat → ClassId) (h0 : Nat) (fs0 : List Value) (h1 : Nat) (fs1 : List Value) (x1 : Int32) (x2 : Int32) (x3 : Int32) (x4 : Int32) (e0_4 : fs0[4]? = some (.ref h1)) (e1_0 : fs1[0]? = some (.int 0)) : Met l yX12_value wsX12_value ({ frames := 2, cells := 0, slots := 0, locals := 43 }) (pR [.ref h0, .int x1, .int x2, .int x3, .int x4] D T [(h0, .inr (9, fs0)), (h1, .inr (1, fs1))]) (vp_Sl (fun r => r = (-4611686018427387906))) 0 0 (fun _ => False) := by
  refine Met.ofW (cc := cX12_value) (maxL := 5) (ret := (some .long)) (by decide) rfl ?_
  intro p e s m args below meth c s₁ B hml hv
  obtain ⟨rfl, hP, hE⟩ := hv
  have hx := B.exec
  have hb := B.bytes
  have hr := B.returns
  have hts := atoms_spec (ws := wsX12_value) B.pre
  have hown : s.vm.findClass RX12 = some m.cls := findClass_of_methodNamed B.named
  have hlocks := B.notSynchronized
  have hP : va_P D vwCl [(h0, .inr (9, fs0)), (h1, .inr (1, fs1))] s.heap := hP
  have hl := lv_entry ([.ref h0, .int x1, .int x2, .int x3, .int x4]) (n := 5) (Nat.le_of_ble_eq_true rfl)
  rw [lg_entry_eq]
  generalize (lg_sl ([.ref h0, .int x1, .int x2, .int x3, .int x4]) ++ List.replicate (5 - (lg_sl ([.ref h0, .int x1, .int x2, .int x3, .int x4])).length) Slot.unset).toArray = ls at hl ⊢
  have hl : lv_has ls 5 [(0, .ref h0), (1, .int x1), (2, .int x2), (3, .int x3), (4, .int x4)] := hl
  refine lv_aload_n hx hb dX12_value_0 rfl (lv_at hl 0 rfl) ?_
  refine va_get (D := D) (ci := 9) (v := .ref h1) (C := RX12) (T := TX12) (N := 11) hx hb hts in_X12_value_X12 hown hE.1 hP 0 rfl rfl 4 (by decide) (hts (.fieldLink RX12 32 "ClauseBook" "clauses" "LClauseBook$Clauses;") (List.mem_of_getElem? (i := 1) rfl)) (fun _ h9 => h9) e0_4 dX12_value_1 ?_
  refine lv_iload_n hx hb dX12_value_4 rfl (lv_at hl 1 rfl) ?_
  refine vp_callSi (W.runV (As := [.int x1]) (rest := []) ⟨hx, hb, hml, hown, hts⟩ (c_X2_has l D T h1 fs1 x1 0 (-1) e1_0 (by decide)) (cwV 1 hts gX12_value_X2_has rfl rfl rfl (by decide +kernel) ⟨Nat.le_of_ble_eq_true rfl, Nat.le_of_ble_eq_true rfl⟩) (pR_V (ci := 1) (q0 := 1) hP hE rfl rfl [1] rfl) rfl rfl hl.1 rfl (lv_room (Nat.le_of_ble_eq_true rfl)) dX12_value_5 ⟨Nat.le_of_ble_eq_true rfl, Nat.le_of_ble_eq_true rfl⟩) (fun r_1 hr_1 => ?_)
  rcases bool_post hr_1 with ⟨c_2, rfl⟩ | ⟨c_2, rfl⟩
  · exact absurd c_2 (by omega)
  refine lv_if_eq (tgt := 29) hx hb dX12_value_8 (by decide) (fun _ => ?_) (fun c9 => absurd c9 (by decide))
  refine lv_ldc2 (v := (-4611686018427387906)) hx hb hown (hts (.constantLong RX12 183 (-4611686018427387906)) (List.mem_of_getElem? (i := 2) rfl)) dX12_value_29 ?_
  exact W.lret hx hb hr (fun t ht hW => ⟨_, rfl, rfl, ht⟩) (fun _ h => by cases h) dX12_value_32
theorem dX12_mean_0 : decode cX12_mean 0 = .ok (.aload_n 0, 1) := by decide +kernel
theorem dX12_mean_1 : decode cX12_mean 1 = .ok (.getfield 32, 3) := by decide +kernel
theorem dX12_mean_35 : decode cX12_mean 35 = .ok (.ldc2_w 183, 3) := by decide +kernel
theorem dX12_mean_38 : decode cX12_mean 38 = .ok (.lreturn, 1) := by decide +kernel
theorem dX12_mean_4 : decode cX12_mean 4 = .ok (.iload_n 1, 1) := by decide +kernel
theorem dX12_mean_5 : decode cX12_mean 5 = .ok (.invokevirtual 150, 3) := by decide +kernel
theorem dX12_mean_8 : decode cX12_mean 8 = .ok (.ifCond .eq 27, 3) := by decide +kernel
set_option maxRecDepth 20000 in
theorem ggX12_mean_X2_has : GoodIn wsX12_mean wsX2_has := goodIn_r _ [8, 9, 10, 11, 12, 142, 143, 144, 145, 146, 147, 148, 149] (by decide +kernel) (by decide +kernel)
set_option maxRecDepth 20000 in
theorem gX12_mean_X2_has : GoodIn wsX12_mean (wsV RX12 150 RX2 yX2_has wsX2_has) := goodIn_app (goodIn_of _ (by decide +kernel)) ggX12_mean_X2_has
set_option maxRecDepth 20000 in
theorem in_X12_mean_X12 : ∀ w ∈ wsX120, w ∈ wsX12_mean := by decide +kernel
set_option maxHeartbeats 4000000 in
set_option maxRecDepth 100000 in
theorem f_X12_mean (l : Launch) (D : va_G) (T : Nat → ClassId) (h0 : Nat) (fs0 : List Value) (h1 : Nat) (fs1 : List Value) (x1 : Int32) (x2 : Int32) (x3 : Int32) (x4 : Int32) (e0_4 : fs0[4]? = some (.ref h1)) (e1_0 : fs1[0]? = some (.int 0)) : Met l yX12_mean wsX12_mean ({ frames := 2, cells := 0, slots := 0, locals := 43 }) (pR [.ref h0, .int x1, .int x2, .int x3, .int x4] D T [(h0, .inr (9, fs0)), (h1, .inr (1, fs1))]) (vp_Sl (fun r => r = (-4611686018427387906))) 0 0 (fun _ => False) := by
  refine Met.ofW (cc := cX12_mean) (maxL := 5) (ret := (some .long)) (by decide) rfl ?_
  intro p e s m args below meth c s₁ B hml hv
  obtain ⟨rfl, hP, hE⟩ := hv
  have hx := B.exec
  have hb := B.bytes
  have hr := B.returns
  have hts := atoms_spec (ws := wsX12_mean) B.pre
  have hown : s.vm.findClass RX12 = some m.cls := findClass_of_methodNamed B.named
  have hlocks := B.notSynchronized
  have hP : va_P D vwCl [(h0, .inr (9, fs0)), (h1, .inr (1, fs1))] s.heap := hP
  have hl := lv_entry ([.ref h0, .int x1, .int x2, .int x3, .int x4]) (n := 5) (Nat.le_of_ble_eq_true rfl)
  rw [lg_entry_eq]
  generalize (lg_sl ([.ref h0, .int x1, .int x2, .int x3, .int x4]) ++ List.replicate (5 - (lg_sl ([.ref h0, .int x1, .int x2, .int x3, .int x4])).length) Slot.unset).toArray = ls at hl ⊢
  have hl : lv_has ls 5 [(0, .ref h0), (1, .int x1), (2, .int x2), (3, .int x3), (4, .int x4)] := hl
  refine lv_aload_n hx hb dX12_mean_0 rfl (lv_at hl 0 rfl) ?_
  refine va_get (D := D) (ci := 9) (v := .ref h1) (C := RX12) (T := TX12) (N := 11) hx hb hts in_X12_mean_X12 hown hE.1 hP 0 rfl rfl 4 (by decide) (hts (.fieldLink RX12 32 "ClauseBook" "clauses" "LClauseBook$Clauses;") (List.mem_of_getElem? (i := 1) rfl)) (fun _ h9 => h9) e0_4 dX12_mean_1 ?_
  refine lv_iload_n hx hb dX12_mean_4 rfl (lv_at hl 1 rfl) ?_
  refine vp_callSi (W.runV (As := [.int x1]) (rest := []) ⟨hx, hb, hml, hown, hts⟩ (c_X2_has l D T h1 fs1 x1 0 (-1) e1_0 (by decide)) (cwV 1 hts gX12_mean_X2_has rfl rfl rfl (by decide +kernel) ⟨Nat.le_of_ble_eq_true rfl, Nat.le_of_ble_eq_true rfl⟩) (pR_V (ci := 1) (q0 := 1) hP hE rfl rfl [1] rfl) rfl rfl hl.1 rfl (lv_room (Nat.le_of_ble_eq_true rfl)) dX12_mean_5 ⟨Nat.le_of_ble_eq_true rfl, Nat.le_of_ble_eq_true rfl⟩) (fun r_1 hr_1 => ?_)
  rcases bool_post hr_1 with ⟨c_2, rfl⟩ | ⟨c_2, rfl⟩
  · exact absurd c_2 (by omega)
  refine lv_if_eq (tgt := 35) hx hb dX12_mean_8 (by decide) (fun _ => ?_) (fun c9 => absurd c9 (by decide))
  refine lv_ldc2 (v := (-4611686018427387906)) hx hb hown (hts (.constantLong RX12 183 (-4611686018427387906)) (List.mem_of_getElem? (i := 2) rfl)) dX12_mean_35 ?_
  exact W.lret hx hb hr (fun t ht hW => ⟨_, rfl, rfl, ht⟩) (fun _ h => by cases h) dX12_mean_38
theorem dX12_valueAs_0 : decode cX12_valueAs 0 = .ok (.aload_n 0, 1) := by decide +kernel
theorem dX12_valueAs_1 : decode cX12_valueAs 1 = .ok (.getfield 32, 3) := by decide +kernel
theorem dX12_valueAs_29 : decode cX12_valueAs 29 = .ok (.ldc2_w 183, 3) := by decide +kernel
theorem dX12_valueAs_32 : decode cX12_valueAs 32 = .ok (.lreturn, 1) := by decide +kernel
theorem dX12_valueAs_4 : decode cX12_valueAs 4 = .ok (.iload_n 1, 1) := by decide +kernel
theorem dX12_valueAs_5 : decode cX12_valueAs 5 = .ok (.invokevirtual 150, 3) := by decide +kernel
theorem dX12_valueAs_8 : decode cX12_valueAs 8 = .ok (.ifCond .eq 21, 3) := by decide +kernel
set_option maxRecDepth 20000 in
theorem ggX12_valueAs_X2_has : GoodIn wsX12_valueAs wsX2_has := goodIn_r _ [15, 16, 17, 18, 19, 170, 171, 172, 173, 174, 175, 176, 177] (by decide +kernel) (by decide +kernel)
set_option maxRecDepth 20000 in
theorem gX12_valueAs_X2_has : GoodIn wsX12_valueAs (wsV RX12 150 RX2 yX2_has wsX2_has) := goodIn_app (goodIn_of _ (by decide +kernel)) ggX12_valueAs_X2_has
set_option maxRecDepth 20000 in
theorem in_X12_valueAs_X12 : ∀ w ∈ wsX120, w ∈ wsX12_valueAs := by decide +kernel
set_option maxHeartbeats 4000000 in
set_option maxRecDepth 100000 in
theorem f_X12_valueAs (l : Launch) (D : va_G) (T : Nat → ClassId) (h0 : Nat) (fs0 : List Value) (h1 : Nat) (fs1 : List Value) (x1 : Int32) (x2 : Int32) (x3 : Int32) (x4 : Int32) (e0_4 : fs0[4]? = some (.ref h1)) (e1_0 : fs1[0]? = some (.int 0)) : Met l yX12_valueAs wsX12_valueAs ({ frames := 2, cells := 0, slots := 0, locals := 43 }) (pR [.ref h0, .int x1, .int x2, .int x3, .int x4] D T [(h0, .inr (9, fs0)), (h1, .inr (1, fs1))]) (vp_Sl (fun r => r = (-4611686018427387906))) 0 0 (fun _ => False) := by
  refine Met.ofW (cc := cX12_valueAs) (maxL := 8) (ret := (some .long)) (by decide) rfl ?_
  intro p e s m args below meth c s₁ B hml hv
  obtain ⟨rfl, hP, hE⟩ := hv
  have hx := B.exec
  have hb := B.bytes
  have hr := B.returns
  have hts := atoms_spec (ws := wsX12_valueAs) B.pre
  have hown : s.vm.findClass RX12 = some m.cls := findClass_of_methodNamed B.named
  have hlocks := B.notSynchronized
  have hP : va_P D vwCl [(h0, .inr (9, fs0)), (h1, .inr (1, fs1))] s.heap := hP
  have hl := lv_entry ([.ref h0, .int x1, .int x2, .int x3, .int x4]) (n := 8) (Nat.le_of_ble_eq_true rfl)
  rw [lg_entry_eq]
  generalize (lg_sl ([.ref h0, .int x1, .int x2, .int x3, .int x4]) ++ List.replicate (8 - (lg_sl ([.ref h0, .int x1, .int x2, .int x3, .int x4])).length) Slot.unset).toArray = ls at hl ⊢
  have hl : lv_has ls 8 [(0, .ref h0), (1, .int x1), (2, .int x2), (3, .int x3), (4, .int x4)] := hl
  refine lv_aload_n hx hb dX12_valueAs_0 rfl (lv_at hl 0 rfl) ?_
  refine va_get (D := D) (ci := 9) (v := .ref h1) (C := RX12) (T := TX12) (N := 11) hx hb hts in_X12_valueAs_X12 hown hE.1 hP 0 rfl rfl 4 (by decide) (hts (.fieldLink RX12 32 "ClauseBook" "clauses" "LClauseBook$Clauses;") (List.mem_of_getElem? (i := 1) rfl)) (fun _ h9 => h9) e0_4 dX12_valueAs_1 ?_
  refine lv_iload_n hx hb dX12_valueAs_4 rfl (lv_at hl 1 rfl) ?_
  refine vp_callSi (W.runV (As := [.int x1]) (rest := []) ⟨hx, hb, hml, hown, hts⟩ (c_X2_has l D T h1 fs1 x1 0 (-1) e1_0 (by decide)) (cwV 1 hts gX12_valueAs_X2_has rfl rfl rfl (by decide +kernel) ⟨Nat.le_of_ble_eq_true rfl, Nat.le_of_ble_eq_true rfl⟩) (pR_V (ci := 1) (q0 := 1) hP hE rfl rfl [1] rfl) rfl rfl hl.1 rfl (lv_room (Nat.le_of_ble_eq_true rfl)) dX12_valueAs_5 ⟨Nat.le_of_ble_eq_true rfl, Nat.le_of_ble_eq_true rfl⟩) (fun r_1 hr_1 => ?_)
  rcases bool_post hr_1 with ⟨c_2, rfl⟩ | ⟨c_2, rfl⟩
  · exact absurd c_2 (by omega)
  refine lv_if_eq (tgt := 29) hx hb dX12_valueAs_8 (by decide) (fun _ => ?_) (fun c9 => absurd c9 (by decide))
  refine lv_ldc2 (v := (-4611686018427387906)) hx hb hown (hts (.constantLong RX12 183 (-4611686018427387906)) (List.mem_of_getElem? (i := 2) rfl)) dX12_valueAs_29 ?_
  exact W.lret hx hb hr (fun t ht hW => ⟨_, rfl, rfl, ht⟩) (fun _ h => by cases h) dX12_valueAs_32
theorem dX12_due_0 : decode cX12_due 0 = .ok (.aload_n 0, 1) := by decide +kernel
theorem dX12_due_1 : decode cX12_due 1 = .ok (.iload_n 1, 1) := by decide +kernel
theorem dX12_due_18 : decode cX12_due 18 = .ok (.ldc2_w 183, 3) := by decide +kernel
theorem dX12_due_2 : decode cX12_due 2 = .ok (.iload_n 2, 1) := by decide +kernel
theorem dX12_due_21 : decode cX12_due 21 = .ok (.lreturn, 1) := by decide +kernel
theorem dX12_due_3 : decode cX12_due 3 = .ok (.iload_n 3, 1) := by decide +kernel
theorem dX12_due_4 : decode cX12_due 4 = .ok (.invokevirtual 250, 3) := by decide +kernel
theorem dX12_due_7 : decode cX12_due 7 = .ok (.ifCond .eq 11, 3) := by decide +kernel
set_option maxRecDepth 20000 in
theorem ggX12_due_X12_isHad : GoodIn wsX12_due wsX12_isHad := goodIn_r _ [10, 11, 12, 13, 14, 15, 16, 17, 18, 9, 19, 20, 21, 22, 23, 24, 25, 26, 184, 185, 186, 187, 188, 189, 190, 191, 192, 193, 194, 202, 203, 204, 205, 206, 207, 208, 209] (by decide +kernel) (by decide +kernel)
set_option maxRecDepth 20000 in
theorem gX12_due_X12_isHad : GoodIn wsX12_due (wsV RX12 250 RX12 yX12_isHad wsX12_isHad) := goodIn_app (goodIn_of _ (by decide +kernel)) ggX12_due_X12_isHad
set_option maxHeartbeats 4000000 in
set_option maxRecDepth 100000 in
theorem f_X12_due (l : Launch) (D : va_G) (T : Nat → ClassId) (h0 : Nat) (fs0 : List Value) (h1 : Nat) (fs1 : List Value) (x1 : Int32) (x2 : Int32) (x3 : Int32) (x4 : Int32) (e0_4 : fs0[4]? = some (.ref h1)) (e1_0 : fs1[0]? = some (.int 0)) : Met l yX12_due wsX12_due ({ frames := 3, cells := 0, slots := 0, locals := 66 }) (pR [.ref h0, .int x1, .int x2, .int x3, .int x4] D T [(h0, .inr (9, fs0)), (h1, .inr (1, fs1))]) (vp_Sl (fun r => r = (-4611686018427387906))) 0 0 (fun _ => False) := by
  refine Met.ofW (cc := cX12_due) (maxL := 5) (ret := (some .long)) (by decide) rfl ?_
  intro p e s m args below meth c s₁ B hml hv
  obtain ⟨rfl, hP, hE⟩ := hv
  have hx := B.exec
  have hb := B.bytes
  have hr := B.returns
  have hts := atoms_spec (ws := wsX12_due) B.pre
  have hown : s.vm.findClass RX12 = some m.cls := findClass_of_methodNamed B.named
  have hlocks := B.notSynchronized
  have hP : va_P D vwCl [(h0, .inr (9, fs0)), (h1, .inr (1, fs1))] s.heap := hP
  have hl := lv_entry ([.ref h0, .int x1, .int x2, .int x3, .int x4]) (n := 5) (Nat.le_of_ble_eq_true rfl)
  rw [lg_entry_eq]
  generalize (lg_sl ([.ref h0, .int x1, .int x2, .int x3, .int x4]) ++ List.replicate (5 - (lg_sl ([.ref h0, .int x1, .int x2, .int x3, .int x4])).length) Slot.unset).toArray = ls at hl ⊢
  have hl : lv_has ls 5 [(0, .ref h0), (1, .int x1), (2, .int x2), (3, .int x3), (4, .int x4)] := hl
  refine lv_aload_n hx hb dX12_due_0 rfl (lv_at hl 0 rfl) ?_
  refine lv_iload_n hx hb dX12_due_1 rfl (lv_at hl 1 rfl) ?_
  refine lv_iload_n hx hb dX12_due_2 rfl (lv_at hl 2 rfl) ?_
  refine lv_iload_n hx hb dX12_due_3 rfl (lv_at hl 3 rfl) ?_
  refine vp_callSi (W.runV (As := [.int x1, .int x2, .int x3]) (rest := []) ⟨hx, hb, hml, hown, hts⟩ (f_X12_isHad l D T h0 fs0 h1 fs1 x1 x2 x3 e0_4 e1_0) (cwV 3 hts gX12_due_X12_isHad rfl rfl rfl (by decide +kernel) ⟨Nat.le_of_ble_eq_true rfl, Nat.le_of_ble_eq_true rfl⟩) (pR_V (ci := 9) (q0 := 0) hP hE rfl rfl [0, 1] rfl) rfl rfl hl.1 rfl (lv_room (Nat.le_of_ble_eq_true rfl)) dX12_due_4 ⟨Nat.le_of_ble_eq_true rfl, Nat.le_of_ble_eq_true rfl⟩) (fun r_1 hr_1 => ?_)
  obtain rfl : r_1 = 0 := hr_1
  refine lv_if_eq (tgt := 18) hx hb dX12_due_7 (by decide) (fun _ => ?_) (fun c9 => absurd c9 (by decide))
  refine lv_ldc2 (v := (-4611686018427387906)) hx hb hown (hts (.constantLong RX12 183 (-4611686018427387906)) (List.mem_of_getElem? (i := 1) rfl)) dX12_due_18 ?_
  exact W.lret hx hb hr (fun t ht hW => ⟨_, rfl, rfl, ht⟩) (fun _ h => by cases h) dX12_due_21
theorem dX12_failed_0 : decode cX12_failed 0 = .ok (.aload_n 0, 1) := by decide +kernel
theorem dX12_failed_1 : decode cX12_failed 1 = .ok (.iload_n 1, 1) := by decide +kernel
theorem dX12_failed_2 : decode cX12_failed 2 = .ok (.iload_n 2, 1) := by decide +kernel
theorem dX12_failed_29 : decode cX12_failed 29 = .ok (.ldc2_w 183, 3) := by decide +kernel
theorem dX12_failed_3 : decode cX12_failed 3 = .ok (.iload_n 3, 1) := by decide +kernel
theorem dX12_failed_32 : decode cX12_failed 32 = .ok (.lreturn, 1) := by decide +kernel
theorem dX12_failed_4 : decode cX12_failed 4 = .ok (.invokevirtual 250, 3) := by decide +kernel
theorem dX12_failed_7 : decode cX12_failed 7 = .ok (.ifCond .eq 22, 3) := by decide +kernel
set_option maxRecDepth 20000 in
theorem ggX12_failed_X12_isHad : GoodIn wsX12_failed wsX12_isHad := goodIn_r _ [10, 11, 12, 13, 14, 15, 16, 17, 18, 9, 19, 20, 21, 22, 23, 24, 25, 26, 190, 191, 192, 193, 194, 195, 196, 197, 198, 199, 200, 208, 209, 210, 211, 212, 213, 214, 215] (by decide +kernel) (by decide +kernel)
set_option maxRecDepth 20000 in
theorem gX12_failed_X12_isHad : GoodIn wsX12_failed (wsV RX12 250 RX12 yX12_isHad wsX12_isHad) := goodIn_app (goodIn_of _ (by decide +kernel)) ggX12_failed_X12_isHad
set_option maxHeartbeats 4000000 in
set_option maxRecDepth 100000 in
theorem f_X12_failed (l : Launch) (D : va_G) (T : Nat → ClassId) (h0 : Nat) (fs0 : List Value) (h1 : Nat) (fs1 : List Value) (x1 : Int32) (x2 : Int32) (x3 : Int32) (x4 : Int32) (x5 : Int32) (e0_4 : fs0[4]? = some (.ref h1)) (e1_0 : fs1[0]? = some (.int 0)) : Met l yX12_failed wsX12_failed ({ frames := 3, cells := 0, slots := 0, locals := 66 }) (pR [.ref h0, .int x1, .int x2, .int x3, .int x4, .int x5] D T [(h0, .inr (9, fs0)), (h1, .inr (1, fs1))]) (vp_Sl (fun r => r = (-4611686018427387906))) 0 0 (fun _ => False) := by
  refine Met.ofW (cc := cX12_failed) (maxL := 12) (ret := (some .long)) (by decide) rfl ?_
  intro p e s m args below meth c s₁ B hml hv
  obtain ⟨rfl, hP, hE⟩ := hv
  have hx := B.exec
  have hb := B.bytes
  have hr := B.returns
  have hts := atoms_spec (ws := wsX12_failed) B.pre
  have hown : s.vm.findClass RX12 = some m.cls := findClass_of_methodNamed B.named
  have hlocks := B.notSynchronized
  have hP : va_P D vwCl [(h0, .inr (9, fs0)), (h1, .inr (1, fs1))] s.heap := hP
  have hl := lv_entry ([.ref h0, .int x1, .int x2, .int x3, .int x4, .int x5]) (n := 12) (Nat.le_of_ble_eq_true rfl)
  rw [lg_entry_eq]
  generalize (lg_sl ([.ref h0, .int x1, .int x2, .int x3, .int x4, .int x5]) ++ List.replicate (12 - (lg_sl ([.ref h0, .int x1, .int x2, .int x3, .int x4, .int x5])).length) Slot.unset).toArray = ls at hl ⊢
  have hl : lv_has ls 12 [(0, .ref h0), (1, .int x1), (2, .int x2), (3, .int x3), (4, .int x4), (5, .int x5)] := hl
  refine lv_aload_n hx hb dX12_failed_0 rfl (lv_at hl 0 rfl) ?_
  refine lv_iload_n hx hb dX12_failed_1 rfl (lv_at hl 1 rfl) ?_
  refine lv_iload_n hx hb dX12_failed_2 rfl (lv_at hl 2 rfl) ?_
  refine lv_iload_n hx hb dX12_failed_3 rfl (lv_at hl 3 rfl) ?_
  refine vp_callSi (W.runV (As := [.int x1, .int x2, .int x3]) (rest := []) ⟨hx, hb, hml, hown, hts⟩ (f_X12_isHad l D T h0 fs0 h1 fs1 x1 x2 x3 e0_4 e1_0) (cwV 3 hts gX12_failed_X12_isHad rfl rfl rfl (by decide +kernel) ⟨Nat.le_of_ble_eq_true rfl, Nat.le_of_ble_eq_true rfl⟩) (pR_V (ci := 9) (q0 := 0) hP hE rfl rfl [0, 1] rfl) rfl rfl hl.1 rfl (lv_room (Nat.le_of_ble_eq_true rfl)) dX12_failed_4 ⟨Nat.le_of_ble_eq_true rfl, Nat.le_of_ble_eq_true rfl⟩) (fun r_1 hr_1 => ?_)
  obtain rfl : r_1 = 0 := hr_1
  refine lv_if_eq (tgt := 29) hx hb dX12_failed_7 (by decide) (fun _ => ?_) (fun c9 => absurd c9 (by decide))
  refine lv_ldc2 (v := (-4611686018427387906)) hx hb hown (hts (.constantLong RX12 183 (-4611686018427387906)) (List.mem_of_getElem? (i := 1) rfl)) dX12_failed_29 ?_
  exact W.lret hx hb hr (fun t ht hW => ⟨_, rfl, rfl, ht⟩) (fun _ h => by cases h) dX12_failed_32
theorem dX12_put_0 : decode cX12_put 0 = .ok (.iload_n 1, 1) := by decide +kernel
theorem dX12_put_1 : decode cX12_put 1 = .ok (.invokestatic 300, 3) := by decide +kernel
theorem dX12_put_11 : decode cX12_put 11 = .ok (.iload_n 2, 1) := by decide +kernel
theorem dX12_put_12 : decode cX12_put 12 = .ok (.invokevirtual 150, 3) := by decide +kernel
theorem dX12_put_15 : decode cX12_put 15 = .ok (.ifCond .ne 6, 3) := by decide +kernel
theorem dX12_put_18 : decode cX12_put 18 = .ok (.bipush (-2), 2) := by decide +kernel
theorem dX12_put_20 : decode cX12_put 20 = .ok (.ireturn, 1) := by decide +kernel
theorem dX12_put_4 : decode cX12_put 4 = .ok (.ifCond .eq 14, 3) := by decide +kernel
theorem dX12_put_7 : decode cX12_put 7 = .ok (.aload_n 0, 1) := by decide +kernel
theorem dX12_put_8 : decode cX12_put 8 = .ok (.getfield 32, 3) := by decide +kernel
set_option maxRecDepth 20000 in
theorem ggX12_put_X12_isBag : GoodIn wsX12_put wsX12_isBag := goodIn_r _ [7, 8, 9, 6, 10] (by decide +kernel) (by decide +kernel)
set_option maxRecDepth 20000 in
theorem ggX12_put_X2_has : GoodIn wsX12_put wsX2_has := goodIn_r _ [15, 16, 9, 6, 10, 37, 38, 39, 40, 41, 42, 43, 44] (by decide +kernel) (by decide +kernel)
set_option maxRecDepth 20000 in
theorem gX12_put_X12_isBag : GoodIn wsX12_put (va_wsS RX12 300 yX12_isBag wsX12_isBag) := goodIn_app (goodIn_of _ (by decide +kernel)) ggX12_put_X12_isBag
set_option maxRecDepth 20000 in
theorem gX12_put_X2_has : GoodIn wsX12_put (wsV RX12 150 RX2 yX2_has wsX2_has) := goodIn_app (goodIn_of _ (by decide +kernel)) ggX12_put_X2_has
set_option maxRecDepth 20000 in
theorem in_X12_put_X12 : ∀ w ∈ wsX120, w ∈ wsX12_put := by decide +kernel
set_option maxHeartbeats 4000000 in
set_option maxRecDepth 100000 in
theorem f_X12_put (l : Launch) (D : va_G) (T : Nat → ClassId) (h0 : Nat) (fs0 : List Value) (h1 : Nat) (fs1 : List Value) (x1 : Int32) (x2 : Int32) (e0_4 : fs0[4]? = some (.ref h1)) (e1_0 : fs1[0]? = some (.int 0)) : Met l yX12_put wsX12_put ({ frames := 2, cells := 0, slots := 0, locals := 43 }) (pR [.ref h0, .int x1, .int x2] D T [(h0, .inr (9, fs0)), (h1, .inr (1, fs1))]) (vp_Si (fun r => r = -2)) 0 0 (fun _ => False) := by
  refine Met.ofW (cc := cX12_put) (maxL := 3) (ret := (some .int)) (by decide) rfl ?_
  intro p e s m args below meth c s₁ B hml hv
  obtain ⟨rfl, hP, hE⟩ := hv
  have hx := B.exec
  have hb := B.bytes
  have hr := B.returns
  have hts := atoms_spec (ws := wsX12_put) B.pre
  have hown : s.vm.findClass RX12 = some m.cls := findClass_of_methodNamed B.named
  have hlocks := B.notSynchronized
  have hP : va_P D vwCl [(h0, .inr (9, fs0)), (h1, .inr (1, fs1))] s.heap := hP
  have hl := lv_entry ([.ref h0, .int x1, .int x2]) (n := 3) (Nat.le_of_ble_eq_true rfl)
  rw [lg_entry_eq]
  generalize (lg_sl ([.ref h0, .int x1, .int x2]) ++ List.replicate (3 - (lg_sl ([.ref h0, .int x1, .int x2])).length) Slot.unset).toArray = ls at hl ⊢
  have hl : lv_has ls 3 [(0, .ref h0), (1, .int x1), (2, .int x2)] := hl
  refine lv_iload_n hx hb dX12_put_0 rfl (lv_at hl 1 rfl) ?_
  refine vp_callSi (W.runS (As := [.int x1]) (rest := []) ⟨hx, hb, hml, hown, hts⟩ (c_X12_isBag l D T x1) (va_cwS 1 hts gX12_put_X12_isBag rfl rfl rfl (by decide +kernel) ⟨Nat.le_of_ble_eq_true rfl, Nat.le_of_ble_eq_true rfl⟩) (pR_S hP hE [] rfl) rfl rfl hl.1 rfl (lv_room (Nat.le_of_ble_eq_true rfl)) dX12_put_1 ⟨Nat.le_of_ble_eq_true rfl, Nat.le_of_ble_eq_true rfl⟩) (fun r_1 hr_1 => ?_)
  rcases bool_post hr_1 with ⟨c_2, rfl⟩ | ⟨c_2, rfl⟩
  · refine lv_if_eq (tgt := 18) hx hb dX12_put_4 (by decide) (fun c9 => absurd c9 (by decide)) (fun _ => ?_)
    refine lv_aload_n hx hb dX12_put_7 rfl (lv_at hl 0 rfl) ?_
    refine va_get (D := D) (ci := 9) (v := .ref h1) (C := RX12) (T := TX12) (N := 11) hx hb hts in_X12_put_X12 hown hE.1 hP 0 rfl rfl 4 (by decide) (hts (.fieldLink RX12 32 "ClauseBook" "clauses" "LClauseBook$Clauses;") (List.mem_of_getElem? (i := 1) rfl)) (fun _ h9 => h9) e0_4 dX12_put_8 ?_
    refine lv_iload_n hx hb dX12_put_11 rfl (lv_at hl 2 rfl) ?_
    refine vp_callSi (W.runV (As := [.int x2]) (rest := []) ⟨hx, hb, hml, hown, hts⟩ (c_X2_has l D T h1 fs1 x2 0 (-1) e1_0 (by decide)) (cwV 1 hts gX12_put_X2_has rfl rfl rfl (by decide +kernel) ⟨Nat.le_of_ble_eq_true rfl, Nat.le_of_ble_eq_true rfl⟩) (pR_V (ci := 1) (q0 := 1) hP hE rfl rfl [1] rfl) rfl rfl hl.1 rfl (lv_room (Nat.le_of_ble_eq_true rfl)) dX12_put_12 ⟨Nat.le_of_ble_eq_true rfl, Nat.le_of_ble_eq_true rfl⟩) (fun r_3 hr_3 => ?_)
    rcases bool_post hr_3 with ⟨c_4, rfl⟩ | ⟨c_4, rfl⟩
    · exact absurd c_4 (by omega)
    refine lv_if_ne (tgt := 21) hx hb dX12_put_15 (by decide) (fun c9 => absurd c9 (by decide)) (fun _ => ?_)
    refine lv_bipush (v := (-2)) hx hb dX12_put_18 (by decide) ?_
    exact W.iret hx hb hr (fun t ht hW => ⟨_, rfl, rfl, ht⟩) (fun _ h => by cases h) dX12_put_20
  · refine lv_if_eq (tgt := 18) hx hb dX12_put_4 (by decide) (fun _ => ?_) (fun c9 => absurd c9 (by decide))
    refine lv_bipush (v := (-2)) hx hb dX12_put_18 (by decide) ?_
    exact W.iret hx hb hr (fun t ht hW => ⟨_, rfl, rfl, ht⟩) (fun _ h => by cases h) dX12_put_20
theorem dX12_drop_0 : decode cX12_drop 0 = .ok (.aload_n 0, 1) := by decide +kernel
theorem dX12_drop_1 : decode cX12_drop 1 = .ok (.getfield 32, 3) := by decide +kernel
theorem dX12_drop_10 : decode cX12_drop 10 = .ok (.bipush (-3), 2) := by decide +kernel
theorem dX12_drop_12 : decode cX12_drop 12 = .ok (.ireturn, 1) := by decide +kernel
theorem dX12_drop_4 : decode cX12_drop 4 = .ok (.getfield 138, 3) := by decide +kernel
theorem dX12_drop_7 : decode cX12_drop 7 = .ok (.ifCond .gt 6, 3) := by decide +kernel
set_option maxRecDepth 20000 in
theorem in_X12_drop_X12 : ∀ w ∈ wsX120, w ∈ wsX12_drop := by decide +kernel
set_option maxRecDepth 20000 in
theorem in_X12_drop_X2 : ∀ w ∈ wsX20, w ∈ wsX12_drop := by decide +kernel
set_option maxHeartbeats 4000000 in
set_option maxRecDepth 100000 in
theorem f_X12_drop (l : Launch) (D : va_G) (T : Nat → ClassId) (h0 : Nat) (fs0 : List Value) (h1 : Nat) (fs1 : List Value) (e0_4 : fs0[4]? = some (.ref h1)) (e1_0 : fs1[0]? = some (.int 0)) : Met l yX12_drop wsX12_drop ({ frames := 0, cells := 0, slots := 0, locals := 0 }) (pR [.ref h0] D T [(h0, .inr (9, fs0)), (h1, .inr (1, fs1))]) (vp_Si (fun r => r = -3)) 0 0 (fun _ => False) := by
  refine Met.ofW (cc := cX12_drop) (maxL := 1) (ret := (some .int)) (by decide) rfl ?_
  intro p e s m args below meth c s₁ B hml hv
  obtain ⟨rfl, hP, hE⟩ := hv
  have hx := B.exec
  have hb := B.bytes
  have hr := B.returns
  have hts := atoms_spec (ws := wsX12_drop) B.pre
  have hown : s.vm.findClass RX12 = some m.cls := findClass_of_methodNamed B.named
  have hlocks := B.notSynchronized
  have hP : va_P D vwCl [(h0, .inr (9, fs0)), (h1, .inr (1, fs1))] s.heap := hP
  have hl := lv_entry ([.ref h0]) (n := 1) (Nat.le_of_ble_eq_true rfl)
  rw [lg_entry_eq]
  generalize (lg_sl ([.ref h0]) ++ List.replicate (1 - (lg_sl ([.ref h0])).length) Slot.unset).toArray = ls at hl ⊢
  have hl : lv_has ls 1 [(0, .ref h0)] := hl
  refine lv_aload_n hx hb dX12_drop_0 rfl (lv_at hl 0 rfl) ?_
  refine va_get (D := D) (ci := 9) (v := .ref h1) (C := RX12) (T := TX12) (N := 11) hx hb hts in_X12_drop_X12 hown hE.1 hP 0 rfl rfl 4 (by decide) (hts (.fieldLink RX12 32 "ClauseBook" "clauses" "LClauseBook$Clauses;") (List.mem_of_getElem? (i := 1) rfl)) (fun _ h9 => h9) e0_4 dX12_drop_1 ?_
  refine va_get (D := D) (ci := 1) (v := .int 0) (C := RX2) (T := TX2) (N := 8) hx hb hts in_X12_drop_X2 hown hE.1 hP 1 rfl rfl 0 (by decide) (hts (.fieldLink RX12 138 "ClauseBook$Clauses" "size" "I") (List.mem_of_getElem? (i := 2) rfl)) (fun _ h9 => h9) e1_0 dX12_drop_4 ?_
  refine lv_if_gt (tgt := 13) hx hb dX12_drop_7 (by decide) (fun c9 => absurd c9 (by decide)) (fun _ => ?_)
  refine lv_bipush (v := (-3)) hx hb dX12_drop_10 (by decide) ?_
  exact W.iret hx hb hr (fun t ht hW => ⟨_, rfl, rfl, ht⟩) (fun _ h => by cases h) dX12_drop_12
theorem dX12_back_0 : decode cX12_back 0 = .ok (.aload_n 0, 1) := by decide +kernel
theorem dX12_back_1 : decode cX12_back 1 = .ok (.getfield 19, 3) := by decide +kernel
theorem dX12_back_4 : decode cX12_back 4 = .ok (.ifCond .ne 6, 3) := by decide +kernel
theorem dX12_back_7 : decode cX12_back 7 = .ok (.bipush (-3), 2) := by decide +kernel
theorem dX12_back_9 : decode cX12_back 9 = .ok (.ireturn, 1) := by decide +kernel
set_option maxRecDepth 20000 in
theorem in_X12_back_X12 : ∀ w ∈ wsX120, w ∈ wsX12_back := by decide +kernel
set_option maxHeartbeats 4000000 in
set_option maxRecDepth 100000 in
theorem f_X12_back (l : Launch) (D : va_G) (T : Nat → ClassId) (h0 : Nat) (fs0 : List Value) (e0_2 : fs0[2]? = some (.int 0)) : Met l yX12_back wsX12_back ({ frames := 0, cells := 0, slots := 0, locals := 0 }) (pR [.ref h0] D T [(h0, .inr (9, fs0))]) (vp_Si (fun r => r = -3)) 0 0 (fun _ => False) := by
  refine Met.ofW (cc := cX12_back) (maxL := 1) (ret := (some .int)) (by decide) rfl ?_
  intro p e s m args below meth c s₁ B hml hv
  obtain ⟨rfl, hP, hE⟩ := hv
  have hx := B.exec
  have hb := B.bytes
  have hr := B.returns
  have hts := atoms_spec (ws := wsX12_back) B.pre
  have hown : s.vm.findClass RX12 = some m.cls := findClass_of_methodNamed B.named
  have hlocks := B.notSynchronized
  have hP : va_P D vwCl [(h0, .inr (9, fs0))] s.heap := hP
  have hl := lv_entry ([.ref h0]) (n := 1) (Nat.le_of_ble_eq_true rfl)
  rw [lg_entry_eq]
  generalize (lg_sl ([.ref h0]) ++ List.replicate (1 - (lg_sl ([.ref h0])).length) Slot.unset).toArray = ls at hl ⊢
  have hl : lv_has ls 1 [(0, .ref h0)] := hl
  refine lv_aload_n hx hb dX12_back_0 rfl (lv_at hl 0 rfl) ?_
  refine va_get (D := D) (ci := 9) (v := .int 0) (C := RX12) (T := TX12) (N := 11) hx hb hts in_X12_back_X12 hown hE.1 hP 0 rfl rfl 2 (by decide) (hts (.fieldLink RX12 19 "ClauseBook" "imaged" "Z") (List.mem_of_getElem? (i := 1) rfl)) (fun _ h9 => h9) e0_2 dX12_back_1 ?_
  refine lv_if_ne (tgt := 10) hx hb dX12_back_4 (by decide) (fun c9 => absurd c9 (by decide)) (fun _ => ?_)
  refine lv_bipush (v := (-3)) hx hb dX12_back_7 (by decide) ?_
  exact W.iret hx hb hr (fun t ht hW => ⟨_, rfl, rfl, ht⟩) (fun _ h => by cases h) dX12_back_9
theorem dX12_compare_0 : decode cX12_compare 0 = .ok (.iload_n 1, 1) := by decide +kernel
theorem dX12_compare_1 : decode cX12_compare 1 = .ok (.invokestatic 352, 3) := by decide +kernel
theorem dX12_compare_11 : decode cX12_compare 11 = .ok (.iload_n 2, 1) := by decide +kernel
theorem dX12_compare_12 : decode cX12_compare 12 = .ok (.invokevirtual 150, 3) := by decide +kernel
theorem dX12_compare_15 : decode cX12_compare 15 = .ok (.ifCond .eq 12, 3) := by decide +kernel
theorem dX12_compare_27 : decode cX12_compare 27 = .ok (.bipush (-2), 2) := by decide +kernel
theorem dX12_compare_29 : decode cX12_compare 29 = .ok (.ireturn, 1) := by decide +kernel
theorem dX12_compare_4 : decode cX12_compare 4 = .ok (.ifCond .eq 23, 3) := by decide +kernel
theorem dX12_compare_7 : decode cX12_compare 7 = .ok (.aload_n 0, 1) := by decide +kernel
theorem dX12_compare_8 : decode cX12_compare 8 = .ok (.getfield 32, 3) := by decide +kernel
set_option maxRecDepth 20000 in
theorem ggX12_compare_X12_isHand : GoodIn wsX12_compare wsX12_isHand := goodIn_r _ [9, 10, 11, 8, 12] (by decide +kernel) (by decide +kernel)
set_option maxRecDepth 20000 in
theorem ggX12_compare_X2_has : GoodIn wsX12_compare wsX2_has := goodIn_r _ [17, 18, 11, 8, 12, 155, 156, 157, 158, 159, 160, 161, 162] (by decide +kernel) (by decide +kernel)
set_option maxRecDepth 20000 in
theorem gX12_compare_X12_isHand : GoodIn wsX12_compare (va_wsS RX12 352 yX12_isHand wsX12_isHand) := goodIn_app (goodIn_of _ (by decide +kernel)) ggX12_compare_X12_isHand
set_option maxRecDepth 20000 in
theorem gX12_compare_X2_has : GoodIn wsX12_compare (wsV RX12 150 RX2 yX2_has wsX2_has) := goodIn_app (goodIn_of _ (by decide +kernel)) ggX12_compare_X2_has
set_option maxRecDepth 20000 in
theorem in_X12_compare_X12 : ∀ w ∈ wsX120, w ∈ wsX12_compare := by decide +kernel
set_option maxHeartbeats 4000000 in
set_option maxRecDepth 100000 in
theorem f_X12_compare (l : Launch) (D : va_G) (T : Nat → ClassId) (h0 : Nat) (fs0 : List Value) (h1 : Nat) (fs1 : List Value) (x1 : Int32) (x2 : Int32) (x3 : Int32) (x4 : Int32) (e0_4 : fs0[4]? = some (.ref h1)) (e1_0 : fs1[0]? = some (.int 0)) : Met l yX12_compare wsX12_compare ({ frames := 2, cells := 0, slots := 0, locals := 43 }) (pR [.ref h0, .int x1, .int x2, .int x3, .int x4] D T [(h0, .inr (9, fs0)), (h1, .inr (1, fs1))]) (vp_Si (fun r => r = -2)) 0 0 (fun _ => False) := by
  refine Met.ofW (cc := cX12_compare) (maxL := 8) (ret := (some .int)) (by decide) rfl ?_
  intro p e s m args below meth c s₁ B hml hv
  obtain ⟨rfl, hP, hE⟩ := hv
  have hx := B.exec
  have hb := B.bytes
  have hr := B.returns
  have hts := atoms_spec (ws := wsX12_compare) B.pre
  have hown : s.vm.findClass RX12 = some m.cls := findClass_of_methodNamed B.named
  have hlocks := B.notSynchronized
  have hP : va_P D vwCl [(h0, .inr (9, fs0)), (h1, .inr (1, fs1))] s.heap := hP
  have hl := lv_entry ([.ref h0, .int x1, .int x2, .int x3, .int x4]) (n := 8) (Nat.le_of_ble_eq_true rfl)
  rw [lg_entry_eq]
  generalize (lg_sl ([.ref h0, .int x1, .int x2, .int x3, .int x4]) ++ List.replicate (8 - (lg_sl ([.ref h0, .int x1, .int x2, .int x3, .int x4])).length) Slot.unset).toArray = ls at hl ⊢
  have hl : lv_has ls 8 [(0, .ref h0), (1, .int x1), (2, .int x2), (3, .int x3), (4, .int x4)] := hl
  refine lv_iload_n hx hb dX12_compare_0 rfl (lv_at hl 1 rfl) ?_
  refine vp_callSi (W.runS (As := [.int x1]) (rest := []) ⟨hx, hb, hml, hown, hts⟩ (c_X12_isHand l D T x1) (va_cwS 1 hts gX12_compare_X12_isHand rfl rfl rfl (by decide +kernel) ⟨Nat.le_of_ble_eq_true rfl, Nat.le_of_ble_eq_true rfl⟩) (pR_S hP hE [] rfl) rfl rfl hl.1 rfl (lv_room (Nat.le_of_ble_eq_true rfl)) dX12_compare_1 ⟨Nat.le_of_ble_eq_true rfl, Nat.le_of_ble_eq_true rfl⟩) (fun r_1 hr_1 => ?_)
  rcases bool_post hr_1 with ⟨c_2, rfl⟩ | ⟨c_2, rfl⟩
  · refine lv_if_eq (tgt := 27) hx hb dX12_compare_4 (by decide) (fun c9 => absurd c9 (by decide)) (fun _ => ?_)
    refine lv_aload_n hx hb dX12_compare_7 rfl (lv_at hl 0 rfl) ?_
    refine va_get (D := D) (ci := 9) (v := .ref h1) (C := RX12) (T := TX12) (N := 11) hx hb hts in_X12_compare_X12 hown hE.1 hP 0 rfl rfl 4 (by decide) (hts (.fieldLink RX12 32 "ClauseBook" "clauses" "LClauseBook$Clauses;") (List.mem_of_getElem? (i := 1) rfl)) (fun _ h9 => h9) e0_4 dX12_compare_8 ?_
    refine lv_iload_n hx hb dX12_compare_11 rfl (lv_at hl 2 rfl) ?_
    refine vp_callSi (W.runV (As := [.int x2]) (rest := []) ⟨hx, hb, hml, hown, hts⟩ (c_X2_has l D T h1 fs1 x2 0 (-1) e1_0 (by decide)) (cwV 1 hts gX12_compare_X2_has rfl rfl rfl (by decide +kernel) ⟨Nat.le_of_ble_eq_true rfl, Nat.le_of_ble_eq_true rfl⟩) (pR_V (ci := 1) (q0 := 1) hP hE rfl rfl [1] rfl) rfl rfl hl.1 rfl (lv_room (Nat.le_of_ble_eq_true rfl)) dX12_compare_12 ⟨Nat.le_of_ble_eq_true rfl, Nat.le_of_ble_eq_true rfl⟩) (fun r_3 hr_3 => ?_)
    rcases bool_post hr_3 with ⟨c_4, rfl⟩ | ⟨c_4, rfl⟩
    · exact absurd c_4 (by omega)
    refine lv_if_eq (tgt := 27) hx hb dX12_compare_15 (by decide) (fun _ => ?_) (fun c9 => absurd c9 (by decide))
    refine lv_bipush (v := (-2)) hx hb dX12_compare_27 (by decide) ?_
    exact W.iret hx hb hr (fun t ht hW => ⟨_, rfl, rfl, ht⟩) (fun _ h => by cases h) dX12_compare_29
  · refine lv_if_eq (tgt := 27) hx hb dX12_compare_4 (by decide) (fun _ => ?_) (fun c9 => absurd c9 (by decide))
    refine lv_bipush (v := (-2)) hx hb dX12_compare_27 (by decide) ?_
    exact W.iret hx hb hr (fun t ht hW => ⟨_, rfl, rfl, ht⟩) (fun _ h => by cases h) dX12_compare_29
