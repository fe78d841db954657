theorem dX13_in_0 : decode cX13_in 0 = .ok (.lload_n 0, 1) := by decide +kernel
theorem dX13_in_1 : decode cX13_in 1 = .ok (.lload_n 2, 1) := by decide +kernel
theorem dX13_in_10 : decode cX13_in 10 = .ok (.ifCond .gt 7, 3) := by decide +kernel
theorem dX13_in_13 : decode cX13_in 13 = .ok (.iconst 1, 1) := by decide +kernel
theorem dX13_in_14 : decode cX13_in 14 = .ok (.goto 4, 3) := by decide +kernel
theorem dX13_in_17 : decode cX13_in 17 = .ok (.iconst 0, 1) := by decide +kernel
theorem dX13_in_18 : decode cX13_in 18 = .ok (.ireturn, 1) := by decide +kernel
theorem dX13_in_2 : decode cX13_in 2 = .ok (.lcmp, 1) := by decide +kernel
theorem dX13_in_3 : decode cX13_in 3 = .ok (.ifCond .lt 14, 3) := by decide +kernel
theorem dX13_in_6 : decode cX13_in 6 = .ok (.lload_n 0, 1) := by decide +kernel
theorem dX13_in_7 : decode cX13_in 7 = .ok (.lload 4, 2) := by decide +kernel
theorem dX13_in_9 : decode cX13_in 9 = .ok (.lcmp, 1) := by decide +kernel
set_option maxHeartbeats 4000000 in
set_option maxRecDepth 100000 in
theorem c_X13_in (l : Launch) (D : va_G) (T : Nat → ClassId) (x0 : Int64) (x1 : Int64) (x2 : Int64) (VV : Int) (LO : Int) (HI : Int) (hVV : x0.toInt = VV) (hLO : x1.toInt = LO) (hHI : x2.toInt = HI) : Met l yX13_in wsX13_in ({ frames := 0, cells := 0, slots := 0, locals := 0 }) (pR [.long x0, .long x1, .long x2] D T []) (vp_Si (fun r => r = if LO ≤ VV ∧ VV ≤ HI then 1 else 0)) 0 0 (fun _ => False) := by
  refine Met.ofW (cc := cX13_in) (maxL := 6) (ret := (some .boolean)) (by decide +kernel) rfl ?_
  intro p e s m args below meth c s₁ B hml hv
  obtain ⟨rfl, hP, hE⟩ := hv
  have hx := B.exec
  have hb := B.bytes
  have hr := B.returns
  have hts := atoms_spec (ws := wsX13_in) B.pre
  have hown : s.vm.findClass RX13 = some m.cls := findClass_of_methodNamed B.named
  have hlocks := B.notSynchronized
  have hP : va_P D vwCl [] s.heap := hP
  have hl := lv_entry ([.long x0, .long x1, .long x2]) (n := 6) (Nat.le_of_ble_eq_true rfl)
  rw [lg_entry_eq]
  generalize (lg_sl ([.long x0, .long x1, .long x2]) ++ List.replicate (6 - (lg_sl ([.long x0, .long x1, .long x2])).length) Slot.unset).toArray = ls at hl ⊢
  have hl : lv_has ls 6 [(0, .long x0), (2, .long x1), (4, .long x2)] := hl
  refine lv_lload_n hx hb dX13_in_0 rfl (lv_at hl 0 rfl) ?_
  refine lv_lload_n hx hb dX13_in_1 rfl (lv_at hl 1 rfl) ?_
  refine W.lcmp hx hb dX13_in_2 ?_
  refine lv_if_lt (tgt := 17) hx hb dX13_in_3 (by decide +kernel) (fun c_1 => ?_) (fun c_1 => ?_)
  · rw [lcmp_lt] at c_1
    refine lv_iconst (v := 0) hx hb dX13_in_17 (by decide +kernel) ?_
    exact W.zret hx hb hr rfl (fun t ht hW => ⟨_, rfl, (by exact (if_neg (by omega)).symm), ht⟩) (fun _ h => by cases h) dX13_in_18
  · rw [lcmp_lt] at c_1
    refine lv_lload_n hx hb dX13_in_6 rfl (lv_at hl 0 rfl) ?_
    refine lv_lload hx hb dX13_in_7 (lv_at hl 2 rfl) ?_
    refine W.lcmp hx hb dX13_in_9 ?_
    refine lv_if_gt (tgt := 17) hx hb dX13_in_10 (by decide +kernel) (fun c_2 => ?_) (fun c_2 => ?_)
    · rw [lcmp_gt] at c_2
      refine lv_iconst (v := 0) hx hb dX13_in_17 (by decide +kernel) ?_
      exact W.zret hx hb hr rfl (fun t ht hW => ⟨_, rfl, (by exact (if_neg (by omega)).symm), ht⟩) (fun _ h => by cases h) dX13_in_18
    · rw [lcmp_gt] at c_2
      refine lv_iconst (v := 1) hx hb dX13_in_13 (by decide +kernel) ?_
      refine lv_goto (tgt := 18) hx hb dX13_in_14 (by decide +kernel) ?_
      exact W.zret hx hb hr rfl (fun t ht hW => ⟨_, rfl, (by exact (if_pos (by omega)).symm), ht⟩) (fun _ h => by cases h) dX13_in_18
theorem no_add {x : Int32} (h : -100 ≤ x.toInt ∧ x.toInt ≤ 0) : ((-4611686018427387904 : Int64) + x.toInt64).toInt = -4611686018427387904 + x.toInt := by
  have e : (-4611686018427387904 : Int64).toInt = -4611686018427387904 := by decide
  rw [Int64.toInt_add, e, Int32.toInt_toInt64, Int.bmod_eq_of_le (by omega) (by omega)]
theorem dX13_refused_0 : decode cX13_refused 0 = .ok (.ldc2_w 129, 3) := by decide +kernel
theorem dX13_refused_3 : decode cX13_refused 3 = .ok (.iload_n 0, 1) := by decide +kernel
theorem dX13_refused_4 : decode cX13_refused 4 = .ok (.i2l, 1) := by decide +kernel
theorem dX13_refused_5 : decode cX13_refused 5 = .ok (.ladd, 1) := by decide +kernel
theorem dX13_refused_6 : decode cX13_refused 6 = .ok (.lreturn, 1) := by decide +kernel
set_option maxHeartbeats 4000000 in
set_option maxRecDepth 100000 in
theorem c_X13_refused (l : Launch) (D : va_G) (T : Nat → ClassId) (x0 : Int32) (hx0 : -100 ≤ x0.toInt ∧ x0.toInt ≤ 0) : Met l yX13_refused wsX13_refused ({ frames := 0, cells := 0, slots := 0, locals := 0 }) (pR [.int x0] D T []) (vp_Sl (fun r => r.toInt = -4611686018427387904 + x0.toInt)) 0 0 (fun _ => False) := by
  refine Met.ofW (cc := cX13_refused) (maxL := 1) (ret := (some .long)) (by decide +kernel) rfl ?_
  intro p e s m args below meth c s₁ B hml hv
  obtain ⟨rfl, hP, hE⟩ := hv
  have hx := B.exec
  have hb := B.bytes
  have hr := B.returns
  have hts := atoms_spec (ws := wsX13_refused) B.pre
  have hown : s.vm.findClass RX13 = some m.cls := findClass_of_methodNamed B.named
  have hlocks := B.notSynchronized
  have hP : va_P D vwCl [] s.heap := hP
  have hl := lv_entry ([.int x0]) (n := 1) (Nat.le_of_ble_eq_true rfl)
  rw [lg_entry_eq]
  generalize (lg_sl ([.int x0]) ++ List.replicate (1 - (lg_sl ([.int x0])).length) Slot.unset).toArray = ls at hl ⊢
  have hl : lv_has ls 1 [(0, .int x0)] := hl
  refine lv_ldc2 (v := (-4611686018427387904)) hx hb hown (hts (.constantLong RX13 129 (-4611686018427387904)) (List.mem_of_getElem? (i := 1) rfl)) dX13_refused_0 ?_
  refine lv_iload_n hx hb dX13_refused_3 rfl (lv_at hl 0 rfl) ?_
  refine lv_i2l hx hb dX13_refused_4 rfl ?_
  refine lv_ladd hx hb dX13_refused_5 ?_
  exact W.lret hx hb hr (fun t ht hW => ⟨_, rfl, (no_add hx0), ht⟩) (fun _ h => by cases h) dX13_refused_6
theorem dX13_isPath_0 : decode cX13_isPath 0 = .ok (.iload_n 0, 1) := by decide +kernel
theorem dX13_isPath_1 : decode cX13_isPath 1 = .ok (.i2l, 1) := by decide +kernel
theorem dX13_isPath_2 : decode cX13_isPath 2 = .ok (.lconst 0, 1) := by decide +kernel
theorem dX13_isPath_3 : decode cX13_isPath 3 = .ok (.ldc2_w 196, 3) := by decide +kernel
theorem dX13_isPath_6 : decode cX13_isPath 6 = .ok (.invokestatic 175, 3) := by decide +kernel
theorem dX13_isPath_9 : decode cX13_isPath 9 = .ok (.ireturn, 1) := by decide +kernel
set_option maxRecDepth 20000 in
theorem ggX13_isPath_X13_in : GoodIn wsX13_isPath wsX13_in := goodIn_r _ [5] rfl (by decide +kernel)
set_option maxRecDepth 20000 in
theorem gX13_isPath_X13_in : GoodIn wsX13_isPath (va_wsS RX13 175 yX13_in wsX13_in) := goodIn_app (goodIn_of _ (by decide +kernel)) ggX13_isPath_X13_in
theorem hs_X13_in : yX13_in.cls ≠ "java/lang/invoke/MethodHandle" ∧ yX13_in.cls ≠ "java/lang/invoke/VarHandle" ∧ (parseMethodDescriptor yX13_in.desc).map (fun d => d.parameters.length) = some 3 := by decide +kernel
set_option maxHeartbeats 4000000 in
set_option maxRecDepth 100000 in
theorem c_X13_isPath (l : Launch) (D : va_G) (T : Nat → ClassId) (x0 : Int32)  : Met l yX13_isPath wsX13_isPath ({ frames := 1, cells := 0, slots := 0, locals := 25 }) (pR [.int x0] D T []) (vp_Si (fun r => r = if 0 ≤ x0.toInt ∧ x0.toInt ≤ 63 then 1 else 0)) 0 0 (fun _ => False) := by
  refine Met.ofW (cc := cX13_isPath) (maxL := 1) (ret := (some .boolean)) (by decide +kernel) rfl ?_
  intro p e s m args below meth c s₁ B hml hv
  obtain ⟨rfl, hP, hE⟩ := hv
  have hx := B.exec
  have hb := B.bytes
  have hr := B.returns
  have hts := atoms_spec (ws := wsX13_isPath) B.pre
  have hown : s.vm.findClass RX13 = some m.cls := findClass_of_methodNamed B.named
  have hlocks := B.notSynchronized
  have hP : va_P D vwCl [] s.heap := hP
  have hl := lv_entry ([.int x0]) (n := 1) (Nat.le_of_ble_eq_true rfl)
  rw [lg_entry_eq]
  generalize (lg_sl ([.int x0]) ++ List.replicate (1 - (lg_sl ([.int x0])).length) Slot.unset).toArray = ls at hl ⊢
  have hl : lv_has ls 1 [(0, .int x0)] := hl
  refine lv_iload_n hx hb dX13_isPath_0 rfl (lv_at hl 0 rfl) ?_
  refine lv_i2l hx hb dX13_isPath_1 rfl ?_
  refine lv_lconst (v := 0) hx hb dX13_isPath_2 (by decide +kernel) ?_
  refine lv_ldc2 (v := 63) hx hb hown (hts (.constantLong RX13 196 (63)) (List.mem_of_getElem? (i := 1) rfl)) dX13_isPath_3 ?_
  refine vp_callSi (W.runS (As := [.long (x0.toInt64), .long 0, .long 63]) (rest := []) ⟨hx, hb, hml, hown, hts⟩ (c_X13_in l D T (x0.toInt64) 0 63 x0.toInt 0 63 ((Int32.toInt_toInt64 _).trans rfl) (by decide +kernel) (by decide +kernel)) (va_cwS 3 hts gX13_isPath_X13_in rfl rfl rfl hs_X13_in ⟨Nat.le_of_ble_eq_true rfl, Nat.le_of_ble_eq_true rfl⟩) (pR_S hP hE [] rfl) rfl rfl hl.1 rfl (lv_room (Nat.le_of_ble_eq_true rfl)) dX13_isPath_6 ⟨Nat.le_of_ble_eq_true rfl, Nat.le_of_ble_eq_true rfl⟩) (fun r_1 hr_1 => ?_)
  rcases bool_post hr_1 with ⟨c_2, rfl⟩ | ⟨c_2, rfl⟩
  · exact W.zret hx hb hr rfl (fun t ht hW => ⟨_, rfl, (by exact (if_pos (by omega)).symm), ht⟩) (fun _ h => by cases h) dX13_isPath_9
  · exact W.zret hx hb hr rfl (fun t ht hW => ⟨_, rfl, (by exact (if_neg (by omega)).symm), ht⟩) (fun _ h => by cases h) dX13_isPath_9
theorem dX13_isBag_0 : decode cX13_isBag 0 = .ok (.iload_n 0, 1) := by decide +kernel
theorem dX13_isBag_1 : decode cX13_isBag 1 = .ok (.i2l, 1) := by decide +kernel
theorem dX13_isBag_2 : decode cX13_isBag 2 = .ok (.lconst 0, 1) := by decide +kernel
theorem dX13_isBag_3 : decode cX13_isBag 3 = .ok (.ldc2_w 184, 3) := by decide +kernel
theorem dX13_isBag_6 : decode cX13_isBag 6 = .ok (.invokestatic 175, 3) := by decide +kernel
theorem dX13_isBag_9 : decode cX13_isBag 9 = .ok (.ireturn, 1) := by decide +kernel
set_option maxRecDepth 20000 in
theorem ggX13_isBag_X13_in : GoodIn wsX13_isBag wsX13_in := goodIn_r _ [5] rfl (by decide +kernel)
set_option maxRecDepth 20000 in
theorem gX13_isBag_X13_in : GoodIn wsX13_isBag (va_wsS RX13 175 yX13_in wsX13_in) := goodIn_app (goodIn_of _ (by decide +kernel)) ggX13_isBag_X13_in
set_option maxHeartbeats 4000000 in
set_option maxRecDepth 100000 in
theorem c_X13_isBag (l : Launch) (D : va_G) (T : Nat → ClassId) (x0 : Int32)  : Met l yX13_isBag wsX13_isBag ({ frames := 1, cells := 0, slots := 0, locals := 25 }) (pR [.int x0] D T []) (vp_Si (fun r => r = if 0 ≤ x0.toInt ∧ x0.toInt ≤ 2 then 1 else 0)) 0 0 (fun _ => False) := by
  refine Met.ofW (cc := cX13_isBag) (maxL := 1) (ret := (some .boolean)) (by decide +kernel) rfl ?_
  intro p e s m args below meth c s₁ B hml hv
  obtain ⟨rfl, hP, hE⟩ := hv
  have hx := B.exec
  have hb := B.bytes
  have hr := B.returns
  have hts := atoms_spec (ws := wsX13_isBag) B.pre
  have hown : s.vm.findClass RX13 = some m.cls := findClass_of_methodNamed B.named
  have hlocks := B.notSynchronized
  have hP : va_P D vwCl [] s.heap := hP
  have hl := lv_entry ([.int x0]) (n := 1) (Nat.le_of_ble_eq_true rfl)
  rw [lg_entry_eq]
  generalize (lg_sl ([.int x0]) ++ List.replicate (1 - (lg_sl ([.int x0])).length) Slot.unset).toArray = ls at hl ⊢
  have hl : lv_has ls 1 [(0, .int x0)] := hl
  refine lv_iload_n hx hb dX13_isBag_0 rfl (lv_at hl 0 rfl) ?_
  refine lv_i2l hx hb dX13_isBag_1 rfl ?_
  refine lv_lconst (v := 0) hx hb dX13_isBag_2 (by decide +kernel) ?_
  refine lv_ldc2 (v := 2) hx hb hown (hts (.constantLong RX13 184 (2)) (List.mem_of_getElem? (i := 1) rfl)) dX13_isBag_3 ?_
  refine vp_callSi (W.runS (As := [.long (x0.toInt64), .long 0, .long 2]) (rest := []) ⟨hx, hb, hml, hown, hts⟩ (c_X13_in l D T (x0.toInt64) 0 2 x0.toInt 0 2 ((Int32.toInt_toInt64 _).trans rfl) (by decide +kernel) (by decide +kernel)) (va_cwS 3 hts gX13_isBag_X13_in rfl rfl rfl hs_X13_in ⟨Nat.le_of_ble_eq_true rfl, Nat.le_of_ble_eq_true rfl⟩) (pR_S hP hE [] rfl) rfl rfl hl.1 rfl (lv_room (Nat.le_of_ble_eq_true rfl)) dX13_isBag_6 ⟨Nat.le_of_ble_eq_true rfl, Nat.le_of_ble_eq_true rfl⟩) (fun r_1 hr_1 => ?_)
  rcases bool_post hr_1 with ⟨c_2, rfl⟩ | ⟨c_2, rfl⟩
  · exact W.zret hx hb hr rfl (fun t ht hW => ⟨_, rfl, (by exact (if_pos (by omega)).symm), ht⟩) (fun _ h => by cases h) dX13_isBag_9
  · exact W.zret hx hb hr rfl (fun t ht hW => ⟨_, rfl, (by exact (if_neg (by omega)).symm), ht⟩) (fun _ h => by cases h) dX13_isBag_9
theorem dX13_isHand_0 : decode cX13_isHand 0 = .ok (.iload_n 0, 1) := by decide +kernel
theorem dX13_isHand_1 : decode cX13_isHand 1 = .ok (.i2l, 1) := by decide +kernel
theorem dX13_isHand_2 : decode cX13_isHand 2 = .ok (.lconst 0, 1) := by decide +kernel
theorem dX13_isHand_3 : decode cX13_isHand 3 = .ok (.ldc2_w 408, 3) := by decide +kernel
theorem dX13_isHand_6 : decode cX13_isHand 6 = .ok (.invokestatic 175, 3) := by decide +kernel
theorem dX13_isHand_9 : decode cX13_isHand 9 = .ok (.ireturn, 1) := by decide +kernel
set_option maxRecDepth 20000 in
theorem ggX13_isHand_X13_in : GoodIn wsX13_isHand wsX13_in := goodIn_r _ [5] rfl (by decide +kernel)
set_option maxRecDepth 20000 in
theorem gX13_isHand_X13_in : GoodIn wsX13_isHand (va_wsS RX13 175 yX13_in wsX13_in) := goodIn_app (goodIn_of _ (by decide +kernel)) ggX13_isHand_X13_in
set_option maxHeartbeats 4000000 in
set_option maxRecDepth 100000 in
theorem c_X13_isHand (l : Launch) (D : va_G) (T : Nat → ClassId) (x0 : Int32)  : Met l yX13_isHand wsX13_isHand ({ frames := 1, cells := 0, slots := 0, locals := 25 }) (pR [.int x0] D T []) (vp_Si (fun r => r = if 0 ≤ x0.toInt ∧ x0.toInt ≤ 3 then 1 else 0)) 0 0 (fun _ => False) := by
  refine Met.ofW (cc := cX13_isHand) (maxL := 1) (ret := (some .boolean)) (by decide +kernel) rfl ?_
  intro p e s m args below meth c s₁ B hml hv
  obtain ⟨rfl, hP, hE⟩ := hv
  have hx := B.exec
  have hb := B.bytes
  have hr := B.returns
  have hts := atoms_spec (ws := wsX13_isHand) B.pre
  have hown : s.vm.findClass RX13 = some m.cls := findClass_of_methodNamed B.named
  have hlocks := B.notSynchronized
  have hP : va_P D vwCl [] s.heap := hP
  have hl := lv_entry ([.int x0]) (n := 1) (Nat.le_of_ble_eq_true rfl)
  rw [lg_entry_eq]
  generalize (lg_sl ([.int x0]) ++ List.replicate (1 - (lg_sl ([.int x0])).length) Slot.unset).toArray = ls at hl ⊢
  have hl : lv_has ls 1 [(0, .int x0)] := hl
  refine lv_iload_n hx hb dX13_isHand_0 rfl (lv_at hl 0 rfl) ?_
  refine lv_i2l hx hb dX13_isHand_1 rfl ?_
  refine lv_lconst (v := 0) hx hb dX13_isHand_2 (by decide +kernel) ?_
  refine lv_ldc2 (v := 3) hx hb hown (hts (.constantLong RX13 408 (3)) (List.mem_of_getElem? (i := 1) rfl)) dX13_isHand_3 ?_
  refine vp_callSi (W.runS (As := [.long (x0.toInt64), .long 0, .long 3]) (rest := []) ⟨hx, hb, hml, hown, hts⟩ (c_X13_in l D T (x0.toInt64) 0 3 x0.toInt 0 3 ((Int32.toInt_toInt64 _).trans rfl) (by decide +kernel) (by decide +kernel)) (va_cwS 3 hts gX13_isHand_X13_in rfl rfl rfl hs_X13_in ⟨Nat.le_of_ble_eq_true rfl, Nat.le_of_ble_eq_true rfl⟩) (pR_S hP hE [] rfl) rfl rfl hl.1 rfl (lv_room (Nat.le_of_ble_eq_true rfl)) dX13_isHand_6 ⟨Nat.le_of_ble_eq_true rfl, Nat.le_of_ble_eq_true rfl⟩) (fun r_1 hr_1 => ?_)
  rcases bool_post hr_1 with ⟨c_2, rfl⟩ | ⟨c_2, rfl⟩
  · exact W.zret hx hb hr rfl (fun t ht hW => ⟨_, rfl, (by exact (if_pos (by omega)).symm), ht⟩) (fun _ h => by cases h) dX13_isHand_9
  · exact W.zret hx hb hr rfl (fun t ht hW => ⟨_, rfl, (by exact (if_neg (by omega)).symm), ht⟩) (fun _ h => by cases h) dX13_isHand_9
theorem dX13_isSheet_0 : decode cX13_isSheet 0 = .ok (.iload_n 0, 1) := by decide +kernel
theorem dX13_isSheet_1 : decode cX13_isSheet 1 = .ok (.i2l, 1) := by decide +kernel
theorem dX13_isSheet_2 : decode cX13_isSheet 2 = .ok (.lconst 0, 1) := by decide +kernel
theorem dX13_isSheet_3 : decode cX13_isSheet 3 = .ok (.ldc2_w 408, 3) := by decide +kernel
theorem dX13_isSheet_6 : decode cX13_isSheet 6 = .ok (.invokestatic 175, 3) := by decide +kernel
theorem dX13_isSheet_9 : decode cX13_isSheet 9 = .ok (.ireturn, 1) := by decide +kernel
set_option maxRecDepth 20000 in
theorem ggX13_isSheet_X13_in : GoodIn wsX13_isSheet wsX13_in := goodIn_r _ [5] rfl (by decide +kernel)
set_option maxRecDepth 20000 in
theorem gX13_isSheet_X13_in : GoodIn wsX13_isSheet (va_wsS RX13 175 yX13_in wsX13_in) := goodIn_app (goodIn_of _ (by decide +kernel)) ggX13_isSheet_X13_in
set_option maxHeartbeats 4000000 in
set_option maxRecDepth 100000 in
theorem c_X13_isSheet (l : Launch) (D : va_G) (T : Nat → ClassId) (x0 : Int32)  : Met l yX13_isSheet wsX13_isSheet ({ frames := 1, cells := 0, slots := 0, locals := 25 }) (pR [.int x0] D T []) (vp_Si (fun r => r = if 0 ≤ x0.toInt ∧ x0.toInt ≤ 3 then 1 else 0)) 0 0 (fun _ => False) := by
  refine Met.ofW (cc := cX13_isSheet) (maxL := 1) (ret := (some .boolean)) (by decide +kernel) rfl ?_
  intro p e s m args below meth c s₁ B hml hv
  obtain ⟨rfl, hP, hE⟩ := hv
  have hx := B.exec
  have hb := B.bytes
  have hr := B.returns
  have hts := atoms_spec (ws := wsX13_isSheet) B.pre
  have hown : s.vm.findClass RX13 = some m.cls := findClass_of_methodNamed B.named
  have hlocks := B.notSynchronized
  have hP : va_P D vwCl [] s.heap := hP
  have hl := lv_entry ([.int x0]) (n := 1) (Nat.le_of_ble_eq_true rfl)
  rw [lg_entry_eq]
  generalize (lg_sl ([.int x0]) ++ List.replicate (1 - (lg_sl ([.int x0])).length) Slot.unset).toArray = ls at hl ⊢
  have hl : lv_has ls 1 [(0, .int x0)] := hl
  refine lv_iload_n hx hb dX13_isSheet_0 rfl (lv_at hl 0 rfl) ?_
  refine lv_i2l hx hb dX13_isSheet_1 rfl ?_
  refine lv_lconst (v := 0) hx hb dX13_isSheet_2 (by decide +kernel) ?_
  refine lv_ldc2 (v := 3) hx hb hown (hts (.constantLong RX13 408 (3)) (List.mem_of_getElem? (i := 1) rfl)) dX13_isSheet_3 ?_
  refine vp_callSi (W.runS (As := [.long (x0.toInt64), .long 0, .long 3]) (rest := []) ⟨hx, hb, hml, hown, hts⟩ (c_X13_in l D T (x0.toInt64) 0 3 x0.toInt 0 3 ((Int32.toInt_toInt64 _).trans rfl) (by decide +kernel) (by decide +kernel)) (va_cwS 3 hts gX13_isSheet_X13_in rfl rfl rfl hs_X13_in ⟨Nat.le_of_ble_eq_true rfl, Nat.le_of_ble_eq_true rfl⟩) (pR_S hP hE [] rfl) rfl rfl hl.1 rfl (lv_room (Nat.le_of_ble_eq_true rfl)) dX13_isSheet_6 ⟨Nat.le_of_ble_eq_true rfl, Nat.le_of_ble_eq_true rfl⟩) (fun r_1 hr_1 => ?_)
  rcases bool_post hr_1 with ⟨c_2, rfl⟩ | ⟨c_2, rfl⟩
  · exact W.zret hx hb hr rfl (fun t ht hW => ⟨_, rfl, (by exact (if_pos (by omega)).symm), ht⟩) (fun _ h => by cases h) dX13_isSheet_9
  · exact W.zret hx hb hr rfl (fun t ht hW => ⟨_, rfl, (by exact (if_neg (by omega)).symm), ht⟩) (fun _ h => by cases h) dX13_isSheet_9
theorem dX13_isSpot_0 : decode cX13_isSpot 0 = .ok (.iload_n 0, 1) := by decide +kernel
theorem dX13_isSpot_1 : decode cX13_isSpot 1 = .ok (.i2l, 1) := by decide +kernel
theorem dX13_isSpot_12 : decode cX13_isSpot 12 = .ok (.iload_n 1, 1) := by decide +kernel
theorem dX13_isSpot_13 : decode cX13_isSpot 13 = .ok (.i2l, 1) := by decide +kernel
theorem dX13_isSpot_14 : decode cX13_isSpot 14 = .ok (.lconst 0, 1) := by decide +kernel
theorem dX13_isSpot_15 : decode cX13_isSpot 15 = .ok (.iload_n 0, 1) := by decide +kernel
theorem dX13_isSpot_16 : decode cX13_isSpot 16 = .ok (.i2l, 1) := by decide +kernel
theorem dX13_isSpot_17 : decode cX13_isSpot 17 = .ok (.invokestatic 175, 3) := by decide +kernel
theorem dX13_isSpot_2 : decode cX13_isSpot 2 = .ok (.lconst 0, 1) := by decide +kernel
theorem dX13_isSpot_20 : decode cX13_isSpot 20 = .ok (.ifCond .eq 7, 3) := by decide +kernel
theorem dX13_isSpot_23 : decode cX13_isSpot 23 = .ok (.iconst 1, 1) := by decide +kernel
theorem dX13_isSpot_24 : decode cX13_isSpot 24 = .ok (.goto 4, 3) := by decide +kernel
theorem dX13_isSpot_27 : decode cX13_isSpot 27 = .ok (.iconst 0, 1) := by decide +kernel
theorem dX13_isSpot_28 : decode cX13_isSpot 28 = .ok (.ireturn, 1) := by decide +kernel
theorem dX13_isSpot_3 : decode cX13_isSpot 3 = .ok (.ldc2_w 186, 3) := by decide +kernel
theorem dX13_isSpot_6 : decode cX13_isSpot 6 = .ok (.invokestatic 175, 3) := by decide +kernel
theorem dX13_isSpot_9 : decode cX13_isSpot 9 = .ok (.ifCond .eq 18, 3) := by decide +kernel
set_option maxRecDepth 20000 in
theorem ggX13_isSpot_X13_in : GoodIn wsX13_isSpot wsX13_in := goodIn_r _ [5] rfl (by decide +kernel)
set_option maxRecDepth 20000 in
theorem gX13_isSpot_X13_in : GoodIn wsX13_isSpot (va_wsS RX13 175 yX13_in wsX13_in) := goodIn_app (goodIn_of _ (by decide +kernel)) ggX13_isSpot_X13_in
set_option maxHeartbeats 4000000 in
set_option maxRecDepth 100000 in
theorem c_X13_isSpot (l : Launch) (D : va_G) (T : Nat → ClassId) (x0 : Int32) (x1 : Int32)  : Met l yX13_isSpot wsX13_isSpot ({ frames := 1, cells := 0, slots := 0, locals := 25 }) (pR [.int x0, .int x1] D T []) (vp_Si (fun r => r = if (0 ≤ x0.toInt ∧ x0.toInt ≤ 6) ∧ 0 ≤ x1.toInt ∧ x1.toInt ≤ x0.toInt then 1 else 0)) 0 0 (fun _ => False) := by
  refine Met.ofW (cc := cX13_isSpot) (maxL := 2) (ret := (some .boolean)) (by decide +kernel) rfl ?_
  intro p e s m args below meth c s₁ B hml hv
  obtain ⟨rfl, hP, hE⟩ := hv
  have hx := B.exec
  have hb := B.bytes
  have hr := B.returns
  have hts := atoms_spec (ws := wsX13_isSpot) B.pre
  have hown : s.vm.findClass RX13 = some m.cls := findClass_of_methodNamed B.named
  have hlocks := B.notSynchronized
  have hP : va_P D vwCl [] s.heap := hP
  have hl := lv_entry ([.int x0, .int x1]) (n := 2) (Nat.le_of_ble_eq_true rfl)
  rw [lg_entry_eq]
  generalize (lg_sl ([.int x0, .int x1]) ++ List.replicate (2 - (lg_sl ([.int x0, .int x1])).length) Slot.unset).toArray = ls at hl ⊢
  have hl : lv_has ls 2 [(0, .int x0), (1, .int x1)] := hl
  refine lv_iload_n hx hb dX13_isSpot_0 rfl (lv_at hl 0 rfl) ?_
  refine lv_i2l hx hb dX13_isSpot_1 rfl ?_
  refine lv_lconst (v := 0) hx hb dX13_isSpot_2 (by decide +kernel) ?_
  refine lv_ldc2 (v := 6) hx hb hown (hts (.constantLong RX13 186 (6)) (List.mem_of_getElem? (i := 1) rfl)) dX13_isSpot_3 ?_
  refine vp_callSi (W.runS (As := [.long (x0.toInt64), .long 0, .long 6]) (rest := []) ⟨hx, hb, hml, hown, hts⟩ (c_X13_in l D T (x0.toInt64) 0 6 x0.toInt 0 6 ((Int32.toInt_toInt64 _).trans rfl) (by decide +kernel) (by decide +kernel)) (va_cwS 3 hts gX13_isSpot_X13_in rfl rfl rfl hs_X13_in ⟨Nat.le_of_ble_eq_true rfl, Nat.le_of_ble_eq_true rfl⟩) (pR_S hP hE [] rfl) rfl rfl hl.1 rfl (lv_room (Nat.le_of_ble_eq_true rfl)) dX13_isSpot_6 ⟨Nat.le_of_ble_eq_true rfl, Nat.le_of_ble_eq_true rfl⟩) (fun r_1 hr_1 => ?_)
  rcases bool_post hr_1 with ⟨c_2, rfl⟩ | ⟨c_2, rfl⟩
  · refine lv_if_eq (tgt := 27) hx hb dX13_isSpot_9 (by decide +kernel) (fun c9 => absurd c9 (by decide +kernel)) (fun _ => ?_)
    refine lv_iload_n hx hb dX13_isSpot_12 rfl (lv_at hl 1 rfl) ?_
    refine lv_i2l hx hb dX13_isSpot_13 rfl ?_
    refine lv_lconst (v := 0) hx hb dX13_isSpot_14 (by decide +kernel) ?_
    refine lv_iload_n hx hb dX13_isSpot_15 rfl (lv_at hl 0 rfl) ?_
    refine lv_i2l hx hb dX13_isSpot_16 rfl ?_
    refine vp_callSi (W.runS (As := [.long (x1.toInt64), .long 0, .long (x0.toInt64)]) (rest := []) ⟨hx, hb, hml, hown, hts⟩ (c_X13_in l D T (x1.toInt64) 0 (x0.toInt64) x1.toInt 0 x0.toInt ((Int32.toInt_toInt64 _).trans rfl) (by decide +kernel) ((Int32.toInt_toInt64 _).trans rfl)) (va_cwS 3 hts gX13_isSpot_X13_in rfl rfl rfl hs_X13_in ⟨Nat.le_of_ble_eq_true rfl, Nat.le_of_ble_eq_true rfl⟩) (pR_S hP hE [] rfl) rfl rfl hl.1 rfl (lv_room (Nat.le_of_ble_eq_true rfl)) dX13_isSpot_17 ⟨Nat.le_of_ble_eq_true rfl, Nat.le_of_ble_eq_true rfl⟩) (fun r_3 hr_3 => ?_)
    rcases bool_post hr_3 with ⟨c_4, rfl⟩ | ⟨c_4, rfl⟩
    · refine lv_if_eq (tgt := 27) hx hb dX13_isSpot_20 (by decide +kernel) (fun c9 => absurd c9 (by decide +kernel)) (fun _ => ?_)
      refine lv_iconst (v := 1) hx hb dX13_isSpot_23 (by decide +kernel) ?_
      refine lv_goto (tgt := 28) hx hb dX13_isSpot_24 (by decide +kernel) ?_
      exact W.zret hx hb hr rfl (fun t ht hW => ⟨_, rfl, (by exact (if_pos (by omega)).symm), ht⟩) (fun _ h => by cases h) dX13_isSpot_28
    · refine lv_if_eq (tgt := 27) hx hb dX13_isSpot_20 (by decide +kernel) (fun _ => ?_) (fun c9 => absurd c9 (by decide +kernel))
      refine lv_iconst (v := 0) hx hb dX13_isSpot_27 (by decide +kernel) ?_
      exact W.zret hx hb hr rfl (fun t ht hW => ⟨_, rfl, (by exact (if_neg (by omega)).symm), ht⟩) (fun _ h => by cases h) dX13_isSpot_28
  · refine lv_if_eq (tgt := 27) hx hb dX13_isSpot_9 (by decide +kernel) (fun _ => ?_) (fun c9 => absurd c9 (by decide +kernel))
    refine lv_iconst (v := 0) hx hb dX13_isSpot_27 (by decide +kernel) ?_
    exact W.zret hx hb hr rfl (fun t ht hW => ⟨_, rfl, (by exact (if_neg (by omega)).symm), ht⟩) (fun _ h => by cases h) dX13_isSpot_28
theorem dX13_names_0 : decode cX13_names 0 = .ok (.iload_n 0, 1) := by decide +kernel
theorem dX13_names_1 : decode cX13_names 1 = .ok (.ifCond .eq 8, 3) := by decide +kernel
theorem dX13_names_10 : decode cX13_names 10 = .ok (.goto 37, 3) := by decide +kernel
theorem dX13_names_13 : decode cX13_names 13 = .ok (.iload_n 0, 1) := by decide +kernel
theorem dX13_names_14 : decode cX13_names 14 = .ok (.iconst 5, 1) := by decide +kernel
theorem dX13_names_15 : decode cX13_names 15 = .ok (.if_icmp .eq 27, 3) := by decide +kernel
theorem dX13_names_18 : decode cX13_names 18 = .ok (.iload_n 0, 1) := by decide +kernel
theorem dX13_names_19 : decode cX13_names 19 = .ok (.bipush 6, 2) := by decide +kernel
theorem dX13_names_21 : decode cX13_names 21 = .ok (.if_icmp .eq 21, 3) := by decide +kernel
theorem dX13_names_24 : decode cX13_names 24 = .ok (.iload_n 0, 1) := by decide +kernel
theorem dX13_names_25 : decode cX13_names 25 = .ok (.bipush 7, 2) := by decide +kernel
theorem dX13_names_27 : decode cX13_names 27 = .ok (.if_icmp .eq 15, 3) := by decide +kernel
theorem dX13_names_30 : decode cX13_names 30 = .ok (.iload_n 0, 1) := by decide +kernel
theorem dX13_names_31 : decode cX13_names 31 = .ok (.bipush 9, 2) := by decide +kernel
theorem dX13_names_33 : decode cX13_names 33 = .ok (.if_icmp .eq 9, 3) := by decide +kernel
theorem dX13_names_36 : decode cX13_names 36 = .ok (.iload_n 0, 1) := by decide +kernel
theorem dX13_names_37 : decode cX13_names 37 = .ok (.bipush 12, 2) := by decide +kernel
theorem dX13_names_39 : decode cX13_names 39 = .ok (.if_icmp .ne 7, 3) := by decide +kernel
theorem dX13_names_4 : decode cX13_names 4 = .ok (.iload_n 0, 1) := by decide +kernel
theorem dX13_names_42 : decode cX13_names 42 = .ok (.iconst 2, 1) := by decide +kernel
theorem dX13_names_43 : decode cX13_names 43 = .ok (.goto 4, 3) := by decide +kernel
theorem dX13_names_46 : decode cX13_names 46 = .ok (.iconst 1, 1) := by decide +kernel
theorem dX13_names_47 : decode cX13_names 47 = .ok (.ireturn, 1) := by decide +kernel
theorem dX13_names_5 : decode cX13_names 5 = .ok (.iconst 1, 1) := by decide +kernel
theorem dX13_names_6 : decode cX13_names 6 = .ok (.if_icmp .ne 7, 3) := by decide +kernel
theorem dX13_names_9 : decode cX13_names 9 = .ok (.iconst 0, 1) := by decide +kernel
set_option maxHeartbeats 4000000 in
set_option maxRecDepth 100000 in
theorem c_X13_names (l : Launch) (D : va_G) (T : Nat → ClassId) (x0 : Int32) (hxn : 0 ≤ x0.toInt ∧ x0.toInt ≤ 12) : Met l yX13_names wsX13_names ({ frames := 0, cells := 0, slots := 0, locals := 0 }) (pR [.int x0] D T []) (vp_Si (fun r => r.toInt = (nmT (x0.toNatClampNeg)).toInt ∧ 0 ≤ r.toInt ∧ r.toInt ≤ 2)) 0 0 (fun _ => False) := by
  refine Met.ofW (cc := cX13_names) (maxL := 1) (ret := (some .int)) (by decide +kernel) rfl ?_
  intro p e s m args below meth c s₁ B hml hv
  obtain ⟨rfl, hP, hE⟩ := hv
  have hx := B.exec
  have hb := B.bytes
  have hr := B.returns
  have hts := atoms_spec (ws := wsX13_names) B.pre
  have hown : s.vm.findClass RX13 = some m.cls := findClass_of_methodNamed B.named
  have hlocks := B.notSynchronized
  have hP : va_P D vwCl [] s.heap := hP
  have hl := lv_entry ([.int x0]) (n := 1) (Nat.le_of_ble_eq_true rfl)
  rw [lg_entry_eq]
  generalize (lg_sl ([.int x0]) ++ List.replicate (1 - (lg_sl ([.int x0])).length) Slot.unset).toArray = ls at hl ⊢
  have hl : lv_has ls 1 [(0, .int x0)] := hl
  rcases in13i (x := x0) (by omega) with rfl | rfl | rfl | rfl | rfl | rfl | rfl | rfl | rfl | rfl | rfl | rfl | rfl
  · refine lv_iload_n hx hb dX13_names_0 rfl (lv_at hl 0 rfl) ?_
    refine lv_if_eq (tgt := 9) hx hb dX13_names_1 (by decide +kernel) (fun _ => ?_) (fun c9 => absurd c9 (by decide +kernel))
    refine lv_iconst (v := 0) hx hb dX13_names_9 (by decide +kernel) ?_
    refine lv_goto (tgt := 47) hx hb dX13_names_10 (by decide +kernel) ?_
    exact W.iret hx hb hr (fun t ht hW => ⟨_, rfl, (by decide +kernel), ht⟩) (fun _ h => by cases h) dX13_names_47
  · refine lv_iload_n hx hb dX13_names_0 rfl (lv_at hl 0 rfl) ?_
    refine lv_if_eq (tgt := 9) hx hb dX13_names_1 (by decide +kernel) (fun c9 => absurd c9 (by decide +kernel)) (fun _ => ?_)
    refine lv_iload_n hx hb dX13_names_4 rfl (lv_at hl 0 rfl) ?_
    refine lv_iconst (v := 1) hx hb dX13_names_5 (by decide +kernel) ?_
    refine lv_icmp_ne (tgt := 13) hx hb dX13_names_6 (by decide +kernel) (fun c9 => absurd c9 (by decide +kernel)) (fun _ => ?_)
    refine lv_iconst (v := 0) hx hb dX13_names_9 (by decide +kernel) ?_
    refine lv_goto (tgt := 47) hx hb dX13_names_10 (by decide +kernel) ?_
    exact W.iret hx hb hr (fun t ht hW => ⟨_, rfl, (by decide +kernel), ht⟩) (fun _ h => by cases h) dX13_names_47
  · refine lv_iload_n hx hb dX13_names_0 rfl (lv_at hl 0 rfl) ?_
    refine lv_if_eq (tgt := 9) hx hb dX13_names_1 (by decide +kernel) (fun c9 => absurd c9 (by decide +kernel)) (fun _ => ?_)
    refine lv_iload_n hx hb dX13_names_4 rfl (lv_at hl 0 rfl) ?_
    refine lv_iconst (v := 1) hx hb dX13_names_5 (by decide +kernel) ?_
    refine lv_icmp_ne (tgt := 13) hx hb dX13_names_6 (by decide +kernel) (fun _ => ?_) (fun c9 => absurd c9 (by decide +kernel))
    refine lv_iload_n hx hb dX13_names_13 rfl (lv_at hl 0 rfl) ?_
    refine lv_iconst (v := 5) hx hb dX13_names_14 (by decide +kernel) ?_
    refine lv_icmp_eq (tgt := 42) hx hb dX13_names_15 (by decide +kernel) (fun c9 => absurd c9 (by decide +kernel)) (fun _ => ?_)
    refine lv_iload_n hx hb dX13_names_18 rfl (lv_at hl 0 rfl) ?_
    refine lv_bipush (v := 6) hx hb dX13_names_19 (by decide +kernel) ?_
    refine lv_icmp_eq (tgt := 42) hx hb dX13_names_21 (by decide +kernel) (fun c9 => absurd c9 (by decide +kernel)) (fun _ => ?_)
    refine lv_iload_n hx hb dX13_names_24 rfl (lv_at hl 0 rfl) ?_
    refine lv_bipush (v := 7) hx hb dX13_names_25 (by decide +kernel) ?_
    refine lv_icmp_eq (tgt := 42) hx hb dX13_names_27 (by decide +kernel) (fun c9 => absurd c9 (by decide +kernel)) (fun _ => ?_)
    refine lv_iload_n hx hb dX13_names_30 rfl (lv_at hl 0 rfl) ?_
    refine lv_bipush (v := 9) hx hb dX13_names_31 (by decide +kernel) ?_
    refine lv_icmp_eq (tgt := 42) hx hb dX13_names_33 (by decide +kernel) (fun c9 => absurd c9 (by decide +kernel)) (fun _ => ?_)
    refine lv_iload_n hx hb dX13_names_36 rfl (lv_at hl 0 rfl) ?_
    refine lv_bipush (v := 12) hx hb dX13_names_37 (by decide +kernel) ?_
    refine lv_icmp_ne (tgt := 46) hx hb dX13_names_39 (by decide +kernel) (fun _ => ?_) (fun c9 => absurd c9 (by decide +kernel))
    refine lv_iconst (v := 1) hx hb dX13_names_46 (by decide +kernel) ?_
    exact W.iret hx hb hr (fun t ht hW => ⟨_, rfl, (by decide +kernel), ht⟩) (fun _ h => by cases h) dX13_names_47
  · refine lv_iload_n hx hb dX13_names_0 rfl (lv_at hl 0 rfl) ?_
    refine lv_if_eq (tgt := 9) hx hb dX13_names_1 (by decide +kernel) (fun c9 => absurd c9 (by decide +kernel)) (fun _ => ?_)
    refine lv_iload_n hx hb dX13_names_4 rfl (lv_at hl 0 rfl) ?_
    refine lv_iconst (v := 1) hx hb dX13_names_5 (by decide +kernel) ?_
    refine lv_icmp_ne (tgt := 13) hx hb dX13_names_6 (by decide +kernel) (fun _ => ?_) (fun c9 => absurd c9 (by decide +kernel))
    refine lv_iload_n hx hb dX13_names_13 rfl (lv_at hl 0 rfl) ?_
    refine lv_iconst (v := 5) hx hb dX13_names_14 (by decide +kernel) ?_
    refine lv_icmp_eq (tgt := 42) hx hb dX13_names_15 (by decide +kernel) (fun c9 => absurd c9 (by decide +kernel)) (fun _ => ?_)
    refine lv_iload_n hx hb dX13_names_18 rfl (lv_at hl 0 rfl) ?_
    refine lv_bipush (v := 6) hx hb dX13_names_19 (by decide +kernel) ?_
    refine lv_icmp_eq (tgt := 42) hx hb dX13_names_21 (by decide +kernel) (fun c9 => absurd c9 (by decide +kernel)) (fun _ => ?_)
    refine lv_iload_n hx hb dX13_names_24 rfl (lv_at hl 0 rfl) ?_
    refine lv_bipush (v := 7) hx hb dX13_names_25 (by decide +kernel) ?_
    refine lv_icmp_eq (tgt := 42) hx hb dX13_names_27 (by decide +kernel) (fun c9 => absurd c9 (by decide +kernel)) (fun _ => ?_)
    refine lv_iload_n hx hb dX13_names_30 rfl (lv_at hl 0 rfl) ?_
    refine lv_bipush (v := 9) hx hb dX13_names_31 (by decide +kernel) ?_
    refine lv_icmp_eq (tgt := 42) hx hb dX13_names_33 (by decide +kernel) (fun c9 => absurd c9 (by decide +kernel)) (fun _ => ?_)
    refine lv_iload_n hx hb dX13_names_36 rfl (lv_at hl 0 rfl) ?_
    refine lv_bipush (v := 12) hx hb dX13_names_37 (by decide +kernel) ?_
    refine lv_icmp_ne (tgt := 46) hx hb dX13_names_39 (by decide +kernel) (fun _ => ?_) (fun c9 => absurd c9 (by decide +kernel))
    refine lv_iconst (v := 1) hx hb dX13_names_46 (by decide +kernel) ?_
    exact W.iret hx hb hr (fun t ht hW => ⟨_, rfl, (by decide +kernel), ht⟩) (fun _ h => by cases h) dX13_names_47
  · refine lv_iload_n hx hb dX13_names_0 rfl (lv_at hl 0 rfl) ?_
    refine lv_if_eq (tgt := 9) hx hb dX13_names_1 (by decide +kernel) (fun c9 => absurd c9 (by decide +kernel)) (fun _ => ?_)
    refine lv_iload_n hx hb dX13_names_4 rfl (lv_at hl 0 rfl) ?_
    refine lv_iconst (v := 1) hx hb dX13_names_5 (by decide +kernel) ?_
    refine lv_icmp_ne (tgt := 13) hx hb dX13_names_6 (by decide +kernel) (fun _ => ?_) (fun c9 => absurd c9 (by decide +kernel))
    refine lv_iload_n hx hb dX13_names_13 rfl (lv_at hl 0 rfl) ?_
    refine lv_iconst (v := 5) hx hb dX13_names_14 (by decide +kernel) ?_
    refine lv_icmp_eq (tgt := 42) hx hb dX13_names_15 (by decide +kernel) (fun c9 => absurd c9 (by decide +kernel)) (fun _ => ?_)
    refine lv_iload_n hx hb dX13_names_18 rfl (lv_at hl 0 rfl) ?_
    refine lv_bipush (v := 6) hx hb dX13_names_19 (by decide +kernel) ?_
    refine lv_icmp_eq (tgt := 42) hx hb dX13_names_21 (by decide +kernel) (fun c9 => absurd c9 (by decide +kernel)) (fun _ => ?_)
    refine lv_iload_n hx hb dX13_names_24 rfl (lv_at hl 0 rfl) ?_
    refine lv_bipush (v := 7) hx hb dX13_names_25 (by decide +kernel) ?_
    refine lv_icmp_eq (tgt := 42) hx hb dX13_names_27 (by decide +kernel) (fun c9 => absurd c9 (by decide +kernel)) (fun _ => ?_)
    refine lv_iload_n hx hb dX13_names_30 rfl (lv_at hl 0 rfl) ?_
    refine lv_bipush (v := 9) hx hb dX13_names_31 (by decide +kernel) ?_
    refine lv_icmp_eq (tgt := 42) hx hb dX13_names_33 (by decide +kernel) (fun c9 => absurd c9 (by decide +kernel)) (fun _ => ?_)
    refine lv_iload_n hx hb dX13_names_36 rfl (lv_at hl 0 rfl) ?_
    refine lv_bipush (v := 12) hx hb dX13_names_37 (by decide +kernel) ?_
    refine lv_icmp_ne (tgt := 46) hx hb dX13_names_39 (by decide +kernel) (fun _ => ?_) (fun c9 => absurd c9 (by decide +kernel))
    refine lv_iconst (v := 1) hx hb dX13_names_46 (by decide +kernel) ?_
    exact W.iret hx hb hr (fun t ht hW => ⟨_, rfl, (by decide +kernel), ht⟩) (fun _ h => by cases h) dX13_names_47
  · refine lv_iload_n hx hb dX13_names_0 rfl (lv_at hl 0 rfl) ?_
    refine lv_if_eq (tgt := 9) hx hb dX13_names_1 (by decide +kernel) (fun c9 => absurd c9 (by decide +kernel)) (fun _ => ?_)
    refine lv_iload_n hx hb dX13_names_4 rfl (lv_at hl 0 rfl) ?_
    refine lv_iconst (v := 1) hx hb dX13_names_5 (by decide +kernel) ?_
    refine lv_icmp_ne (tgt := 13) hx hb dX13_names_6 (by decide +kernel) (fun _ => ?_) (fun c9 => absurd c9 (by decide +kernel))
    refine lv_iload_n hx hb dX13_names_13 rfl (lv_at hl 0 rfl) ?_
    refine lv_iconst (v := 5) hx hb dX13_names_14 (by decide +kernel) ?_
    refine lv_icmp_eq (tgt := 42) hx hb dX13_names_15 (by decide +kernel) (fun _ => ?_) (fun c9 => absurd c9 (by decide +kernel))
    refine lv_iconst (v := 2) hx hb dX13_names_42 (by decide +kernel) ?_
    refine lv_goto (tgt := 47) hx hb dX13_names_43 (by decide +kernel) ?_
    exact W.iret hx hb hr (fun t ht hW => ⟨_, rfl, (by decide +kernel), ht⟩) (fun _ h => by cases h) dX13_names_47
  · refine lv_iload_n hx hb dX13_names_0 rfl (lv_at hl 0 rfl) ?_
    refine lv_if_eq (tgt := 9) hx hb dX13_names_1 (by decide +kernel) (fun c9 => absurd c9 (by decide +kernel)) (fun _ => ?_)
    refine lv_iload_n hx hb dX13_names_4 rfl (lv_at hl 0 rfl) ?_
    refine lv_iconst (v := 1) hx hb dX13_names_5 (by decide +kernel) ?_
    refine lv_icmp_ne (tgt := 13) hx hb dX13_names_6 (by decide +kernel) (fun _ => ?_) (fun c9 => absurd c9 (by decide +kernel))
    refine lv_iload_n hx hb dX13_names_13 rfl (lv_at hl 0 rfl) ?_
    refine lv_iconst (v := 5) hx hb dX13_names_14 (by decide +kernel) ?_
    refine lv_icmp_eq (tgt := 42) hx hb dX13_names_15 (by decide +kernel) (fun c9 => absurd c9 (by decide +kernel)) (fun _ => ?_)
    refine lv_iload_n hx hb dX13_names_18 rfl (lv_at hl 0 rfl) ?_
    refine lv_bipush (v := 6) hx hb dX13_names_19 (by decide +kernel) ?_
    refine lv_icmp_eq (tgt := 42) hx hb dX13_names_21 (by decide +kernel) (fun _ => ?_) (fun c9 => absurd c9 (by decide +kernel))
    refine lv_iconst (v := 2) hx hb dX13_names_42 (by decide +kernel) ?_
    refine lv_goto (tgt := 47) hx hb dX13_names_43 (by decide +kernel) ?_
    exact W.iret hx hb hr (fun t ht hW => ⟨_, rfl, (by decide +kernel), ht⟩) (fun _ h => by cases h) dX13_names_47
  · refine lv_iload_n hx hb dX13_names_0 rfl (lv_at hl 0 rfl) ?_
    refine lv_if_eq (tgt := 9) hx hb dX13_names_1 (by decide +kernel) (fun c9 => absurd c9 (by decide +kernel)) (fun _ => ?_)
    refine lv_iload_n hx hb dX13_names_4 rfl (lv_at hl 0 rfl) ?_
    refine lv_iconst (v := 1) hx hb dX13_names_5 (by decide +kernel) ?_
    refine lv_icmp_ne (tgt := 13) hx hb dX13_names_6 (by decide +kernel) (fun _ => ?_) (fun c9 => absurd c9 (by decide +kernel))
    refine lv_iload_n hx hb dX13_names_13 rfl (lv_at hl 0 rfl) ?_
    refine lv_iconst (v := 5) hx hb dX13_names_14 (by decide +kernel) ?_
    refine lv_icmp_eq (tgt := 42) hx hb dX13_names_15 (by decide +kernel) (fun c9 => absurd c9 (by decide +kernel)) (fun _ => ?_)
    refine lv_iload_n hx hb dX13_names_18 rfl (lv_at hl 0 rfl) ?_
    refine lv_bipush (v := 6) hx hb dX13_names_19 (by decide +kernel) ?_
    refine lv_icmp_eq (tgt := 42) hx hb dX13_names_21 (by decide +kernel) (fun c9 => absurd c9 (by decide +kernel)) (fun _ => ?_)
    refine lv_iload_n hx hb dX13_names_24 rfl (lv_at hl 0 rfl) ?_
    refine lv_bipush (v := 7) hx hb dX13_names_25 (by decide +kernel) ?_
    refine lv_icmp_eq (tgt := 42) hx hb dX13_names_27 (by decide +kernel) (fun _ => ?_) (fun c9 => absurd c9 (by decide +kernel))
    refine lv_iconst (v := 2) hx hb dX13_names_42 (by decide +kernel) ?_
    refine lv_goto (tgt := 47) hx hb dX13_names_43 (by decide +kernel) ?_
    exact W.iret hx hb hr (fun t ht hW => ⟨_, rfl, (by decide +kernel), ht⟩) (fun _ h => by cases h) dX13_names_47
  · refine lv_iload_n hx hb dX13_names_0 rfl (lv_at hl 0 rfl) ?_
    refine lv_if_eq (tgt := 9) hx hb dX13_names_1 (by decide +kernel) (fun c9 => absurd c9 (by decide +kernel)) (fun _ => ?_)
    refine lv_iload_n hx hb dX13_names_4 rfl (lv_at hl 0 rfl) ?_
    refine lv_iconst (v := 1) hx hb dX13_names_5 (by decide +kernel) ?_
    refine lv_icmp_ne (tgt := 13) hx hb dX13_names_6 (by decide +kernel) (fun _ => ?_) (fun c9 => absurd c9 (by decide +kernel))
    refine lv_iload_n hx hb dX13_names_13 rfl (lv_at hl 0 rfl) ?_
    refine lv_iconst (v := 5) hx hb dX13_names_14 (by decide +kernel) ?_
    refine lv_icmp_eq (tgt := 42) hx hb dX13_names_15 (by decide +kernel) (fun c9 => absurd c9 (by decide +kernel)) (fun _ => ?_)
    refine lv_iload_n hx hb dX13_names_18 rfl (lv_at hl 0 rfl) ?_
    refine lv_bipush (v := 6) hx hb dX13_names_19 (by decide +kernel) ?_
    refine lv_icmp_eq (tgt := 42) hx hb dX13_names_21 (by decide +kernel) (fun c9 => absurd c9 (by decide +kernel)) (fun _ => ?_)
    refine lv_iload_n hx hb dX13_names_24 rfl (lv_at hl 0 rfl) ?_
    refine lv_bipush (v := 7) hx hb dX13_names_25 (by decide +kernel) ?_
    refine lv_icmp_eq (tgt := 42) hx hb dX13_names_27 (by decide +kernel) (fun c9 => absurd c9 (by decide +kernel)) (fun _ => ?_)
    refine lv_iload_n hx hb dX13_names_30 rfl (lv_at hl 0 rfl) ?_
    refine lv_bipush (v := 9) hx hb dX13_names_31 (by decide +kernel) ?_
    refine lv_icmp_eq (tgt := 42) hx hb dX13_names_33 (by decide +kernel) (fun c9 => absurd c9 (by decide +kernel)) (fun _ => ?_)
    refine lv_iload_n hx hb dX13_names_36 rfl (lv_at hl 0 rfl) ?_
    refine lv_bipush (v := 12) hx hb dX13_names_37 (by decide +kernel) ?_
    refine lv_icmp_ne (tgt := 46) hx hb dX13_names_39 (by decide +kernel) (fun _ => ?_) (fun c9 => absurd c9 (by decide +kernel))
    refine lv_iconst (v := 1) hx hb dX13_names_46 (by decide +kernel) ?_
    exact W.iret hx hb hr (fun t ht hW => ⟨_, rfl, (by decide +kernel), ht⟩) (fun _ h => by cases h) dX13_names_47
  · refine lv_iload_n hx hb dX13_names_0 rfl (lv_at hl 0 rfl) ?_
    refine lv_if_eq (tgt := 9) hx hb dX13_names_1 (by decide +kernel) (fun c9 => absurd c9 (by decide +kernel)) (fun _ => ?_)
    refine lv_iload_n hx hb dX13_names_4 rfl (lv_at hl 0 rfl) ?_
    refine lv_iconst (v := 1) hx hb dX13_names_5 (by decide +kernel) ?_
    refine lv_icmp_ne (tgt := 13) hx hb dX13_names_6 (by decide +kernel) (fun _ => ?_) (fun c9 => absurd c9 (by decide +kernel))
    refine lv_iload_n hx hb dX13_names_13 rfl (lv_at hl 0 rfl) ?_
    refine lv_iconst (v := 5) hx hb dX13_names_14 (by decide +kernel) ?_
    refine lv_icmp_eq (tgt := 42) hx hb dX13_names_15 (by decide +kernel) (fun c9 => absurd c9 (by decide +kernel)) (fun _ => ?_)
    refine lv_iload_n hx hb dX13_names_18 rfl (lv_at hl 0 rfl) ?_
    refine lv_bipush (v := 6) hx hb dX13_names_19 (by decide +kernel) ?_
    refine lv_icmp_eq (tgt := 42) hx hb dX13_names_21 (by decide +kernel) (fun c9 => absurd c9 (by decide +kernel)) (fun _ => ?_)
    refine lv_iload_n hx hb dX13_names_24 rfl (lv_at hl 0 rfl) ?_
    refine lv_bipush (v := 7) hx hb dX13_names_25 (by decide +kernel) ?_
    refine lv_icmp_eq (tgt := 42) hx hb dX13_names_27 (by decide +kernel) (fun c9 => absurd c9 (by decide +kernel)) (fun _ => ?_)
    refine lv_iload_n hx hb dX13_names_30 rfl (lv_at hl 0 rfl) ?_
    refine lv_bipush (v := 9) hx hb dX13_names_31 (by decide +kernel) ?_
    refine lv_icmp_eq (tgt := 42) hx hb dX13_names_33 (by decide +kernel) (fun _ => ?_) (fun c9 => absurd c9 (by decide +kernel))
    refine lv_iconst (v := 2) hx hb dX13_names_42 (by decide +kernel) ?_
    refine lv_goto (tgt := 47) hx hb dX13_names_43 (by decide +kernel) ?_
    exact W.iret hx hb hr (fun t ht hW => ⟨_, rfl, (by decide +kernel), ht⟩) (fun _ h => by cases h) dX13_names_47
  · refine lv_iload_n hx hb dX13_names_0 rfl (lv_at hl 0 rfl) ?_
    refine lv_if_eq (tgt := 9) hx hb dX13_names_1 (by decide +kernel) (fun c9 => absurd c9 (by decide +kernel)) (fun _ => ?_)
    refine lv_iload_n hx hb dX13_names_4 rfl (lv_at hl 0 rfl) ?_
    refine lv_iconst (v := 1) hx hb dX13_names_5 (by decide +kernel) ?_
    refine lv_icmp_ne (tgt := 13) hx hb dX13_names_6 (by decide +kernel) (fun _ => ?_) (fun c9 => absurd c9 (by decide +kernel))
    refine lv_iload_n hx hb dX13_names_13 rfl (lv_at hl 0 rfl) ?_
    refine lv_iconst (v := 5) hx hb dX13_names_14 (by decide +kernel) ?_
    refine lv_icmp_eq (tgt := 42) hx hb dX13_names_15 (by decide +kernel) (fun c9 => absurd c9 (by decide +kernel)) (fun _ => ?_)
    refine lv_iload_n hx hb dX13_names_18 rfl (lv_at hl 0 rfl) ?_
    refine lv_bipush (v := 6) hx hb dX13_names_19 (by decide +kernel) ?_
    refine lv_icmp_eq (tgt := 42) hx hb dX13_names_21 (by decide +kernel) (fun c9 => absurd c9 (by decide +kernel)) (fun _ => ?_)
    refine lv_iload_n hx hb dX13_names_24 rfl (lv_at hl 0 rfl) ?_
    refine lv_bipush (v := 7) hx hb dX13_names_25 (by decide +kernel) ?_
    refine lv_icmp_eq (tgt := 42) hx hb dX13_names_27 (by decide +kernel) (fun c9 => absurd c9 (by decide +kernel)) (fun _ => ?_)
    refine lv_iload_n hx hb dX13_names_30 rfl (lv_at hl 0 rfl) ?_
    refine lv_bipush (v := 9) hx hb dX13_names_31 (by decide +kernel) ?_
    refine lv_icmp_eq (tgt := 42) hx hb dX13_names_33 (by decide +kernel) (fun c9 => absurd c9 (by decide +kernel)) (fun _ => ?_)
    refine lv_iload_n hx hb dX13_names_36 rfl (lv_at hl 0 rfl) ?_
    refine lv_bipush (v := 12) hx hb dX13_names_37 (by decide +kernel) ?_
    refine lv_icmp_ne (tgt := 46) hx hb dX13_names_39 (by decide +kernel) (fun _ => ?_) (fun c9 => absurd c9 (by decide +kernel))
    refine lv_iconst (v := 1) hx hb dX13_names_46 (by decide +kernel) ?_
    exact W.iret hx hb hr (fun t ht hW => ⟨_, rfl, (by decide +kernel), ht⟩) (fun _ h => by cases h) dX13_names_47
  · refine lv_iload_n hx hb dX13_names_0 rfl (lv_at hl 0 rfl) ?_
    refine lv_if_eq (tgt := 9) hx hb dX13_names_1 (by decide +kernel) (fun c9 => absurd c9 (by decide +kernel)) (fun _ => ?_)
    refine lv_iload_n hx hb dX13_names_4 rfl (lv_at hl 0 rfl) ?_
    refine lv_iconst (v := 1) hx hb dX13_names_5 (by decide +kernel) ?_
    refine lv_icmp_ne (tgt := 13) hx hb dX13_names_6 (by decide +kernel) (fun _ => ?_) (fun c9 => absurd c9 (by decide +kernel))
    refine lv_iload_n hx hb dX13_names_13 rfl (lv_at hl 0 rfl) ?_
    refine lv_iconst (v := 5) hx hb dX13_names_14 (by decide +kernel) ?_
    refine lv_icmp_eq (tgt := 42) hx hb dX13_names_15 (by decide +kernel) (fun c9 => absurd c9 (by decide +kernel)) (fun _ => ?_)
    refine lv_iload_n hx hb dX13_names_18 rfl (lv_at hl 0 rfl) ?_
    refine lv_bipush (v := 6) hx hb dX13_names_19 (by decide +kernel) ?_
    refine lv_icmp_eq (tgt := 42) hx hb dX13_names_21 (by decide +kernel) (fun c9 => absurd c9 (by decide +kernel)) (fun _ => ?_)
    refine lv_iload_n hx hb dX13_names_24 rfl (lv_at hl 0 rfl) ?_
    refine lv_bipush (v := 7) hx hb dX13_names_25 (by decide +kernel) ?_
    refine lv_icmp_eq (tgt := 42) hx hb dX13_names_27 (by decide +kernel) (fun c9 => absurd c9 (by decide +kernel)) (fun _ => ?_)
    refine lv_iload_n hx hb dX13_names_30 rfl (lv_at hl 0 rfl) ?_
    refine lv_bipush (v := 9) hx hb dX13_names_31 (by decide +kernel) ?_
    refine lv_icmp_eq (tgt := 42) hx hb dX13_names_33 (by decide +kernel) (fun c9 => absurd c9 (by decide +kernel)) (fun _ => ?_)
    refine lv_iload_n hx hb dX13_names_36 rfl (lv_at hl 0 rfl) ?_
    refine lv_bipush (v := 12) hx hb dX13_names_37 (by decide +kernel) ?_
    refine lv_icmp_ne (tgt := 46) hx hb dX13_names_39 (by decide +kernel) (fun _ => ?_) (fun c9 => absurd c9 (by decide +kernel))
    refine lv_iconst (v := 1) hx hb dX13_names_46 (by decide +kernel) ?_
    exact W.iret hx hb hr (fun t ht hW => ⟨_, rfl, (by decide +kernel), ht⟩) (fun _ h => by cases h) dX13_names_47
  · refine lv_iload_n hx hb dX13_names_0 rfl (lv_at hl 0 rfl) ?_
    refine lv_if_eq (tgt := 9) hx hb dX13_names_1 (by decide +kernel) (fun c9 => absurd c9 (by decide +kernel)) (fun _ => ?_)
    refine lv_iload_n hx hb dX13_names_4 rfl (lv_at hl 0 rfl) ?_
    refine lv_iconst (v := 1) hx hb dX13_names_5 (by decide +kernel) ?_
    refine lv_icmp_ne (tgt := 13) hx hb dX13_names_6 (by decide +kernel) (fun _ => ?_) (fun c9 => absurd c9 (by decide +kernel))
    refine lv_iload_n hx hb dX13_names_13 rfl (lv_at hl 0 rfl) ?_
    refine lv_iconst (v := 5) hx hb dX13_names_14 (by decide +kernel) ?_
    refine lv_icmp_eq (tgt := 42) hx hb dX13_names_15 (by decide +kernel) (fun c9 => absurd c9 (by decide +kernel)) (fun _ => ?_)
    refine lv_iload_n hx hb dX13_names_18 rfl (lv_at hl 0 rfl) ?_
    refine lv_bipush (v := 6) hx hb dX13_names_19 (by decide +kernel) ?_
    refine lv_icmp_eq (tgt := 42) hx hb dX13_names_21 (by decide +kernel) (fun c9 => absurd c9 (by decide +kernel)) (fun _ => ?_)
    refine lv_iload_n hx hb dX13_names_24 rfl (lv_at hl 0 rfl) ?_
    refine lv_bipush (v := 7) hx hb dX13_names_25 (by decide +kernel) ?_
    refine lv_icmp_eq (tgt := 42) hx hb dX13_names_27 (by decide +kernel) (fun c9 => absurd c9 (by decide +kernel)) (fun _ => ?_)
    refine lv_iload_n hx hb dX13_names_30 rfl (lv_at hl 0 rfl) ?_
    refine lv_bipush (v := 9) hx hb dX13_names_31 (by decide +kernel) ?_
    refine lv_icmp_eq (tgt := 42) hx hb dX13_names_33 (by decide +kernel) (fun c9 => absurd c9 (by decide +kernel)) (fun _ => ?_)
    refine lv_iload_n hx hb dX13_names_36 rfl (lv_at hl 0 rfl) ?_
    refine lv_bipush (v := 12) hx hb dX13_names_37 (by decide +kernel) ?_
    refine lv_icmp_ne (tgt := 46) hx hb dX13_names_39 (by decide +kernel) (fun c9 => absurd c9 (by decide +kernel)) (fun _ => ?_)
    refine lv_iconst (v := 2) hx hb dX13_names_42 (by decide +kernel) ?_
    refine lv_goto (tgt := 47) hx hb dX13_names_43 (by decide +kernel) ?_
    exact W.iret hx hb hr (fun t ht hW => ⟨_, rfl, (by decide +kernel), ht⟩) (fun _ h => by cases h) dX13_names_47
theorem dX13_isNumber_0 : decode cX13_isNumber 0 = .ok (.iload_n 0, 1) := by decide +kernel
theorem dX13_isNumber_1 : decode cX13_isNumber 1 = .ok (.iconst 3, 1) := by decide +kernel
theorem dX13_isNumber_10 : decode cX13_isNumber 10 = .ok (.ldc2_w 179, 3) := by decide +kernel
theorem dX13_isNumber_13 : decode cX13_isNumber 13 = .ok (.invokestatic 175, 3) := by decide +kernel
theorem dX13_isNumber_16 : decode cX13_isNumber 16 = .ok (.goto 50, 3) := by decide +kernel
theorem dX13_isNumber_19 : decode cX13_isNumber 19 = .ok (.iload_n 0, 1) := by decide +kernel
theorem dX13_isNumber_2 : decode cX13_isNumber 2 = .ok (.if_icmp .ne 17, 3) := by decide +kernel
theorem dX13_isNumber_20 : decode cX13_isNumber 20 = .ok (.bipush 8, 2) := by decide +kernel
theorem dX13_isNumber_22 : decode cX13_isNumber 22 = .ok (.if_icmp .ne 15, 3) := by decide +kernel
theorem dX13_isNumber_25 : decode cX13_isNumber 25 = .ok (.iload_n 1, 1) := by decide +kernel
theorem dX13_isNumber_26 : decode cX13_isNumber 26 = .ok (.i2l, 1) := by decide +kernel
theorem dX13_isNumber_27 : decode cX13_isNumber 27 = .ok (.lconst 0, 1) := by decide +kernel
theorem dX13_isNumber_28 : decode cX13_isNumber 28 = .ok (.ldc2_w 186, 3) := by decide +kernel
theorem dX13_isNumber_31 : decode cX13_isNumber 31 = .ok (.invokestatic 175, 3) := by decide +kernel
theorem dX13_isNumber_34 : decode cX13_isNumber 34 = .ok (.goto 32, 3) := by decide +kernel
theorem dX13_isNumber_37 : decode cX13_isNumber 37 = .ok (.iload_n 0, 1) := by decide +kernel
theorem dX13_isNumber_38 : decode cX13_isNumber 38 = .ok (.bipush 12, 2) := by decide +kernel
theorem dX13_isNumber_40 : decode cX13_isNumber 40 = .ok (.if_icmp .ne 17, 3) := by decide +kernel
theorem dX13_isNumber_43 : decode cX13_isNumber 43 = .ok (.iload_n 1, 1) := by decide +kernel
theorem dX13_isNumber_44 : decode cX13_isNumber 44 = .ok (.i2l, 1) := by decide +kernel
theorem dX13_isNumber_45 : decode cX13_isNumber 45 = .ok (.ldc2_w 171, 3) := by decide +kernel
theorem dX13_isNumber_48 : decode cX13_isNumber 48 = .ok (.ldc2_w 173, 3) := by decide +kernel
theorem dX13_isNumber_5 : decode cX13_isNumber 5 = .ok (.iload_n 1, 1) := by decide +kernel
theorem dX13_isNumber_51 : decode cX13_isNumber 51 = .ok (.invokestatic 175, 3) := by decide +kernel
theorem dX13_isNumber_54 : decode cX13_isNumber 54 = .ok (.goto 12, 3) := by decide +kernel
theorem dX13_isNumber_57 : decode cX13_isNumber 57 = .ok (.iload_n 1, 1) := by decide +kernel
theorem dX13_isNumber_58 : decode cX13_isNumber 58 = .ok (.ifCond .ne 7, 3) := by decide +kernel
theorem dX13_isNumber_6 : decode cX13_isNumber 6 = .ok (.i2l, 1) := by decide +kernel
theorem dX13_isNumber_61 : decode cX13_isNumber 61 = .ok (.iconst 1, 1) := by decide +kernel
theorem dX13_isNumber_62 : decode cX13_isNumber 62 = .ok (.goto 4, 3) := by decide +kernel
theorem dX13_isNumber_65 : decode cX13_isNumber 65 = .ok (.iconst 0, 1) := by decide +kernel
theorem dX13_isNumber_66 : decode cX13_isNumber 66 = .ok (.ireturn, 1) := by decide +kernel
theorem dX13_isNumber_7 : decode cX13_isNumber 7 = .ok (.ldc2_w 208, 3) := by decide +kernel
set_option maxRecDepth 20000 in
theorem ggX13_isNumber_X13_in : GoodIn wsX13_isNumber wsX13_in := goodIn_r _ [9] rfl (by decide +kernel)
set_option maxRecDepth 20000 in
theorem gX13_isNumber_X13_in : GoodIn wsX13_isNumber (va_wsS RX13 175 yX13_in wsX13_in) := goodIn_app (goodIn_of _ (by decide +kernel)) ggX13_isNumber_X13_in
set_option maxHeartbeats 4000000 in
set_option maxRecDepth 100000 in
theorem c_X13_isNumber (l : Launch) (D : va_G) (T : Nat → ClassId) (x0 : Int32) (x1 : Int32) (hkx : 0 ≤ x0.toInt ∧ x0.toInt ≤ 12) : Met l yX13_isNumber wsX13_isNumber ({ frames := 1, cells := 0, slots := 0, locals := 25 }) (pR [.int x0, .int x1] D T []) (vp_Si (fun r => r = if (lsT (x0.toNatClampNeg)).toInt ≤ x1.toInt ∧ x1.toInt ≤ (msT (x0.toNatClampNeg)).toInt then 1 else 0)) 0 0 (fun _ => False) := by
  refine Met.ofW (cc := cX13_isNumber) (maxL := 2) (ret := (some .boolean)) (by decide +kernel) rfl ?_
  intro p e s m args below meth c s₁ B hml hv
  obtain ⟨rfl, hP, hE⟩ := hv
  have hx := B.exec
  have hb := B.bytes
  have hr := B.returns
  have hts := atoms_spec (ws := wsX13_isNumber) B.pre
  have hown : s.vm.findClass RX13 = some m.cls := findClass_of_methodNamed B.named
  have hlocks := B.notSynchronized
  have hP : va_P D vwCl [] s.heap := hP
  have hl := lv_entry ([.int x0, .int x1]) (n := 2) (Nat.le_of_ble_eq_true rfl)
  rw [lg_entry_eq]
  generalize (lg_sl ([.int x0, .int x1]) ++ List.replicate (2 - (lg_sl ([.int x0, .int x1])).length) Slot.unset).toArray = ls at hl ⊢
  have hl : lv_has ls 2 [(0, .int x0), (1, .int x1)] := hl
  rcases in13i (x := x0) (by omega) with rfl | rfl | rfl | rfl | rfl | rfl | rfl | rfl | rfl | rfl | rfl | rfl | rfl
  · have hl9 : (lsT (0 : Int32).toNatClampNeg).toInt = 0 := by decide
    have hm9 : (msT (0 : Int32).toNatClampNeg).toInt = 0 := by decide
    refine lv_iload_n hx hb dX13_isNumber_0 rfl (lv_at hl 0 rfl) ?_
    refine lv_iconst (v := 3) hx hb dX13_isNumber_1 (by decide +kernel) ?_
    refine lv_icmp_ne (tgt := 19) hx hb dX13_isNumber_2 (by decide +kernel) (fun _ => ?_) (fun c9 => absurd c9 (by decide +kernel))
    refine lv_iload_n hx hb dX13_isNumber_19 rfl (lv_at hl 0 rfl) ?_
    refine lv_bipush (v := 8) hx hb dX13_isNumber_20 (by decide +kernel) ?_
    refine lv_icmp_ne (tgt := 37) hx hb dX13_isNumber_22 (by decide +kernel) (fun _ => ?_) (fun c9 => absurd c9 (by decide +kernel))
    refine lv_iload_n hx hb dX13_isNumber_37 rfl (lv_at hl 0 rfl) ?_
    refine lv_bipush (v := 12) hx hb dX13_isNumber_38 (by decide +kernel) ?_
    refine lv_icmp_ne (tgt := 57) hx hb dX13_isNumber_40 (by decide +kernel) (fun _ => ?_) (fun c9 => absurd c9 (by decide +kernel))
    refine lv_iload_n hx hb dX13_isNumber_57 rfl (lv_at hl 1 rfl) ?_
    refine lv_if_ne (tgt := 65) hx hb dX13_isNumber_58 (by decide +kernel) (fun c_1 => ?_) (fun c_1 => ?_)
    · rw [fa_eq] at c_1
      try rw [ti_0] at c_1
      refine lv_iconst (v := 0) hx hb dX13_isNumber_65 (by decide +kernel) ?_
      exact W.zret hx hb hr rfl (fun t ht hW => ⟨_, rfl, (by exact (if_neg (by omega)).symm), ht⟩) (fun _ h => by cases h) dX13_isNumber_66
    · rw [fa_eq] at c_1
      try rw [ti_0] at c_1
      refine lv_iconst (v := 1) hx hb dX13_isNumber_61 (by decide +kernel) ?_
      refine lv_goto (tgt := 66) hx hb dX13_isNumber_62 (by decide +kernel) ?_
      exact W.zret hx hb hr rfl (fun t ht hW => ⟨_, rfl, (by exact (if_pos (by omega)).symm), ht⟩) (fun _ h => by cases h) dX13_isNumber_66
  · have hl9 : (lsT (1 : Int32).toNatClampNeg).toInt = 0 := by decide
    have hm9 : (msT (1 : Int32).toNatClampNeg).toInt = 0 := by decide
    refine lv_iload_n hx hb dX13_isNumber_0 rfl (lv_at hl 0 rfl) ?_
    refine lv_iconst (v := 3) hx hb dX13_isNumber_1 (by decide +kernel) ?_
    refine lv_icmp_ne (tgt := 19) hx hb dX13_isNumber_2 (by decide +kernel) (fun _ => ?_) (fun c9 => absurd c9 (by decide +kernel))
    refine lv_iload_n hx hb dX13_isNumber_19 rfl (lv_at hl 0 rfl) ?_
    refine lv_bipush (v := 8) hx hb dX13_isNumber_20 (by decide +kernel) ?_
    refine lv_icmp_ne (tgt := 37) hx hb dX13_isNumber_22 (by decide +kernel) (fun _ => ?_) (fun c9 => absurd c9 (by decide +kernel))
    refine lv_iload_n hx hb dX13_isNumber_37 rfl (lv_at hl 0 rfl) ?_
    refine lv_bipush (v := 12) hx hb dX13_isNumber_38 (by decide +kernel) ?_
    refine lv_icmp_ne (tgt := 57) hx hb dX13_isNumber_40 (by decide +kernel) (fun _ => ?_) (fun c9 => absurd c9 (by decide +kernel))
    refine lv_iload_n hx hb dX13_isNumber_57 rfl (lv_at hl 1 rfl) ?_
    refine lv_if_ne (tgt := 65) hx hb dX13_isNumber_58 (by decide +kernel) (fun c_2 => ?_) (fun c_2 => ?_)
    · rw [fa_eq] at c_2
      try rw [ti_0] at c_2
      refine lv_iconst (v := 0) hx hb dX13_isNumber_65 (by decide +kernel) ?_
      exact W.zret hx hb hr rfl (fun t ht hW => ⟨_, rfl, (by exact (if_neg (by omega)).symm), ht⟩) (fun _ h => by cases h) dX13_isNumber_66
    · rw [fa_eq] at c_2
      try rw [ti_0] at c_2
      refine lv_iconst (v := 1) hx hb dX13_isNumber_61 (by decide +kernel) ?_
      refine lv_goto (tgt := 66) hx hb dX13_isNumber_62 (by decide +kernel) ?_
      exact W.zret hx hb hr rfl (fun t ht hW => ⟨_, rfl, (by exact (if_pos (by omega)).symm), ht⟩) (fun _ h => by cases h) dX13_isNumber_66
  · have hl9 : (lsT (2 : Int32).toNatClampNeg).toInt = 0 := by decide
    have hm9 : (msT (2 : Int32).toNatClampNeg).toInt = 0 := by decide
    refine lv_iload_n hx hb dX13_isNumber_0 rfl (lv_at hl 0 rfl) ?_
    refine lv_iconst (v := 3) hx hb dX13_isNumber_1 (by decide +kernel) ?_
    refine lv_icmp_ne (tgt := 19) hx hb dX13_isNumber_2 (by decide +kernel) (fun _ => ?_) (fun c9 => absurd c9 (by decide +kernel))
    refine lv_iload_n hx hb dX13_isNumber_19 rfl (lv_at hl 0 rfl) ?_
    refine lv_bipush (v := 8) hx hb dX13_isNumber_20 (by decide +kernel) ?_
    refine lv_icmp_ne (tgt := 37) hx hb dX13_isNumber_22 (by decide +kernel) (fun _ => ?_) (fun c9 => absurd c9 (by decide +kernel))
    refine lv_iload_n hx hb dX13_isNumber_37 rfl (lv_at hl 0 rfl) ?_
    refine lv_bipush (v := 12) hx hb dX13_isNumber_38 (by decide +kernel) ?_
    refine lv_icmp_ne (tgt := 57) hx hb dX13_isNumber_40 (by decide +kernel) (fun _ => ?_) (fun c9 => absurd c9 (by decide +kernel))
    refine lv_iload_n hx hb dX13_isNumber_57 rfl (lv_at hl 1 rfl) ?_
    refine lv_if_ne (tgt := 65) hx hb dX13_isNumber_58 (by decide +kernel) (fun c_3 => ?_) (fun c_3 => ?_)
    · rw [fa_eq] at c_3
      try rw [ti_0] at c_3
      refine lv_iconst (v := 0) hx hb dX13_isNumber_65 (by decide +kernel) ?_
      exact W.zret hx hb hr rfl (fun t ht hW => ⟨_, rfl, (by exact (if_neg (by omega)).symm), ht⟩) (fun _ h => by cases h) dX13_isNumber_66
    · rw [fa_eq] at c_3
      try rw [ti_0] at c_3
      refine lv_iconst (v := 1) hx hb dX13_isNumber_61 (by decide +kernel) ?_
      refine lv_goto (tgt := 66) hx hb dX13_isNumber_62 (by decide +kernel) ?_
      exact W.zret hx hb hr rfl (fun t ht hW => ⟨_, rfl, (by exact (if_pos (by omega)).symm), ht⟩) (fun _ h => by cases h) dX13_isNumber_66
  · have hl9 : (lsT (3 : Int32).toNatClampNeg).toInt = -9 := by decide
    have hm9 : (msT (3 : Int32).toNatClampNeg).toInt = 9 := by decide
    refine lv_iload_n hx hb dX13_isNumber_0 rfl (lv_at hl 0 rfl) ?_
    refine lv_iconst (v := 3) hx hb dX13_isNumber_1 (by decide +kernel) ?_
    refine lv_icmp_ne (tgt := 19) hx hb dX13_isNumber_2 (by decide +kernel) (fun c9 => absurd c9 (by decide +kernel)) (fun _ => ?_)
    refine lv_iload_n hx hb dX13_isNumber_5 rfl (lv_at hl 1 rfl) ?_
    refine lv_i2l hx hb dX13_isNumber_6 rfl ?_
    refine lv_ldc2 (v := (-9)) hx hb hown (hts (.constantLong RX13 208 (-9)) (List.mem_of_getElem? (i := 1) rfl)) dX13_isNumber_7 ?_
    refine lv_ldc2 (v := 9) hx hb hown (hts (.constantLong RX13 179 (9)) (List.mem_of_getElem? (i := 2) rfl)) dX13_isNumber_10 ?_
    refine vp_callSi (W.runS (As := [.long (x1.toInt64), .long (-9), .long 9]) (rest := []) ⟨hx, hb, hml, hown, hts⟩ (c_X13_in l D T (x1.toInt64) (-9) 9 x1.toInt (-9) 9 ((Int32.toInt_toInt64 _).trans rfl) (by decide +kernel) (by decide +kernel)) (va_cwS 3 hts gX13_isNumber_X13_in rfl rfl rfl hs_X13_in ⟨Nat.le_of_ble_eq_true rfl, Nat.le_of_ble_eq_true rfl⟩) (pR_S hP hE [] rfl) rfl rfl hl.1 rfl (lv_room (Nat.le_of_ble_eq_true rfl)) dX13_isNumber_13 ⟨Nat.le_of_ble_eq_true rfl, Nat.le_of_ble_eq_true rfl⟩) (fun r_4 hr_4 => ?_)
    rcases bool_post hr_4 with ⟨c_5, rfl⟩ | ⟨c_5, rfl⟩
    · refine lv_goto (tgt := 66) hx hb dX13_isNumber_16 (by decide +kernel) ?_
      exact W.zret hx hb hr rfl (fun t ht hW => ⟨_, rfl, (by exact (if_pos (by omega)).symm), ht⟩) (fun _ h => by cases h) dX13_isNumber_66
    · refine lv_goto (tgt := 66) hx hb dX13_isNumber_16 (by decide +kernel) ?_
      exact W.zret hx hb hr rfl (fun t ht hW => ⟨_, rfl, (by exact (if_neg (by omega)).symm), ht⟩) (fun _ h => by cases h) dX13_isNumber_66
  · have hl9 : (lsT (4 : Int32).toNatClampNeg).toInt = 0 := by decide
    have hm9 : (msT (4 : Int32).toNatClampNeg).toInt = 0 := by decide
    refine lv_iload_n hx hb dX13_isNumber_0 rfl (lv_at hl 0 rfl) ?_
    refine lv_iconst (v := 3) hx hb dX13_isNumber_1 (by decide +kernel) ?_
    refine lv_icmp_ne (tgt := 19) hx hb dX13_isNumber_2 (by decide +kernel) (fun _ => ?_) (fun c9 => absurd c9 (by decide +kernel))
    refine lv_iload_n hx hb dX13_isNumber_19 rfl (lv_at hl 0 rfl) ?_
    refine lv_bipush (v := 8) hx hb dX13_isNumber_20 (by decide +kernel) ?_
    refine lv_icmp_ne (tgt := 37) hx hb dX13_isNumber_22 (by decide +kernel) (fun _ => ?_) (fun c9 => absurd c9 (by decide +kernel))
    refine lv_iload_n hx hb dX13_isNumber_37 rfl (lv_at hl 0 rfl) ?_
    refine lv_bipush (v := 12) hx hb dX13_isNumber_38 (by decide +kernel) ?_
    refine lv_icmp_ne (tgt := 57) hx hb dX13_isNumber_40 (by decide +kernel) (fun _ => ?_) (fun c9 => absurd c9 (by decide +kernel))
    refine lv_iload_n hx hb dX13_isNumber_57 rfl (lv_at hl 1 rfl) ?_
    refine lv_if_ne (tgt := 65) hx hb dX13_isNumber_58 (by decide +kernel) (fun c_6 => ?_) (fun c_6 => ?_)
    · rw [fa_eq] at c_6
      try rw [ti_0] at c_6
      refine lv_iconst (v := 0) hx hb dX13_isNumber_65 (by decide +kernel) ?_
      exact W.zret hx hb hr rfl (fun t ht hW => ⟨_, rfl, (by exact (if_neg (by omega)).symm), ht⟩) (fun _ h => by cases h) dX13_isNumber_66
    · rw [fa_eq] at c_6
      try rw [ti_0] at c_6
      refine lv_iconst (v := 1) hx hb dX13_isNumber_61 (by decide +kernel) ?_
      refine lv_goto (tgt := 66) hx hb dX13_isNumber_62 (by decide +kernel) ?_
      exact W.zret hx hb hr rfl (fun t ht hW => ⟨_, rfl, (by exact (if_pos (by omega)).symm), ht⟩) (fun _ h => by cases h) dX13_isNumber_66
  · have hl9 : (lsT (5 : Int32).toNatClampNeg).toInt = 0 := by decide
    have hm9 : (msT (5 : Int32).toNatClampNeg).toInt = 0 := by decide
    refine lv_iload_n hx hb dX13_isNumber_0 rfl (lv_at hl 0 rfl) ?_
    refine lv_iconst (v := 3) hx hb dX13_isNumber_1 (by decide +kernel) ?_
    refine lv_icmp_ne (tgt := 19) hx hb dX13_isNumber_2 (by decide +kernel) (fun _ => ?_) (fun c9 => absurd c9 (by decide +kernel))
    refine lv_iload_n hx hb dX13_isNumber_19 rfl (lv_at hl 0 rfl) ?_
    refine lv_bipush (v := 8) hx hb dX13_isNumber_20 (by decide +kernel) ?_
    refine lv_icmp_ne (tgt := 37) hx hb dX13_isNumber_22 (by decide +kernel) (fun _ => ?_) (fun c9 => absurd c9 (by decide +kernel))
    refine lv_iload_n hx hb dX13_isNumber_37 rfl (lv_at hl 0 rfl) ?_
    refine lv_bipush (v := 12) hx hb dX13_isNumber_38 (by decide +kernel) ?_
    refine lv_icmp_ne (tgt := 57) hx hb dX13_isNumber_40 (by decide +kernel) (fun _ => ?_) (fun c9 => absurd c9 (by decide +kernel))
    refine lv_iload_n hx hb dX13_isNumber_57 rfl (lv_at hl 1 rfl) ?_
    refine lv_if_ne (tgt := 65) hx hb dX13_isNumber_58 (by decide +kernel) (fun c_7 => ?_) (fun c_7 => ?_)
    · rw [fa_eq] at c_7
      try rw [ti_0] at c_7
      refine lv_iconst (v := 0) hx hb dX13_isNumber_65 (by decide +kernel) ?_
      exact W.zret hx hb hr rfl (fun t ht hW => ⟨_, rfl, (by exact (if_neg (by omega)).symm), ht⟩) (fun _ h => by cases h) dX13_isNumber_66
    · rw [fa_eq] at c_7
      try rw [ti_0] at c_7
      refine lv_iconst (v := 1) hx hb dX13_isNumber_61 (by decide +kernel) ?_
      refine lv_goto (tgt := 66) hx hb dX13_isNumber_62 (by decide +kernel) ?_
      exact W.zret hx hb hr rfl (fun t ht hW => ⟨_, rfl, (by exact (if_pos (by omega)).symm), ht⟩) (fun _ h => by cases h) dX13_isNumber_66
  · have hl9 : (lsT (6 : Int32).toNatClampNeg).toInt = 0 := by decide
    have hm9 : (msT (6 : Int32).toNatClampNeg).toInt = 0 := by decide
    refine lv_iload_n hx hb dX13_isNumber_0 rfl (lv_at hl 0 rfl) ?_
    refine lv_iconst (v := 3) hx hb dX13_isNumber_1 (by decide +kernel) ?_
    refine lv_icmp_ne (tgt := 19) hx hb dX13_isNumber_2 (by decide +kernel) (fun _ => ?_) (fun c9 => absurd c9 (by decide +kernel))
    refine lv_iload_n hx hb dX13_isNumber_19 rfl (lv_at hl 0 rfl) ?_
    refine lv_bipush (v := 8) hx hb dX13_isNumber_20 (by decide +kernel) ?_
    refine lv_icmp_ne (tgt := 37) hx hb dX13_isNumber_22 (by decide +kernel) (fun _ => ?_) (fun c9 => absurd c9 (by decide +kernel))
    refine lv_iload_n hx hb dX13_isNumber_37 rfl (lv_at hl 0 rfl) ?_
    refine lv_bipush (v := 12) hx hb dX13_isNumber_38 (by decide +kernel) ?_
    refine lv_icmp_ne (tgt := 57) hx hb dX13_isNumber_40 (by decide +kernel) (fun _ => ?_) (fun c9 => absurd c9 (by decide +kernel))
    refine lv_iload_n hx hb dX13_isNumber_57 rfl (lv_at hl 1 rfl) ?_
    refine lv_if_ne (tgt := 65) hx hb dX13_isNumber_58 (by decide +kernel) (fun c_8 => ?_) (fun c_8 => ?_)
    · rw [fa_eq] at c_8
      try rw [ti_0] at c_8
      refine lv_iconst (v := 0) hx hb dX13_isNumber_65 (by decide +kernel) ?_
      exact W.zret hx hb hr rfl (fun t ht hW => ⟨_, rfl, (by exact (if_neg (by omega)).symm), ht⟩) (fun _ h => by cases h) dX13_isNumber_66
    · rw [fa_eq] at c_8
      try rw [ti_0] at c_8
      refine lv_iconst (v := 1) hx hb dX13_isNumber_61 (by decide +kernel) ?_
      refine lv_goto (tgt := 66) hx hb dX13_isNumber_62 (by decide +kernel) ?_
      exact W.zret hx hb hr rfl (fun t ht hW => ⟨_, rfl, (by exact (if_pos (by omega)).symm), ht⟩) (fun _ h => by cases h) dX13_isNumber_66
  · have hl9 : (lsT (7 : Int32).toNatClampNeg).toInt = 0 := by decide
    have hm9 : (msT (7 : Int32).toNatClampNeg).toInt = 0 := by decide
    refine lv_iload_n hx hb dX13_isNumber_0 rfl (lv_at hl 0 rfl) ?_
    refine lv_iconst (v := 3) hx hb dX13_isNumber_1 (by decide +kernel) ?_
    refine lv_icmp_ne (tgt := 19) hx hb dX13_isNumber_2 (by decide +kernel) (fun _ => ?_) (fun c9 => absurd c9 (by decide +kernel))
    refine lv_iload_n hx hb dX13_isNumber_19 rfl (lv_at hl 0 rfl) ?_
    refine lv_bipush (v := 8) hx hb dX13_isNumber_20 (by decide +kernel) ?_
    refine lv_icmp_ne (tgt := 37) hx hb dX13_isNumber_22 (by decide +kernel) (fun _ => ?_) (fun c9 => absurd c9 (by decide +kernel))
    refine lv_iload_n hx hb dX13_isNumber_37 rfl (lv_at hl 0 rfl) ?_
    refine lv_bipush (v := 12) hx hb dX13_isNumber_38 (by decide +kernel) ?_
    refine lv_icmp_ne (tgt := 57) hx hb dX13_isNumber_40 (by decide +kernel) (fun _ => ?_) (fun c9 => absurd c9 (by decide +kernel))
    refine lv_iload_n hx hb dX13_isNumber_57 rfl (lv_at hl 1 rfl) ?_
    refine lv_if_ne (tgt := 65) hx hb dX13_isNumber_58 (by decide +kernel) (fun c_9 => ?_) (fun c_9 => ?_)
    · rw [fa_eq] at c_9
      try rw [ti_0] at c_9
      refine lv_iconst (v := 0) hx hb dX13_isNumber_65 (by decide +kernel) ?_
      exact W.zret hx hb hr rfl (fun t ht hW => ⟨_, rfl, (by exact (if_neg (by omega)).symm), ht⟩) (fun _ h => by cases h) dX13_isNumber_66
    · rw [fa_eq] at c_9
      try rw [ti_0] at c_9
      refine lv_iconst (v := 1) hx hb dX13_isNumber_61 (by decide +kernel) ?_
      refine lv_goto (tgt := 66) hx hb dX13_isNumber_62 (by decide +kernel) ?_
      exact W.zret hx hb hr rfl (fun t ht hW => ⟨_, rfl, (by exact (if_pos (by omega)).symm), ht⟩) (fun _ h => by cases h) dX13_isNumber_66
  · have hl9 : (lsT (8 : Int32).toNatClampNeg).toInt = 0 := by decide
    have hm9 : (msT (8 : Int32).toNatClampNeg).toInt = 6 := by decide
    refine lv_iload_n hx hb dX13_isNumber_0 rfl (lv_at hl 0 rfl) ?_
    refine lv_iconst (v := 3) hx hb dX13_isNumber_1 (by decide +kernel) ?_
    refine lv_icmp_ne (tgt := 19) hx hb dX13_isNumber_2 (by decide +kernel) (fun _ => ?_) (fun c9 => absurd c9 (by decide +kernel))
    refine lv_iload_n hx hb dX13_isNumber_19 rfl (lv_at hl 0 rfl) ?_
    refine lv_bipush (v := 8) hx hb dX13_isNumber_20 (by decide +kernel) ?_
    refine lv_icmp_ne (tgt := 37) hx hb dX13_isNumber_22 (by decide +kernel) (fun c9 => absurd c9 (by decide +kernel)) (fun _ => ?_)
    refine lv_iload_n hx hb dX13_isNumber_25 rfl (lv_at hl 1 rfl) ?_
    refine lv_i2l hx hb dX13_isNumber_26 rfl ?_
    refine lv_lconst (v := 0) hx hb dX13_isNumber_27 (by decide +kernel) ?_
    refine lv_ldc2 (v := 6) hx hb hown (hts (.constantLong RX13 186 (6)) (List.mem_of_getElem? (i := 3) rfl)) dX13_isNumber_28 ?_
    refine vp_callSi (W.runS (As := [.long (x1.toInt64), .long 0, .long 6]) (rest := []) ⟨hx, hb, hml, hown, hts⟩ (c_X13_in l D T (x1.toInt64) 0 6 x1.toInt 0 6 ((Int32.toInt_toInt64 _).trans rfl) (by decide +kernel) (by decide +kernel)) (va_cwS 3 hts gX13_isNumber_X13_in rfl rfl rfl hs_X13_in ⟨Nat.le_of_ble_eq_true rfl, Nat.le_of_ble_eq_true rfl⟩) (pR_S hP hE [] rfl) rfl rfl hl.1 rfl (lv_room (Nat.le_of_ble_eq_true rfl)) dX13_isNumber_31 ⟨Nat.le_of_ble_eq_true rfl, Nat.le_of_ble_eq_true rfl⟩) (fun r_10 hr_10 => ?_)
    rcases bool_post hr_10 with ⟨c_11, rfl⟩ | ⟨c_11, rfl⟩
    · refine lv_goto (tgt := 66) hx hb dX13_isNumber_34 (by decide +kernel) ?_
      exact W.zret hx hb hr rfl (fun t ht hW => ⟨_, rfl, (by exact (if_pos (by omega)).symm), ht⟩) (fun _ h => by cases h) dX13_isNumber_66
    · refine lv_goto (tgt := 66) hx hb dX13_isNumber_34 (by decide +kernel) ?_
      exact W.zret hx hb hr rfl (fun t ht hW => ⟨_, rfl, (by exact (if_neg (by omega)).symm), ht⟩) (fun _ h => by cases h) dX13_isNumber_66
  · have hl9 : (lsT (9 : Int32).toNatClampNeg).toInt = 0 := by decide
    have hm9 : (msT (9 : Int32).toNatClampNeg).toInt = 0 := by decide
    refine lv_iload_n hx hb dX13_isNumber_0 rfl (lv_at hl 0 rfl) ?_
    refine lv_iconst (v := 3) hx hb dX13_isNumber_1 (by decide +kernel) ?_
    refine lv_icmp_ne (tgt := 19) hx hb dX13_isNumber_2 (by decide +kernel) (fun _ => ?_) (fun c9 => absurd c9 (by decide +kernel))
    refine lv_iload_n hx hb dX13_isNumber_19 rfl (lv_at hl 0 rfl) ?_
    refine lv_bipush (v := 8) hx hb dX13_isNumber_20 (by decide +kernel) ?_
    refine lv_icmp_ne (tgt := 37) hx hb dX13_isNumber_22 (by decide +kernel) (fun _ => ?_) (fun c9 => absurd c9 (by decide +kernel))
    refine lv_iload_n hx hb dX13_isNumber_37 rfl (lv_at hl 0 rfl) ?_
    refine lv_bipush (v := 12) hx hb dX13_isNumber_38 (by decide +kernel) ?_
    refine lv_icmp_ne (tgt := 57) hx hb dX13_isNumber_40 (by decide +kernel) (fun _ => ?_) (fun c9 => absurd c9 (by decide +kernel))
    refine lv_iload_n hx hb dX13_isNumber_57 rfl (lv_at hl 1 rfl) ?_
    refine lv_if_ne (tgt := 65) hx hb dX13_isNumber_58 (by decide +kernel) (fun c_12 => ?_) (fun c_12 => ?_)
    · rw [fa_eq] at c_12
      try rw [ti_0] at c_12
      refine lv_iconst (v := 0) hx hb dX13_isNumber_65 (by decide +kernel) ?_
      exact W.zret hx hb hr rfl (fun t ht hW => ⟨_, rfl, (by exact (if_neg (by omega)).symm), ht⟩) (fun _ h => by cases h) dX13_isNumber_66
    · rw [fa_eq] at c_12
      try rw [ti_0] at c_12
      refine lv_iconst (v := 1) hx hb dX13_isNumber_61 (by decide +kernel) ?_
      refine lv_goto (tgt := 66) hx hb dX13_isNumber_62 (by decide +kernel) ?_
      exact W.zret hx hb hr rfl (fun t ht hW => ⟨_, rfl, (by exact (if_pos (by omega)).symm), ht⟩) (fun _ h => by cases h) dX13_isNumber_66
  · have hl9 : (lsT (10 : Int32).toNatClampNeg).toInt = 0 := by decide
    have hm9 : (msT (10 : Int32).toNatClampNeg).toInt = 0 := by decide
    refine lv_iload_n hx hb dX13_isNumber_0 rfl (lv_at hl 0 rfl) ?_
    refine lv_iconst (v := 3) hx hb dX13_isNumber_1 (by decide +kernel) ?_
    refine lv_icmp_ne (tgt := 19) hx hb dX13_isNumber_2 (by decide +kernel) (fun _ => ?_) (fun c9 => absurd c9 (by decide +kernel))
    refine lv_iload_n hx hb dX13_isNumber_19 rfl (lv_at hl 0 rfl) ?_
    refine lv_bipush (v := 8) hx hb dX13_isNumber_20 (by decide +kernel) ?_
    refine lv_icmp_ne (tgt := 37) hx hb dX13_isNumber_22 (by decide +kernel) (fun _ => ?_) (fun c9 => absurd c9 (by decide +kernel))
    refine lv_iload_n hx hb dX13_isNumber_37 rfl (lv_at hl 0 rfl) ?_
    refine lv_bipush (v := 12) hx hb dX13_isNumber_38 (by decide +kernel) ?_
    refine lv_icmp_ne (tgt := 57) hx hb dX13_isNumber_40 (by decide +kernel) (fun _ => ?_) (fun c9 => absurd c9 (by decide +kernel))
    refine lv_iload_n hx hb dX13_isNumber_57 rfl (lv_at hl 1 rfl) ?_
    refine lv_if_ne (tgt := 65) hx hb dX13_isNumber_58 (by decide +kernel) (fun c_13 => ?_) (fun c_13 => ?_)
    · rw [fa_eq] at c_13
      try rw [ti_0] at c_13
      refine lv_iconst (v := 0) hx hb dX13_isNumber_65 (by decide +kernel) ?_
      exact W.zret hx hb hr rfl (fun t ht hW => ⟨_, rfl, (by exact (if_neg (by omega)).symm), ht⟩) (fun _ h => by cases h) dX13_isNumber_66
    · rw [fa_eq] at c_13
      try rw [ti_0] at c_13
      refine lv_iconst (v := 1) hx hb dX13_isNumber_61 (by decide +kernel) ?_
      refine lv_goto (tgt := 66) hx hb dX13_isNumber_62 (by decide +kernel) ?_
      exact W.zret hx hb hr rfl (fun t ht hW => ⟨_, rfl, (by exact (if_pos (by omega)).symm), ht⟩) (fun _ h => by cases h) dX13_isNumber_66
  · have hl9 : (lsT (11 : Int32).toNatClampNeg).toInt = 0 := by decide
    have hm9 : (msT (11 : Int32).toNatClampNeg).toInt = 0 := by decide
    refine lv_iload_n hx hb dX13_isNumber_0 rfl (lv_at hl 0 rfl) ?_
    refine lv_iconst (v := 3) hx hb dX13_isNumber_1 (by decide +kernel) ?_
    refine lv_icmp_ne (tgt := 19) hx hb dX13_isNumber_2 (by decide +kernel) (fun _ => ?_) (fun c9 => absurd c9 (by decide +kernel))
    refine lv_iload_n hx hb dX13_isNumber_19 rfl (lv_at hl 0 rfl) ?_
    refine lv_bipush (v := 8) hx hb dX13_isNumber_20 (by decide +kernel) ?_
    refine lv_icmp_ne (tgt := 37) hx hb dX13_isNumber_22 (by decide +kernel) (fun _ => ?_) (fun c9 => absurd c9 (by decide +kernel))
    refine lv_iload_n hx hb dX13_isNumber_37 rfl (lv_at hl 0 rfl) ?_
    refine lv_bipush (v := 12) hx hb dX13_isNumber_38 (by decide +kernel) ?_
    refine lv_icmp_ne (tgt := 57) hx hb dX13_isNumber_40 (by decide +kernel) (fun _ => ?_) (fun c9 => absurd c9 (by decide +kernel))
    refine lv_iload_n hx hb dX13_isNumber_57 rfl (lv_at hl 1 rfl) ?_
    refine lv_if_ne (tgt := 65) hx hb dX13_isNumber_58 (by decide +kernel) (fun c_14 => ?_) (fun c_14 => ?_)
    · rw [fa_eq] at c_14
      try rw [ti_0] at c_14
      refine lv_iconst (v := 0) hx hb dX13_isNumber_65 (by decide +kernel) ?_
      exact W.zret hx hb hr rfl (fun t ht hW => ⟨_, rfl, (by exact (if_neg (by omega)).symm), ht⟩) (fun _ h => by cases h) dX13_isNumber_66
    · rw [fa_eq] at c_14
      try rw [ti_0] at c_14
      refine lv_iconst (v := 1) hx hb dX13_isNumber_61 (by decide +kernel) ?_
      refine lv_goto (tgt := 66) hx hb dX13_isNumber_62 (by decide +kernel) ?_
      exact W.zret hx hb hr rfl (fun t ht hW => ⟨_, rfl, (by exact (if_pos (by omega)).symm), ht⟩) (fun _ h => by cases h) dX13_isNumber_66
  · have hl9 : (lsT (12 : Int32).toNatClampNeg).toInt = -99 := by decide
    have hm9 : (msT (12 : Int32).toNatClampNeg).toInt = 99 := by decide
    refine lv_iload_n hx hb dX13_isNumber_0 rfl (lv_at hl 0 rfl) ?_
    refine lv_iconst (v := 3) hx hb dX13_isNumber_1 (by decide +kernel) ?_
    refine lv_icmp_ne (tgt := 19) hx hb dX13_isNumber_2 (by decide +kernel) (fun _ => ?_) (fun c9 => absurd c9 (by decide +kernel))
    refine lv_iload_n hx hb dX13_isNumber_19 rfl (lv_at hl 0 rfl) ?_
    refine lv_bipush (v := 8) hx hb dX13_isNumber_20 (by decide +kernel) ?_
    refine lv_icmp_ne (tgt := 37) hx hb dX13_isNumber_22 (by decide +kernel) (fun _ => ?_) (fun c9 => absurd c9 (by decide +kernel))
    refine lv_iload_n hx hb dX13_isNumber_37 rfl (lv_at hl 0 rfl) ?_
    refine lv_bipush (v := 12) hx hb dX13_isNumber_38 (by decide +kernel) ?_
    refine lv_icmp_ne (tgt := 57) hx hb dX13_isNumber_40 (by decide +kernel) (fun c9 => absurd c9 (by decide +kernel)) (fun _ => ?_)
    refine lv_iload_n hx hb dX13_isNumber_43 rfl (lv_at hl 1 rfl) ?_
    refine lv_i2l hx hb dX13_isNumber_44 rfl ?_
    refine lv_ldc2 (v := (-99)) hx hb hown (hts (.constantLong RX13 171 (-99)) (List.mem_of_getElem? (i := 4) rfl)) dX13_isNumber_45 ?_
    refine lv_ldc2 (v := 99) hx hb hown (hts (.constantLong RX13 173 (99)) (List.mem_of_getElem? (i := 5) rfl)) dX13_isNumber_48 ?_
    refine vp_callSi (W.runS (As := [.long (x1.toInt64), .long (-99), .long 99]) (rest := []) ⟨hx, hb, hml, hown, hts⟩ (c_X13_in l D T (x1.toInt64) (-99) 99 x1.toInt (-99) 99 ((Int32.toInt_toInt64 _).trans rfl) (by decide +kernel) (by decide +kernel)) (va_cwS 3 hts gX13_isNumber_X13_in rfl rfl rfl hs_X13_in ⟨Nat.le_of_ble_eq_true rfl, Nat.le_of_ble_eq_true rfl⟩) (pR_S hP hE [] rfl) rfl rfl hl.1 rfl (lv_room (Nat.le_of_ble_eq_true rfl)) dX13_isNumber_51 ⟨Nat.le_of_ble_eq_true rfl, Nat.le_of_ble_eq_true rfl⟩) (fun r_15 hr_15 => ?_)
    rcases bool_post hr_15 with ⟨c_16, rfl⟩ | ⟨c_16, rfl⟩
    · refine lv_goto (tgt := 66) hx hb dX13_isNumber_54 (by decide +kernel) ?_
      exact W.zret hx hb hr rfl (fun t ht hW => ⟨_, rfl, (by exact (if_pos (by omega)).symm), ht⟩) (fun _ h => by cases h) dX13_isNumber_66
    · refine lv_goto (tgt := 66) hx hb dX13_isNumber_54 (by decide +kernel) ?_
      exact W.zret hx hb hr rfl (fun t ht hW => ⟨_, rfl, (by exact (if_neg (by omega)).symm), ht⟩) (fun _ h => by cases h) dX13_isNumber_66
theorem dX13_areNamed_0 : decode cX13_areNamed 0 = .ok (.iload_n 0, 1) := by decide +kernel
theorem dX13_areNamed_1 : decode cX13_areNamed 1 = .ok (.invokestatic 210, 3) := by decide +kernel
theorem dX13_areNamed_10 : decode cX13_areNamed 10 = .ok (.iload_n 3, 1) := by decide +kernel
theorem dX13_areNamed_11 : decode cX13_areNamed 11 = .ok (.iconst 1, 1) := by decide +kernel
theorem dX13_areNamed_12 : decode cX13_areNamed 12 = .ok (.isub, 1) := by decide +kernel
theorem dX13_areNamed_13 : decode cX13_areNamed 13 = .ok (.i2l, 1) := by decide +kernel
theorem dX13_areNamed_14 : decode cX13_areNamed 14 = .ok (.invokestatic 175, 3) := by decide +kernel
theorem dX13_areNamed_17 : decode cX13_areNamed 17 = .ok (.ifCond .eq 42, 3) := by decide +kernel
theorem dX13_areNamed_20 : decode cX13_areNamed 20 = .ok (.goto 7, 3) := by decide +kernel
theorem dX13_areNamed_23 : decode cX13_areNamed 23 = .ok (.iload_n 1, 1) := by decide +kernel
theorem dX13_areNamed_24 : decode cX13_areNamed 24 = .ok (.ifCond .ne 35, 3) := by decide +kernel
theorem dX13_areNamed_27 : decode cX13_areNamed 27 = .ok (.iload_n 0, 1) := by decide +kernel
theorem dX13_areNamed_28 : decode cX13_areNamed 28 = .ok (.invokestatic 210, 3) := by decide +kernel
theorem dX13_areNamed_31 : decode cX13_areNamed 31 = .ok (.iconst 1, 1) := by decide +kernel
theorem dX13_areNamed_32 : decode cX13_areNamed 32 = .ok (.if_icmp .le 19, 3) := by decide +kernel
theorem dX13_areNamed_35 : decode cX13_areNamed 35 = .ok (.iload_n 2, 1) := by decide +kernel
theorem dX13_areNamed_36 : decode cX13_areNamed 36 = .ok (.i2l, 1) := by decide +kernel
theorem dX13_areNamed_37 : decode cX13_areNamed 37 = .ok (.lconst 0, 1) := by decide +kernel
theorem dX13_areNamed_38 : decode cX13_areNamed 38 = .ok (.iload_n 3, 1) := by decide +kernel
theorem dX13_areNamed_39 : decode cX13_areNamed 39 = .ok (.iconst 1, 1) := by decide +kernel
theorem dX13_areNamed_4 : decode cX13_areNamed 4 = .ok (.ifCond .le 19, 3) := by decide +kernel
theorem dX13_areNamed_40 : decode cX13_areNamed 40 = .ok (.isub, 1) := by decide +kernel
theorem dX13_areNamed_41 : decode cX13_areNamed 41 = .ok (.i2l, 1) := by decide +kernel
theorem dX13_areNamed_42 : decode cX13_areNamed 42 = .ok (.invokestatic 175, 3) := by decide +kernel
theorem dX13_areNamed_45 : decode cX13_areNamed 45 = .ok (.ifCond .eq 14, 3) := by decide +kernel
theorem dX13_areNamed_48 : decode cX13_areNamed 48 = .ok (.goto 7, 3) := by decide +kernel
theorem dX13_areNamed_51 : decode cX13_areNamed 51 = .ok (.iload_n 2, 1) := by decide +kernel
theorem dX13_areNamed_52 : decode cX13_areNamed 52 = .ok (.ifCond .ne 7, 3) := by decide +kernel
theorem dX13_areNamed_55 : decode cX13_areNamed 55 = .ok (.iconst 1, 1) := by decide +kernel
theorem dX13_areNamed_56 : decode cX13_areNamed 56 = .ok (.goto 4, 3) := by decide +kernel
theorem dX13_areNamed_59 : decode cX13_areNamed 59 = .ok (.iconst 0, 1) := by decide +kernel
theorem dX13_areNamed_60 : decode cX13_areNamed 60 = .ok (.ireturn, 1) := by decide +kernel
theorem dX13_areNamed_7 : decode cX13_areNamed 7 = .ok (.iload_n 1, 1) := by decide +kernel
theorem dX13_areNamed_8 : decode cX13_areNamed 8 = .ok (.i2l, 1) := by decide +kernel
theorem dX13_areNamed_9 : decode cX13_areNamed 9 = .ok (.lconst 0, 1) := by decide +kernel
set_option maxRecDepth 20000 in
theorem ggX13_areNamed_X13_in : GoodIn wsX13_areNamed wsX13_in := goodIn_r _ [7] rfl (by decide +kernel)
set_option maxRecDepth 20000 in
theorem ggX13_areNamed_X13_names : GoodIn wsX13_areNamed wsX13_names := goodIn_r _ [4] rfl (by decide +kernel)
set_option maxRecDepth 20000 in
theorem gX13_areNamed_X13_in : GoodIn wsX13_areNamed (va_wsS RX13 175 yX13_in wsX13_in) := goodIn_app (goodIn_of _ (by decide +kernel)) ggX13_areNamed_X13_in
set_option maxRecDepth 20000 in
theorem gX13_areNamed_X13_names : GoodIn wsX13_areNamed (va_wsS RX13 210 yX13_names wsX13_names) := goodIn_app (goodIn_of _ (by decide +kernel)) ggX13_areNamed_X13_names
theorem hs_X13_names : yX13_names.cls ≠ "java/lang/invoke/MethodHandle" ∧ yX13_names.cls ≠ "java/lang/invoke/VarHandle" ∧ (parseMethodDescriptor yX13_names.desc).map (fun d => d.parameters.length) = some 1 := by decide +kernel
set_option maxHeartbeats 4000000 in
set_option maxRecDepth 100000 in
theorem c_X13_areNamed (l : Launch) (D : va_G) (T : Nat → ClassId) (x0 : Int32) (x1 : Int32) (x2 : Int32) (x3 : Int32) (hkx : 0 ≤ x0.toInt ∧ x0.toInt ≤ 12) (h3 : 0 ≤ x3.toInt ∧ x3.toInt ≤ 24) : Met l yX13_areNamed wsX13_areNamed ({ frames := 1, cells := 0, slots := 0, locals := 25 }) (pR [.int x0, .int x1, .int x2, .int x3] D T []) (vp_Si (fun r => r = if mayP (x0.toNatClampNeg) x1 x2 x3 then 1 else 0)) 0 0 (fun _ => False) := by
  refine Met.ofW (cc := cX13_areNamed) (maxL := 4) (ret := (some .boolean)) (by decide +kernel) rfl ?_
  intro p e s m args below meth c s₁ B hml hv
  obtain ⟨rfl, hP, hE⟩ := hv
  have hx := B.exec
  have hb := B.bytes
  have hr := B.returns
  have hts := atoms_spec (ws := wsX13_areNamed) B.pre
  have hown : s.vm.findClass RX13 = some m.cls := findClass_of_methodNamed B.named
  have hlocks := B.notSynchronized
  have hP : va_P D vwCl [] s.heap := hP
  have hl := lv_entry ([.int x0, .int x1, .int x2, .int x3]) (n := 4) (Nat.le_of_ble_eq_true rfl)
  rw [lg_entry_eq]
  generalize (lg_sl ([.int x0, .int x1, .int x2, .int x3]) ++ List.replicate (4 - (lg_sl ([.int x0, .int x1, .int x2, .int x3])).length) Slot.unset).toArray = ls at hl ⊢
  have hl : lv_has ls 4 [(0, .int x0), (1, .int x1), (2, .int x2), (3, .int x3)] := hl
  have hd3 := dec1 (i := x3) (by omega)
  refine lv_iload_n hx hb dX13_areNamed_0 rfl (lv_at hl 0 rfl) ?_
  refine vp_callSi (W.runS (As := [.int x0]) (rest := []) ⟨hx, hb, hml, hown, hts⟩ (c_X13_names l D T x0 (by omega)) (va_cwS 1 hts gX13_areNamed_X13_names rfl rfl rfl hs_X13_names ⟨Nat.le_of_ble_eq_true rfl, Nat.le_of_ble_eq_true rfl⟩) (pR_S hP hE [] rfl) rfl rfl hl.1 rfl (lv_room (Nat.le_of_ble_eq_true rfl)) dX13_areNamed_1 ⟨Nat.le_of_ble_eq_true rfl, Nat.le_of_ble_eq_true rfl⟩) (fun r_1 hr_1 => ?_)
  refine lv_if_le (tgt := 23) hx hb dX13_areNamed_4 (by decide +kernel) (fun c_2 => ?_) (fun c_2 => ?_)
  · rw [fa_le] at c_2
    try rw [ti_0] at c_2
    refine lv_iload_n hx hb dX13_areNamed_23 rfl (lv_at hl 1 rfl) ?_
    refine lv_if_ne (tgt := 59) hx hb dX13_areNamed_24 (by decide +kernel) (fun c_3 => ?_) (fun c_3 => ?_)
    · rw [fa_eq] at c_3
      try rw [ti_0] at c_3
      refine lv_iconst (v := 0) hx hb dX13_areNamed_59 (by decide +kernel) ?_
      exact W.zret hx hb hr rfl (fun t ht hW => ⟨_, rfl, (by exact (if_neg (fun ⟨⟨hM1, hM2⟩, hM3, hM4⟩ => by first | (have h9 := hM2 (by clear hM1 hM2 hM3 hM4; omega); clear hM1 hM2 hM3 hM4; omega) | (have h9 := hM4 (by clear hM1 hM2 hM3 hM4; omega); clear hM1 hM2 hM3 hM4; omega) | (have h9 := hM1 (by clear hM1 hM2 hM3 hM4; omega); clear hM1 hM2 hM3 hM4; omega) | (have h9 := hM3 (by clear hM1 hM2 hM3 hM4; omega); clear hM1 hM2 hM3 hM4; omega))).symm), ht⟩) (fun _ h => by cases h) dX13_areNamed_60
    · rw [fa_eq] at c_3
      try rw [ti_0] at c_3
      refine lv_iload_n hx hb dX13_areNamed_27 rfl (lv_at hl 0 rfl) ?_
      refine vp_callSi (W.runS (As := [.int x0]) (rest := []) ⟨hx, hb, hml, hown, hts⟩ (c_X13_names l D T x0 (by omega)) (va_cwS 1 hts gX13_areNamed_X13_names rfl rfl rfl hs_X13_names ⟨Nat.le_of_ble_eq_true rfl, Nat.le_of_ble_eq_true rfl⟩) (pR_S hP hE [] rfl) rfl rfl hl.1 rfl (lv_room (Nat.le_of_ble_eq_true rfl)) dX13_areNamed_28 ⟨Nat.le_of_ble_eq_true rfl, Nat.le_of_ble_eq_true rfl⟩) (fun r_4 hr_4 => ?_)
      refine lv_iconst (v := 1) hx hb dX13_areNamed_31 (by decide +kernel) ?_
      refine lv_icmp_le (tgt := 51) hx hb dX13_areNamed_32 (by decide +kernel) (fun c_5 => ?_) (fun c_5 => ?_)
      · rw [fa_le] at c_5
        try rw [ti_1] at c_5
        refine lv_iload_n hx hb dX13_areNamed_51 rfl (lv_at hl 2 rfl) ?_
        refine lv_if_ne (tgt := 59) hx hb dX13_areNamed_52 (by decide +kernel) (fun c_6 => ?_) (fun c_6 => ?_)
        · rw [fa_eq] at c_6
          try rw [ti_0] at c_6
          refine lv_iconst (v := 0) hx hb dX13_areNamed_59 (by decide +kernel) ?_
          exact W.zret hx hb hr rfl (fun t ht hW => ⟨_, rfl, (by exact (if_neg (fun ⟨⟨hM1, hM2⟩, hM3, hM4⟩ => by first | (have h9 := hM2 (by clear hM1 hM2 hM3 hM4; omega); clear hM1 hM2 hM3 hM4; omega) | (have h9 := hM4 (by clear hM1 hM2 hM3 hM4; omega); clear hM1 hM2 hM3 hM4; omega) | (have h9 := hM1 (by clear hM1 hM2 hM3 hM4; omega); clear hM1 hM2 hM3 hM4; omega) | (have h9 := hM3 (by clear hM1 hM2 hM3 hM4; omega); clear hM1 hM2 hM3 hM4; omega))).symm), ht⟩) (fun _ h => by cases h) dX13_areNamed_60
        · rw [fa_eq] at c_6
          try rw [ti_0] at c_6
          refine lv_iconst (v := 1) hx hb dX13_areNamed_55 (by decide +kernel) ?_
          refine lv_goto (tgt := 60) hx hb dX13_areNamed_56 (by decide +kernel) ?_
          exact W.zret hx hb hr rfl (fun t ht hW => ⟨_, rfl, (by exact (if_pos ⟨⟨fun a => by omega, fun a => by omega⟩, fun a => by omega, fun a => by omega⟩).symm), ht⟩) (fun _ h => by cases h) dX13_areNamed_60
      · rw [fa_le] at c_5
        try rw [ti_1] at c_5
        refine lv_iload_n hx hb dX13_areNamed_35 rfl (lv_at hl 2 rfl) ?_
        refine lv_i2l hx hb dX13_areNamed_36 rfl ?_
        refine lv_lconst (v := 0) hx hb dX13_areNamed_37 (by decide +kernel) ?_
        refine lv_iload_n hx hb dX13_areNamed_38 rfl (lv_at hl 3 rfl) ?_
        refine lv_iconst (v := 1) hx hb dX13_areNamed_39 (by decide +kernel) ?_
        refine lv_isub hx hb dX13_areNamed_40 ?_
        refine lv_i2l hx hb dX13_areNamed_41 rfl ?_
        refine vp_callSi (W.runS (As := [.long (x2.toInt64), .long 0, .long ((x3 - 1).toInt64)]) (rest := []) ⟨hx, hb, hml, hown, hts⟩ (c_X13_in l D T (x2.toInt64) 0 ((x3 - 1).toInt64) x2.toInt 0 ((x3 - 1)).toInt ((Int32.toInt_toInt64 _).trans rfl) (by decide +kernel) ((Int32.toInt_toInt64 _).trans rfl)) (va_cwS 3 hts gX13_areNamed_X13_in rfl rfl rfl hs_X13_in ⟨Nat.le_of_ble_eq_true rfl, Nat.le_of_ble_eq_true rfl⟩) (pR_S hP hE [] rfl) rfl rfl hl.1 rfl (lv_room (Nat.le_of_ble_eq_true rfl)) dX13_areNamed_42 ⟨Nat.le_of_ble_eq_true rfl, Nat.le_of_ble_eq_true rfl⟩) (fun r_7 hr_7 => ?_)
        rcases bool_post hr_7 with ⟨c_8, rfl⟩ | ⟨c_8, rfl⟩
        · refine lv_if_eq (tgt := 59) hx hb dX13_areNamed_45 (by decide +kernel) (fun c9 => absurd c9 (by decide +kernel)) (fun _ => ?_)
          refine lv_goto (tgt := 55) hx hb dX13_areNamed_48 (by decide +kernel) ?_
          refine lv_iconst (v := 1) hx hb dX13_areNamed_55 (by decide +kernel) ?_
          refine lv_goto (tgt := 60) hx hb dX13_areNamed_56 (by decide +kernel) ?_
          exact W.zret hx hb hr rfl (fun t ht hW => ⟨_, rfl, (by exact (if_pos ⟨⟨fun a => by omega, fun a => by omega⟩, fun a => by omega, fun a => by omega⟩).symm), ht⟩) (fun _ h => by cases h) dX13_areNamed_60
        · refine lv_if_eq (tgt := 59) hx hb dX13_areNamed_45 (by decide +kernel) (fun _ => ?_) (fun c9 => absurd c9 (by decide +kernel))
          refine lv_iconst (v := 0) hx hb dX13_areNamed_59 (by decide +kernel) ?_
          exact W.zret hx hb hr rfl (fun t ht hW => ⟨_, rfl, (by exact (if_neg (fun ⟨⟨hM1, hM2⟩, hM3, hM4⟩ => by first | (have h9 := hM2 (by clear hM1 hM2 hM3 hM4; omega); clear hM1 hM2 hM3 hM4; omega) | (have h9 := hM4 (by clear hM1 hM2 hM3 hM4; omega); clear hM1 hM2 hM3 hM4; omega) | (have h9 := hM1 (by clear hM1 hM2 hM3 hM4; omega); clear hM1 hM2 hM3 hM4; omega) | (have h9 := hM3 (by clear hM1 hM2 hM3 hM4; omega); clear hM1 hM2 hM3 hM4; omega))).symm), ht⟩) (fun _ h => by cases h) dX13_areNamed_60
  · rw [fa_le] at c_2
    try rw [ti_0] at c_2
    refine lv_iload_n hx hb dX13_areNamed_7 rfl (lv_at hl 1 rfl) ?_
    refine lv_i2l hx hb dX13_areNamed_8 rfl ?_
    refine lv_lconst (v := 0) hx hb dX13_areNamed_9 (by decide +kernel) ?_
    refine lv_iload_n hx hb dX13_areNamed_10 rfl (lv_at hl 3 rfl) ?_
    refine lv_iconst (v := 1) hx hb dX13_areNamed_11 (by decide +kernel) ?_
    refine lv_isub hx hb dX13_areNamed_12 ?_
    refine lv_i2l hx hb dX13_areNamed_13 rfl ?_
    refine vp_callSi (W.runS (As := [.long (x1.toInt64), .long 0, .long ((x3 - 1).toInt64)]) (rest := []) ⟨hx, hb, hml, hown, hts⟩ (c_X13_in l D T (x1.toInt64) 0 ((x3 - 1).toInt64) x1.toInt 0 ((x3 - 1)).toInt ((Int32.toInt_toInt64 _).trans rfl) (by decide +kernel) ((Int32.toInt_toInt64 _).trans rfl)) (va_cwS 3 hts gX13_areNamed_X13_in rfl rfl rfl hs_X13_in ⟨Nat.le_of_ble_eq_true rfl, Nat.le_of_ble_eq_true rfl⟩) (pR_S hP hE [] rfl) rfl rfl hl.1 rfl (lv_room (Nat.le_of_ble_eq_true rfl)) dX13_areNamed_14 ⟨Nat.le_of_ble_eq_true rfl, Nat.le_of_ble_eq_true rfl⟩) (fun r_9 hr_9 => ?_)
    rcases bool_post hr_9 with ⟨c_10, rfl⟩ | ⟨c_10, rfl⟩
    · refine lv_if_eq (tgt := 59) hx hb dX13_areNamed_17 (by decide +kernel) (fun c9 => absurd c9 (by decide +kernel)) (fun _ => ?_)
      refine lv_goto (tgt := 27) hx hb dX13_areNamed_20 (by decide +kernel) ?_
      refine lv_iload_n hx hb dX13_areNamed_27 rfl (lv_at hl 0 rfl) ?_
      refine vp_callSi (W.runS (As := [.int x0]) (rest := []) ⟨hx, hb, hml, hown, hts⟩ (c_X13_names l D T x0 (by omega)) (va_cwS 1 hts gX13_areNamed_X13_names rfl rfl rfl hs_X13_names ⟨Nat.le_of_ble_eq_true rfl, Nat.le_of_ble_eq_true rfl⟩) (pR_S hP hE [] rfl) rfl rfl hl.1 rfl (lv_room (Nat.le_of_ble_eq_true rfl)) dX13_areNamed_28 ⟨Nat.le_of_ble_eq_true rfl, Nat.le_of_ble_eq_true rfl⟩) (fun r_11 hr_11 => ?_)
      refine lv_iconst (v := 1) hx hb dX13_areNamed_31 (by decide +kernel) ?_
      refine lv_icmp_le (tgt := 51) hx hb dX13_areNamed_32 (by decide +kernel) (fun c_12 => ?_) (fun c_12 => ?_)
      · rw [fa_le] at c_12
        try rw [ti_1] at c_12
        refine lv_iload_n hx hb dX13_areNamed_51 rfl (lv_at hl 2 rfl) ?_
        refine lv_if_ne (tgt := 59) hx hb dX13_areNamed_52 (by decide +kernel) (fun c_13 => ?_) (fun c_13 => ?_)
        · rw [fa_eq] at c_13
          try rw [ti_0] at c_13
          refine lv_iconst (v := 0) hx hb dX13_areNamed_59 (by decide +kernel) ?_
          exact W.zret hx hb hr rfl (fun t ht hW => ⟨_, rfl, (by exact (if_neg (fun ⟨⟨hM1, hM2⟩, hM3, hM4⟩ => by first | (have h9 := hM2 (by clear hM1 hM2 hM3 hM4; omega); clear hM1 hM2 hM3 hM4; omega) | (have h9 := hM4 (by clear hM1 hM2 hM3 hM4; omega); clear hM1 hM2 hM3 hM4; omega) | (have h9 := hM1 (by clear hM1 hM2 hM3 hM4; omega); clear hM1 hM2 hM3 hM4; omega) | (have h9 := hM3 (by clear hM1 hM2 hM3 hM4; omega); clear hM1 hM2 hM3 hM4; omega))).symm), ht⟩) (fun _ h => by cases h) dX13_areNamed_60
        · rw [fa_eq] at c_13
          try rw [ti_0] at c_13
          refine lv_iconst (v := 1) hx hb dX13_areNamed_55 (by decide +kernel) ?_
          refine lv_goto (tgt := 60) hx hb dX13_areNamed_56 (by decide +kernel) ?_
          exact W.zret hx hb hr rfl (fun t ht hW => ⟨_, rfl, (by exact (if_pos ⟨⟨fun a => by omega, fun a => by omega⟩, fun a => by omega, fun a => by omega⟩).symm), ht⟩) (fun _ h => by cases h) dX13_areNamed_60
      · rw [fa_le] at c_12
        try rw [ti_1] at c_12
        refine lv_iload_n hx hb dX13_areNamed_35 rfl (lv_at hl 2 rfl) ?_
        refine lv_i2l hx hb dX13_areNamed_36 rfl ?_
        refine lv_lconst (v := 0) hx hb dX13_areNamed_37 (by decide +kernel) ?_
        refine lv_iload_n hx hb dX13_areNamed_38 rfl (lv_at hl 3 rfl) ?_
        refine lv_iconst (v := 1) hx hb dX13_areNamed_39 (by decide +kernel) ?_
        refine lv_isub hx hb dX13_areNamed_40 ?_
        refine lv_i2l hx hb dX13_areNamed_41 rfl ?_
        refine vp_callSi (W.runS (As := [.long (x2.toInt64), .long 0, .long ((x3 - 1).toInt64)]) (rest := []) ⟨hx, hb, hml, hown, hts⟩ (c_X13_in l D T (x2.toInt64) 0 ((x3 - 1).toInt64) x2.toInt 0 ((x3 - 1)).toInt ((Int32.toInt_toInt64 _).trans rfl) (by decide +kernel) ((Int32.toInt_toInt64 _).trans rfl)) (va_cwS 3 hts gX13_areNamed_X13_in rfl rfl rfl hs_X13_in ⟨Nat.le_of_ble_eq_true rfl, Nat.le_of_ble_eq_true rfl⟩) (pR_S hP hE [] rfl) rfl rfl hl.1 rfl (lv_room (Nat.le_of_ble_eq_true rfl)) dX13_areNamed_42 ⟨Nat.le_of_ble_eq_true rfl, Nat.le_of_ble_eq_true rfl⟩) (fun r_14 hr_14 => ?_)
        rcases bool_post hr_14 with ⟨c_15, rfl⟩ | ⟨c_15, rfl⟩
        · refine lv_if_eq (tgt := 59) hx hb dX13_areNamed_45 (by decide +kernel) (fun c9 => absurd c9 (by decide +kernel)) (fun _ => ?_)
          refine lv_goto (tgt := 55) hx hb dX13_areNamed_48 (by decide +kernel) ?_
          refine lv_iconst (v := 1) hx hb dX13_areNamed_55 (by decide +kernel) ?_
          refine lv_goto (tgt := 60) hx hb dX13_areNamed_56 (by decide +kernel) ?_
          exact W.zret hx hb hr rfl (fun t ht hW => ⟨_, rfl, (by exact (if_pos ⟨⟨fun a => by omega, fun a => by omega⟩, fun a => by omega, fun a => by omega⟩).symm), ht⟩) (fun _ h => by cases h) dX13_areNamed_60
        · refine lv_if_eq (tgt := 59) hx hb dX13_areNamed_45 (by decide +kernel) (fun _ => ?_) (fun c9 => absurd c9 (by decide +kernel))
          refine lv_iconst (v := 0) hx hb dX13_areNamed_59 (by decide +kernel) ?_
          exact W.zret hx hb hr rfl (fun t ht hW => ⟨_, rfl, (by exact (if_neg (fun ⟨⟨hM1, hM2⟩, hM3, hM4⟩ => by first | (have h9 := hM2 (by clear hM1 hM2 hM3 hM4; omega); clear hM1 hM2 hM3 hM4; omega) | (have h9 := hM4 (by clear hM1 hM2 hM3 hM4; omega); clear hM1 hM2 hM3 hM4; omega) | (have h9 := hM1 (by clear hM1 hM2 hM3 hM4; omega); clear hM1 hM2 hM3 hM4; omega) | (have h9 := hM3 (by clear hM1 hM2 hM3 hM4; omega); clear hM1 hM2 hM3 hM4; omega))).symm), ht⟩) (fun _ h => by cases h) dX13_areNamed_60
    · refine lv_if_eq (tgt := 59) hx hb dX13_areNamed_17 (by decide +kernel) (fun _ => ?_) (fun c9 => absurd c9 (by decide +kernel))
      refine lv_iconst (v := 0) hx hb dX13_areNamed_59 (by decide +kernel) ?_
      exact W.zret hx hb hr rfl (fun t ht hW => ⟨_, rfl, (by exact (if_neg (fun ⟨⟨hM1, hM2⟩, hM3, hM4⟩ => by first | (have h9 := hM2 (by clear hM1 hM2 hM3 hM4; omega); clear hM1 hM2 hM3 hM4; omega) | (have h9 := hM4 (by clear hM1 hM2 hM3 hM4; omega); clear hM1 hM2 hM3 hM4; omega) | (have h9 := hM1 (by clear hM1 hM2 hM3 hM4; omega); clear hM1 hM2 hM3 hM4; omega) | (have h9 := hM3 (by clear hM1 hM2 hM3 hM4; omega); clear hM1 hM2 hM3 hM4; omega))).symm), ht⟩) (fun _ h => by cases h) dX13_areNamed_60
theorem dX13_isClause_0 : decode cX13_isClause 0 = .ok (.iload_n 1, 1) := by decide +kernel
theorem dX13_isClause_1 : decode cX13_isClause 1 = .ok (.i2l, 1) := by decide +kernel
theorem dX13_isClause_10 : decode cX13_isClause 10 = .ok (.invokestatic 175, 3) := by decide +kernel
theorem dX13_isClause_13 : decode cX13_isClause 13 = .ok (.ireturn, 1) := by decide +kernel
theorem dX13_isClause_2 : decode cX13_isClause 2 = .ok (.lconst 0, 1) := by decide +kernel
theorem dX13_isClause_3 : decode cX13_isClause 3 = .ok (.aload_n 0, 1) := by decide +kernel
theorem dX13_isClause_4 : decode cX13_isClause 4 = .ok (.getfield 205, 3) := by decide +kernel
theorem dX13_isClause_7 : decode cX13_isClause 7 = .ok (.iconst 1, 1) := by decide +kernel
theorem dX13_isClause_8 : decode cX13_isClause 8 = .ok (.isub, 1) := by decide +kernel
theorem dX13_isClause_9 : decode cX13_isClause 9 = .ok (.i2l, 1) := by decide +kernel
set_option maxRecDepth 20000 in
theorem ggX13_isClause_X13_in : GoodIn wsX13_isClause wsX13_in := goodIn_r _ [5] rfl (by decide +kernel)
set_option maxRecDepth 20000 in
theorem gX13_isClause_X13_in : GoodIn wsX13_isClause (va_wsS RX13 175 yX13_in wsX13_in) := goodIn_app (goodIn_of _ (by decide +kernel)) ggX13_isClause_X13_in
set_option maxRecDepth 20000 in
theorem in_X13_isClause_X13 : ∀ w ∈ wsX130, w ∈ wsX13_isClause := sub_r [6, 7, 8, 9, 10, 11, 12, 13, 14, 15, 16, 17, 18, 19, 20, 21, 22, 23, 24, 25, 26, 27, 28, 29, 30, 31, 32, 33, 34, 35, 36, 37, 38, 39, 40, 41, 42, 43, 44, 45, 46, 47, 48, 49, 50] rfl
set_option maxHeartbeats 4000000 in
set_option maxRecDepth 100000 in
theorem c_X13_isClause (l : Launch) (D : va_G) (T : Nat → ClassId) (h0 : Nat) (fs0 : List Value) (x1 : Int32) (n : Int32) (e0_7 : fs0[7]? = some (.int n)) (hn : 0 ≤ n.toInt ∧ n.toInt ≤ 24) : Met l yX13_isClause wsX13_isClause ({ frames := 1, cells := 0, slots := 0, locals := 25 }) (pR [.ref h0, .int x1] D T [(h0, .inr (10, fs0))]) (vp_Si (fun r => r = if 0 ≤ x1.toInt ∧ x1.toInt ≤ n.toInt - 1 then 1 else 0)) 0 0 (fun _ => False) := by
  refine Met.ofW (cc := cX13_isClause) (maxL := 2) (ret := (some .boolean)) (by decide +kernel) rfl ?_
  intro p e s m args below meth c s₁ B hml hv
  obtain ⟨rfl, hP, hE⟩ := hv
  have hx := B.exec
  have hb := B.bytes
  have hr := B.returns
  have hts := atoms_spec (ws := wsX13_isClause) B.pre
  have hown : s.vm.findClass RX13 = some m.cls := findClass_of_methodNamed B.named
  have hlocks := B.notSynchronized
  have hP : va_P D vwCl [(h0, .inr (10, fs0))] s.heap := hP
  have hl := lv_entry ([.ref h0, .int x1]) (n := 2) (Nat.le_of_ble_eq_true rfl)
  rw [lg_entry_eq]
  generalize (lg_sl ([.ref h0, .int x1]) ++ List.replicate (2 - (lg_sl ([.ref h0, .int x1])).length) Slot.unset).toArray = ls at hl ⊢
  have hl : lv_has ls 2 [(0, .ref h0), (1, .int x1)] := hl
  have hd1 := dec1 (i := n) (by omega)
  refine lv_iload_n hx hb dX13_isClause_0 rfl (lv_at hl 1 rfl) ?_
  refine lv_i2l hx hb dX13_isClause_1 rfl ?_
  refine lv_lconst (v := 0) hx hb dX13_isClause_2 (by decide +kernel) ?_
  refine lv_aload_n hx hb dX13_isClause_3 rfl (lv_at hl 0 rfl) ?_
  refine va_get (D := D) (ci := 10) (v := .int n) (C := RX13) (T := TX13) (N := 45) hx hb hts in_X13_isClause_X13 hown hE.1 hP 0 rfl rfl 7 (by decide +kernel) (hts (.fieldLink RX13 205 "ClauseBookModel" "many" "I") (List.mem_of_getElem? (i := 1) rfl)) (fun _ h9 => h9) e0_7 dX13_isClause_4 ?_
  refine lv_iconst (v := 1) hx hb dX13_isClause_7 (by decide +kernel) ?_
  refine lv_isub hx hb dX13_isClause_8 ?_
  refine lv_i2l hx hb dX13_isClause_9 rfl ?_
  refine vp_callSi (W.runS (As := [.long (x1.toInt64), .long 0, .long ((n - 1).toInt64)]) (rest := []) ⟨hx, hb, hml, hown, hts⟩ (c_X13_in l D T (x1.toInt64) 0 ((n - 1).toInt64) x1.toInt 0 ((n - 1)).toInt ((Int32.toInt_toInt64 _).trans rfl) (by decide +kernel) ((Int32.toInt_toInt64 _).trans rfl)) (va_cwS 3 hts gX13_isClause_X13_in rfl rfl rfl hs_X13_in ⟨Nat.le_of_ble_eq_true rfl, Nat.le_of_ble_eq_true rfl⟩) (pR_S hP hE [] rfl) rfl rfl hl.1 rfl (lv_room (Nat.le_of_ble_eq_true rfl)) dX13_isClause_10 ⟨Nat.le_of_ble_eq_true rfl, Nat.le_of_ble_eq_true rfl⟩) (fun r_1 hr_1 => ?_)
  rcases bool_post hr_1 with ⟨c_2, rfl⟩ | ⟨c_2, rfl⟩
  · exact W.zret hx hb hr rfl (fun t ht hW => ⟨_, rfl, (by exact (if_pos (by omega)).symm), ht⟩) (fun _ h => by cases h) dX13_isClause_13
  · exact W.zret hx hb hr rfl (fun t ht hW => ⟨_, rfl, (by exact (if_neg (by omega)).symm), ht⟩) (fun _ h => by cases h) dX13_isClause_13
theorem dX13_isHad_0 : decode cX13_isHad 0 = .ok (.aload_n 0, 1) := by decide +kernel
theorem dX13_isHad_1 : decode cX13_isHad 1 = .ok (.iload_n 1, 1) := by decide +kernel
theorem dX13_isHad_10 : decode cX13_isHad 10 = .ok (.lconst 0, 1) := by decide +kernel
theorem dX13_isHad_11 : decode cX13_isHad 11 = .ok (.ldc2_w 186, 3) := by decide +kernel
theorem dX13_isHad_14 : decode cX13_isHad 14 = .ok (.invokestatic 175, 3) := by decide +kernel
theorem dX13_isHad_17 : decode cX13_isHad 17 = .ok (.ifCond .eq 14, 3) := by decide +kernel
theorem dX13_isHad_2 : decode cX13_isHad 2 = .ok (.invokevirtual 233, 3) := by decide +kernel
theorem dX13_isHad_20 : decode cX13_isHad 20 = .ok (.iload_n 3, 1) := by decide +kernel
theorem dX13_isHad_21 : decode cX13_isHad 21 = .ok (.invokestatic 198, 3) := by decide +kernel
theorem dX13_isHad_24 : decode cX13_isHad 24 = .ok (.ifCond .eq 7, 3) := by decide +kernel
theorem dX13_isHad_27 : decode cX13_isHad 27 = .ok (.iconst 1, 1) := by decide +kernel
theorem dX13_isHad_28 : decode cX13_isHad 28 = .ok (.goto 4, 3) := by decide +kernel
theorem dX13_isHad_31 : decode cX13_isHad 31 = .ok (.iconst 0, 1) := by decide +kernel
theorem dX13_isHad_32 : decode cX13_isHad 32 = .ok (.ireturn, 1) := by decide +kernel
theorem dX13_isHad_5 : decode cX13_isHad 5 = .ok (.ifCond .eq 26, 3) := by decide +kernel
theorem dX13_isHad_8 : decode cX13_isHad 8 = .ok (.iload_n 2, 1) := by decide +kernel
theorem dX13_isHad_9 : decode cX13_isHad 9 = .ok (.i2l, 1) := by decide +kernel
set_option maxRecDepth 20000 in
theorem ggX13_isHad_X13_in : GoodIn wsX13_isHad wsX13_in := goodIn_r _ [10] rfl (by decide +kernel)
set_option maxRecDepth 20000 in
theorem ggX13_isHad_X13_isClause : GoodIn wsX13_isHad wsX13_isClause := goodIn_r _ [6, 7, 8, 9, 5, 10, 15, 16, 17, 18, 19, 20, 21, 22, 23, 24, 25, 26, 27, 28, 29, 30, 31, 32, 33, 34, 35, 36, 37, 38, 39, 40, 41, 42, 43, 44, 45, 46, 47, 48, 49, 50, 51, 52, 53, 54, 55, 56, 57, 58, 59] rfl (by decide +kernel)
set_option maxRecDepth 20000 in
theorem ggX13_isHad_X13_isPath : GoodIn wsX13_isHad wsX13_isPath := goodIn_r _ [13, 14, 8, 9, 5, 10] rfl (by decide +kernel)
set_option maxRecDepth 20000 in
theorem gX13_isHad_X13_in : GoodIn wsX13_isHad (va_wsS RX13 175 yX13_in wsX13_in) := goodIn_app (goodIn_of _ (by decide +kernel)) ggX13_isHad_X13_in
set_option maxRecDepth 20000 in
theorem gX13_isHad_X13_isClause : GoodIn wsX13_isHad (wsV RX13 233 RX13 yX13_isClause wsX13_isClause) := goodIn_app (goodIn_r _ [2, 3, 4, 5] rfl (by decide +kernel)) ggX13_isHad_X13_isClause
set_option maxRecDepth 20000 in
theorem gX13_isHad_X13_isPath : GoodIn wsX13_isHad (va_wsS RX13 198 yX13_isPath wsX13_isPath) := goodIn_app (goodIn_of _ (by decide +kernel)) ggX13_isHad_X13_isPath
theorem hs_X13_isPath : yX13_isPath.cls ≠ "java/lang/invoke/MethodHandle" ∧ yX13_isPath.cls ≠ "java/lang/invoke/VarHandle" ∧ (parseMethodDescriptor yX13_isPath.desc).map (fun d => d.parameters.length) = some 1 := by decide +kernel
theorem hv_X13_isClause : yX13_isClause.cls = RX13 ∧ yX13_isClause.cls ≠ "java/lang/invoke/MethodHandle" ∧ yX13_isClause.cls ≠ "java/lang/invoke/VarHandle" ∧ (parseMethodDescriptor yX13_isClause.desc).map (fun d => d.parameters.length) = some 1 := by decide +kernel
set_option maxHeartbeats 4000000 in
set_option maxRecDepth 100000 in
theorem c_X13_isHad (l : Launch) (D : va_G) (T : Nat → ClassId) (h0 : Nat) (fs0 : List Value) (x1 : Int32) (x2 : Int32) (x3 : Int32) (n : Int32) (e0_7 : fs0[7]? = some (.int n)) (hn : 0 ≤ n.toInt ∧ n.toInt ≤ 24) : Met l yX13_isHad wsX13_isHad ({ frames := 2, cells := 0, slots := 0, locals := 46 }) (pR [.ref h0, .int x1, .int x2, .int x3] D T [(h0, .inr (10, fs0))]) (vp_Si (fun r => r = if (0 ≤ x1.toInt ∧ x1.toInt ≤ n.toInt - 1) ∧ (0 ≤ x2.toInt ∧ x2.toInt ≤ 6) ∧ 0 ≤ x3.toInt ∧ x3.toInt ≤ 63 then 1 else 0)) 0 0 (fun _ => False) := by
  refine Met.ofW (cc := cX13_isHad) (maxL := 4) (ret := (some .boolean)) (by decide +kernel) rfl ?_
  intro p e s m args below meth c s₁ B hml hv
  obtain ⟨rfl, hP, hE⟩ := hv
  have hx := B.exec
  have hb := B.bytes
  have hr := B.returns
  have hts := atoms_spec (ws := wsX13_isHad) B.pre
  have hown : s.vm.findClass RX13 = some m.cls := findClass_of_methodNamed B.named
  have hlocks := B.notSynchronized
  have hP : va_P D vwCl [(h0, .inr (10, fs0))] s.heap := hP
  have hl := lv_entry ([.ref h0, .int x1, .int x2, .int x3]) (n := 4) (Nat.le_of_ble_eq_true rfl)
  rw [lg_entry_eq]
  generalize (lg_sl ([.ref h0, .int x1, .int x2, .int x3]) ++ List.replicate (4 - (lg_sl ([.ref h0, .int x1, .int x2, .int x3])).length) Slot.unset).toArray = ls at hl ⊢
  have hl : lv_has ls 4 [(0, .ref h0), (1, .int x1), (2, .int x2), (3, .int x3)] := hl
  refine lv_aload_n hx hb dX13_isHad_0 rfl (lv_at hl 0 rfl) ?_
  refine lv_iload_n hx hb dX13_isHad_1 rfl (lv_at hl 1 rfl) ?_
  refine vp_callSi (W.runV (As := [.int x1]) (rest := []) ⟨hx, hb, hml, hown, hts⟩ (c_X13_isClause l D T h0 fs0 x1 n e0_7 (by omega)) (cwV 1 hts gX13_isHad_X13_isClause rfl rfl rfl hv_X13_isClause ⟨Nat.le_of_ble_eq_true rfl, Nat.le_of_ble_eq_true rfl⟩) (pR_V (q := (RX13, TX13, 45)) (ci := 10) (q0 := 0) hP hE rfl rfl [0] rfl) rfl rfl hl.1 rfl (lv_room (Nat.le_of_ble_eq_true rfl)) dX13_isHad_2 ⟨Nat.le_of_ble_eq_true rfl, Nat.le_of_ble_eq_true rfl⟩) (fun r_1 hr_1 => ?_)
  rcases bool_post hr_1 with ⟨c_2, rfl⟩ | ⟨c_2, rfl⟩
  · refine lv_if_eq (tgt := 31) hx hb dX13_isHad_5 (by decide +kernel) (fun c9 => absurd c9 (by decide +kernel)) (fun _ => ?_)
    refine lv_iload_n hx hb dX13_isHad_8 rfl (lv_at hl 2 rfl) ?_
    refine lv_i2l hx hb dX13_isHad_9 rfl ?_
    refine lv_lconst (v := 0) hx hb dX13_isHad_10 (by decide +kernel) ?_
    refine lv_ldc2 (v := 6) hx hb hown (hts (.constantLong RX13 186 (6)) (List.mem_of_getElem? (i := 1) rfl)) dX13_isHad_11 ?_
    refine vp_callSi (W.runS (As := [.long (x2.toInt64), .long 0, .long 6]) (rest := []) ⟨hx, hb, hml, hown, hts⟩ (c_X13_in l D T (x2.toInt64) 0 6 x2.toInt 0 6 ((Int32.toInt_toInt64 _).trans rfl) (by decide +kernel) (by decide +kernel)) (va_cwS 3 hts gX13_isHad_X13_in rfl rfl rfl hs_X13_in ⟨Nat.le_of_ble_eq_true rfl, Nat.le_of_ble_eq_true rfl⟩) (pR_S hP hE [] rfl) rfl rfl hl.1 rfl (lv_room (Nat.le_of_ble_eq_true rfl)) dX13_isHad_14 ⟨Nat.le_of_ble_eq_true rfl, Nat.le_of_ble_eq_true rfl⟩) (fun r_3 hr_3 => ?_)
    rcases bool_post hr_3 with ⟨c_4, rfl⟩ | ⟨c_4, rfl⟩
    · refine lv_if_eq (tgt := 31) hx hb dX13_isHad_17 (by decide +kernel) (fun c9 => absurd c9 (by decide +kernel)) (fun _ => ?_)
      refine lv_iload_n hx hb dX13_isHad_20 rfl (lv_at hl 3 rfl) ?_
      refine vp_callSi (W.runS (As := [.int x3]) (rest := []) ⟨hx, hb, hml, hown, hts⟩ (c_X13_isPath l D T x3) (va_cwS 1 hts gX13_isHad_X13_isPath rfl rfl rfl hs_X13_isPath ⟨Nat.le_of_ble_eq_true rfl, Nat.le_of_ble_eq_true rfl⟩) (pR_S hP hE [] rfl) rfl rfl hl.1 rfl (lv_room (Nat.le_of_ble_eq_true rfl)) dX13_isHad_21 ⟨Nat.le_of_ble_eq_true rfl, Nat.le_of_ble_eq_true rfl⟩) (fun r_5 hr_5 => ?_)
      rcases bool_post hr_5 with ⟨c_6, rfl⟩ | ⟨c_6, rfl⟩
      · refine lv_if_eq (tgt := 31) hx hb dX13_isHad_24 (by decide +kernel) (fun c9 => absurd c9 (by decide +kernel)) (fun _ => ?_)
        refine lv_iconst (v := 1) hx hb dX13_isHad_27 (by decide +kernel) ?_
        refine lv_goto (tgt := 32) hx hb dX13_isHad_28 (by decide +kernel) ?_
        exact W.zret hx hb hr rfl (fun t ht hW => ⟨_, rfl, (by exact (if_pos (by omega)).symm), ht⟩) (fun _ h => by cases h) dX13_isHad_32
      · refine lv_if_eq (tgt := 31) hx hb dX13_isHad_24 (by decide +kernel) (fun _ => ?_) (fun c9 => absurd c9 (by decide +kernel))
        refine lv_iconst (v := 0) hx hb dX13_isHad_31 (by decide +kernel) ?_
        exact W.zret hx hb hr rfl (fun t ht hW => ⟨_, rfl, (by exact (if_neg (by omega)).symm), ht⟩) (fun _ h => by cases h) dX13_isHad_32
    · refine lv_if_eq (tgt := 31) hx hb dX13_isHad_17 (by decide +kernel) (fun _ => ?_) (fun c9 => absurd c9 (by decide +kernel))
      refine lv_iconst (v := 0) hx hb dX13_isHad_31 (by decide +kernel) ?_
      exact W.zret hx hb hr rfl (fun t ht hW => ⟨_, rfl, (by exact (if_neg (by omega)).symm), ht⟩) (fun _ h => by cases h) dX13_isHad_32
  · refine lv_if_eq (tgt := 31) hx hb dX13_isHad_5 (by decide +kernel) (fun _ => ?_) (fun c9 => absurd c9 (by decide +kernel))
    refine lv_iconst (v := 0) hx hb dX13_isHad_31 (by decide +kernel) ?_
    exact W.zret hx hb hr rfl (fun t ht hW => ⟨_, rfl, (by exact (if_neg (by omega)).symm), ht⟩) (fun _ h => by cases h) dX13_isHad_32
theorem dX13_priceAt_0 : decode cX13_priceAt 0 = .ok (.aload_n 0, 1) := by decide +kernel
theorem dX13_priceAt_1 : decode cX13_priceAt 1 = .ok (.getfield 181, 3) := by decide +kernel
theorem dX13_priceAt_10 : decode cX13_priceAt 10 = .ok (.iadd, 1) := by decide +kernel
theorem dX13_priceAt_11 : decode cX13_priceAt 11 = .ok (.aload_n 0, 1) := by decide +kernel
theorem dX13_priceAt_12 : decode cX13_priceAt 12 = .ok (.getfield 13, 3) := by decide +kernel
theorem dX13_priceAt_15 : decode cX13_priceAt 15 = .ok (.iload_n 1, 1) := by decide +kernel
theorem dX13_priceAt_16 : decode cX13_priceAt 16 = .ok (.iload_n 2, 1) := by decide +kernel
theorem dX13_priceAt_17 : decode cX13_priceAt 17 = .ok (.isub, 1) := by decide +kernel
theorem dX13_priceAt_18 : decode cX13_priceAt 18 = .ok (.imul, 1) := by decide +kernel
theorem dX13_priceAt_19 : decode cX13_priceAt 19 = .ok (.isub, 1) := by decide +kernel
theorem dX13_priceAt_20 : decode cX13_priceAt 20 = .ok (.ireturn, 1) := by decide +kernel
theorem dX13_priceAt_4 : decode cX13_priceAt 4 = .ok (.aload_n 0, 1) := by decide +kernel
theorem dX13_priceAt_5 : decode cX13_priceAt 5 = .ok (.getfield 7, 3) := by decide +kernel
theorem dX13_priceAt_8 : decode cX13_priceAt 8 = .ok (.iload_n 2, 1) := by decide +kernel
theorem dX13_priceAt_9 : decode cX13_priceAt 9 = .ok (.imul, 1) := by decide +kernel
set_option maxRecDepth 20000 in
theorem in_X13_priceAt_X13 : ∀ w ∈ wsX130, w ∈ wsX13_priceAt := sub_r [4, 5, 6, 7, 8, 9, 10, 11, 12, 13, 14, 15, 16, 17, 18, 19, 20, 21, 22, 23, 24, 25, 26, 27, 28, 29, 30, 31, 32, 33, 34, 35, 36, 37, 38, 39, 40, 41, 42, 43, 44, 45, 46, 47, 48] rfl
set_option maxHeartbeats 4000000 in
set_option maxRecDepth 100000 in
theorem c_X13_priceAt (l : Launch) (D : va_G) (T : Nat → ClassId) (h0 : Nat) (fs0 : List Value) (x1 : Int32) (x2 : Int32) (n0 : Int32) (n1 : Int32) (n2 : Int32) (e0_0 : fs0[0]? = some (.int n0)) (e0_1 : fs0[1]? = some (.int n1)) (e0_2 : fs0[2]? = some (.int n2)) : Met l yX13_priceAt wsX13_priceAt ({ frames := 0, cells := 0, slots := 0, locals := 0 }) (pR [.ref h0, .int x1, .int x2] D T [(h0, .inr (10, fs0))]) (vp_Si (fun r => r = ((n0 + (n1 * x2)) - (n2 * (x1 - x2))))) 0 0 (fun _ => False) := by
  refine Met.ofW (cc := cX13_priceAt) (maxL := 3) (ret := (some .int)) (by decide +kernel) rfl ?_
  intro p e s m args below meth c s₁ B hml hv
  obtain ⟨rfl, hP, hE⟩ := hv
  have hx := B.exec
  have hb := B.bytes
  have hr := B.returns
  have hts := atoms_spec (ws := wsX13_priceAt) B.pre
  have hown : s.vm.findClass RX13 = some m.cls := findClass_of_methodNamed B.named
  have hlocks := B.notSynchronized
  have hP : va_P D vwCl [(h0, .inr (10, fs0))] s.heap := hP
  have hl := lv_entry ([.ref h0, .int x1, .int x2]) (n := 3) (Nat.le_of_ble_eq_true rfl)
  rw [lg_entry_eq]
  generalize (lg_sl ([.ref h0, .int x1, .int x2]) ++ List.replicate (3 - (lg_sl ([.ref h0, .int x1, .int x2])).length) Slot.unset).toArray = ls at hl ⊢
  have hl : lv_has ls 3 [(0, .ref h0), (1, .int x1), (2, .int x2)] := hl
  refine lv_aload_n hx hb dX13_priceAt_0 rfl (lv_at hl 0 rfl) ?_
  refine va_get (D := D) (ci := 10) (v := .int n0) (C := RX13) (T := TX13) (N := 45) hx hb hts in_X13_priceAt_X13 hown hE.1 hP 0 rfl rfl 0 (by decide +kernel) (hts (.fieldLink RX13 181 "ClauseBookModel" "start" "I") (List.mem_of_getElem? (i := 1) rfl)) (fun _ h9 => h9) e0_0 dX13_priceAt_1 ?_
  refine lv_aload_n hx hb dX13_priceAt_4 rfl (lv_at hl 0 rfl) ?_
  refine va_get (D := D) (ci := 10) (v := .int n1) (C := RX13) (T := TX13) (N := 45) hx hb hts in_X13_priceAt_X13 hown hE.1 hP 0 rfl rfl 1 (by decide +kernel) (hts (.fieldLink RX13 7 "ClauseBookModel" "up" "I") (List.mem_of_getElem? (i := 2) rfl)) (fun _ h9 => h9) e0_1 dX13_priceAt_5 ?_
  refine lv_iload_n hx hb dX13_priceAt_8 rfl (lv_at hl 2 rfl) ?_
  refine lv_imul hx hb dX13_priceAt_9 ?_
  refine lv_iadd hx hb dX13_priceAt_10 ?_
  refine lv_aload_n hx hb dX13_priceAt_11 rfl (lv_at hl 0 rfl) ?_
  refine va_get (D := D) (ci := 10) (v := .int n2) (C := RX13) (T := TX13) (N := 45) hx hb hts in_X13_priceAt_X13 hown hE.1 hP 0 rfl rfl 2 (by decide +kernel) (hts (.fieldLink RX13 13 "ClauseBookModel" "down" "I") (List.mem_of_getElem? (i := 3) rfl)) (fun _ h9 => h9) e0_2 dX13_priceAt_12 ?_
  refine lv_iload_n hx hb dX13_priceAt_15 rfl (lv_at hl 1 rfl) ?_
  refine lv_iload_n hx hb dX13_priceAt_16 rfl (lv_at hl 2 rfl) ?_
  refine lv_isub hx hb dX13_priceAt_17 ?_
  refine lv_imul hx hb dX13_priceAt_18 ?_
  refine lv_isub hx hb dX13_priceAt_19 ?_
  exact W.iret hx hb hr (fun t ht hW => ⟨_, rfl, rfl, ht⟩) (fun _ h => by cases h) dX13_priceAt_20
theorem dX13_price_0 : decode cX13_price 0 = .ok (.iload_n 1, 1) := by decide +kernel
theorem dX13_price_1 : decode cX13_price 1 = .ok (.iload_n 2, 1) := by decide +kernel
theorem dX13_price_10 : decode cX13_price 10 = .ok (.iload_n 2, 1) := by decide +kernel
theorem dX13_price_11 : decode cX13_price 11 = .ok (.invokevirtual 192, 3) := by decide +kernel
theorem dX13_price_14 : decode cX13_price 14 = .ok (.goto 5, 3) := by decide +kernel
theorem dX13_price_17 : decode cX13_price 17 = .ok (.bipush (-2), 2) := by decide +kernel
theorem dX13_price_19 : decode cX13_price 19 = .ok (.ireturn, 1) := by decide +kernel
theorem dX13_price_2 : decode cX13_price 2 = .ok (.invokestatic 188, 3) := by decide +kernel
theorem dX13_price_5 : decode cX13_price 5 = .ok (.ifCond .eq 12, 3) := by decide +kernel
theorem dX13_price_8 : decode cX13_price 8 = .ok (.aload_n 0, 1) := by decide +kernel
theorem dX13_price_9 : decode cX13_price 9 = .ok (.iload_n 1, 1) := by decide +kernel
set_option maxRecDepth 20000 in
theorem ggX13_price_X13_isSpot : GoodIn wsX13_price wsX13_isSpot := goodIn_r _ [4, 5, 6, 7, 3, 8] rfl (by decide +kernel)
set_option maxRecDepth 20000 in
theorem ggX13_price_X13_priceAt : GoodIn wsX13_price wsX13_priceAt := goodIn_r _ [12, 13, 14, 15, 16, 17, 18, 19, 20, 21, 22, 23, 24, 25, 26, 27, 28, 29, 30, 31, 32, 33, 34, 35, 36, 37, 38, 39, 40, 41, 42, 43, 44, 45, 46, 47, 48, 49, 50, 51, 52, 53, 54, 55, 56, 57, 58, 59, 60] rfl (by decide +kernel)
set_option maxRecDepth 20000 in
theorem gX13_price_X13_isSpot : GoodIn wsX13_price (va_wsS RX13 188 yX13_isSpot wsX13_isSpot) := goodIn_app (goodIn_of _ (by decide +kernel)) ggX13_price_X13_isSpot
set_option maxRecDepth 20000 in
theorem gX13_price_X13_priceAt : GoodIn wsX13_price (wsV RX13 192 RX13 yX13_priceAt wsX13_priceAt) := goodIn_app (goodIn_r _ [9, 10, 11, 3] rfl (by decide +kernel)) ggX13_price_X13_priceAt
theorem hs_X13_isSpot : yX13_isSpot.cls ≠ "java/lang/invoke/MethodHandle" ∧ yX13_isSpot.cls ≠ "java/lang/invoke/VarHandle" ∧ (parseMethodDescriptor yX13_isSpot.desc).map (fun d => d.parameters.length) = some 2 := by decide +kernel
theorem hv_X13_priceAt : yX13_priceAt.cls = RX13 ∧ yX13_priceAt.cls ≠ "java/lang/invoke/MethodHandle" ∧ yX13_priceAt.cls ≠ "java/lang/invoke/VarHandle" ∧ (parseMethodDescriptor yX13_priceAt.desc).map (fun d => d.parameters.length) = some 2 := by decide +kernel
set_option maxHeartbeats 4000000 in
set_option maxRecDepth 100000 in
theorem c_X13_price (l : Launch) (D : va_G) (T : Nat → ClassId) (h0 : Nat) (fs0 : List Value) (x1 : Int32) (x2 : Int32) (n0 : Int32) (n1 : Int32) (n2 : Int32) (e0_0 : fs0[0]? = some (.int n0)) (e0_1 : fs0[1]? = some (.int n1)) (e0_2 : fs0[2]? = some (.int n2)) : Met l yX13_price wsX13_price ({ frames := 2, cells := 0, slots := 0, locals := 46 }) (pR [.ref h0, .int x1, .int x2] D T [(h0, .inr (10, fs0))]) (vp_Si (fun r => r = sp_priceL n0 n1 n2 x1 x2)) 0 0 (fun _ => False) := by
  refine Met.ofW (cc := cX13_price) (maxL := 3) (ret := (some .int)) (by decide +kernel) rfl ?_
  intro p e s m args below meth c s₁ B hml hv
  obtain ⟨rfl, hP, hE⟩ := hv
  have hx := B.exec
  have hb := B.bytes
  have hr := B.returns
  have hts := atoms_spec (ws := wsX13_price) B.pre
  have hown : s.vm.findClass RX13 = some m.cls := findClass_of_methodNamed B.named
  have hlocks := B.notSynchronized
  have hP : va_P D vwCl [(h0, .inr (10, fs0))] s.heap := hP
  have hl := lv_entry ([.ref h0, .int x1, .int x2]) (n := 3) (Nat.le_of_ble_eq_true rfl)
  rw [lg_entry_eq]
  generalize (lg_sl ([.ref h0, .int x1, .int x2]) ++ List.replicate (3 - (lg_sl ([.ref h0, .int x1, .int x2])).length) Slot.unset).toArray = ls at hl ⊢
  have hl : lv_has ls 3 [(0, .ref h0), (1, .int x1), (2, .int x2)] := hl
  refine lv_iload_n hx hb dX13_price_0 rfl (lv_at hl 1 rfl) ?_
  refine lv_iload_n hx hb dX13_price_1 rfl (lv_at hl 2 rfl) ?_
  refine vp_callSi (W.runS (As := [.int x1, .int x2]) (rest := []) ⟨hx, hb, hml, hown, hts⟩ (c_X13_isSpot l D T x1 x2) (va_cwS 2 hts gX13_price_X13_isSpot rfl rfl rfl hs_X13_isSpot ⟨Nat.le_of_ble_eq_true rfl, Nat.le_of_ble_eq_true rfl⟩) (pR_S hP hE [] rfl) rfl rfl hl.1 rfl (lv_room (Nat.le_of_ble_eq_true rfl)) dX13_price_2 ⟨Nat.le_of_ble_eq_true rfl, Nat.le_of_ble_eq_true rfl⟩) (fun r_1 hr_1 => ?_)
  rcases bool_post hr_1 with ⟨c_2, rfl⟩ | ⟨c_2, rfl⟩
  · refine lv_if_eq (tgt := 17) hx hb dX13_price_5 (by decide +kernel) (fun c9 => absurd c9 (by decide +kernel)) (fun _ => ?_)
    refine lv_aload_n hx hb dX13_price_8 rfl (lv_at hl 0 rfl) ?_
    refine lv_iload_n hx hb dX13_price_9 rfl (lv_at hl 1 rfl) ?_
    refine lv_iload_n hx hb dX13_price_10 rfl (lv_at hl 2 rfl) ?_
    refine vp_callSi (W.runV (As := [.int x1, .int x2]) (rest := []) ⟨hx, hb, hml, hown, hts⟩ (c_X13_priceAt l D T h0 fs0 x1 x2 n0 n1 n2 e0_0 e0_1 e0_2) (cwV 2 hts gX13_price_X13_priceAt rfl rfl rfl hv_X13_priceAt ⟨Nat.le_of_ble_eq_true rfl, Nat.le_of_ble_eq_true rfl⟩) (pR_V (q := (RX13, TX13, 45)) (ci := 10) (q0 := 0) hP hE rfl rfl [0] rfl) rfl rfl hl.1 rfl (lv_room (Nat.le_of_ble_eq_true rfl)) dX13_price_11 ⟨Nat.le_of_ble_eq_true rfl, Nat.le_of_ble_eq_true rfl⟩) (fun r_3 hr_3 => ?_)
    refine lv_goto (tgt := 19) hx hb dX13_price_14 (by decide +kernel) ?_
    exact W.iret hx hb hr (fun t ht hW => ⟨_, rfl, (by unfold sp_priceL; rw [if_pos (by omega)]; first | exact hr_3 | rfl), ht⟩) (fun _ h => by cases h) dX13_price_19
  · refine lv_if_eq (tgt := 17) hx hb dX13_price_5 (by decide +kernel) (fun _ => ?_) (fun c9 => absurd c9 (by decide +kernel))
    refine lv_bipush (v := (-2)) hx hb dX13_price_17 (by decide +kernel) ?_
    exact W.iret hx hb hr (fun t ht hW => ⟨_, rfl, (by unfold sp_priceL; rw [if_neg (by omega)]), ht⟩) (fun _ h => by cases h) dX13_price_19
theorem dX13_at_0 : decode cX13_at 0 = .ok (.bipush 28, 2) := by decide +kernel
theorem dX13_at_10 : decode cX13_at 10 = .ok (.idiv, 1) := by decide +kernel
theorem dX13_at_11 : decode cX13_at 11 = .ok (.iadd, 1) := by decide +kernel
theorem dX13_at_12 : decode cX13_at 12 = .ok (.iload_n 2, 1) := by decide +kernel
theorem dX13_at_13 : decode cX13_at 13 = .ok (.iadd, 1) := by decide +kernel
theorem dX13_at_14 : decode cX13_at 14 = .ok (.ireturn, 1) := by decide +kernel
theorem dX13_at_2 : decode cX13_at 2 = .ok (.iload_n 0, 1) := by decide +kernel
theorem dX13_at_3 : decode cX13_at 3 = .ok (.imul, 1) := by decide +kernel
theorem dX13_at_4 : decode cX13_at 4 = .ok (.iload_n 1, 1) := by decide +kernel
theorem dX13_at_5 : decode cX13_at 5 = .ok (.iload_n 1, 1) := by decide +kernel
theorem dX13_at_6 : decode cX13_at 6 = .ok (.iconst 1, 1) := by decide +kernel
theorem dX13_at_7 : decode cX13_at 7 = .ok (.iadd, 1) := by decide +kernel
theorem dX13_at_8 : decode cX13_at 8 = .ok (.imul, 1) := by decide +kernel
theorem dX13_at_9 : decode cX13_at 9 = .ok (.iconst 2, 1) := by decide +kernel
set_option maxHeartbeats 4000000 in
set_option maxRecDepth 100000 in
theorem c_X13_at (l : Launch) (D : va_G) (T : Nat → ClassId) (x0 : Int32) (x1 : Int32) (x2 : Int32) (hxa : 0 ≤ x0.toInt ∧ x0.toInt < 24) (hya : 0 ≤ x1.toInt ∧ x1.toInt ≤ 6) (hza : 0 ≤ x2.toInt ∧ x2.toInt ≤ x1.toInt) : Met l yX13_at wsX13_at ({ frames := 0, cells := 0, slots := 0, locals := 0 }) (pR [.int x0, .int x1, .int x2] D T []) (vp_Si (fun r => r.toInt = 28 * x0.toInt + tri x1.toInt + x2.toInt ∧ 0 ≤ r.toInt ∧ r.toInt < 28 * x0.toInt + 28)) 0 0 (fun _ => False) := by
  refine Met.ofW (cc := cX13_at) (maxL := 3) (ret := (some .int)) (by decide +kernel) rfl ?_
  intro p e s m args below meth c s₁ B hml hv
  obtain ⟨rfl, hP, hE⟩ := hv
  have hx := B.exec
  have hb := B.bytes
  have hr := B.returns
  have hts := atoms_spec (ws := wsX13_at) B.pre
  have hown : s.vm.findClass RX13 = some m.cls := findClass_of_methodNamed B.named
  have hlocks := B.notSynchronized
  have hP : va_P D vwCl [] s.heap := hP
  have hl := lv_entry ([.int x0, .int x1, .int x2]) (n := 3) (Nat.le_of_ble_eq_true rfl)
  rw [lg_entry_eq]
  generalize (lg_sl ([.int x0, .int x1, .int x2]) ++ List.replicate (3 - (lg_sl ([.int x0, .int x1, .int x2])).length) Slot.unset).toArray = ls at hl ⊢
  have hl : lv_has ls 3 [(0, .int x0), (1, .int x1), (2, .int x2)] := hl
  refine lv_bipush (v := 28) hx hb dX13_at_0 (by decide +kernel) ?_
  refine lv_iload_n hx hb dX13_at_2 rfl (lv_at hl 0 rfl) ?_
  refine lv_imul hx hb dX13_at_3 ?_
  refine lv_iload_n hx hb dX13_at_4 rfl (lv_at hl 1 rfl) ?_
  refine lv_iload_n hx hb dX13_at_5 rfl (lv_at hl 1 rfl) ?_
  refine lv_iconst (v := 1) hx hb dX13_at_6 (by decide +kernel) ?_
  refine lv_iadd hx hb dX13_at_7 ?_
  refine lv_imul hx hb dX13_at_8 ?_
  refine lv_iconst (v := 2) hx hb dX13_at_9 (by decide +kernel) ?_
  refine lv_idiv hx hb dX13_at_10 (by decide +kernel) ?_
  refine lv_iadd hx hb dX13_at_11 ?_
  refine lv_iload_n hx hb dX13_at_12 rfl (lv_at hl 2 rfl) ?_
  refine lv_iadd hx hb dX13_at_13 ?_
  exact W.iret hx hb hr (fun t ht hW => ⟨_, rfl, (by have h9 := at_eq hxa hya hza; have h8 := tri_in hya; omega), ht⟩) (fun _ h => by cases h) dX13_at_14
theorem spot_0 {x : Int32} (h : 0 ≤ x.toInt ∧ x.toInt ≤ 63) : ((0 : Int32) : Int32) = sp_bits (x &&& (((1 : Int32) <<< ((0 : Int32) &&& 31)) - 1)) := by
  obtain ⟨j, hj, rfl⟩ : ∃ j : Nat, j < 64 ∧ x = nI j := by
    obtain ⟨j, hj, e⟩ := nI_of (x := x) (by rw [fa_lt, ti_0]; omega)
    subst e
    rw [nI_toInt hj] at h
    exact ⟨j, by omega, rfl⟩
  have key : ∀ j : Fin 64, (fun x : Int32 => ((0 : Int32) : Int32) = sp_bits (x &&& (((1 : Int32) <<< ((0 : Int32) &&& 31)) - 1))) (nI j.val) := by decide +kernel
  exact key ⟨j, hj⟩
theorem spot_1 {x : Int32} (h : 0 ≤ x.toInt ∧ x.toInt ≤ 63) : (((0 : Int32) + ((x >>> ((0 : Int32) &&& 31)) &&& 1)) : Int32) = sp_bits (x &&& (((1 : Int32) <<< ((1 : Int32) &&& 31)) - 1)) := by
  obtain ⟨j, hj, rfl⟩ : ∃ j : Nat, j < 64 ∧ x = nI j := by
    obtain ⟨j, hj, e⟩ := nI_of (x := x) (by rw [fa_lt, ti_0]; omega)
    subst e
    rw [nI_toInt hj] at h
    exact ⟨j, by omega, rfl⟩
  have key : ∀ j : Fin 64, (fun x : Int32 => (((0 : Int32) + ((x >>> ((0 : Int32) &&& 31)) &&& 1)) : Int32) = sp_bits (x &&& (((1 : Int32) <<< ((1 : Int32) &&& 31)) - 1))) (nI j.val) := by decide +kernel
  exact key ⟨j, hj⟩
theorem spot_2 {x : Int32} (h : 0 ≤ x.toInt ∧ x.toInt ≤ 63) : ((((0 : Int32) + ((x >>> ((0 : Int32) &&& 31)) &&& 1)) + ((x >>> ((1 : Int32) &&& 31)) &&& 1)) : Int32) = sp_bits (x &&& (((1 : Int32) <<< ((2 : Int32) &&& 31)) - 1)) := by
  obtain ⟨j, hj, rfl⟩ : ∃ j : Nat, j < 64 ∧ x = nI j := by
    obtain ⟨j, hj, e⟩ := nI_of (x := x) (by rw [fa_lt, ti_0]; omega)
    subst e
    rw [nI_toInt hj] at h
    exact ⟨j, by omega, rfl⟩
  have key : ∀ j : Fin 64, (fun x : Int32 => ((((0 : Int32) + ((x >>> ((0 : Int32) &&& 31)) &&& 1)) + ((x >>> ((1 : Int32) &&& 31)) &&& 1)) : Int32) = sp_bits (x &&& (((1 : Int32) <<< ((2 : Int32) &&& 31)) - 1))) (nI j.val) := by decide +kernel
  exact key ⟨j, hj⟩
theorem spot_3 {x : Int32} (h : 0 ≤ x.toInt ∧ x.toInt ≤ 63) : (((((0 : Int32) + ((x >>> ((0 : Int32) &&& 31)) &&& 1)) + ((x >>> ((1 : Int32) &&& 31)) &&& 1)) + ((x >>> ((2 : Int32) &&& 31)) &&& 1)) : Int32) = sp_bits (x &&& (((1 : Int32) <<< ((3 : Int32) &&& 31)) - 1)) := by
  obtain ⟨j, hj, rfl⟩ : ∃ j : Nat, j < 64 ∧ x = nI j := by
    obtain ⟨j, hj, e⟩ := nI_of (x := x) (by rw [fa_lt, ti_0]; omega)
    subst e
    rw [nI_toInt hj] at h
    exact ⟨j, by omega, rfl⟩
  have key : ∀ j : Fin 64, (fun x : Int32 => (((((0 : Int32) + ((x >>> ((0 : Int32) &&& 31)) &&& 1)) + ((x >>> ((1 : Int32) &&& 31)) &&& 1)) + ((x >>> ((2 : Int32) &&& 31)) &&& 1)) : Int32) = sp_bits (x &&& (((1 : Int32) <<< ((3 : Int32) &&& 31)) - 1))) (nI j.val) := by decide +kernel
  exact key ⟨j, hj⟩
theorem spot_4 {x : Int32} (h : 0 ≤ x.toInt ∧ x.toInt ≤ 63) : ((((((0 : Int32) + ((x >>> ((0 : Int32) &&& 31)) &&& 1)) + ((x >>> ((1 : Int32) &&& 31)) &&& 1)) + ((x >>> ((2 : Int32) &&& 31)) &&& 1)) + ((x >>> ((3 : Int32) &&& 31)) &&& 1)) : Int32) = sp_bits (x &&& (((1 : Int32) <<< ((4 : Int32) &&& 31)) - 1)) := by
  obtain ⟨j, hj, rfl⟩ : ∃ j : Nat, j < 64 ∧ x = nI j := by
    obtain ⟨j, hj, e⟩ := nI_of (x := x) (by rw [fa_lt, ti_0]; omega)
    subst e
    rw [nI_toInt hj] at h
    exact ⟨j, by omega, rfl⟩
  have key : ∀ j : Fin 64, (fun x : Int32 => ((((((0 : Int32) + ((x >>> ((0 : Int32) &&& 31)) &&& 1)) + ((x >>> ((1 : Int32) &&& 31)) &&& 1)) + ((x >>> ((2 : Int32) &&& 31)) &&& 1)) + ((x >>> ((3 : Int32) &&& 31)) &&& 1)) : Int32) = sp_bits (x &&& (((1 : Int32) <<< ((4 : Int32) &&& 31)) - 1))) (nI j.val) := by decide +kernel
  exact key ⟨j, hj⟩
theorem spot_5 {x : Int32} (h : 0 ≤ x.toInt ∧ x.toInt ≤ 63) : (((((((0 : Int32) + ((x >>> ((0 : Int32) &&& 31)) &&& 1)) + ((x >>> ((1 : Int32) &&& 31)) &&& 1)) + ((x >>> ((2 : Int32) &&& 31)) &&& 1)) + ((x >>> ((3 : Int32) &&& 31)) &&& 1)) + ((x >>> ((4 : Int32) &&& 31)) &&& 1)) : Int32) = sp_bits (x &&& (((1 : Int32) <<< ((5 : Int32) &&& 31)) - 1)) := by
  obtain ⟨j, hj, rfl⟩ : ∃ j : Nat, j < 64 ∧ x = nI j := by
    obtain ⟨j, hj, e⟩ := nI_of (x := x) (by rw [fa_lt, ti_0]; omega)
    subst e
    rw [nI_toInt hj] at h
    exact ⟨j, by omega, rfl⟩
  have key : ∀ j : Fin 64, (fun x : Int32 => (((((((0 : Int32) + ((x >>> ((0 : Int32) &&& 31)) &&& 1)) + ((x >>> ((1 : Int32) &&& 31)) &&& 1)) + ((x >>> ((2 : Int32) &&& 31)) &&& 1)) + ((x >>> ((3 : Int32) &&& 31)) &&& 1)) + ((x >>> ((4 : Int32) &&& 31)) &&& 1)) : Int32) = sp_bits (x &&& (((1 : Int32) <<< ((5 : Int32) &&& 31)) - 1))) (nI j.val) := by decide +kernel
  exact key ⟨j, hj⟩
theorem spot_6 {x : Int32} (h : 0 ≤ x.toInt ∧ x.toInt ≤ 63) : ((((((((0 : Int32) + ((x >>> ((0 : Int32) &&& 31)) &&& 1)) + ((x >>> ((1 : Int32) &&& 31)) &&& 1)) + ((x >>> ((2 : Int32) &&& 31)) &&& 1)) + ((x >>> ((3 : Int32) &&& 31)) &&& 1)) + ((x >>> ((4 : Int32) &&& 31)) &&& 1)) + ((x >>> ((5 : Int32) &&& 31)) &&& 1)) : Int32) = sp_bits (x &&& (((1 : Int32) <<< ((6 : Int32) &&& 31)) - 1)) := by
  obtain ⟨j, hj, rfl⟩ : ∃ j : Nat, j < 64 ∧ x = nI j := by
    obtain ⟨j, hj, e⟩ := nI_of (x := x) (by rw [fa_lt, ti_0]; omega)
    subst e
    rw [nI_toInt hj] at h
    exact ⟨j, by omega, rfl⟩
  have key : ∀ j : Fin 64, (fun x : Int32 => ((((((((0 : Int32) + ((x >>> ((0 : Int32) &&& 31)) &&& 1)) + ((x >>> ((1 : Int32) &&& 31)) &&& 1)) + ((x >>> ((2 : Int32) &&& 31)) &&& 1)) + ((x >>> ((3 : Int32) &&& 31)) &&& 1)) + ((x >>> ((4 : Int32) &&& 31)) &&& 1)) + ((x >>> ((5 : Int32) &&& 31)) &&& 1)) : Int32) = sp_bits (x &&& (((1 : Int32) <<< ((6 : Int32) &&& 31)) - 1))) (nI j.val) := by decide +kernel
  exact key ⟨j, hj⟩
theorem in7 {x : Int32} (h : 0 ≤ x.toInt ∧ x.toInt ≤ 6) : x = 0 ∨ x = 1 ∨ x = 2 ∨ x = 3 ∨ x = 4 ∨ x = 5 ∨ x = 6 := by
  simp only [fa_eq, ti_0, ti_1, ti_2, ti_3, ti_4, ti_5, ti_6]
  omega
theorem dX13_spotAt_0 : decode cX13_spotAt 0 = .ok (.iconst 0, 1) := by decide +kernel
theorem dX13_spotAt_1 : decode cX13_spotAt 1 = .ok (.istore_n 2, 1) := by decide +kernel
theorem dX13_spotAt_10 : decode cX13_spotAt 10 = .ok (.iload_n 0, 1) := by decide +kernel
theorem dX13_spotAt_11 : decode cX13_spotAt 11 = .ok (.iload_n 3, 1) := by decide +kernel
theorem dX13_spotAt_12 : decode cX13_spotAt 12 = .ok (.ishr, 1) := by decide +kernel
theorem dX13_spotAt_13 : decode cX13_spotAt 13 = .ok (.iconst 1, 1) := by decide +kernel
theorem dX13_spotAt_14 : decode cX13_spotAt 14 = .ok (.iand, 1) := by decide +kernel
theorem dX13_spotAt_15 : decode cX13_spotAt 15 = .ok (.iadd, 1) := by decide +kernel
theorem dX13_spotAt_16 : decode cX13_spotAt 16 = .ok (.istore_n 2, 1) := by decide +kernel
theorem dX13_spotAt_17 : decode cX13_spotAt 17 = .ok (.iinc 3 1, 3) := by decide +kernel
theorem dX13_spotAt_2 : decode cX13_spotAt 2 = .ok (.iconst 0, 1) := by decide +kernel
theorem dX13_spotAt_20 : decode cX13_spotAt 20 = .ok (.goto (-16), 3) := by decide +kernel
theorem dX13_spotAt_23 : decode cX13_spotAt 23 = .ok (.iload_n 2, 1) := by decide +kernel
theorem dX13_spotAt_24 : decode cX13_spotAt 24 = .ok (.ireturn, 1) := by decide +kernel
theorem dX13_spotAt_3 : decode cX13_spotAt 3 = .ok (.istore_n 3, 1) := by decide +kernel
theorem dX13_spotAt_4 : decode cX13_spotAt 4 = .ok (.iload_n 3, 1) := by decide +kernel
theorem dX13_spotAt_5 : decode cX13_spotAt 5 = .ok (.iload_n 1, 1) := by decide +kernel
theorem dX13_spotAt_6 : decode cX13_spotAt 6 = .ok (.if_icmp .ge 17, 3) := by decide +kernel
theorem dX13_spotAt_9 : decode cX13_spotAt 9 = .ok (.iload_n 2, 1) := by decide +kernel
set_option maxHeartbeats 4000000 in
set_option maxRecDepth 100000 in
theorem c_X13_spotAt (l : Launch) (D : va_G) (T : Nat → ClassId) (x0 : Int32) (x1 : Int32) (hp0 : 0 ≤ x0.toInt ∧ x0.toInt ≤ 63) (hd0 : 0 ≤ x1.toInt ∧ x1.toInt ≤ 6) : Met l yX13_spotAt wsX13_spotAt ({ frames := 0, cells := 0, slots := 0, locals := 0 }) (pR [.int x0, .int x1] D T []) (vp_Si (fun r => r = sp_bits (x0 &&& ((1 <<< (x1 &&& 31)) - 1)))) 0 0 (fun _ => False) := by
  refine Met.ofW (cc := cX13_spotAt) (maxL := 4) (ret := (some .int)) (by decide +kernel) rfl ?_
  intro p e s m args below meth c s₁ B hml hv
  obtain ⟨rfl, hP, hE⟩ := hv
  have hx := B.exec
  have hb := B.bytes
  have hr := B.returns
  have hts := atoms_spec (ws := wsX13_spotAt) B.pre
  have hown : s.vm.findClass RX13 = some m.cls := findClass_of_methodNamed B.named
  have hlocks := B.notSynchronized
  have hP : va_P D vwCl [] s.heap := hP
  have hl := lv_entry ([.int x0, .int x1]) (n := 4) (Nat.le_of_ble_eq_true rfl)
  rw [lg_entry_eq]
  generalize (lg_sl ([.int x0, .int x1]) ++ List.replicate (4 - (lg_sl ([.int x0, .int x1])).length) Slot.unset).toArray = ls at hl ⊢
  have hl : lv_has ls 4 [(0, .int x0), (1, .int x1)] := hl
  rcases in7 (x := x1) (by omega) with rfl | rfl | rfl | rfl | rfl | rfl | rfl
  · refine lv_iconst (v := 0) hx hb dX13_spotAt_0 (by decide +kernel) ?_
    refine lv_istore_n (lv' := [(2, .int 0), (0, .int x0), (1, .int 0)]) hx hb dX13_spotAt_1 rfl hl (by decide +kernel) rfl (fun ls hl => ?_)
    refine lv_iconst (v := 0) hx hb dX13_spotAt_2 (by decide +kernel) ?_
    refine lv_istore_n (lv' := [(3, .int 0), (2, .int 0), (0, .int x0), (1, .int 0)]) hx hb dX13_spotAt_3 rfl hl (by decide +kernel) rfl (fun ls hl => ?_)
    refine lv_iload_n hx hb dX13_spotAt_4 rfl (lv_at hl 0 rfl) ?_
    refine lv_iload_n hx hb dX13_spotAt_5 rfl (lv_at hl 3 rfl) ?_
    refine lv_icmp_ge (tgt := 23) hx hb dX13_spotAt_6 (by decide +kernel) (fun _ => ?_) (fun c9 => absurd c9 (by decide +kernel))
    refine lv_iload_n hx hb dX13_spotAt_23 rfl (lv_at hl 1 rfl) ?_
    exact W.iret hx hb hr (fun t ht hW => ⟨_, rfl, (by subst_vars; exact spot_0 hp0), ht⟩) (fun _ h => by cases h) dX13_spotAt_24
  · refine lv_iconst (v := 0) hx hb dX13_spotAt_0 (by decide +kernel) ?_
    refine lv_istore_n (lv' := [(2, .int 0), (0, .int x0), (1, .int 1)]) hx hb dX13_spotAt_1 rfl hl (by decide +kernel) rfl (fun ls hl => ?_)
    refine lv_iconst (v := 0) hx hb dX13_spotAt_2 (by decide +kernel) ?_
    refine lv_istore_n (lv' := [(3, .int 0), (2, .int 0), (0, .int x0), (1, .int 1)]) hx hb dX13_spotAt_3 rfl hl (by decide +kernel) rfl (fun ls hl => ?_)
    refine lv_iload_n hx hb dX13_spotAt_4 rfl (lv_at hl 0 rfl) ?_
    refine lv_iload_n hx hb dX13_spotAt_5 rfl (lv_at hl 3 rfl) ?_
    refine lv_icmp_ge (tgt := 23) hx hb dX13_spotAt_6 (by decide +kernel) (fun c9 => absurd c9 (by decide +kernel)) (fun _ => ?_)
    refine lv_iload_n hx hb dX13_spotAt_9 rfl (lv_at hl 1 rfl) ?_
    refine lv_iload_n hx hb dX13_spotAt_10 rfl (lv_at hl 2 rfl) ?_
    refine lv_iload_n hx hb dX13_spotAt_11 rfl (lv_at hl 0 rfl) ?_
    refine lv_ishr hx hb dX13_spotAt_12 ?_
    refine lv_iconst (v := 1) hx hb dX13_spotAt_13 (by decide +kernel) ?_
    refine lv_iand hx hb dX13_spotAt_14 ?_
    refine lv_iadd hx hb dX13_spotAt_15 ?_
    refine lv_topi (fun z_1 ez_1 => ?_)
    refine lv_istore_n (lv' := [(2, .int z_1), (3, .int 0), (0, .int x0), (1, .int 1)]) hx hb dX13_spotAt_16 rfl hl (by decide +kernel) rfl (fun ls hl => ?_)
    refine lv_iinc (v := 1) (lv' := [(3, .int 1), (2, .int z_1), (0, .int x0), (1, .int 1)]) hx hb dX13_spotAt_17 hl (k := 1) rfl (by decide +kernel) (by decide +kernel) rfl (fun ls hl => ?_)
    refine lv_goto (tgt := 4) hx hb dX13_spotAt_20 (by decide +kernel) ?_
    refine lv_iload_n hx hb dX13_spotAt_4 rfl (lv_at hl 0 rfl) ?_
    refine lv_iload_n hx hb dX13_spotAt_5 rfl (lv_at hl 3 rfl) ?_
    refine lv_icmp_ge (tgt := 23) hx hb dX13_spotAt_6 (by decide +kernel) (fun _ => ?_) (fun c9 => absurd c9 (by decide +kernel))
    refine lv_iload_n hx hb dX13_spotAt_23 rfl (lv_at hl 1 rfl) ?_
    exact W.iret hx hb hr (fun t ht hW => ⟨_, rfl, (by subst_vars; exact spot_1 hp0), ht⟩) (fun _ h => by cases h) dX13_spotAt_24
  · refine lv_iconst (v := 0) hx hb dX13_spotAt_0 (by decide +kernel) ?_
    refine lv_istore_n (lv' := [(2, .int 0), (0, .int x0), (1, .int 2)]) hx hb dX13_spotAt_1 rfl hl (by decide +kernel) rfl (fun ls hl => ?_)
    refine lv_iconst (v := 0) hx hb dX13_spotAt_2 (by decide +kernel) ?_
    refine lv_istore_n (lv' := [(3, .int 0), (2, .int 0), (0, .int x0), (1, .int 2)]) hx hb dX13_spotAt_3 rfl hl (by decide +kernel) rfl (fun ls hl => ?_)
    refine lv_iload_n hx hb dX13_spotAt_4 rfl (lv_at hl 0 rfl) ?_
    refine lv_iload_n hx hb dX13_spotAt_5 rfl (lv_at hl 3 rfl) ?_
    refine lv_icmp_ge (tgt := 23) hx hb dX13_spotAt_6 (by decide +kernel) (fun c9 => absurd c9 (by decide +kernel)) (fun _ => ?_)
    refine lv_iload_n hx hb dX13_spotAt_9 rfl (lv_at hl 1 rfl) ?_
    refine lv_iload_n hx hb dX13_spotAt_10 rfl (lv_at hl 2 rfl) ?_
    refine lv_iload_n hx hb dX13_spotAt_11 rfl (lv_at hl 0 rfl) ?_
    refine lv_ishr hx hb dX13_spotAt_12 ?_
    refine lv_iconst (v := 1) hx hb dX13_spotAt_13 (by decide +kernel) ?_
    refine lv_iand hx hb dX13_spotAt_14 ?_
    refine lv_iadd hx hb dX13_spotAt_15 ?_
    refine lv_topi (fun z_2 ez_2 => ?_)
    refine lv_istore_n (lv' := [(2, .int z_2), (3, .int 0), (0, .int x0), (1, .int 2)]) hx hb dX13_spotAt_16 rfl hl (by decide +kernel) rfl (fun ls hl => ?_)
    refine lv_iinc (v := 1) (lv' := [(3, .int 1), (2, .int z_2), (0, .int x0), (1, .int 2)]) hx hb dX13_spotAt_17 hl (k := 1) rfl (by decide +kernel) (by decide +kernel) rfl (fun ls hl => ?_)
    refine lv_goto (tgt := 4) hx hb dX13_spotAt_20 (by decide +kernel) ?_
    refine lv_iload_n hx hb dX13_spotAt_4 rfl (lv_at hl 0 rfl) ?_
    refine lv_iload_n hx hb dX13_spotAt_5 rfl (lv_at hl 3 rfl) ?_
    refine lv_icmp_ge (tgt := 23) hx hb dX13_spotAt_6 (by decide +kernel) (fun c9 => absurd c9 (by decide +kernel)) (fun _ => ?_)
    refine lv_iload_n hx hb dX13_spotAt_9 rfl (lv_at hl 1 rfl) ?_
    refine lv_iload_n hx hb dX13_spotAt_10 rfl (lv_at hl 2 rfl) ?_
    refine lv_iload_n hx hb dX13_spotAt_11 rfl (lv_at hl 0 rfl) ?_
    refine lv_ishr hx hb dX13_spotAt_12 ?_
    refine lv_iconst (v := 1) hx hb dX13_spotAt_13 (by decide +kernel) ?_
    refine lv_iand hx hb dX13_spotAt_14 ?_
    refine lv_iadd hx hb dX13_spotAt_15 ?_
    refine lv_topi (fun z_3 ez_3 => ?_)
    refine lv_istore_n (lv' := [(2, .int z_3), (3, .int 1), (0, .int x0), (1, .int 2)]) hx hb dX13_spotAt_16 rfl hl (by decide +kernel) rfl (fun ls hl => ?_)
    refine lv_iinc (v := 2) (lv' := [(3, .int 2), (2, .int z_3), (0, .int x0), (1, .int 2)]) hx hb dX13_spotAt_17 hl (k := 1) rfl (by decide +kernel) (by decide +kernel) rfl (fun ls hl => ?_)
    refine lv_goto (tgt := 4) hx hb dX13_spotAt_20 (by decide +kernel) ?_
    refine lv_iload_n hx hb dX13_spotAt_4 rfl (lv_at hl 0 rfl) ?_
    refine lv_iload_n hx hb dX13_spotAt_5 rfl (lv_at hl 3 rfl) ?_
    refine lv_icmp_ge (tgt := 23) hx hb dX13_spotAt_6 (by decide +kernel) (fun _ => ?_) (fun c9 => absurd c9 (by decide +kernel))
    refine lv_iload_n hx hb dX13_spotAt_23 rfl (lv_at hl 1 rfl) ?_
    exact W.iret hx hb hr (fun t ht hW => ⟨_, rfl, (by subst_vars; exact spot_2 hp0), ht⟩) (fun _ h => by cases h) dX13_spotAt_24
  · refine lv_iconst (v := 0) hx hb dX13_spotAt_0 (by decide +kernel) ?_
    refine lv_istore_n (lv' := [(2, .int 0), (0, .int x0), (1, .int 3)]) hx hb dX13_spotAt_1 rfl hl (by decide +kernel) rfl (fun ls hl => ?_)
    refine lv_iconst (v := 0) hx hb dX13_spotAt_2 (by decide +kernel) ?_
    refine lv_istore_n (lv' := [(3, .int 0), (2, .int 0), (0, .int x0), (1, .int 3)]) hx hb dX13_spotAt_3 rfl hl (by decide +kernel) rfl (fun ls hl => ?_)
    refine lv_iload_n hx hb dX13_spotAt_4 rfl (lv_at hl 0 rfl) ?_
    refine lv_iload_n hx hb dX13_spotAt_5 rfl (lv_at hl 3 rfl) ?_
    refine lv_icmp_ge (tgt := 23) hx hb dX13_spotAt_6 (by decide +kernel) (fun c9 => absurd c9 (by decide +kernel)) (fun _ => ?_)
    refine lv_iload_n hx hb dX13_spotAt_9 rfl (lv_at hl 1 rfl) ?_
    refine lv_iload_n hx hb dX13_spotAt_10 rfl (lv_at hl 2 rfl) ?_
    refine lv_iload_n hx hb dX13_spotAt_11 rfl (lv_at hl 0 rfl) ?_
    refine lv_ishr hx hb dX13_spotAt_12 ?_
    refine lv_iconst (v := 1) hx hb dX13_spotAt_13 (by decide +kernel) ?_
    refine lv_iand hx hb dX13_spotAt_14 ?_
    refine lv_iadd hx hb dX13_spotAt_15 ?_
    refine lv_topi (fun z_4 ez_4 => ?_)
    refine lv_istore_n (lv' := [(2, .int z_4), (3, .int 0), (0, .int x0), (1, .int 3)]) hx hb dX13_spotAt_16 rfl hl (by decide +kernel) rfl (fun ls hl => ?_)
    refine lv_iinc (v := 1) (lv' := [(3, .int 1), (2, .int z_4), (0, .int x0), (1, .int 3)]) hx hb dX13_spotAt_17 hl (k := 1) rfl (by decide +kernel) (by decide +kernel) rfl (fun ls hl => ?_)
    refine lv_goto (tgt := 4) hx hb dX13_spotAt_20 (by decide +kernel) ?_
    refine lv_iload_n hx hb dX13_spotAt_4 rfl (lv_at hl 0 rfl) ?_
    refine lv_iload_n hx hb dX13_spotAt_5 rfl (lv_at hl 3 rfl) ?_
    refine lv_icmp_ge (tgt := 23) hx hb dX13_spotAt_6 (by decide +kernel) (fun c9 => absurd c9 (by decide +kernel)) (fun _ => ?_)
    refine lv_iload_n hx hb dX13_spotAt_9 rfl (lv_at hl 1 rfl) ?_
    refine lv_iload_n hx hb dX13_spotAt_10 rfl (lv_at hl 2 rfl) ?_
    refine lv_iload_n hx hb dX13_spotAt_11 rfl (lv_at hl 0 rfl) ?_
    refine lv_ishr hx hb dX13_spotAt_12 ?_
    refine lv_iconst (v := 1) hx hb dX13_spotAt_13 (by decide +kernel) ?_
    refine lv_iand hx hb dX13_spotAt_14 ?_
    refine lv_iadd hx hb dX13_spotAt_15 ?_
    refine lv_topi (fun z_5 ez_5 => ?_)
    refine lv_istore_n (lv' := [(2, .int z_5), (3, .int 1), (0, .int x0), (1, .int 3)]) hx hb dX13_spotAt_16 rfl hl (by decide +kernel) rfl (fun ls hl => ?_)
    refine lv_iinc (v := 2) (lv' := [(3, .int 2), (2, .int z_5), (0, .int x0), (1, .int 3)]) hx hb dX13_spotAt_17 hl (k := 1) rfl (by decide +kernel) (by decide +kernel) rfl (fun ls hl => ?_)
    refine lv_goto (tgt := 4) hx hb dX13_spotAt_20 (by decide +kernel) ?_
    refine lv_iload_n hx hb dX13_spotAt_4 rfl (lv_at hl 0 rfl) ?_
    refine lv_iload_n hx hb dX13_spotAt_5 rfl (lv_at hl 3 rfl) ?_
    refine lv_icmp_ge (tgt := 23) hx hb dX13_spotAt_6 (by decide +kernel) (fun c9 => absurd c9 (by decide +kernel)) (fun _ => ?_)
    refine lv_iload_n hx hb dX13_spotAt_9 rfl (lv_at hl 1 rfl) ?_
    refine lv_iload_n hx hb dX13_spotAt_10 rfl (lv_at hl 2 rfl) ?_
    refine lv_iload_n hx hb dX13_spotAt_11 rfl (lv_at hl 0 rfl) ?_
    refine lv_ishr hx hb dX13_spotAt_12 ?_
    refine lv_iconst (v := 1) hx hb dX13_spotAt_13 (by decide +kernel) ?_
    refine lv_iand hx hb dX13_spotAt_14 ?_
    refine lv_iadd hx hb dX13_spotAt_15 ?_
    refine lv_topi (fun z_6 ez_6 => ?_)
    refine lv_istore_n (lv' := [(2, .int z_6), (3, .int 2), (0, .int x0), (1, .int 3)]) hx hb dX13_spotAt_16 rfl hl (by decide +kernel) rfl (fun ls hl => ?_)
    refine lv_iinc (v := 3) (lv' := [(3, .int 3), (2, .int z_6), (0, .int x0), (1, .int 3)]) hx hb dX13_spotAt_17 hl (k := 1) rfl (by decide +kernel) (by decide +kernel) rfl (fun ls hl => ?_)
    refine lv_goto (tgt := 4) hx hb dX13_spotAt_20 (by decide +kernel) ?_
    refine lv_iload_n hx hb dX13_spotAt_4 rfl (lv_at hl 0 rfl) ?_
    refine lv_iload_n hx hb dX13_spotAt_5 rfl (lv_at hl 3 rfl) ?_
    refine lv_icmp_ge (tgt := 23) hx hb dX13_spotAt_6 (by decide +kernel) (fun _ => ?_) (fun c9 => absurd c9 (by decide +kernel))
    refine lv_iload_n hx hb dX13_spotAt_23 rfl (lv_at hl 1 rfl) ?_
    exact W.iret hx hb hr (fun t ht hW => ⟨_, rfl, (by subst_vars; exact spot_3 hp0), ht⟩) (fun _ h => by cases h) dX13_spotAt_24
  · refine lv_iconst (v := 0) hx hb dX13_spotAt_0 (by decide +kernel) ?_
    refine lv_istore_n (lv' := [(2, .int 0), (0, .int x0), (1, .int 4)]) hx hb dX13_spotAt_1 rfl hl (by decide +kernel) rfl (fun ls hl => ?_)
    refine lv_iconst (v := 0) hx hb dX13_spotAt_2 (by decide +kernel) ?_
    refine lv_istore_n (lv' := [(3, .int 0), (2, .int 0), (0, .int x0), (1, .int 4)]) hx hb dX13_spotAt_3 rfl hl (by decide +kernel) rfl (fun ls hl => ?_)
    refine lv_iload_n hx hb dX13_spotAt_4 rfl (lv_at hl 0 rfl) ?_
    refine lv_iload_n hx hb dX13_spotAt_5 rfl (lv_at hl 3 rfl) ?_
    refine lv_icmp_ge (tgt := 23) hx hb dX13_spotAt_6 (by decide +kernel) (fun c9 => absurd c9 (by decide +kernel)) (fun _ => ?_)
    refine lv_iload_n hx hb dX13_spotAt_9 rfl (lv_at hl 1 rfl) ?_
    refine lv_iload_n hx hb dX13_spotAt_10 rfl (lv_at hl 2 rfl) ?_
    refine lv_iload_n hx hb dX13_spotAt_11 rfl (lv_at hl 0 rfl) ?_
    refine lv_ishr hx hb dX13_spotAt_12 ?_
    refine lv_iconst (v := 1) hx hb dX13_spotAt_13 (by decide +kernel) ?_
    refine lv_iand hx hb dX13_spotAt_14 ?_
    refine lv_iadd hx hb dX13_spotAt_15 ?_
    refine lv_topi (fun z_7 ez_7 => ?_)
    refine lv_istore_n (lv' := [(2, .int z_7), (3, .int 0), (0, .int x0), (1, .int 4)]) hx hb dX13_spotAt_16 rfl hl (by decide +kernel) rfl (fun ls hl => ?_)
    refine lv_iinc (v := 1) (lv' := [(3, .int 1), (2, .int z_7), (0, .int x0), (1, .int 4)]) hx hb dX13_spotAt_17 hl (k := 1) rfl (by decide +kernel) (by decide +kernel) rfl (fun ls hl => ?_)
    refine lv_goto (tgt := 4) hx hb dX13_spotAt_20 (by decide +kernel) ?_
    refine lv_iload_n hx hb dX13_spotAt_4 rfl (lv_at hl 0 rfl) ?_
    refine lv_iload_n hx hb dX13_spotAt_5 rfl (lv_at hl 3 rfl) ?_
    refine lv_icmp_ge (tgt := 23) hx hb dX13_spotAt_6 (by decide +kernel) (fun c9 => absurd c9 (by decide +kernel)) (fun _ => ?_)
    refine lv_iload_n hx hb dX13_spotAt_9 rfl (lv_at hl 1 rfl) ?_
    refine lv_iload_n hx hb dX13_spotAt_10 rfl (lv_at hl 2 rfl) ?_
    refine lv_iload_n hx hb dX13_spotAt_11 rfl (lv_at hl 0 rfl) ?_
    refine lv_ishr hx hb dX13_spotAt_12 ?_
    refine lv_iconst (v := 1) hx hb dX13_spotAt_13 (by decide +kernel) ?_
    refine lv_iand hx hb dX13_spotAt_14 ?_
    refine lv_iadd hx hb dX13_spotAt_15 ?_
    refine lv_topi (fun z_8 ez_8 => ?_)
    refine lv_istore_n (lv' := [(2, .int z_8), (3, .int 1), (0, .int x0), (1, .int 4)]) hx hb dX13_spotAt_16 rfl hl (by decide +kernel) rfl (fun ls hl => ?_)
    refine lv_iinc (v := 2) (lv' := [(3, .int 2), (2, .int z_8), (0, .int x0), (1, .int 4)]) hx hb dX13_spotAt_17 hl (k := 1) rfl (by decide +kernel) (by decide +kernel) rfl (fun ls hl => ?_)
    refine lv_goto (tgt := 4) hx hb dX13_spotAt_20 (by decide +kernel) ?_
    refine lv_iload_n hx hb dX13_spotAt_4 rfl (lv_at hl 0 rfl) ?_
    refine lv_iload_n hx hb dX13_spotAt_5 rfl (lv_at hl 3 rfl) ?_
    refine lv_icmp_ge (tgt := 23) hx hb dX13_spotAt_6 (by decide +kernel) (fun c9 => absurd c9 (by decide +kernel)) (fun _ => ?_)
    refine lv_iload_n hx hb dX13_spotAt_9 rfl (lv_at hl 1 rfl) ?_
    refine lv_iload_n hx hb dX13_spotAt_10 rfl (lv_at hl 2 rfl) ?_
    refine lv_iload_n hx hb dX13_spotAt_11 rfl (lv_at hl 0 rfl) ?_
    refine lv_ishr hx hb dX13_spotAt_12 ?_
    refine lv_iconst (v := 1) hx hb dX13_spotAt_13 (by decide +kernel) ?_
    refine lv_iand hx hb dX13_spotAt_14 ?_
    refine lv_iadd hx hb dX13_spotAt_15 ?_
    refine lv_topi (fun z_9 ez_9 => ?_)
    refine lv_istore_n (lv' := [(2, .int z_9), (3, .int 2), (0, .int x0), (1, .int 4)]) hx hb dX13_spotAt_16 rfl hl (by decide +kernel) rfl (fun ls hl => ?_)
    refine lv_iinc (v := 3) (lv' := [(3, .int 3), (2, .int z_9), (0, .int x0), (1, .int 4)]) hx hb dX13_spotAt_17 hl (k := 1) rfl (by decide +kernel) (by decide +kernel) rfl (fun ls hl => ?_)
    refine lv_goto (tgt := 4) hx hb dX13_spotAt_20 (by decide +kernel) ?_
    refine lv_iload_n hx hb dX13_spotAt_4 rfl (lv_at hl 0 rfl) ?_
    refine lv_iload_n hx hb dX13_spotAt_5 rfl (lv_at hl 3 rfl) ?_
    refine lv_icmp_ge (tgt := 23) hx hb dX13_spotAt_6 (by decide +kernel) (fun c9 => absurd c9 (by decide +kernel)) (fun _ => ?_)
    refine lv_iload_n hx hb dX13_spotAt_9 rfl (lv_at hl 1 rfl) ?_
    refine lv_iload_n hx hb dX13_spotAt_10 rfl (lv_at hl 2 rfl) ?_
    refine lv_iload_n hx hb dX13_spotAt_11 rfl (lv_at hl 0 rfl) ?_
    refine lv_ishr hx hb dX13_spotAt_12 ?_
    refine lv_iconst (v := 1) hx hb dX13_spotAt_13 (by decide +kernel) ?_
    refine lv_iand hx hb dX13_spotAt_14 ?_
    refine lv_iadd hx hb dX13_spotAt_15 ?_
    refine lv_topi (fun z_10 ez_10 => ?_)
    refine lv_istore_n (lv' := [(2, .int z_10), (3, .int 3), (0, .int x0), (1, .int 4)]) hx hb dX13_spotAt_16 rfl hl (by decide +kernel) rfl (fun ls hl => ?_)
    refine lv_iinc (v := 4) (lv' := [(3, .int 4), (2, .int z_10), (0, .int x0), (1, .int 4)]) hx hb dX13_spotAt_17 hl (k := 1) rfl (by decide +kernel) (by decide +kernel) rfl (fun ls hl => ?_)
    refine lv_goto (tgt := 4) hx hb dX13_spotAt_20 (by decide +kernel) ?_
    refine lv_iload_n hx hb dX13_spotAt_4 rfl (lv_at hl 0 rfl) ?_
    refine lv_iload_n hx hb dX13_spotAt_5 rfl (lv_at hl 3 rfl) ?_
    refine lv_icmp_ge (tgt := 23) hx hb dX13_spotAt_6 (by decide +kernel) (fun _ => ?_) (fun c9 => absurd c9 (by decide +kernel))
    refine lv_iload_n hx hb dX13_spotAt_23 rfl (lv_at hl 1 rfl) ?_
    exact W.iret hx hb hr (fun t ht hW => ⟨_, rfl, (by subst_vars; exact spot_4 hp0), ht⟩) (fun _ h => by cases h) dX13_spotAt_24
  · refine lv_iconst (v := 0) hx hb dX13_spotAt_0 (by decide +kernel) ?_
    refine lv_istore_n (lv' := [(2, .int 0), (0, .int x0), (1, .int 5)]) hx hb dX13_spotAt_1 rfl hl (by decide +kernel) rfl (fun ls hl => ?_)
    refine lv_iconst (v := 0) hx hb dX13_spotAt_2 (by decide +kernel) ?_
    refine lv_istore_n (lv' := [(3, .int 0), (2, .int 0), (0, .int x0), (1, .int 5)]) hx hb dX13_spotAt_3 rfl hl (by decide +kernel) rfl (fun ls hl => ?_)
    refine lv_iload_n hx hb dX13_spotAt_4 rfl (lv_at hl 0 rfl) ?_
    refine lv_iload_n hx hb dX13_spotAt_5 rfl (lv_at hl 3 rfl) ?_
    refine lv_icmp_ge (tgt := 23) hx hb dX13_spotAt_6 (by decide +kernel) (fun c9 => absurd c9 (by decide +kernel)) (fun _ => ?_)
    refine lv_iload_n hx hb dX13_spotAt_9 rfl (lv_at hl 1 rfl) ?_
    refine lv_iload_n hx hb dX13_spotAt_10 rfl (lv_at hl 2 rfl) ?_
    refine lv_iload_n hx hb dX13_spotAt_11 rfl (lv_at hl 0 rfl) ?_
    refine lv_ishr hx hb dX13_spotAt_12 ?_
    refine lv_iconst (v := 1) hx hb dX13_spotAt_13 (by decide +kernel) ?_
    refine lv_iand hx hb dX13_spotAt_14 ?_
    refine lv_iadd hx hb dX13_spotAt_15 ?_
    refine lv_topi (fun z_11 ez_11 => ?_)
    refine lv_istore_n (lv' := [(2, .int z_11), (3, .int 0), (0, .int x0), (1, .int 5)]) hx hb dX13_spotAt_16 rfl hl (by decide +kernel) rfl (fun ls hl => ?_)
    refine lv_iinc (v := 1) (lv' := [(3, .int 1), (2, .int z_11), (0, .int x0), (1, .int 5)]) hx hb dX13_spotAt_17 hl (k := 1) rfl (by decide +kernel) (by decide +kernel) rfl (fun ls hl => ?_)
    refine lv_goto (tgt := 4) hx hb dX13_spotAt_20 (by decide +kernel) ?_
    refine lv_iload_n hx hb dX13_spotAt_4 rfl (lv_at hl 0 rfl) ?_
    refine lv_iload_n hx hb dX13_spotAt_5 rfl (lv_at hl 3 rfl) ?_
    refine lv_icmp_ge (tgt := 23) hx hb dX13_spotAt_6 (by decide +kernel) (fun c9 => absurd c9 (by decide +kernel)) (fun _ => ?_)
    refine lv_iload_n hx hb dX13_spotAt_9 rfl (lv_at hl 1 rfl) ?_
    refine lv_iload_n hx hb dX13_spotAt_10 rfl (lv_at hl 2 rfl) ?_
    refine lv_iload_n hx hb dX13_spotAt_11 rfl (lv_at hl 0 rfl) ?_
    refine lv_ishr hx hb dX13_spotAt_12 ?_
    refine lv_iconst (v := 1) hx hb dX13_spotAt_13 (by decide +kernel) ?_
    refine lv_iand hx hb dX13_spotAt_14 ?_
    refine lv_iadd hx hb dX13_spotAt_15 ?_
    refine lv_topi (fun z_12 ez_12 => ?_)
    refine lv_istore_n (lv' := [(2, .int z_12), (3, .int 1), (0, .int x0), (1, .int 5)]) hx hb dX13_spotAt_16 rfl hl (by decide +kernel) rfl (fun ls hl => ?_)
    refine lv_iinc (v := 2) (lv' := [(3, .int 2), (2, .int z_12), (0, .int x0), (1, .int 5)]) hx hb dX13_spotAt_17 hl (k := 1) rfl (by decide +kernel) (by decide +kernel) rfl (fun ls hl => ?_)
    refine lv_goto (tgt := 4) hx hb dX13_spotAt_20 (by decide +kernel) ?_
    refine lv_iload_n hx hb dX13_spotAt_4 rfl (lv_at hl 0 rfl) ?_
    refine lv_iload_n hx hb dX13_spotAt_5 rfl (lv_at hl 3 rfl) ?_
    refine lv_icmp_ge (tgt := 23) hx hb dX13_spotAt_6 (by decide +kernel) (fun c9 => absurd c9 (by decide +kernel)) (fun _ => ?_)
    refine lv_iload_n hx hb dX13_spotAt_9 rfl (lv_at hl 1 rfl) ?_
    refine lv_iload_n hx hb dX13_spotAt_10 rfl (lv_at hl 2 rfl) ?_
    refine lv_iload_n hx hb dX13_spotAt_11 rfl (lv_at hl 0 rfl) ?_
    refine lv_ishr hx hb dX13_spotAt_12 ?_
    refine lv_iconst (v := 1) hx hb dX13_spotAt_13 (by decide +kernel) ?_
    refine lv_iand hx hb dX13_spotAt_14 ?_
    refine lv_iadd hx hb dX13_spotAt_15 ?_
    refine lv_topi (fun z_13 ez_13 => ?_)
    refine lv_istore_n (lv' := [(2, .int z_13), (3, .int 2), (0, .int x0), (1, .int 5)]) hx hb dX13_spotAt_16 rfl hl (by decide +kernel) rfl (fun ls hl => ?_)
    refine lv_iinc (v := 3) (lv' := [(3, .int 3), (2, .int z_13), (0, .int x0), (1, .int 5)]) hx hb dX13_spotAt_17 hl (k := 1) rfl (by decide +kernel) (by decide +kernel) rfl (fun ls hl => ?_)
    refine lv_goto (tgt := 4) hx hb dX13_spotAt_20 (by decide +kernel) ?_
    refine lv_iload_n hx hb dX13_spotAt_4 rfl (lv_at hl 0 rfl) ?_
    refine lv_iload_n hx hb dX13_spotAt_5 rfl (lv_at hl 3 rfl) ?_
    refine lv_icmp_ge (tgt := 23) hx hb dX13_spotAt_6 (by decide +kernel) (fun c9 => absurd c9 (by decide +kernel)) (fun _ => ?_)
    refine lv_iload_n hx hb dX13_spotAt_9 rfl (lv_at hl 1 rfl) ?_
    refine lv_iload_n hx hb dX13_spotAt_10 rfl (lv_at hl 2 rfl) ?_
    refine lv_iload_n hx hb dX13_spotAt_11 rfl (lv_at hl 0 rfl) ?_
    refine lv_ishr hx hb dX13_spotAt_12 ?_
    refine lv_iconst (v := 1) hx hb dX13_spotAt_13 (by decide +kernel) ?_
    refine lv_iand hx hb dX13_spotAt_14 ?_
    refine lv_iadd hx hb dX13_spotAt_15 ?_
    refine lv_topi (fun z_14 ez_14 => ?_)
    refine lv_istore_n (lv' := [(2, .int z_14), (3, .int 3), (0, .int x0), (1, .int 5)]) hx hb dX13_spotAt_16 rfl hl (by decide +kernel) rfl (fun ls hl => ?_)
    refine lv_iinc (v := 4) (lv' := [(3, .int 4), (2, .int z_14), (0, .int x0), (1, .int 5)]) hx hb dX13_spotAt_17 hl (k := 1) rfl (by decide +kernel) (by decide +kernel) rfl (fun ls hl => ?_)
    refine lv_goto (tgt := 4) hx hb dX13_spotAt_20 (by decide +kernel) ?_
    refine lv_iload_n hx hb dX13_spotAt_4 rfl (lv_at hl 0 rfl) ?_
    refine lv_iload_n hx hb dX13_spotAt_5 rfl (lv_at hl 3 rfl) ?_
    refine lv_icmp_ge (tgt := 23) hx hb dX13_spotAt_6 (by decide +kernel) (fun c9 => absurd c9 (by decide +kernel)) (fun _ => ?_)
    refine lv_iload_n hx hb dX13_spotAt_9 rfl (lv_at hl 1 rfl) ?_
    refine lv_iload_n hx hb dX13_spotAt_10 rfl (lv_at hl 2 rfl) ?_
    refine lv_iload_n hx hb dX13_spotAt_11 rfl (lv_at hl 0 rfl) ?_
    refine lv_ishr hx hb dX13_spotAt_12 ?_
    refine lv_iconst (v := 1) hx hb dX13_spotAt_13 (by decide +kernel) ?_
    refine lv_iand hx hb dX13_spotAt_14 ?_
    refine lv_iadd hx hb dX13_spotAt_15 ?_
    refine lv_topi (fun z_15 ez_15 => ?_)
    refine lv_istore_n (lv' := [(2, .int z_15), (3, .int 4), (0, .int x0), (1, .int 5)]) hx hb dX13_spotAt_16 rfl hl (by decide +kernel) rfl (fun ls hl => ?_)
    refine lv_iinc (v := 5) (lv' := [(3, .int 5), (2, .int z_15), (0, .int x0), (1, .int 5)]) hx hb dX13_spotAt_17 hl (k := 1) rfl (by decide +kernel) (by decide +kernel) rfl (fun ls hl => ?_)
    refine lv_goto (tgt := 4) hx hb dX13_spotAt_20 (by decide +kernel) ?_
    refine lv_iload_n hx hb dX13_spotAt_4 rfl (lv_at hl 0 rfl) ?_
    refine lv_iload_n hx hb dX13_spotAt_5 rfl (lv_at hl 3 rfl) ?_
    refine lv_icmp_ge (tgt := 23) hx hb dX13_spotAt_6 (by decide +kernel) (fun _ => ?_) (fun c9 => absurd c9 (by decide +kernel))
    refine lv_iload_n hx hb dX13_spotAt_23 rfl (lv_at hl 1 rfl) ?_
    exact W.iret hx hb hr (fun t ht hW => ⟨_, rfl, (by subst_vars; exact spot_5 hp0), ht⟩) (fun _ h => by cases h) dX13_spotAt_24
  · refine lv_iconst (v := 0) hx hb dX13_spotAt_0 (by decide +kernel) ?_
    refine lv_istore_n (lv' := [(2, .int 0), (0, .int x0), (1, .int 6)]) hx hb dX13_spotAt_1 rfl hl (by decide +kernel) rfl (fun ls hl => ?_)
    refine lv_iconst (v := 0) hx hb dX13_spotAt_2 (by decide +kernel) ?_
    refine lv_istore_n (lv' := [(3, .int 0), (2, .int 0), (0, .int x0), (1, .int 6)]) hx hb dX13_spotAt_3 rfl hl (by decide +kernel) rfl (fun ls hl => ?_)
    refine lv_iload_n hx hb dX13_spotAt_4 rfl (lv_at hl 0 rfl) ?_
    refine lv_iload_n hx hb dX13_spotAt_5 rfl (lv_at hl 3 rfl) ?_
    refine lv_icmp_ge (tgt := 23) hx hb dX13_spotAt_6 (by decide +kernel) (fun c9 => absurd c9 (by decide +kernel)) (fun _ => ?_)
    refine lv_iload_n hx hb dX13_spotAt_9 rfl (lv_at hl 1 rfl) ?_
    refine lv_iload_n hx hb dX13_spotAt_10 rfl (lv_at hl 2 rfl) ?_
    refine lv_iload_n hx hb dX13_spotAt_11 rfl (lv_at hl 0 rfl) ?_
    refine lv_ishr hx hb dX13_spotAt_12 ?_
    refine lv_iconst (v := 1) hx hb dX13_spotAt_13 (by decide +kernel) ?_
    refine lv_iand hx hb dX13_spotAt_14 ?_
    refine lv_iadd hx hb dX13_spotAt_15 ?_
    refine lv_topi (fun z_16 ez_16 => ?_)
    refine lv_istore_n (lv' := [(2, .int z_16), (3, .int 0), (0, .int x0), (1, .int 6)]) hx hb dX13_spotAt_16 rfl hl (by decide +kernel) rfl (fun ls hl => ?_)
    refine lv_iinc (v := 1) (lv' := [(3, .int 1), (2, .int z_16), (0, .int x0), (1, .int 6)]) hx hb dX13_spotAt_17 hl (k := 1) rfl (by decide +kernel) (by decide +kernel) rfl (fun ls hl => ?_)
    refine lv_goto (tgt := 4) hx hb dX13_spotAt_20 (by decide +kernel) ?_
    refine lv_iload_n hx hb dX13_spotAt_4 rfl (lv_at hl 0 rfl) ?_
    refine lv_iload_n hx hb dX13_spotAt_5 rfl (lv_at hl 3 rfl) ?_
    refine lv_icmp_ge (tgt := 23) hx hb dX13_spotAt_6 (by decide +kernel) (fun c9 => absurd c9 (by decide +kernel)) (fun _ => ?_)
    refine lv_iload_n hx hb dX13_spotAt_9 rfl (lv_at hl 1 rfl) ?_
    refine lv_iload_n hx hb dX13_spotAt_10 rfl (lv_at hl 2 rfl) ?_
    refine lv_iload_n hx hb dX13_spotAt_11 rfl (lv_at hl 0 rfl) ?_
    refine lv_ishr hx hb dX13_spotAt_12 ?_
    refine lv_iconst (v := 1) hx hb dX13_spotAt_13 (by decide +kernel) ?_
    refine lv_iand hx hb dX13_spotAt_14 ?_
    refine lv_iadd hx hb dX13_spotAt_15 ?_
    refine lv_topi (fun z_17 ez_17 => ?_)
    refine lv_istore_n (lv' := [(2, .int z_17), (3, .int 1), (0, .int x0), (1, .int 6)]) hx hb dX13_spotAt_16 rfl hl (by decide +kernel) rfl (fun ls hl => ?_)
    refine lv_iinc (v := 2) (lv' := [(3, .int 2), (2, .int z_17), (0, .int x0), (1, .int 6)]) hx hb dX13_spotAt_17 hl (k := 1) rfl (by decide +kernel) (by decide +kernel) rfl (fun ls hl => ?_)
    refine lv_goto (tgt := 4) hx hb dX13_spotAt_20 (by decide +kernel) ?_
    refine lv_iload_n hx hb dX13_spotAt_4 rfl (lv_at hl 0 rfl) ?_
    refine lv_iload_n hx hb dX13_spotAt_5 rfl (lv_at hl 3 rfl) ?_
    refine lv_icmp_ge (tgt := 23) hx hb dX13_spotAt_6 (by decide +kernel) (fun c9 => absurd c9 (by decide +kernel)) (fun _ => ?_)
    refine lv_iload_n hx hb dX13_spotAt_9 rfl (lv_at hl 1 rfl) ?_
    refine lv_iload_n hx hb dX13_spotAt_10 rfl (lv_at hl 2 rfl) ?_
    refine lv_iload_n hx hb dX13_spotAt_11 rfl (lv_at hl 0 rfl) ?_
    refine lv_ishr hx hb dX13_spotAt_12 ?_
    refine lv_iconst (v := 1) hx hb dX13_spotAt_13 (by decide +kernel) ?_
    refine lv_iand hx hb dX13_spotAt_14 ?_
    refine lv_iadd hx hb dX13_spotAt_15 ?_
    refine lv_topi (fun z_18 ez_18 => ?_)
    refine lv_istore_n (lv' := [(2, .int z_18), (3, .int 2), (0, .int x0), (1, .int 6)]) hx hb dX13_spotAt_16 rfl hl (by decide +kernel) rfl (fun ls hl => ?_)
    refine lv_iinc (v := 3) (lv' := [(3, .int 3), (2, .int z_18), (0, .int x0), (1, .int 6)]) hx hb dX13_spotAt_17 hl (k := 1) rfl (by decide +kernel) (by decide +kernel) rfl (fun ls hl => ?_)
    refine lv_goto (tgt := 4) hx hb dX13_spotAt_20 (by decide +kernel) ?_
    refine lv_iload_n hx hb dX13_spotAt_4 rfl (lv_at hl 0 rfl) ?_
    refine lv_iload_n hx hb dX13_spotAt_5 rfl (lv_at hl 3 rfl) ?_
    refine lv_icmp_ge (tgt := 23) hx hb dX13_spotAt_6 (by decide +kernel) (fun c9 => absurd c9 (by decide +kernel)) (fun _ => ?_)
    refine lv_iload_n hx hb dX13_spotAt_9 rfl (lv_at hl 1 rfl) ?_
    refine lv_iload_n hx hb dX13_spotAt_10 rfl (lv_at hl 2 rfl) ?_
    refine lv_iload_n hx hb dX13_spotAt_11 rfl (lv_at hl 0 rfl) ?_
    refine lv_ishr hx hb dX13_spotAt_12 ?_
    refine lv_iconst (v := 1) hx hb dX13_spotAt_13 (by decide +kernel) ?_
    refine lv_iand hx hb dX13_spotAt_14 ?_
    refine lv_iadd hx hb dX13_spotAt_15 ?_
    refine lv_topi (fun z_19 ez_19 => ?_)
    refine lv_istore_n (lv' := [(2, .int z_19), (3, .int 3), (0, .int x0), (1, .int 6)]) hx hb dX13_spotAt_16 rfl hl (by decide +kernel) rfl (fun ls hl => ?_)
    refine lv_iinc (v := 4) (lv' := [(3, .int 4), (2, .int z_19), (0, .int x0), (1, .int 6)]) hx hb dX13_spotAt_17 hl (k := 1) rfl (by decide +kernel) (by decide +kernel) rfl (fun ls hl => ?_)
    refine lv_goto (tgt := 4) hx hb dX13_spotAt_20 (by decide +kernel) ?_
    refine lv_iload_n hx hb dX13_spotAt_4 rfl (lv_at hl 0 rfl) ?_
    refine lv_iload_n hx hb dX13_spotAt_5 rfl (lv_at hl 3 rfl) ?_
    refine lv_icmp_ge (tgt := 23) hx hb dX13_spotAt_6 (by decide +kernel) (fun c9 => absurd c9 (by decide +kernel)) (fun _ => ?_)
    refine lv_iload_n hx hb dX13_spotAt_9 rfl (lv_at hl 1 rfl) ?_
    refine lv_iload_n hx hb dX13_spotAt_10 rfl (lv_at hl 2 rfl) ?_
    refine lv_iload_n hx hb dX13_spotAt_11 rfl (lv_at hl 0 rfl) ?_
    refine lv_ishr hx hb dX13_spotAt_12 ?_
    refine lv_iconst (v := 1) hx hb dX13_spotAt_13 (by decide +kernel) ?_
    refine lv_iand hx hb dX13_spotAt_14 ?_
    refine lv_iadd hx hb dX13_spotAt_15 ?_
    refine lv_topi (fun z_20 ez_20 => ?_)
    refine lv_istore_n (lv' := [(2, .int z_20), (3, .int 4), (0, .int x0), (1, .int 6)]) hx hb dX13_spotAt_16 rfl hl (by decide +kernel) rfl (fun ls hl => ?_)
    refine lv_iinc (v := 5) (lv' := [(3, .int 5), (2, .int z_20), (0, .int x0), (1, .int 6)]) hx hb dX13_spotAt_17 hl (k := 1) rfl (by decide +kernel) (by decide +kernel) rfl (fun ls hl => ?_)
    refine lv_goto (tgt := 4) hx hb dX13_spotAt_20 (by decide +kernel) ?_
    refine lv_iload_n hx hb dX13_spotAt_4 rfl (lv_at hl 0 rfl) ?_
    refine lv_iload_n hx hb dX13_spotAt_5 rfl (lv_at hl 3 rfl) ?_
    refine lv_icmp_ge (tgt := 23) hx hb dX13_spotAt_6 (by decide +kernel) (fun c9 => absurd c9 (by decide +kernel)) (fun _ => ?_)
    refine lv_iload_n hx hb dX13_spotAt_9 rfl (lv_at hl 1 rfl) ?_
    refine lv_iload_n hx hb dX13_spotAt_10 rfl (lv_at hl 2 rfl) ?_
    refine lv_iload_n hx hb dX13_spotAt_11 rfl (lv_at hl 0 rfl) ?_
    refine lv_ishr hx hb dX13_spotAt_12 ?_
    refine lv_iconst (v := 1) hx hb dX13_spotAt_13 (by decide +kernel) ?_
    refine lv_iand hx hb dX13_spotAt_14 ?_
    refine lv_iadd hx hb dX13_spotAt_15 ?_
    refine lv_topi (fun z_21 ez_21 => ?_)
    refine lv_istore_n (lv' := [(2, .int z_21), (3, .int 5), (0, .int x0), (1, .int 6)]) hx hb dX13_spotAt_16 rfl hl (by decide +kernel) rfl (fun ls hl => ?_)
    refine lv_iinc (v := 6) (lv' := [(3, .int 6), (2, .int z_21), (0, .int x0), (1, .int 6)]) hx hb dX13_spotAt_17 hl (k := 1) rfl (by decide +kernel) (by decide +kernel) rfl (fun ls hl => ?_)
    refine lv_goto (tgt := 4) hx hb dX13_spotAt_20 (by decide +kernel) ?_
    refine lv_iload_n hx hb dX13_spotAt_4 rfl (lv_at hl 0 rfl) ?_
    refine lv_iload_n hx hb dX13_spotAt_5 rfl (lv_at hl 3 rfl) ?_
    refine lv_icmp_ge (tgt := 23) hx hb dX13_spotAt_6 (by decide +kernel) (fun _ => ?_) (fun c9 => absurd c9 (by decide +kernel))
    refine lv_iload_n hx hb dX13_spotAt_23 rfl (lv_at hl 1 rfl) ?_
    exact W.iret hx hb hr (fun t ht hW => ⟨_, rfl, (by subst_vars; exact spot_6 hp0), ht⟩) (fun _ h => by cases h) dX13_spotAt_24
theorem dX13_spotOf_0 : decode cX13_spotOf 0 = .ok (.iload_n 1, 1) := by decide +kernel
theorem dX13_spotOf_1 : decode cX13_spotOf 1 = .ok (.invokestatic 198, 3) := by decide +kernel
theorem dX13_spotOf_10 : decode cX13_spotOf 10 = .ok (.ldc2_w 186, 3) := by decide +kernel
theorem dX13_spotOf_13 : decode cX13_spotOf 13 = .ok (.invokestatic 175, 3) := by decide +kernel
theorem dX13_spotOf_16 : decode cX13_spotOf 16 = .ok (.ifCond .eq 11, 3) := by decide +kernel
theorem dX13_spotOf_19 : decode cX13_spotOf 19 = .ok (.iload_n 1, 1) := by decide +kernel
theorem dX13_spotOf_20 : decode cX13_spotOf 20 = .ok (.iload_n 2, 1) := by decide +kernel
theorem dX13_spotOf_21 : decode cX13_spotOf 21 = .ok (.invokestatic 202, 3) := by decide +kernel
theorem dX13_spotOf_24 : decode cX13_spotOf 24 = .ok (.goto 5, 3) := by decide +kernel
theorem dX13_spotOf_27 : decode cX13_spotOf 27 = .ok (.bipush (-2), 2) := by decide +kernel
theorem dX13_spotOf_29 : decode cX13_spotOf 29 = .ok (.ireturn, 1) := by decide +kernel
theorem dX13_spotOf_4 : decode cX13_spotOf 4 = .ok (.ifCond .eq 23, 3) := by decide +kernel
theorem dX13_spotOf_7 : decode cX13_spotOf 7 = .ok (.iload_n 2, 1) := by decide +kernel
theorem dX13_spotOf_8 : decode cX13_spotOf 8 = .ok (.i2l, 1) := by decide +kernel
theorem dX13_spotOf_9 : decode cX13_spotOf 9 = .ok (.lconst 0, 1) := by decide +kernel
set_option maxRecDepth 20000 in
theorem ggX13_spotOf_X13_in : GoodIn wsX13_spotOf wsX13_in := goodIn_r _ [9] rfl (by decide +kernel)
set_option maxRecDepth 20000 in
theorem ggX13_spotOf_X13_isPath : GoodIn wsX13_spotOf wsX13_isPath := goodIn_r _ [5, 6, 7, 8, 4, 9] rfl (by decide +kernel)
set_option maxRecDepth 20000 in
theorem ggX13_spotOf_X13_spotAt : GoodIn wsX13_spotOf wsX13_spotAt := goodIn_r _ [12] rfl (by decide +kernel)
set_option maxRecDepth 20000 in
theorem gX13_spotOf_X13_in : GoodIn wsX13_spotOf (va_wsS RX13 175 yX13_in wsX13_in) := goodIn_app (goodIn_of _ (by decide +kernel)) ggX13_spotOf_X13_in
set_option maxRecDepth 20000 in
theorem gX13_spotOf_X13_isPath : GoodIn wsX13_spotOf (va_wsS RX13 198 yX13_isPath wsX13_isPath) := goodIn_app (goodIn_of _ (by decide +kernel)) ggX13_spotOf_X13_isPath
set_option maxRecDepth 20000 in
theorem gX13_spotOf_X13_spotAt : GoodIn wsX13_spotOf (va_wsS RX13 202 yX13_spotAt wsX13_spotAt) := goodIn_app (goodIn_of _ (by decide +kernel)) ggX13_spotOf_X13_spotAt
theorem hs_X13_spotAt : yX13_spotAt.cls ≠ "java/lang/invoke/MethodHandle" ∧ yX13_spotAt.cls ≠ "java/lang/invoke/VarHandle" ∧ (parseMethodDescriptor yX13_spotAt.desc).map (fun d => d.parameters.length) = some 2 := by decide +kernel
set_option maxHeartbeats 4000000 in
set_option maxRecDepth 100000 in
theorem c_X13_spotOf (l : Launch) (D : va_G) (T : Nat → ClassId) (h0 : Nat) (fs0 : List Value) (x1 : Int32) (x2 : Int32)  : Met l yX13_spotOf wsX13_spotOf ({ frames := 2, cells := 0, slots := 0, locals := 45 }) (pR [.ref h0, .int x1, .int x2] D T [(h0, .inr (10, fs0))]) (vp_Si (fun r => r = sp_spotOf x1 x2)) 0 0 (fun _ => False) := by
  refine Met.ofW (cc := cX13_spotOf) (maxL := 3) (ret := (some .int)) (by decide +kernel) rfl ?_
  intro p e s m args below meth c s₁ B hml hv
  obtain ⟨rfl, hP, hE⟩ := hv
  have hx := B.exec
  have hb := B.bytes
  have hr := B.returns
  have hts := atoms_spec (ws := wsX13_spotOf) B.pre
  have hown : s.vm.findClass RX13 = some m.cls := findClass_of_methodNamed B.named
  have hlocks := B.notSynchronized
  have hP : va_P D vwCl [(h0, .inr (10, fs0))] s.heap := hP
  have hl := lv_entry ([.ref h0, .int x1, .int x2]) (n := 3) (Nat.le_of_ble_eq_true rfl)
  rw [lg_entry_eq]
  generalize (lg_sl ([.ref h0, .int x1, .int x2]) ++ List.replicate (3 - (lg_sl ([.ref h0, .int x1, .int x2])).length) Slot.unset).toArray = ls at hl ⊢
  have hl : lv_has ls 3 [(0, .ref h0), (1, .int x1), (2, .int x2)] := hl
  refine lv_iload_n hx hb dX13_spotOf_0 rfl (lv_at hl 1 rfl) ?_
  refine vp_callSi (W.runS (As := [.int x1]) (rest := []) ⟨hx, hb, hml, hown, hts⟩ (c_X13_isPath l D T x1) (va_cwS 1 hts gX13_spotOf_X13_isPath rfl rfl rfl hs_X13_isPath ⟨Nat.le_of_ble_eq_true rfl, Nat.le_of_ble_eq_true rfl⟩) (pR_S hP hE [] rfl) rfl rfl hl.1 rfl (lv_room (Nat.le_of_ble_eq_true rfl)) dX13_spotOf_1 ⟨Nat.le_of_ble_eq_true rfl, Nat.le_of_ble_eq_true rfl⟩) (fun r_1 hr_1 => ?_)
  rcases bool_post hr_1 with ⟨c_2, rfl⟩ | ⟨c_2, rfl⟩
  · refine lv_if_eq (tgt := 27) hx hb dX13_spotOf_4 (by decide +kernel) (fun c9 => absurd c9 (by decide +kernel)) (fun _ => ?_)
    refine lv_iload_n hx hb dX13_spotOf_7 rfl (lv_at hl 2 rfl) ?_
    refine lv_i2l hx hb dX13_spotOf_8 rfl ?_
    refine lv_lconst (v := 0) hx hb dX13_spotOf_9 (by decide +kernel) ?_
    refine lv_ldc2 (v := 6) hx hb hown (hts (.constantLong RX13 186 (6)) (List.mem_of_getElem? (i := 1) rfl)) dX13_spotOf_10 ?_
    refine vp_callSi (W.runS (As := [.long (x2.toInt64), .long 0, .long 6]) (rest := []) ⟨hx, hb, hml, hown, hts⟩ (c_X13_in l D T (x2.toInt64) 0 6 x2.toInt 0 6 ((Int32.toInt_toInt64 _).trans rfl) (by decide +kernel) (by decide +kernel)) (va_cwS 3 hts gX13_spotOf_X13_in rfl rfl rfl hs_X13_in ⟨Nat.le_of_ble_eq_true rfl, Nat.le_of_ble_eq_true rfl⟩) (pR_S hP hE [] rfl) rfl rfl hl.1 rfl (lv_room (Nat.le_of_ble_eq_true rfl)) dX13_spotOf_13 ⟨Nat.le_of_ble_eq_true rfl, Nat.le_of_ble_eq_true rfl⟩) (fun r_3 hr_3 => ?_)
    rcases bool_post hr_3 with ⟨c_4, rfl⟩ | ⟨c_4, rfl⟩
    · refine lv_if_eq (tgt := 27) hx hb dX13_spotOf_16 (by decide +kernel) (fun c9 => absurd c9 (by decide +kernel)) (fun _ => ?_)
      refine lv_iload_n hx hb dX13_spotOf_19 rfl (lv_at hl 1 rfl) ?_
      refine lv_iload_n hx hb dX13_spotOf_20 rfl (lv_at hl 2 rfl) ?_
      refine vp_callSi (W.runS (As := [.int x1, .int x2]) (rest := []) ⟨hx, hb, hml, hown, hts⟩ (c_X13_spotAt l D T x1 x2 (by omega) (by omega)) (va_cwS 2 hts gX13_spotOf_X13_spotAt rfl rfl rfl hs_X13_spotAt ⟨Nat.le_of_ble_eq_true rfl, Nat.le_of_ble_eq_true rfl⟩) (pR_S hP hE [] rfl) rfl rfl hl.1 rfl (lv_room (Nat.le_of_ble_eq_true rfl)) dX13_spotOf_21 ⟨Nat.le_of_ble_eq_true rfl, Nat.le_of_ble_eq_true rfl⟩) (fun r_5 hr_5 => ?_)
      obtain rfl : (sp_bits (x1 &&& ((1 <<< (x2 &&& 31)) - 1))) = r_5 := (hr_5).symm
      refine lv_goto (tgt := 29) hx hb dX13_spotOf_24 (by decide +kernel) ?_
      exact W.iret hx hb hr (fun t ht hW => ⟨_, rfl, (by first | decide | (unfold sp_spotOf; (repeat' split) <;> first | rfl | (exfalso; omega))), ht⟩) (fun _ h => by cases h) dX13_spotOf_29
    · refine lv_if_eq (tgt := 27) hx hb dX13_spotOf_16 (by decide +kernel) (fun _ => ?_) (fun c9 => absurd c9 (by decide +kernel))
      refine lv_bipush (v := (-2)) hx hb dX13_spotOf_27 (by decide +kernel) ?_
      exact W.iret hx hb hr (fun t ht hW => ⟨_, rfl, (by first | decide | (unfold sp_spotOf; (repeat' split) <;> first | rfl | (exfalso; omega))), ht⟩) (fun _ h => by cases h) dX13_spotOf_29
  · refine lv_if_eq (tgt := 27) hx hb dX13_spotOf_4 (by decide +kernel) (fun _ => ?_) (fun c9 => absurd c9 (by decide +kernel))
    refine lv_bipush (v := (-2)) hx hb dX13_spotOf_27 (by decide +kernel) ?_
    exact W.iret hx hb hr (fun t ht hW => ⟨_, rfl, (by first | decide | (unfold sp_spotOf; (repeat' split) <;> first | rfl | (exfalso; omega))), ht⟩) (fun _ h => by cases h) dX13_spotOf_29
theorem dv_back {yy zz n : Int64} {G : Nat} (h : Nat.gcd yy.toInt.natAbs zz.toInt.natAbs = G) (hz : zz.toInt ≠ 0) (hc : -9223372036854775808 < yy.toInt ∨ 1 ≤ zz.toInt) (hn : n = yy - yy / zz * zz) : Nat.gcd zz.toInt.natAbs n.toInt.natAbs = G := by
  rw [← h]
  exact gcd_turn (by rw [hn, l_rem hz hc, Int.natAbs_tmod])
theorem dv_end {x y yy zz r : Int64} (hy : 1 ≤ y.toInt) (h : Nat.gcd yy.toInt.natAbs zz.toInt.natAbs = Nat.gcd x.toInt.natAbs y.toInt.natAbs) (hz : zz.toInt = 0) (hr : r.toInt = (yy.toInt.natAbs : Int)) : r = gI x y := by
  refine gI_eq hy ?_
  rw [← h, hz, hr]
  show (yy.toInt.natAbs : Int) = ((Nat.gcd yy.toInt.natAbs 0 : Nat) : Int)
  rw [Nat.gcd_zero_right]
theorem dX13_divisor_0 : decode cX13_divisor 0 = .ok (.lload_n 0, 1) := by decide +kernel
theorem dX13_divisor_1 : decode cX13_divisor 1 = .ok (.lstore 4, 2) := by decide +kernel
theorem dX13_divisor_10 : decode cX13_divisor 10 = .ok (.ifCond .eq 21, 3) := by decide +kernel
theorem dX13_divisor_13 : decode cX13_divisor 13 = .ok (.lload 4, 2) := by decide +kernel
theorem dX13_divisor_15 : decode cX13_divisor 15 = .ok (.lload 6, 2) := by decide +kernel
theorem dX13_divisor_17 : decode cX13_divisor 17 = .ok (.lrem, 1) := by decide +kernel
theorem dX13_divisor_18 : decode cX13_divisor 18 = .ok (.lstore 8, 2) := by decide +kernel
theorem dX13_divisor_20 : decode cX13_divisor 20 = .ok (.lload 6, 2) := by decide +kernel
theorem dX13_divisor_22 : decode cX13_divisor 22 = .ok (.lstore 4, 2) := by decide +kernel
theorem dX13_divisor_24 : decode cX13_divisor 24 = .ok (.lload 8, 2) := by decide +kernel
theorem dX13_divisor_26 : decode cX13_divisor 26 = .ok (.lstore 6, 2) := by decide +kernel
theorem dX13_divisor_28 : decode cX13_divisor 28 = .ok (.goto (-22), 3) := by decide +kernel
theorem dX13_divisor_3 : decode cX13_divisor 3 = .ok (.lload_n 2, 1) := by decide +kernel
theorem dX13_divisor_31 : decode cX13_divisor 31 = .ok (.lload 4, 2) := by decide +kernel
theorem dX13_divisor_33 : decode cX13_divisor 33 = .ok (.lconst 0, 1) := by decide +kernel
theorem dX13_divisor_34 : decode cX13_divisor 34 = .ok (.lcmp, 1) := by decide +kernel
theorem dX13_divisor_35 : decode cX13_divisor 35 = .ok (.ifCond .ge 9, 3) := by decide +kernel
theorem dX13_divisor_38 : decode cX13_divisor 38 = .ok (.lload 4, 2) := by decide +kernel
theorem dX13_divisor_4 : decode cX13_divisor 4 = .ok (.lstore 6, 2) := by decide +kernel
theorem dX13_divisor_40 : decode cX13_divisor 40 = .ok (.lneg, 1) := by decide +kernel
theorem dX13_divisor_41 : decode cX13_divisor 41 = .ok (.goto 5, 3) := by decide +kernel
theorem dX13_divisor_44 : decode cX13_divisor 44 = .ok (.lload 4, 2) := by decide +kernel
theorem dX13_divisor_46 : decode cX13_divisor 46 = .ok (.lreturn, 1) := by decide +kernel
theorem dX13_divisor_6 : decode cX13_divisor 6 = .ok (.lload 6, 2) := by decide +kernel
theorem dX13_divisor_8 : decode cX13_divisor 8 = .ok (.lconst 0, 1) := by decide +kernel
theorem dX13_divisor_9 : decode cX13_divisor 9 = .ok (.lcmp, 1) := by decide +kernel
set_option maxHeartbeats 4000000 in
set_option maxRecDepth 100000 in
theorem c_X13_divisor (l : Launch) (D : va_G) (T : Nat → ClassId) (x0 : Int64) (x1 : Int64) (hq : 1 ≤ x1.toInt) : Met l yX13_divisor wsX13_divisor ({ frames := 0, cells := 0, slots := 0, locals := 0 }) (pR [.long x0, .long x1] D T []) (vp_Sl (fun r => r = gI x0 x1 ∧ 1 ≤ r.toInt ∧ r.toInt ≤ x1.toInt)) 0 0 (fun _ => False) := by
  refine Met.ofW (cc := cX13_divisor) (maxL := 10) (ret := (some .long)) (by decide +kernel) rfl ?_
  intro p e s m args below meth c s₁ B hml hv
  obtain ⟨rfl, hP, hE⟩ := hv
  have hx := B.exec
  have hb := B.bytes
  have hr := B.returns
  have hts := atoms_spec (ws := wsX13_divisor) B.pre
  have hown : s.vm.findClass RX13 = some m.cls := findClass_of_methodNamed B.named
  have hlocks := B.notSynchronized
  have hP : va_P D vwCl [] s.heap := hP
  have hl := lv_entry ([.long x0, .long x1]) (n := 10) (Nat.le_of_ble_eq_true rfl)
  rw [lg_entry_eq]
  generalize (lg_sl ([.long x0, .long x1]) ++ List.replicate (10 - (lg_sl ([.long x0, .long x1])).length) Slot.unset).toArray = ls at hl ⊢
  have hl : lv_has ls 10 [(0, .long x0), (2, .long x1)] := hl
  refine lv_lload_n hx hb dX13_divisor_0 rfl (lv_at hl 0 rfl) ?_
  refine lv_lstore (lv' := [(4, .long x0), (0, .long x0), (2, .long x1)]) hx hb dX13_divisor_1 hl (by decide +kernel) rfl (fun ls hl => ?_)
  refine lv_lload_n hx hb dX13_divisor_3 rfl (lv_at hl 2 rfl) ?_
  refine lv_lstore (lv' := [(6, .long x1), (4, .long x0), (0, .long x0), (2, .long x1)]) hx hb dX13_divisor_4 hl (by decide +kernel) rfl (fun ls hl => ?_)
  refine loopR (σ := (Int64) × (Int64)) (fun x9 ls => lv_has ls 10 [(4, .long x9.1), (6, .long x9.2), (0, .long x0), (2, .long x1)] ∧ ((x9.2.toInt = x1.toInt ∨ (x9.2.toInt.natAbs < x9.1.toInt.natAbs ∧ x9.1.toInt.natAbs ≤ x1.toInt.natAbs)) ∧ Nat.gcd x9.1.toInt.natAbs x9.2.toInt.natAbs = Nat.gcd x0.toInt.natAbs x1.toInt.natAbs)) (fun x9 => x9.2.toInt.natAbs) (fun x9 ls hI ih => ?_) (x0, x1) ls ⟨lv_sub hl [1, 0, 2, 3] rfl, ⟨Or.inl rfl, rfl⟩⟩
  obtain ⟨yy, zz⟩ := x9
  obtain ⟨hl, hinv⟩ := hI
  have hl : lv_has ls 10 [(4, .long yy), (6, .long zz), (0, .long x0), (2, .long x1)] := hl
  have hinv : (zz.toInt = x1.toInt ∨ (zz.toInt.natAbs < yy.toInt.natAbs ∧ yy.toInt.natAbs ≤ x1.toInt.natAbs)) ∧ Nat.gcd yy.toInt.natAbs zz.toInt.natAbs = Nat.gcd x0.toInt.natAbs x1.toInt.natAbs := hinv
  refine lv_lload hx hb dX13_divisor_6 (lv_at hl 1 rfl) ?_
  refine lv_lconst (v := 0) hx hb dX13_divisor_8 (by decide +kernel) ?_
  refine W.lcmp hx hb dX13_divisor_9 ?_
  refine lv_if_eq (tgt := 31) hx hb dX13_divisor_10 (by decide +kernel) (fun c_1 => ?_) (fun c_1 => ?_)
  · rw [lcmp_eq] at c_1
    try rw [tl_0] at c_1
    refine lv_lload hx hb dX13_divisor_31 (lv_at hl 0 rfl) ?_
    refine lv_lconst (v := 0) hx hb dX13_divisor_33 (by decide +kernel) ?_
    refine W.lcmp hx hb dX13_divisor_34 ?_
    refine lv_if_ge (tgt := 44) hx hb dX13_divisor_35 (by decide +kernel) (fun c_2 => ?_) (fun c_2 => ?_)
    · rw [lcmp_ge] at c_2
      try rw [tl_0] at c_2
      refine lv_lload hx hb dX13_divisor_44 (lv_at hl 0 rfl) ?_
      exact W.lret hx hb hr (fun t ht hW => ⟨_, rfl, (by have h8 := l_rng x1; have h7 := hinv.1; have h6 : (yy).toInt = (yy.toInt.natAbs : Int) := (by first | omega | (rw [l_neg (by omega)]; omega)); have h5 := dv_end hq hinv.2 (by omega) h6; refine ⟨h5, ?_⟩; rw [h5]; exact (gI_toInt hq).2), ht⟩) (fun _ h => by cases h) dX13_divisor_46
    · rw [lcmp_ge] at c_2
      try rw [tl_0] at c_2
      refine lv_lload hx hb dX13_divisor_38 (lv_at hl 0 rfl) ?_
      refine lv_lneg hx hb dX13_divisor_40 ?_
      refine lv_goto (tgt := 46) hx hb dX13_divisor_41 (by decide +kernel) ?_
      exact W.lret hx hb hr (fun t ht hW => ⟨_, rfl, (by have h8 := l_rng x1; have h7 := hinv.1; have h6 : ((-yy)).toInt = (yy.toInt.natAbs : Int) := (by first | omega | (rw [l_neg (by omega)]; omega)); have h5 := dv_end hq hinv.2 (by omega) h6; refine ⟨h5, ?_⟩; rw [h5]; exact (gI_toInt hq).2), ht⟩) (fun _ h => by cases h) dX13_divisor_46
  · rw [lcmp_eq] at c_1
    try rw [tl_0] at c_1
    refine lv_lload hx hb dX13_divisor_13 (lv_at hl 0 rfl) ?_
    refine lv_lload hx hb dX13_divisor_15 (lv_at hl 1 rfl) ?_
    refine lv_lrem hx hb dX13_divisor_17 (nz64 (by omega)) ?_
    refine lv_topl (fun z_3 ez_3 => ?_)
    refine lv_lstore (lv' := [(8, .long z_3), (4, .long yy), (6, .long zz), (0, .long x0), (2, .long x1)]) hx hb dX13_divisor_18 hl (by decide +kernel) rfl (fun ls hl => ?_)
    refine lv_lload hx hb dX13_divisor_20 (lv_at hl 2 rfl) ?_
    refine lv_lstore (lv' := [(4, .long zz), (8, .long z_3), (6, .long zz), (0, .long x0), (2, .long x1)]) hx hb dX13_divisor_22 hl (by decide +kernel) rfl (fun ls hl => ?_)
    refine lv_lload hx hb dX13_divisor_24 (lv_at hl 1 rfl) ?_
    refine lv_lstore (lv' := [(6, .long z_3), (4, .long zz), (8, .long z_3), (0, .long x0), (2, .long x1)]) hx hb dX13_divisor_26 hl (by decide +kernel) rfl (fun ls hl => ?_)
    refine lv_goto (tgt := 6) hx hb dX13_divisor_28 (by decide +kernel) ?_
    exact ih (zz, z_3) ls ⟨lv_sub hl [1, 0, 3, 4] rfl, ⟨(by subst_vars; (try dsimp only); have h9 := rem_abs yy zz (by omega); have h8 := hinv.1; omega), dv_back (yy := yy) (zz := zz) hinv.2 (by omega) (by have h8 : zz.toInt = x1.toInt ∨ (zz.toInt.natAbs < yy.toInt.natAbs ∧ yy.toInt.natAbs ≤ x1.toInt.natAbs) := hinv.1; have h7 := l_rng x1; omega) ez_3⟩⟩ (by subst_vars; exact rem_abs _ _ (by omega))
set_option maxHeartbeats 4000000 in
set_option maxRecDepth 100000 in
theorem c2_J9_floorDiv (l : Launch) (D : va_G) (T : Nat → ClassId) (x0 : Int64) (x1 : Int64) (hnz : 1 ≤ x1.toInt) : Met l yJ9_floorDiv_f86c9 wsJ9_floorDiv_f86c9 ({ frames := 0, cells := 0, slots := 0, locals := 0 }) (pR [.long x0, .long x1] D T []) (vp_Sl (fun r => r.toInt = x0.toInt / x1.toInt)) 0 0 (fun _ => False) := by
  refine nw_ofWF (cc := cJ9_floorDiv_f86c9) (maxL := 6) (ret := (some .long)) (by decide +kernel) rfl ?_
  intro p e s m args below meth c s₁ B hml hv
  obtain ⟨rfl, hP, hE⟩ := hv
  have hx := B.exec
  have hb := B.bytes
  have hr := B.returns
  have hts := atoms_spec (ws := wsJ9_floorDiv_f86c9) B.pre
  have hown : s.vm.findClass RJ9 = some m.cls := findClass_of_methodNamed B.named
  have hlocks := B.notSynchronized
  have hP : va_P D vwCl [] s.heap := hP
  have hl := lv_entry ([.long x0, .long x1]) (n := 6) (Nat.le_of_ble_eq_true rfl)
  rw [lg_entry_eq]
  generalize (lg_sl ([.long x0, .long x1]) ++ List.replicate (6 - (lg_sl ([.long x0, .long x1])).length) Slot.unset).toArray = ls at hl ⊢
  have hl : lv_has ls 6 [(0, .long x0), (2, .long x1)] := hl
  refine lv_lload_n hx hb dJ9_floorDiv_f86c9_0 rfl (lv_at hl 0 rfl) ?_
  refine lv_lload_n hx hb dJ9_floorDiv_f86c9_1 rfl (lv_at hl 1 rfl) ?_
  refine lv_ldiv hx hb dJ9_floorDiv_f86c9_2 (nz64 (by omega)) ?_
  refine lv_topl (fun z_1 ez_1 => ?_)
  refine lv_lstore (lv' := [(4, .long z_1), (0, .long x0), (2, .long x1)]) hx hb dJ9_floorDiv_f86c9_3 hl (by decide +kernel) rfl (fun ls hl => ?_)
  refine lv_lload_n hx hb dJ9_floorDiv_f86c9_5 rfl (lv_at hl 1 rfl) ?_
  refine lv_lload_n hx hb dJ9_floorDiv_f86c9_6 rfl (lv_at hl 2 rfl) ?_
  refine lv_lxor hx hb dJ9_floorDiv_f86c9_7 ?_
  refine lv_lconst (v := 0) hx hb dJ9_floorDiv_f86c9_8 (by decide +kernel) ?_
  refine W.lcmp hx hb dJ9_floorDiv_f86c9_9 ?_
  refine lv_if_ge (tgt := 27) hx hb dJ9_floorDiv_f86c9_10 (by decide +kernel) (fun c_2 => ?_) (fun c_2 => ?_)
  · rw [lcmp_ge] at c_2
    try rw [tl_0] at c_2
    refine lv_lload hx hb dJ9_floorDiv_f86c9_27 (lv_at hl 0 rfl) ?_
    exact W.lret hx hb hr (fun t ht hW => ⟨_, rfl, (by first | exact fdA hnz (by assumption) (by omega) | exact fdB hnz (by assumption) (by omega) (by assumption) | exact fdC hnz (by assumption) (by omega) (by assumption)), ht⟩) (fun _ h => by cases h) dJ9_floorDiv_f86c9_29
  · rw [lcmp_ge] at c_2
    try rw [tl_0] at c_2
    refine lv_lload hx hb dJ9_floorDiv_f86c9_13 (lv_at hl 0 rfl) ?_
    refine lv_lload_n hx hb dJ9_floorDiv_f86c9_15 rfl (lv_at hl 2 rfl) ?_
    refine lv_lmul hx hb dJ9_floorDiv_f86c9_16 ?_
    refine lv_lload_n hx hb dJ9_floorDiv_f86c9_17 rfl (lv_at hl 1 rfl) ?_
    refine W.lcmp hx hb dJ9_floorDiv_f86c9_18 ?_
    refine lv_if_eq (tgt := 27) hx hb dJ9_floorDiv_f86c9_19 (by decide +kernel) (fun c_3 => ?_) (fun c_3 => ?_)
    · rw [lcmp_eq] at c_3
      refine lv_lload hx hb dJ9_floorDiv_f86c9_27 (lv_at hl 0 rfl) ?_
      exact W.lret hx hb hr (fun t ht hW => ⟨_, rfl, (by first | exact fdA hnz (by assumption) (by omega) | exact fdB hnz (by assumption) (by omega) (by assumption) | exact fdC hnz (by assumption) (by omega) (by assumption)), ht⟩) (fun _ h => by cases h) dJ9_floorDiv_f86c9_29
    · rw [lcmp_eq] at c_3
      refine lv_lload hx hb dJ9_floorDiv_f86c9_22 (lv_at hl 0 rfl) ?_
      refine lv_lconst (v := 1) hx hb dJ9_floorDiv_f86c9_24 (by decide +kernel) ?_
      refine lv_lsub hx hb dJ9_floorDiv_f86c9_25 ?_
      exact W.lret hx hb hr (fun t ht hW => ⟨_, rfl, (by first | exact fdA hnz (by assumption) (by omega) | exact fdB hnz (by assumption) (by omega) (by assumption) | exact fdC hnz (by assumption) (by omega) (by assumption)), ht⟩) (fun _ h => by cases h) dJ9_floorDiv_f86c9_26
def cC_compared (l : Launch) (D : va_G) (T : Nat → ClassId) (k : Nat) : Prop := ∀ (x0 x1 x2 x3 : Int64) (_ : 1 ≤ x1.toInt) (_ : 1 ≤ x3.toInt) (_ : (x2.toInt % x3.toInt) * x1.toInt + 1 < 2 ^ k), Met l yX13_compared wsX13_compared ({ frames := k + 2, cells := 0, slots := 0, locals := 40 * k + 60 }) (pR [.long x0, .long x1, .long x2, .long x3] D T []) (vp_Si (fun r => r.toInt = cmpW x0.toInt x1.toInt x2.toInt x3.toInt)) 0 0 (fun _ => False)
theorem dX13_compared_0 : decode cX13_compared 0 = .ok (.lload_n 0, 1) := by decide +kernel
theorem dX13_compared_1 : decode cX13_compared 1 = .ok (.lload_n 2, 1) := by decide +kernel
theorem dX13_compared_101 : decode cX13_compared 101 = .ok (.lload_n 2, 1) := by decide +kernel
theorem dX13_compared_102 : decode cX13_compared 102 = .ok (.lload 12, 2) := by decide +kernel
theorem dX13_compared_104 : decode cX13_compared 104 = .ok (.invokestatic 167, 3) := by decide +kernel
theorem dX13_compared_107 : decode cX13_compared 107 = .ok (.ireturn, 1) := by decide +kernel
theorem dX13_compared_11 : decode cX13_compared 11 = .ok (.invokestatic 162, 3) := by decide +kernel
theorem dX13_compared_14 : decode cX13_compared 14 = .ok (.lstore 10, 2) := by decide +kernel
theorem dX13_compared_16 : decode cX13_compared 16 = .ok (.lload 8, 2) := by decide +kernel
theorem dX13_compared_18 : decode cX13_compared 18 = .ok (.lload 10, 2) := by decide +kernel
theorem dX13_compared_2 : decode cX13_compared 2 = .ok (.invokestatic 162, 3) := by decide +kernel
theorem dX13_compared_20 : decode cX13_compared 20 = .ok (.lcmp, 1) := by decide +kernel
theorem dX13_compared_21 : decode cX13_compared 21 = .ok (.ifCond .eq 17, 3) := by decide +kernel
theorem dX13_compared_24 : decode cX13_compared 24 = .ok (.lload 8, 2) := by decide +kernel
theorem dX13_compared_26 : decode cX13_compared 26 = .ok (.lload 10, 2) := by decide +kernel
theorem dX13_compared_28 : decode cX13_compared 28 = .ok (.lcmp, 1) := by decide +kernel
theorem dX13_compared_29 : decode cX13_compared 29 = .ok (.ifCond .ge 7, 3) := by decide +kernel
theorem dX13_compared_32 : decode cX13_compared 32 = .ok (.iconst (-1), 1) := by decide +kernel
theorem dX13_compared_33 : decode cX13_compared 33 = .ok (.goto 4, 3) := by decide +kernel
theorem dX13_compared_36 : decode cX13_compared 36 = .ok (.iconst 1, 1) := by decide +kernel
theorem dX13_compared_37 : decode cX13_compared 37 = .ok (.ireturn, 1) := by decide +kernel
theorem dX13_compared_38 : decode cX13_compared 38 = .ok (.lload_n 0, 1) := by decide +kernel
theorem dX13_compared_39 : decode cX13_compared 39 = .ok (.lload 8, 2) := by decide +kernel
theorem dX13_compared_41 : decode cX13_compared 41 = .ok (.lload_n 2, 1) := by decide +kernel
theorem dX13_compared_42 : decode cX13_compared 42 = .ok (.lmul, 1) := by decide +kernel
theorem dX13_compared_43 : decode cX13_compared 43 = .ok (.lsub, 1) := by decide +kernel
theorem dX13_compared_44 : decode cX13_compared 44 = .ok (.lstore 12, 2) := by decide +kernel
theorem dX13_compared_46 : decode cX13_compared 46 = .ok (.lload 4, 2) := by decide +kernel
theorem dX13_compared_48 : decode cX13_compared 48 = .ok (.lload 10, 2) := by decide +kernel
theorem dX13_compared_5 : decode cX13_compared 5 = .ok (.lstore 8, 2) := by decide +kernel
theorem dX13_compared_50 : decode cX13_compared 50 = .ok (.lload 6, 2) := by decide +kernel
theorem dX13_compared_52 : decode cX13_compared 52 = .ok (.lmul, 1) := by decide +kernel
theorem dX13_compared_53 : decode cX13_compared 53 = .ok (.lsub, 1) := by decide +kernel
theorem dX13_compared_54 : decode cX13_compared 54 = .ok (.lstore 14, 2) := by decide +kernel
theorem dX13_compared_56 : decode cX13_compared 56 = .ok (.lload 12, 2) := by decide +kernel
theorem dX13_compared_58 : decode cX13_compared 58 = .ok (.lconst 0, 1) := by decide +kernel
theorem dX13_compared_59 : decode cX13_compared 59 = .ok (.lcmp, 1) := by decide +kernel
theorem dX13_compared_60 : decode cX13_compared 60 = .ok (.ifCond .eq 10, 3) := by decide +kernel
theorem dX13_compared_63 : decode cX13_compared 63 = .ok (.lload 14, 2) := by decide +kernel
theorem dX13_compared_65 : decode cX13_compared 65 = .ok (.lconst 0, 1) := by decide +kernel
theorem dX13_compared_66 : decode cX13_compared 66 = .ok (.lcmp, 1) := by decide +kernel
theorem dX13_compared_67 : decode cX13_compared 67 = .ok (.ifCond .ne 30, 3) := by decide +kernel
theorem dX13_compared_7 : decode cX13_compared 7 = .ok (.lload 4, 2) := by decide +kernel
theorem dX13_compared_70 : decode cX13_compared 70 = .ok (.lload 12, 2) := by decide +kernel
theorem dX13_compared_72 : decode cX13_compared 72 = .ok (.lload 14, 2) := by decide +kernel
theorem dX13_compared_74 : decode cX13_compared 74 = .ok (.lcmp, 1) := by decide +kernel
theorem dX13_compared_75 : decode cX13_compared 75 = .ok (.ifCond .ne 7, 3) := by decide +kernel
theorem dX13_compared_78 : decode cX13_compared 78 = .ok (.iconst 0, 1) := by decide +kernel
theorem dX13_compared_79 : decode cX13_compared 79 = .ok (.goto 28, 3) := by decide +kernel
theorem dX13_compared_82 : decode cX13_compared 82 = .ok (.lload 12, 2) := by decide +kernel
theorem dX13_compared_84 : decode cX13_compared 84 = .ok (.lconst 0, 1) := by decide +kernel
theorem dX13_compared_85 : decode cX13_compared 85 = .ok (.lcmp, 1) := by decide +kernel
theorem dX13_compared_86 : decode cX13_compared 86 = .ok (.ifCond .ne 7, 3) := by decide +kernel
theorem dX13_compared_89 : decode cX13_compared 89 = .ok (.iconst (-1), 1) := by decide +kernel
theorem dX13_compared_9 : decode cX13_compared 9 = .ok (.lload 6, 2) := by decide +kernel
theorem dX13_compared_90 : decode cX13_compared 90 = .ok (.goto 17, 3) := by decide +kernel
theorem dX13_compared_93 : decode cX13_compared 93 = .ok (.iconst 1, 1) := by decide +kernel
theorem dX13_compared_94 : decode cX13_compared 94 = .ok (.goto 13, 3) := by decide +kernel
theorem dX13_compared_97 : decode cX13_compared 97 = .ok (.lload 6, 2) := by decide +kernel
theorem dX13_compared_99 : decode cX13_compared 99 = .ok (.lload 14, 2) := by decide +kernel
set_option maxRecDepth 20000 in
theorem ggX13_compared_J9_floorDiv_f86c9 : GoodIn wsX13_compared wsJ9_floorDiv_f86c9 := goodIn_r _ [4] rfl (by decide +kernel)
set_option maxRecDepth 20000 in
theorem ggX13_compared_X13_compared : GoodIn wsX13_compared wsX13_compared := goodIn_r _ [0, 1, 2, 3, 4, 5, 6, 7] rfl (by decide +kernel)
set_option maxRecDepth 20000 in
theorem gX13_compared_J9_floorDiv_f86c9 : GoodIn wsX13_compared (va_wsS RX13 162 yJ9_floorDiv_f86c9 wsJ9_floorDiv_f86c9) := goodIn_app (goodIn_of _ (by decide +kernel)) ggX13_compared_J9_floorDiv_f86c9
set_option maxRecDepth 20000 in
theorem gX13_compared_X13_compared : GoodIn wsX13_compared (va_wsS RX13 167 yX13_compared wsX13_compared) := goodIn_app (goodIn_of _ (by decide +kernel)) ggX13_compared_X13_compared
theorem hs_X13_compared : yX13_compared.cls ≠ "java/lang/invoke/MethodHandle" ∧ yX13_compared.cls ≠ "java/lang/invoke/VarHandle" ∧ (parseMethodDescriptor yX13_compared.desc).map (fun d => d.parameters.length) = some 4 := by decide +kernel
set_option maxHeartbeats 4000000 in
set_option maxRecDepth 100000 in
theorem s_X13_compared (l : Launch) (D : va_G) (T : Nat → ClassId) (x0 : Int64) (x1 : Int64) (x2 : Int64) (x3 : Int64) (k : Nat) (hb1 : 1 ≤ x1.toInt) (hd1 : 1 ≤ x3.toInt) (hk : (x2.toInt % x3.toInt) * x1.toInt + 1 < 2 ^ (k + 1)) (hrec : cC_compared l D T k) : Met l yX13_compared wsX13_compared ({ frames := (k + 1) + 2, cells := 0, slots := 0, locals := 40 * (k + 1) + 60 }) (pR [.long x0, .long x1, .long x2, .long x3] D T []) (vp_Si (fun r => r.toInt = cmpW x0.toInt x1.toInt x2.toInt x3.toInt)) 0 0 (fun _ => False) := by
  refine Met.ofW (cc := cX13_compared) (maxL := 16) (ret := (some .int)) (by decide +kernel) rfl ?_
  intro p e s m args below meth c s₁ B hml hv
  obtain ⟨rfl, hP, hE⟩ := hv
  have hx := B.exec
  have hb := B.bytes
  have hr := B.returns
  have hts := atoms_spec (ws := wsX13_compared) B.pre
  have hown : s.vm.findClass RX13 = some m.cls := findClass_of_methodNamed B.named
  have hlocks := B.notSynchronized
  have hP : va_P D vwCl [] s.heap := hP
  have hl := lv_entry ([.long x0, .long x1, .long x2, .long x3]) (n := 16) (Nat.le_of_ble_eq_true rfl)
  rw [lg_entry_eq]
  generalize (lg_sl ([.long x0, .long x1, .long x2, .long x3]) ++ List.replicate (16 - (lg_sl ([.long x0, .long x1, .long x2, .long x3])).length) Slot.unset).toArray = ls at hl ⊢
  have hl : lv_has ls 16 [(0, .long x0), (2, .long x1), (4, .long x2), (6, .long x3)] := hl
  refine lv_lload_n hx hb dX13_compared_0 rfl (lv_at hl 0 rfl) ?_
  refine lv_lload_n hx hb dX13_compared_1 rfl (lv_at hl 1 rfl) ?_
  refine vp_callSl (W.runS (As := [.long x0, .long x1]) (rest := []) ⟨hx, hb, hml, hown, hts⟩ (c2_J9_floorDiv l D T x0 x1 (by omega)) (va_cwS 2 hts gX13_compared_J9_floorDiv_f86c9 rfl rfl rfl hs_J9_floorDiv_f86c9 ⟨(show _ ≤ ((k + 1) + 2 : Nat) from by (try dsimp only); omega), (show _ ≤ (40 * (k + 1) + 60 : Nat) from by (try dsimp only); omega)⟩) (pR_S hP hE [] rfl) rfl rfl hl.1 rfl (lv_room (Nat.le_of_ble_eq_true rfl)) dX13_compared_2 ⟨Nat.le_of_ble_eq_true rfl, Nat.le_of_ble_eq_true rfl⟩) (fun r_1 hr_1 => ?_)
  refine lv_lstore (lv' := [(8, .long r_1), (0, .long x0), (2, .long x1), (4, .long x2), (6, .long x3)]) hx hb dX13_compared_5 hl (by decide +kernel) rfl (fun ls hl => ?_)
  refine lv_lload hx hb dX13_compared_7 (lv_at hl 3 rfl) ?_
  refine lv_lload hx hb dX13_compared_9 (lv_at hl 4 rfl) ?_
  refine vp_callSl (W.runS (As := [.long x2, .long x3]) (rest := []) ⟨hx, hb, hml, hown, hts⟩ (c2_J9_floorDiv l D T x2 x3 (by omega)) (va_cwS 2 hts gX13_compared_J9_floorDiv_f86c9 rfl rfl rfl hs_J9_floorDiv_f86c9 ⟨(show _ ≤ ((k + 1) + 2 : Nat) from by (try dsimp only); omega), (show _ ≤ (40 * (k + 1) + 60 : Nat) from by (try dsimp only); omega)⟩) (pR_S hP hE [] rfl) rfl rfl hl.1 rfl (lv_room (Nat.le_of_ble_eq_true rfl)) dX13_compared_11 ⟨Nat.le_of_ble_eq_true rfl, Nat.le_of_ble_eq_true rfl⟩) (fun r_2 hr_2 => ?_)
  refine lv_lstore (lv' := [(10, .long r_2), (8, .long r_1), (0, .long x0), (2, .long x1), (4, .long x2), (6, .long x3)]) hx hb dX13_compared_14 hl (by decide +kernel) rfl (fun ls hl => ?_)
  refine lv_lload hx hb dX13_compared_16 (lv_at hl 1 rfl) ?_
  refine lv_lload hx hb dX13_compared_18 (lv_at hl 0 rfl) ?_
  refine W.lcmp hx hb dX13_compared_20 ?_
  refine lv_if_eq (tgt := 38) hx hb dX13_compared_21 (by decide +kernel) (fun c_3 => ?_) (fun c_3 => ?_)
  · rw [lcmp_eq] at c_3
    refine lv_lload_n hx hb dX13_compared_38 rfl (lv_at hl 2 rfl) ?_
    refine lv_lload hx hb dX13_compared_39 (lv_at hl 1 rfl) ?_
    refine lv_lload_n hx hb dX13_compared_41 rfl (lv_at hl 3 rfl) ?_
    refine lv_lmul hx hb dX13_compared_42 ?_
    refine lv_lsub hx hb dX13_compared_43 ?_
    refine lv_topl (fun z_4 ez_4 => ?_)
    refine lv_lstore (lv' := [(12, .long z_4), (10, .long r_2), (8, .long r_1), (0, .long x0), (2, .long x1), (4, .long x2), (6, .long x3)]) hx hb dX13_compared_44 hl (by decide +kernel) rfl (fun ls hl => ?_)
    have hs44 := cmpS (x := x0) (y := x1) (z := r_1) (by omega) (by assumption)
    rw [← ez_4] at hs44
    refine lv_lload hx hb dX13_compared_46 (lv_at hl 5 rfl) ?_
    refine lv_lload hx hb dX13_compared_48 (lv_at hl 1 rfl) ?_
    refine lv_lload hx hb dX13_compared_50 (lv_at hl 6 rfl) ?_
    refine lv_lmul hx hb dX13_compared_52 ?_
    refine lv_lsub hx hb dX13_compared_53 ?_
    refine lv_topl (fun z_5 ez_5 => ?_)
    refine lv_lstore (lv' := [(14, .long z_5), (12, .long z_4), (10, .long r_2), (8, .long r_1), (0, .long x0), (2, .long x1), (4, .long x2), (6, .long x3)]) hx hb dX13_compared_54 hl (by decide +kernel) rfl (fun ls hl => ?_)
    have hs54 := cmpS (x := x2) (y := x3) (z := r_2) (by omega) (by assumption)
    rw [← ez_5] at hs54
    refine lv_lload hx hb dX13_compared_56 (lv_at hl 1 rfl) ?_
    refine lv_lconst (v := 0) hx hb dX13_compared_58 (by decide +kernel) ?_
    refine W.lcmp hx hb dX13_compared_59 ?_
    refine lv_if_eq (tgt := 70) hx hb dX13_compared_60 (by decide +kernel) (fun c_6 => ?_) (fun c_6 => ?_)
    · rw [lcmp_eq] at c_6
      try rw [tl_0] at c_6
      refine lv_lload hx hb dX13_compared_70 (lv_at hl 1 rfl) ?_
      refine lv_lload hx hb dX13_compared_72 (lv_at hl 0 rfl) ?_
      refine W.lcmp hx hb dX13_compared_74 ?_
      refine lv_if_ne (tgt := 82) hx hb dX13_compared_75 (by decide +kernel) (fun c_7 => ?_) (fun c_7 => ?_)
      · rw [lcmp_eq] at c_7
        refine lv_lload hx hb dX13_compared_82 (lv_at hl 1 rfl) ?_
        refine lv_lconst (v := 0) hx hb dX13_compared_84 (by decide +kernel) ?_
        refine W.lcmp hx hb dX13_compared_85 ?_
        refine lv_if_ne (tgt := 93) hx hb dX13_compared_86 (by decide +kernel) (fun c_8 => ?_) (fun c_8 => ?_)
        · rw [lcmp_eq] at c_8
          try rw [tl_0] at c_8
          refine lv_iconst (v := 1) hx hb dX13_compared_93 (by decide +kernel) ?_
          refine lv_goto (tgt := 107) hx hb dX13_compared_94 (by decide +kernel) ?_
          exact W.iret hx hb hr (fun t ht hW => ⟨_, rfl, (by show (1 : Int32).toInt = _; rw [ti_1]; first | exact (cmpW_gt (by omega) (by omega) (by omega)).symm | exact (cmpW_s (by omega) (by omega) (by omega) (by omega)).symm), ht⟩) (fun _ h => by cases h) dX13_compared_107
        · rw [lcmp_eq] at c_8
          try rw [tl_0] at c_8
          refine lv_iconst (v := (-1)) hx hb dX13_compared_89 (by decide +kernel) ?_
          refine lv_goto (tgt := 107) hx hb dX13_compared_90 (by decide +kernel) ?_
          exact W.iret hx hb hr (fun t ht hW => ⟨_, rfl, (by show (-1 : Int32).toInt = _; rw [ti_n1]; first | exact (cmpW_lt (by omega) (by omega) (by omega)).symm | exact (cmpW_r (by omega) (by omega) (by omega) (by omega)).symm), ht⟩) (fun _ h => by cases h) dX13_compared_107
      · rw [lcmp_eq] at c_7
        refine lv_iconst (v := 0) hx hb dX13_compared_78 (by decide +kernel) ?_
        refine lv_goto (tgt := 107) hx hb dX13_compared_79 (by decide +kernel) ?_
        exact W.iret hx hb hr (fun t ht hW => ⟨_, rfl, (by show (0 : Int32).toInt = _; rw [ti_0]; exact (cmpW_0 (by omega) (by omega) (by omega)).symm), ht⟩) (fun _ h => by cases h) dX13_compared_107
    · rw [lcmp_eq] at c_6
      try rw [tl_0] at c_6
      refine lv_lload hx hb dX13_compared_63 (lv_at hl 0 rfl) ?_
      refine lv_lconst (v := 0) hx hb dX13_compared_65 (by decide +kernel) ?_
      refine W.lcmp hx hb dX13_compared_66 ?_
      refine lv_if_ne (tgt := 97) hx hb dX13_compared_67 (by decide +kernel) (fun c_9 => ?_) (fun c_9 => ?_)
      · rw [lcmp_eq] at c_9
        try rw [tl_0] at c_9
        refine lv_lload hx hb dX13_compared_97 (lv_at hl 7 rfl) ?_
        refine lv_lload hx hb dX13_compared_99 (lv_at hl 0 rfl) ?_
        refine lv_lload_n hx hb dX13_compared_101 rfl (lv_at hl 5 rfl) ?_
        refine lv_lload hx hb dX13_compared_102 (lv_at hl 1 rfl) ?_
        refine vp_callSi (W.runS (As := [.long x3, .long z_5, .long x1, .long z_4]) (rest := []) ⟨hx, hb, hml, hown, hts⟩ (hrec x3 z_5 x1 z_4 (by omega) (by omega) (by rw [hs44.1, hs54.1]; exact cmpK hb1 (by omega) (by omega) hk)) (va_cwS 4 hts gX13_compared_X13_compared rfl rfl rfl hs_X13_compared ⟨(show _ ≤ ((k + 1) + 2 : Nat) from by (try dsimp only); omega), (show _ ≤ (40 * (k + 1) + 60 : Nat) from by (try dsimp only); omega)⟩) (pR_S hP hE [] rfl) rfl rfl hl.1 rfl (lv_room (Nat.le_of_ble_eq_true rfl)) dX13_compared_104 ⟨Nat.le_of_ble_eq_true rfl, Nat.le_of_ble_eq_true rfl⟩) (fun r_10 hr_10 => ?_)
        exact W.iret hx hb hr (fun t ht hW => ⟨_, rfl, (hr_10.trans (by rw [hs44.1, hs54.1]; exact (cmpW_flip (by omega)).symm)), ht⟩) (fun _ h => by cases h) dX13_compared_107
      · rw [lcmp_eq] at c_9
        try rw [tl_0] at c_9
        refine lv_lload hx hb dX13_compared_70 (lv_at hl 1 rfl) ?_
        refine lv_lload hx hb dX13_compared_72 (lv_at hl 0 rfl) ?_
        refine W.lcmp hx hb dX13_compared_74 ?_
        refine lv_if_ne (tgt := 82) hx hb dX13_compared_75 (by decide +kernel) (fun c_11 => ?_) (fun c_11 => ?_)
        · rw [lcmp_eq] at c_11
          refine lv_lload hx hb dX13_compared_82 (lv_at hl 1 rfl) ?_
          refine lv_lconst (v := 0) hx hb dX13_compared_84 (by decide +kernel) ?_
          refine W.lcmp hx hb dX13_compared_85 ?_
          refine lv_if_ne (tgt := 93) hx hb dX13_compared_86 (by decide +kernel) (fun c_12 => ?_) (fun c_12 => ?_)
          · rw [lcmp_eq] at c_12
            try rw [tl_0] at c_12
            refine lv_iconst (v := 1) hx hb dX13_compared_93 (by decide +kernel) ?_
            refine lv_goto (tgt := 107) hx hb dX13_compared_94 (by decide +kernel) ?_
            exact W.iret hx hb hr (fun t ht hW => ⟨_, rfl, (by show (1 : Int32).toInt = _; rw [ti_1]; first | exact (cmpW_gt (by omega) (by omega) (by omega)).symm | exact (cmpW_s (by omega) (by omega) (by omega) (by omega)).symm), ht⟩) (fun _ h => by cases h) dX13_compared_107
          · rw [lcmp_eq] at c_12
            try rw [tl_0] at c_12
            refine lv_iconst (v := (-1)) hx hb dX13_compared_89 (by decide +kernel) ?_
            refine lv_goto (tgt := 107) hx hb dX13_compared_90 (by decide +kernel) ?_
            exact W.iret hx hb hr (fun t ht hW => ⟨_, rfl, (by show (-1 : Int32).toInt = _; rw [ti_n1]; first | exact (cmpW_lt (by omega) (by omega) (by omega)).symm | exact (cmpW_r (by omega) (by omega) (by omega) (by omega)).symm), ht⟩) (fun _ h => by cases h) dX13_compared_107
        · rw [lcmp_eq] at c_11
          refine lv_iconst (v := 0) hx hb dX13_compared_78 (by decide +kernel) ?_
          refine lv_goto (tgt := 107) hx hb dX13_compared_79 (by decide +kernel) ?_
          exact W.iret hx hb hr (fun t ht hW => ⟨_, rfl, (by show (0 : Int32).toInt = _; rw [ti_0]; exact (cmpW_0 (by omega) (by omega) (by omega)).symm), ht⟩) (fun _ h => by cases h) dX13_compared_107
  · rw [lcmp_eq] at c_3
    refine lv_lload hx hb dX13_compared_24 (lv_at hl 1 rfl) ?_
    refine lv_lload hx hb dX13_compared_26 (lv_at hl 0 rfl) ?_
    refine W.lcmp hx hb dX13_compared_28 ?_
    refine lv_if_ge (tgt := 36) hx hb dX13_compared_29 (by decide +kernel) (fun c_13 => ?_) (fun c_13 => ?_)
    · rw [lcmp_ge] at c_13
      refine lv_iconst (v := 1) hx hb dX13_compared_36 (by decide +kernel) ?_
      exact W.iret hx hb hr (fun t ht hW => ⟨_, rfl, (by show (1 : Int32).toInt = _; rw [ti_1]; first | exact (cmpW_gt (by omega) (by omega) (by omega)).symm | exact (cmpW_s (by omega) (by omega) (by omega) (by omega)).symm), ht⟩) (fun _ h => by cases h) dX13_compared_37
    · rw [lcmp_ge] at c_13
      refine lv_iconst (v := (-1)) hx hb dX13_compared_32 (by decide +kernel) ?_
      refine lv_goto (tgt := 37) hx hb dX13_compared_33 (by decide +kernel) ?_
      exact W.iret hx hb hr (fun t ht hW => ⟨_, rfl, (by show (-1 : Int32).toInt = _; rw [ti_n1]; first | exact (cmpW_lt (by omega) (by omega) (by omega)).symm | exact (cmpW_r (by omega) (by omega) (by omega) (by omega)).symm), ht⟩) (fun _ h => by cases h) dX13_compared_37
theorem cC_all (l : Launch) (D : va_G) (T : Nat → ClassId) : ∀ k : Nat, cC_compared l D T k
  | 0 => by
    intro x0 x1 x2 x3 hb hd hk
    exfalso
    have h1 := Int.emod_nonneg x2.toInt (show x3.toInt ≠ 0 by omega)
    have h2 : 0 ≤ (x2.toInt % x3.toInt) * x1.toInt := Int.mul_nonneg h1 (by omega)
    have h3 : (2 : Int) ^ 0 = 1 := rfl
    omega
  | k + 1 => by
    intro x0 x1 x2 x3 hb hd hk
    exact s_X13_compared l D T x0 x1 x2 x3 k hb hd hk (cC_all l D T k)
