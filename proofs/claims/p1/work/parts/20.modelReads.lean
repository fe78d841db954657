/-! the reference on a fresh object: what only reads -/
def sp_names (k : Int32) : Int32 := if k.toInt = 0 ∨ k.toInt = 1 then 0 else if k.toInt = 5 ∨ k.toInt = 6 ∨ k.toInt = 7 ∨ k.toInt = 9 ∨ k.toInt = 12 then 2 else 1
theorem names_post {k r : Int32} (h : r = sp_names k) : ((k.toInt = 0 ∨ k.toInt = 1) ∧ r = 0) ∨ ((k.toInt = 5 ∨ k.toInt = 6 ∨ k.toInt = 7 ∨ k.toInt = 9 ∨ k.toInt = 12) ∧ r = 2) ∨ ((¬ (k.toInt = 0 ∨ k.toInt = 1) ∧ ¬ (k.toInt = 5 ∨ k.toInt = 6 ∨ k.toInt = 7 ∨ k.toInt = 9 ∨ k.toInt = 12)) ∧ r = 1) := by
  unfold sp_names at h
  by_cases h1 : k.toInt = 0 ∨ k.toInt = 1
  · rw [if_pos h1] at h; exact Or.inl ⟨h1, h⟩
  · rw [if_neg h1] at h
    by_cases h2 : k.toInt = 5 ∨ k.toInt = 6 ∨ k.toInt = 7 ∨ k.toInt = 9 ∨ k.toInt = 12
    · rw [if_pos h2] at h; exact Or.inr (Or.inl ⟨h2, h⟩)
    · rw [if_neg h2] at h; exact Or.inr (Or.inr ⟨⟨h1, h2⟩, h⟩)
theorem dX13_in_0 : decode cX13_in 0 = .ok (.lload_n 0, 1) := by decide +kernel
theorem dX13_in_1 : decode cX13_in 1 = .ok (.lload_n 2, 1) := by decide +kernel
theorem dX13_in_10 : decode cX13_in 10 = .ok (.ifCond .gt 7, 3) := by decide +kernel
theorem dX13_in_13 : decode cX13_in 13 = .ok (.iconst 1, 1) := by decide +kernel
theorem dX13_in_14 : decode cX13_in 14 = .ok (.goto 4, 3) := by decide +kernel
theorem dX13_in_17 : decode cX13_in 17 = .ok (.iconst 0, 1) := by decide +kernel
theorem dX13_in_18 : decode cX13_in 18 = .ok (.ireturn, 1) := by decide +kernel
theorem dX13_in_2 : decode cX13_in 2 = .ok (.lcmp, 1) := by decide +kernel
theorem dX13_in_3 : decode cX13_in 3 = .ok (.ifCond .lt 14, 3) := by decide +kernel
theorem dX13_in_6 : decode cX13_in 6 = .ok (.lload_n 0, 1) := by decide +kernel
theorem dX13_in_7 : decode cX13_in 7 = .ok (.lload 4, 2) := by decide +kernel
theorem dX13_in_9 : decode cX13_in 9 = .ok (.lcmp, 1) := by decide +kernel
set_option maxHeartbeats 4000000 in
set_option maxRecDepth 100000 in
theorem c_X13_in (l : Launch) (D : va_G) (T : Nat → ClassId) (x0 : Int64) (x1 : Int64) (x2 : Int64) (VV : Int) (LO : Int) (HI : Int) (hVV : x0.toInt = VV) (hLO : x1.toInt = LO) (hHI : x2.toInt = HI) : Met l yX13_in wsX13_in ({ frames := 0, cells := 0, slots := 0, locals := 0 }) (pR [.long x0, .long x1, .long x2] D T []) (vp_Si (fun r => r = if LO ≤ VV ∧ VV ≤ HI then 1 else 0)) 0 0 (fun _ => False) := by
  refine Met.ofW (cc := cX13_in) (maxL := 6) (ret := (some .boolean)) (by decide) rfl ?_
  intro p e s m args below meth c s₁ B hml hv
  obtain ⟨rfl, hP, hE⟩ := hv
  have hx := B.exec
  have hb := B.bytes
  have hr := B.returns
  have hts := atoms_spec (ws := wsX13_in) B.pre
  have hown : s.vm.findClass RX13 = some m.cls := findClass_of_methodNamed B.named
  have hlocks := B.notSynchronized
  have hP : va_P D vwCl [] s.heap := hP
  have hl := lv_entry ([.long x0, .long x1, .long x2]) (n := 6) (Nat.le_of_ble_eq_true rfl)
  rw [lg_entry_eq]
  generalize (lg_sl ([.long x0, .long x1, .long x2]) ++ List.replicate (6 - (lg_sl ([.long x0, .long x1, .long x2])).length) Slot.unset).toArray = ls at hl ⊢
  have hl : lv_has ls 6 [(0, .long x0), (2, .long x1), (4, .long x2)] := hl
  refine lv_lload_n hx hb dX13_in_0 rfl (lv_at hl 0 rfl) ?_
  refine lv_lload_n hx hb dX13_in_1 rfl (lv_at hl 1 rfl) ?_
  refine W.lcmp hx hb dX13_in_2 ?_
  refine lv_if_lt (tgt := 17) hx hb dX13_in_3 (by decide) (fun c_1 => ?_) (fun c_1 => ?_)
  · rw [lcmp_lt] at c_1
    refine lv_iconst (v := 0) hx hb dX13_in_17 (by decide) ?_
    exact W.zret hx hb hr rfl (fun t ht hW => ⟨_, rfl, (by first | exact (if_pos (by omega)).symm | exact (if_neg (by omega)).symm), ht⟩) (fun _ h => by cases h) dX13_in_18
  · rw [lcmp_lt] at c_1
    refine lv_lload_n hx hb dX13_in_6 rfl (lv_at hl 0 rfl) ?_
    refine lv_lload hx hb dX13_in_7 (lv_at hl 2 rfl) ?_
    refine W.lcmp hx hb dX13_in_9 ?_
    refine lv_if_gt (tgt := 17) hx hb dX13_in_10 (by decide) (fun c_2 => ?_) (fun c_2 => ?_)
    · rw [lcmp_gt] at c_2
      refine lv_iconst (v := 0) hx hb dX13_in_17 (by decide) ?_
      exact W.zret hx hb hr rfl (fun t ht hW => ⟨_, rfl, (by first | exact (if_pos (by omega)).symm | exact (if_neg (by omega)).symm), ht⟩) (fun _ h => by cases h) dX13_in_18
    · rw [lcmp_gt] at c_2
      refine lv_iconst (v := 1) hx hb dX13_in_13 (by decide) ?_
      refine lv_goto (tgt := 18) hx hb dX13_in_14 (by decide) ?_
      exact W.zret hx hb hr rfl (fun t ht hW => ⟨_, rfl, (by first | exact (if_pos (by omega)).symm | exact (if_neg (by omega)).symm), ht⟩) (fun _ h => by cases h) dX13_in_18
theorem dX13_refused_0 : decode cX13_refused 0 = .ok (.ldc2_w 129, 3) := by decide +kernel
theorem dX13_refused_3 : decode cX13_refused 3 = .ok (.iload_n 0, 1) := by decide +kernel
theorem dX13_refused_4 : decode cX13_refused 4 = .ok (.i2l, 1) := by decide +kernel
theorem dX13_refused_5 : decode cX13_refused 5 = .ok (.ladd, 1) := by decide +kernel
theorem dX13_refused_6 : decode cX13_refused 6 = .ok (.lreturn, 1) := by decide +kernel
set_option maxHeartbeats 4000000 in
set_option maxRecDepth 100000 in
theorem c_X13_refused (l : Launch) (D : va_G) (T : Nat → ClassId) (x0 : Int32)  : Met l yX13_refused wsX13_refused ({ frames := 0, cells := 0, slots := 0, locals := 0 }) (pR [.int x0] D T []) (vp_Sl (fun r => r = -4611686018427387904 + x0.toInt64)) 0 0 (fun _ => False) := by
  refine Met.ofW (cc := cX13_refused) (maxL := 1) (ret := (some .long)) (by decide) rfl ?_
  intro p e s m args below meth c s₁ B hml hv
  obtain ⟨rfl, hP, hE⟩ := hv
  have hx := B.exec
  have hb := B.bytes
  have hr := B.returns
  have hts := atoms_spec (ws := wsX13_refused) B.pre
  have hown : s.vm.findClass RX13 = some m.cls := findClass_of_methodNamed B.named
  have hlocks := B.notSynchronized
  have hP : va_P D vwCl [] s.heap := hP
  have hl := lv_entry ([.int x0]) (n := 1) (Nat.le_of_ble_eq_true rfl)
  rw [lg_entry_eq]
  generalize (lg_sl ([.int x0]) ++ List.replicate (1 - (lg_sl ([.int x0])).length) Slot.unset).toArray = ls at hl ⊢
  have hl : lv_has ls 1 [(0, .int x0)] := hl
  refine lv_ldc2 (v := (-4611686018427387904)) hx hb hown (hts (.constantLong RX13 129 (-4611686018427387904)) (List.mem_of_getElem? (i := 1) rfl)) dX13_refused_0 ?_
  refine lv_iload_n hx hb dX13_refused_3 rfl (lv_at hl 0 rfl) ?_
  refine lv_i2l hx hb dX13_refused_4 rfl ?_
  refine lv_ladd hx hb dX13_refused_5 ?_
  exact W.lret hx hb hr (fun t ht hW => ⟨_, rfl, rfl, ht⟩) (fun _ h => by cases h) dX13_refused_6
theorem dX13_isPath_0 : decode cX13_isPath 0 = .ok (.iload_n 0, 1) := by decide +kernel
theorem dX13_isPath_1 : decode cX13_isPath 1 = .ok (.i2l, 1) := by decide +kernel
theorem dX13_isPath_2 : decode cX13_isPath 2 = .ok (.lconst 0, 1) := by decide +kernel
theorem dX13_isPath_3 : decode cX13_isPath 3 = .ok (.ldc2_w 196, 3) := by decide +kernel
theorem dX13_isPath_6 : decode cX13_isPath 6 = .ok (.invokestatic 175, 3) := by decide +kernel
theorem dX13_isPath_9 : decode cX13_isPath 9 = .ok (.ireturn, 1) := by decide +kernel
set_option maxRecDepth 20000 in
theorem ggX13_isPath_X13_in : GoodIn wsX13_isPath wsX13_in := goodIn_r _ [5] (by decide +kernel) (by decide +kernel)
set_option maxRecDepth 20000 in
theorem gX13_isPath_X13_in : GoodIn wsX13_isPath (va_wsS RX13 175 yX13_in wsX13_in) := goodIn_app (goodIn_of _ (by decide +kernel)) ggX13_isPath_X13_in
set_option maxHeartbeats 4000000 in
set_option maxRecDepth 100000 in
theorem c_X13_isPath (l : Launch) (D : va_G) (T : Nat → ClassId) (x0 : Int32)  : Met l yX13_isPath wsX13_isPath ({ frames := 1, cells := 0, slots := 0, locals := 25 }) (pR [.int x0] D T []) (vp_Si (fun r => r = if 0 ≤ x0.toInt ∧ x0.toInt ≤ 63 then 1 else 0)) 0 0 (fun _ => False) := by
  refine Met.ofW (cc := cX13_isPath) (maxL := 1) (ret := (some .boolean)) (by decide) rfl ?_
  intro p e s m args below meth c s₁ B hml hv
  obtain ⟨rfl, hP, hE⟩ := hv
  have hx := B.exec
  have hb := B.bytes
  have hr := B.returns
  have hts := atoms_spec (ws := wsX13_isPath) B.pre
  have hown : s.vm.findClass RX13 = some m.cls := findClass_of_methodNamed B.named
  have hlocks := B.notSynchronized
  have hP : va_P D vwCl [] s.heap := hP
  have hl := lv_entry ([.int x0]) (n := 1) (Nat.le_of_ble_eq_true rfl)
  rw [lg_entry_eq]
  generalize (lg_sl ([.int x0]) ++ List.replicate (1 - (lg_sl ([.int x0])).length) Slot.unset).toArray = ls at hl ⊢
  have hl : lv_has ls 1 [(0, .int x0)] := hl
  refine lv_iload_n hx hb dX13_isPath_0 rfl (lv_at hl 0 rfl) ?_
  refine lv_i2l hx hb dX13_isPath_1 rfl ?_
  refine lv_lconst (v := 0) hx hb dX13_isPath_2 (by decide) ?_
  refine lv_ldc2 (v := 63) hx hb hown (hts (.constantLong RX13 196 (63)) (List.mem_of_getElem? (i := 1) rfl)) dX13_isPath_3 ?_
  refine vp_callSi (W.runS (As := [.long (x0.toInt64), .long 0, .long 63]) (rest := []) ⟨hx, hb, hml, hown, hts⟩ (c_X13_in l D T (x0.toInt64) 0 63 x0.toInt 0 63 ((Int32.toInt_toInt64 _).trans rfl) (by decide) (by decide)) (va_cwS 3 hts gX13_isPath_X13_in rfl rfl rfl (by decide +kernel) ⟨Nat.le_of_ble_eq_true rfl, Nat.le_of_ble_eq_true rfl⟩) (pR_S hP hE [] rfl) rfl rfl hl.1 rfl (lv_room (Nat.le_of_ble_eq_true rfl)) dX13_isPath_6 ⟨Nat.le_of_ble_eq_true rfl, Nat.le_of_ble_eq_true rfl⟩) (fun r_1 hr_1 => ?_)
  rcases bool_post hr_1 with ⟨c_2, rfl⟩ | ⟨c_2, rfl⟩
  · exact W.zret hx hb hr rfl (fun t ht hW => ⟨_, rfl, (by first | exact (if_pos (by omega)).symm | exact (if_neg (by omega)).symm), ht⟩) (fun _ h => by cases h) dX13_isPath_9
  · exact W.zret hx hb hr rfl (fun t ht hW => ⟨_, rfl, (by first | exact (if_pos (by omega)).symm | exact (if_neg (by omega)).symm), ht⟩) (fun _ h => by cases h) dX13_isPath_9
theorem dX13_isBag_0 : decode cX13_isBag 0 = .ok (.iload_n 0, 1) := by decide +kernel
theorem dX13_isBag_1 : decode cX13_isBag 1 = .ok (.i2l, 1) := by decide +kernel
theorem dX13_isBag_2 : decode cX13_isBag 2 = .ok (.lconst 0, 1) := by decide +kernel
theorem dX13_isBag_3 : decode cX13_isBag 3 = .ok (.ldc2_w 184, 3) := by decide +kernel
theorem dX13_isBag_6 : decode cX13_isBag 6 = .ok (.invokestatic 175, 3) := by decide +kernel
theorem dX13_isBag_9 : decode cX13_isBag 9 = .ok (.ireturn, 1) := by decide +kernel
set_option maxRecDepth 20000 in
theorem ggX13_isBag_X13_in : GoodIn wsX13_isBag wsX13_in := goodIn_r _ [5] (by decide +kernel) (by decide +kernel)
set_option maxRecDepth 20000 in
theorem gX13_isBag_X13_in : GoodIn wsX13_isBag (va_wsS RX13 175 yX13_in wsX13_in) := goodIn_app (goodIn_of _ (by decide +kernel)) ggX13_isBag_X13_in
set_option maxHeartbeats 4000000 in
set_option maxRecDepth 100000 in
theorem c_X13_isBag (l : Launch) (D : va_G) (T : Nat → ClassId) (x0 : Int32)  : Met l yX13_isBag wsX13_isBag ({ frames := 1, cells := 0, slots := 0, locals := 25 }) (pR [.int x0] D T []) (vp_Si (fun r => r = if 0 ≤ x0.toInt ∧ x0.toInt ≤ 2 then 1 else 0)) 0 0 (fun _ => False) := by
  refine Met.ofW (cc := cX13_isBag) (maxL := 1) (ret := (some .boolean)) (by decide) rfl ?_
  intro p e s m args below meth c s₁ B hml hv
  obtain ⟨rfl, hP, hE⟩ := hv
  have hx := B.exec
  have hb := B.bytes
  have hr := B.returns
  have hts := atoms_spec (ws := wsX13_isBag) B.pre
  have hown : s.vm.findClass RX13 = some m.cls := findClass_of_methodNamed B.named
  have hlocks := B.notSynchronized
  have hP : va_P D vwCl [] s.heap := hP
  have hl := lv_entry ([.int x0]) (n := 1) (Nat.le_of_ble_eq_true rfl)
  rw [lg_entry_eq]
  generalize (lg_sl ([.int x0]) ++ List.replicate (1 - (lg_sl ([.int x0])).length) Slot.unset).toArray = ls at hl ⊢
  have hl : lv_has ls 1 [(0, .int x0)] := hl
  refine lv_iload_n hx hb dX13_isBag_0 rfl (lv_at hl 0 rfl) ?_
  refine lv_i2l hx hb dX13_isBag_1 rfl ?_
  refine lv_lconst (v := 0) hx hb dX13_isBag_2 (by decide) ?_
  refine lv_ldc2 (v := 2) hx hb hown (hts (.constantLong RX13 184 (2)) (List.mem_of_getElem? (i := 1) rfl)) dX13_isBag_3 ?_
  refine vp_callSi (W.runS (As := [.long (x0.toInt64), .long 0, .long 2]) (rest := []) ⟨hx, hb, hml, hown, hts⟩ (c_X13_in l D T (x0.toInt64) 0 2 x0.toInt 0 2 ((Int32.toInt_toInt64 _).trans rfl) (by decide) (by decide)) (va_cwS 3 hts gX13_isBag_X13_in rfl rfl rfl (by decide +kernel) ⟨Nat.le_of_ble_eq_true rfl, Nat.le_of_ble_eq_true rfl⟩) (pR_S hP hE [] rfl) rfl rfl hl.1 rfl (lv_room (Nat.le_of_ble_eq_true rfl)) dX13_isBag_6 ⟨Nat.le_of_ble_eq_true rfl, Nat.le_of_ble_eq_true rfl⟩) (fun r_1 hr_1 => ?_)
  rcases bool_post hr_1 with ⟨c_2, rfl⟩ | ⟨c_2, rfl⟩
  · exact W.zret hx hb hr rfl (fun t ht hW => ⟨_, rfl, (by first | exact (if_pos (by omega)).symm | exact (if_neg (by omega)).symm), ht⟩) (fun _ h => by cases h) dX13_isBag_9
  · exact W.zret hx hb hr rfl (fun t ht hW => ⟨_, rfl, (by first | exact (if_pos (by omega)).symm | exact (if_neg (by omega)).symm), ht⟩) (fun _ h => by cases h) dX13_isBag_9
theorem dX13_isHand_0 : decode cX13_isHand 0 = .ok (.iload_n 0, 1) := by decide +kernel
theorem dX13_isHand_1 : decode cX13_isHand 1 = .ok (.i2l, 1) := by decide +kernel
theorem dX13_isHand_2 : decode cX13_isHand 2 = .ok (.lconst 0, 1) := by decide +kernel
theorem dX13_isHand_3 : decode cX13_isHand 3 = .ok (.ldc2_w 408, 3) := by decide +kernel
theorem dX13_isHand_6 : decode cX13_isHand 6 = .ok (.invokestatic 175, 3) := by decide +kernel
theorem dX13_isHand_9 : decode cX13_isHand 9 = .ok (.ireturn, 1) := by decide +kernel
set_option maxRecDepth 20000 in
theorem ggX13_isHand_X13_in : GoodIn wsX13_isHand wsX13_in := goodIn_r _ [5] (by decide +kernel) (by decide +kernel)
set_option maxRecDepth 20000 in
theorem gX13_isHand_X13_in : GoodIn wsX13_isHand (va_wsS RX13 175 yX13_in wsX13_in) := goodIn_app (goodIn_of _ (by decide +kernel)) ggX13_isHand_X13_in
set_option maxHeartbeats 4000000 in
set_option maxRecDepth 100000 in
theorem c_X13_isHand (l : Launch) (D : va_G) (T : Nat → ClassId) (x0 : Int32)  : Met l yX13_isHand wsX13_isHand ({ frames := 1, cells := 0, slots := 0, locals := 25 }) (pR [.int x0] D T []) (vp_Si (fun r => r = if 0 ≤ x0.toInt ∧ x0.toInt ≤ 3 then 1 else 0)) 0 0 (fun _ => False) := by
  refine Met.ofW (cc := cX13_isHand) (maxL := 1) (ret := (some .boolean)) (by decide) rfl ?_
  intro p e s m args below meth c s₁ B hml hv
  obtain ⟨rfl, hP, hE⟩ := hv
  have hx := B.exec
  have hb := B.bytes
  have hr := B.returns
  have hts := atoms_spec (ws := wsX13_isHand) B.pre
  have hown : s.vm.findClass RX13 = some m.cls := findClass_of_methodNamed B.named
  have hlocks := B.notSynchronized
  have hP : va_P D vwCl [] s.heap := hP
  have hl := lv_entry ([.int x0]) (n := 1) (Nat.le_of_ble_eq_true rfl)
  rw [lg_entry_eq]
  generalize (lg_sl ([.int x0]) ++ List.replicate (1 - (lg_sl ([.int x0])).length) Slot.unset).toArray = ls at hl ⊢
  have hl : lv_has ls 1 [(0, .int x0)] := hl
  refine lv_iload_n hx hb dX13_isHand_0 rfl (lv_at hl 0 rfl) ?_
  refine lv_i2l hx hb dX13_isHand_1 rfl ?_
  refine lv_lconst (v := 0) hx hb dX13_isHand_2 (by decide) ?_
  refine lv_ldc2 (v := 3) hx hb hown (hts (.constantLong RX13 408 (3)) (List.mem_of_getElem? (i := 1) rfl)) dX13_isHand_3 ?_
  refine vp_callSi (W.runS (As := [.long (x0.toInt64), .long 0, .long 3]) (rest := []) ⟨hx, hb, hml, hown, hts⟩ (c_X13_in l D T (x0.toInt64) 0 3 x0.toInt 0 3 ((Int32.toInt_toInt64 _).trans rfl) (by decide) (by decide)) (va_cwS 3 hts gX13_isHand_X13_in rfl rfl rfl (by decide +kernel) ⟨Nat.le_of_ble_eq_true rfl, Nat.le_of_ble_eq_true rfl⟩) (pR_S hP hE [] rfl) rfl rfl hl.1 rfl (lv_room (Nat.le_of_ble_eq_true rfl)) dX13_isHand_6 ⟨Nat.le_of_ble_eq_true rfl, Nat.le_of_ble_eq_true rfl⟩) (fun r_1 hr_1 => ?_)
  rcases bool_post hr_1 with ⟨c_2, rfl⟩ | ⟨c_2, rfl⟩
  · exact W.zret hx hb hr rfl (fun t ht hW => ⟨_, rfl, (by first | exact (if_pos (by omega)).symm | exact (if_neg (by omega)).symm), ht⟩) (fun _ h => by cases h) dX13_isHand_9
  · exact W.zret hx hb hr rfl (fun t ht hW => ⟨_, rfl, (by first | exact (if_pos (by omega)).symm | exact (if_neg (by omega)).symm), ht⟩) (fun _ h => by cases h) dX13_isHand_9
theorem dX13_isSheet_0 : decode cX13_isSheet 0 = .ok (.iload_n 0, 1) := by decide +kernel
theorem dX13_isSheet_1 : decode cX13_isSheet 1 = .ok (.i2l, 1) := by decide +kernel
theorem dX13_isSheet_2 : decode cX13_isSheet 2 = .ok (.lconst 0, 1) := by decide +kernel
theorem dX13_isSheet_3 : decode cX13_isSheet 3 = .ok (.ldc2_w 408, 3) := by decide +kernel
theorem dX13_isSheet_6 : decode cX13_isSheet 6 = .ok (.invokestatic 175, 3) := by decide +kernel
theorem dX13_isSheet_9 : decode cX13_isSheet 9 = .ok (.ireturn, 1) := by decide +kernel
set_option maxRecDepth 20000 in
theorem ggX13_isSheet_X13_in : GoodIn wsX13_isSheet wsX13_in := goodIn_r _ [5] (by decide +kernel) (by decide +kernel)
set_option maxRecDepth 20000 in
theorem gX13_isSheet_X13_in : GoodIn wsX13_isSheet (va_wsS RX13 175 yX13_in wsX13_in) := goodIn_app (goodIn_of _ (by decide +kernel)) ggX13_isSheet_X13_in
set_option maxHeartbeats 4000000 in
set_option maxRecDepth 100000 in
theorem c_X13_isSheet (l : Launch) (D : va_G) (T : Nat → ClassId) (x0 : Int32)  : Met l yX13_isSheet wsX13_isSheet ({ frames := 1, cells := 0, slots := 0, locals := 25 }) (pR [.int x0] D T []) (vp_Si (fun r => r = if 0 ≤ x0.toInt ∧ x0.toInt ≤ 3 then 1 else 0)) 0 0 (fun _ => False) := by
  refine Met.ofW (cc := cX13_isSheet) (maxL := 1) (ret := (some .boolean)) (by decide) rfl ?_
  intro p e s m args below meth c s₁ B hml hv
  obtain ⟨rfl, hP, hE⟩ := hv
  have hx := B.exec
  have hb := B.bytes
  have hr := B.returns
  have hts := atoms_spec (ws := wsX13_isSheet) B.pre
  have hown : s.vm.findClass RX13 = some m.cls := findClass_of_methodNamed B.named
  have hlocks := B.notSynchronized
  have hP : va_P D vwCl [] s.heap := hP
  have hl := lv_entry ([.int x0]) (n := 1) (Nat.le_of_ble_eq_true rfl)
  rw [lg_entry_eq]
  generalize (lg_sl ([.int x0]) ++ List.replicate (1 - (lg_sl ([.int x0])).length) Slot.unset).toArray = ls at hl ⊢
  have hl : lv_has ls 1 [(0, .int x0)] := hl
  refine lv_iload_n hx hb dX13_isSheet_0 rfl (lv_at hl 0 rfl) ?_
  refine lv_i2l hx hb dX13_isSheet_1 rfl ?_
  refine lv_lconst (v := 0) hx hb dX13_isSheet_2 (by decide) ?_
  refine lv_ldc2 (v := 3) hx hb hown (hts (.constantLong RX13 408 (3)) (List.mem_of_getElem? (i := 1) rfl)) dX13_isSheet_3 ?_
  refine vp_callSi (W.runS (As := [.long (x0.toInt64), .long 0, .long 3]) (rest := []) ⟨hx, hb, hml, hown, hts⟩ (c_X13_in l D T (x0.toInt64) 0 3 x0.toInt 0 3 ((Int32.toInt_toInt64 _).trans rfl) (by decide) (by decide)) (va_cwS 3 hts gX13_isSheet_X13_in rfl rfl rfl (by decide +kernel) ⟨Nat.le_of_ble_eq_true rfl, Nat.le_of_ble_eq_true rfl⟩) (pR_S hP hE [] rfl) rfl rfl hl.1 rfl (lv_room (Nat.le_of_ble_eq_true rfl)) dX13_isSheet_6 ⟨Nat.le_of_ble_eq_true rfl, Nat.le_of_ble_eq_true rfl⟩) (fun r_1 hr_1 => ?_)
  rcases bool_post hr_1 with ⟨c_2, rfl⟩ | ⟨c_2, rfl⟩
  · exact W.zret hx hb hr rfl (fun t ht hW => ⟨_, rfl, (by first | exact (if_pos (by omega)).symm | exact (if_neg (by omega)).symm), ht⟩) (fun _ h => by cases h) dX13_isSheet_9
  · exact W.zret hx hb hr rfl (fun t ht hW => ⟨_, rfl, (by first | exact (if_pos (by omega)).symm | exact (if_neg (by omega)).symm), ht⟩) (fun _ h => by cases h) dX13_isSheet_9
theorem dX13_isSpot_0 : decode cX13_isSpot 0 = .ok (.iload_n 0, 1) := by decide +kernel
theorem dX13_isSpot_1 : decode cX13_isSpot 1 = .ok (.i2l, 1) := by decide +kernel
theorem dX13_isSpot_12 : decode cX13_isSpot 12 = .ok (.iload_n 1, 1) := by decide +kernel
theorem dX13_isSpot_13 : decode cX13_isSpot 13 = .ok (.i2l, 1) := by decide +kernel
theorem dX13_isSpot_14 : decode cX13_isSpot 14 = .ok (.lconst 0, 1) := by decide +kernel
theorem dX13_isSpot_15 : decode cX13_isSpot 15 = .ok (.iload_n 0, 1) := by decide +kernel
theorem dX13_isSpot_16 : decode cX13_isSpot 16 = .ok (.i2l, 1) := by decide +kernel
theorem dX13_isSpot_17 : decode cX13_isSpot 17 = .ok (.invokestatic 175, 3) := by decide +kernel
theorem dX13_isSpot_2 : decode cX13_isSpot 2 = .ok (.lconst 0, 1) := by decide +kernel
theorem dX13_isSpot_20 : decode cX13_isSpot 20 = .ok (.ifCond .eq 7, 3) := by decide +kernel
theorem dX13_isSpot_23 : decode cX13_isSpot 23 = .ok (.iconst 1, 1) := by decide +kernel
theorem dX13_isSpot_24 : decode cX13_isSpot 24 = .ok (.goto 4, 3) := by decide +kernel
theorem dX13_isSpot_27 : decode cX13_isSpot 27 = .ok (.iconst 0, 1) := by decide +kernel
theorem dX13_isSpot_28 : decode cX13_isSpot 28 = .ok (.ireturn, 1) := by decide +kernel
theorem dX13_isSpot_3 : decode cX13_isSpot 3 = .ok (.ldc2_w 186, 3) := by decide +kernel
theorem dX13_isSpot_6 : decode cX13_isSpot 6 = .ok (.invokestatic 175, 3) := by decide +kernel
theorem dX13_isSpot_9 : decode cX13_isSpot 9 = .ok (.ifCond .eq 18, 3) := by decide +kernel
set_option maxRecDepth 20000 in
theorem ggX13_isSpot_X13_in : GoodIn wsX13_isSpot wsX13_in := goodIn_r _ [5] (by decide +kernel) (by decide +kernel)
set_option maxRecDepth 20000 in
theorem gX13_isSpot_X13_in : GoodIn wsX13_isSpot (va_wsS RX13 175 yX13_in wsX13_in) := goodIn_app (goodIn_of _ (by decide +kernel)) ggX13_isSpot_X13_in
set_option maxHeartbeats 4000000 in
set_option maxRecDepth 100000 in
theorem c_X13_isSpot (l : Launch) (D : va_G) (T : Nat → ClassId) (x0 : Int32) (x1 : Int32)  : Met l yX13_isSpot wsX13_isSpot ({ frames := 1, cells := 0, slots := 0, locals := 25 }) (pR [.int x0, .int x1] D T []) (vp_Si (fun r => r = if (0 ≤ x0.toInt ∧ x0.toInt ≤ 6) ∧ 0 ≤ x1.toInt ∧ x1.toInt ≤ x0.toInt then 1 else 0)) 0 0 (fun _ => False) := by
  refine Met.ofW (cc := cX13_isSpot) (maxL := 2) (ret := (some .boolean)) (by decide) rfl ?_
  intro p e s m args below meth c s₁ B hml hv
  obtain ⟨rfl, hP, hE⟩ := hv
  have hx := B.exec
  have hb := B.bytes
  have hr := B.returns
  have hts := atoms_spec (ws := wsX13_isSpot) B.pre
  have hown : s.vm.findClass RX13 = some m.cls := findClass_of_methodNamed B.named
  have hlocks := B.notSynchronized
  have hP : va_P D vwCl [] s.heap := hP
  have hl := lv_entry ([.int x0, .int x1]) (n := 2) (Nat.le_of_ble_eq_true rfl)
  rw [lg_entry_eq]
  generalize (lg_sl ([.int x0, .int x1]) ++ List.replicate (2 - (lg_sl ([.int x0, .int x1])).length) Slot.unset).toArray = ls at hl ⊢
  have hl : lv_has ls 2 [(0, .int x0), (1, .int x1)] := hl
  refine lv_iload_n hx hb dX13_isSpot_0 rfl (lv_at hl 0 rfl) ?_
  refine lv_i2l hx hb dX13_isSpot_1 rfl ?_
  refine lv_lconst (v := 0) hx hb dX13_isSpot_2 (by decide) ?_
  refine lv_ldc2 (v := 6) hx hb hown (hts (.constantLong RX13 186 (6)) (List.mem_of_getElem? (i := 1) rfl)) dX13_isSpot_3 ?_
  refine vp_callSi (W.runS (As := [.long (x0.toInt64), .long 0, .long 6]) (rest := []) ⟨hx, hb, hml, hown, hts⟩ (c_X13_in l D T (x0.toInt64) 0 6 x0.toInt 0 6 ((Int32.toInt_toInt64 _).trans rfl) (by decide) (by decide)) (va_cwS 3 hts gX13_isSpot_X13_in rfl rfl rfl (by decide +kernel) ⟨Nat.le_of_ble_eq_true rfl, Nat.le_of_ble_eq_true rfl⟩) (pR_S hP hE [] rfl) rfl rfl hl.1 rfl (lv_room (Nat.le_of_ble_eq_true rfl)) dX13_isSpot_6 ⟨Nat.le_of_ble_eq_true rfl, Nat.le_of_ble_eq_true rfl⟩) (fun r_1 hr_1 => ?_)
  rcases bool_post hr_1 with ⟨c_2, rfl⟩ | ⟨c_2, rfl⟩
  · refine lv_if_eq (tgt := 27) hx hb dX13_isSpot_9 (by decide) (fun c9 => absurd c9 (by decide)) (fun _ => ?_)
    refine lv_iload_n hx hb dX13_isSpot_12 rfl (lv_at hl 1 rfl) ?_
    refine lv_i2l hx hb dX13_isSpot_13 rfl ?_
    refine lv_lconst (v := 0) hx hb dX13_isSpot_14 (by decide) ?_
    refine lv_iload_n hx hb dX13_isSpot_15 rfl (lv_at hl 0 rfl) ?_
    refine lv_i2l hx hb dX13_isSpot_16 rfl ?_
    refine vp_callSi (W.runS (As := [.long (x1.toInt64), .long 0, .long (x0.toInt64)]) (rest := []) ⟨hx, hb, hml, hown, hts⟩ (c_X13_in l D T (x1.toInt64) 0 (x0.toInt64) x1.toInt 0 x0.toInt ((Int32.toInt_toInt64 _).trans rfl) (by decide) ((Int32.toInt_toInt64 _).trans rfl)) (va_cwS 3 hts gX13_isSpot_X13_in rfl rfl rfl (by decide +kernel) ⟨Nat.le_of_ble_eq_true rfl, Nat.le_of_ble_eq_true rfl⟩) (pR_S hP hE [] rfl) rfl rfl hl.1 rfl (lv_room (Nat.le_of_ble_eq_true rfl)) dX13_isSpot_17 ⟨Nat.le_of_ble_eq_true rfl, Nat.le_of_ble_eq_true rfl⟩) (fun r_3 hr_3 => ?_)
    rcases bool_post hr_3 with ⟨c_4, rfl⟩ | ⟨c_4, rfl⟩
    · refine lv_if_eq (tgt := 27) hx hb dX13_isSpot_20 (by decide) (fun c9 => absurd c9 (by decide)) (fun _ => ?_)
      refine lv_iconst (v := 1) hx hb dX13_isSpot_23 (by decide) ?_
      refine lv_goto (tgt := 28) hx hb dX13_isSpot_24 (by decide) ?_
      exact W.zret hx hb hr rfl (fun t ht hW => ⟨_, rfl, (by first | exact (if_pos (by omega)).symm | exact (if_neg (by omega)).symm), ht⟩) (fun _ h => by cases h) dX13_isSpot_28
    · refine lv_if_eq (tgt := 27) hx hb dX13_isSpot_20 (by decide) (fun _ => ?_) (fun c9 => absurd c9 (by decide))
      refine lv_iconst (v := 0) hx hb dX13_isSpot_27 (by decide) ?_
      exact W.zret hx hb hr rfl (fun t ht hW => ⟨_, rfl, (by first | exact (if_pos (by omega)).symm | exact (if_neg (by omega)).symm), ht⟩) (fun _ h => by cases h) dX13_isSpot_28
  · refine lv_if_eq (tgt := 27) hx hb dX13_isSpot_9 (by decide) (fun _ => ?_) (fun c9 => absurd c9 (by decide))
    refine lv_iconst (v := 0) hx hb dX13_isSpot_27 (by decide) ?_
    exact W.zret hx hb hr rfl (fun t ht hW => ⟨_, rfl, (by first | exact (if_pos (by omega)).symm | exact (if_neg (by omega)).symm), ht⟩) (fun _ h => by cases h) dX13_isSpot_28
theorem dX13_names_0 : decode cX13_names 0 = .ok (.iload_n 0, 1) := by decide +kernel
theorem dX13_names_1 : decode cX13_names 1 = .ok (.ifCond .eq 8, 3) := by decide +kernel
theorem dX13_names_10 : decode cX13_names 10 = .ok (.goto 37, 3) := by decide +kernel
theorem dX13_names_13 : decode cX13_names 13 = .ok (.iload_n 0, 1) := by decide +kernel
theorem dX13_names_14 : decode cX13_names 14 = .ok (.iconst 5, 1) := by decide +kernel
theorem dX13_names_15 : decode cX13_names 15 = .ok (.if_icmp .eq 27, 3) := by decide +kernel
theorem dX13_names_18 : decode cX13_names 18 = .ok (.iload_n 0, 1) := by decide +kernel
theorem dX13_names_19 : decode cX13_names 19 = .ok (.bipush 6, 2) := by decide +kernel
theorem dX13_names_21 : decode cX13_names 21 = .ok (.if_icmp .eq 21, 3) := by decide +kernel
theorem dX13_names_24 : decode cX13_names 24 = .ok (.iload_n 0, 1) := by decide +kernel
theorem dX13_names_25 : decode cX13_names 25 = .ok (.bipush 7, 2) := by decide +kernel
theorem dX13_names_27 : decode cX13_names 27 = .ok (.if_icmp .eq 15, 3) := by decide +kernel
theorem dX13_names_30 : decode cX13_names 30 = .ok (.iload_n 0, 1) := by decide +kernel
theorem dX13_names_31 : decode cX13_names 31 = .ok (.bipush 9, 2) := by decide +kernel
theorem dX13_names_33 : decode cX13_names 33 = .ok (.if_icmp .eq 9, 3) := by decide +kernel
theorem dX13_names_36 : decode cX13_names 36 = .ok (.iload_n 0, 1) := by decide +kernel
theorem dX13_names_37 : decode cX13_names 37 = .ok (.bipush 12, 2) := by decide +kernel
theorem dX13_names_39 : decode cX13_names 39 = .ok (.if_icmp .ne 7, 3) := by decide +kernel
theorem dX13_names_4 : decode cX13_names 4 = .ok (.iload_n 0, 1) := by decide +kernel
theorem dX13_names_42 : decode cX13_names 42 = .ok (.iconst 2, 1) := by decide +kernel
theorem dX13_names_43 : decode cX13_names 43 = .ok (.goto 4, 3) := by decide +kernel
theorem dX13_names_46 : decode cX13_names 46 = .ok (.iconst 1, 1) := by decide +kernel
theorem dX13_names_47 : decode cX13_names 47 = .ok (.ireturn, 1) := by decide +kernel
theorem dX13_names_5 : decode cX13_names 5 = .ok (.iconst 1, 1) := by decide +kernel
theorem dX13_names_6 : decode cX13_names 6 = .ok (.if_icmp .ne 7, 3) := by decide +kernel
theorem dX13_names_9 : decode cX13_names 9 = .ok (.iconst 0, 1) := by decide +kernel
set_option maxHeartbeats 4000000 in
set_option maxRecDepth 100000 in
theorem c_X13_names (l : Launch) (D : va_G) (T : Nat → ClassId) (x0 : Int32)  : Met l yX13_names wsX13_names ({ frames := 0, cells := 0, slots := 0, locals := 0 }) (pR [.int x0] D T []) (vp_Si (fun r => r = sp_names x0)) 0 0 (fun _ => False) := by
  refine Met.ofW (cc := cX13_names) (maxL := 1) (ret := (some .int)) (by decide) rfl ?_
  intro p e s m args below meth c s₁ B hml hv
  obtain ⟨rfl, hP, hE⟩ := hv
  have hx := B.exec
  have hb := B.bytes
  have hr := B.returns
  have hts := atoms_spec (ws := wsX13_names) B.pre
  have hown : s.vm.findClass RX13 = some m.cls := findClass_of_methodNamed B.named
  have hlocks := B.notSynchronized
  have hP : va_P D vwCl [] s.heap := hP
  have hl := lv_entry ([.int x0]) (n := 1) (Nat.le_of_ble_eq_true rfl)
  rw [lg_entry_eq]
  generalize (lg_sl ([.int x0]) ++ List.replicate (1 - (lg_sl ([.int x0])).length) Slot.unset).toArray = ls at hl ⊢
  have hl : lv_has ls 1 [(0, .int x0)] := hl
  refine lv_iload_n hx hb dX13_names_0 rfl (lv_at hl 0 rfl) ?_
  refine lv_if_eq (tgt := 9) hx hb dX13_names_1 (by decide) (fun c_1 => ?_) (fun c_1 => ?_)
  · rw [fa_eq] at c_1
    try rw [ti_0] at c_1
    refine lv_iconst (v := 0) hx hb dX13_names_9 (by decide) ?_
    refine lv_goto (tgt := 47) hx hb dX13_names_10 (by decide) ?_
    exact W.iret hx hb hr (fun t ht hW => ⟨_, rfl, (by first | decide | (unfold sp_names; (repeat' split) <;> first | rfl | (exfalso; omega))), ht⟩) (fun _ h => by cases h) dX13_names_47
  · rw [fa_eq] at c_1
    try rw [ti_0] at c_1
    refine lv_iload_n hx hb dX13_names_4 rfl (lv_at hl 0 rfl) ?_
    refine lv_iconst (v := 1) hx hb dX13_names_5 (by decide) ?_
    refine lv_icmp_ne (tgt := 13) hx hb dX13_names_6 (by decide) (fun c_2 => ?_) (fun c_2 => ?_)
    · rw [fa_eq] at c_2
      try rw [ti_1] at c_2
      refine lv_iload_n hx hb dX13_names_13 rfl (lv_at hl 0 rfl) ?_
      refine lv_iconst (v := 5) hx hb dX13_names_14 (by decide) ?_
      refine lv_icmp_eq (tgt := 42) hx hb dX13_names_15 (by decide) (fun c_3 => ?_) (fun c_3 => ?_)
      · rw [fa_eq] at c_3
        try rw [ti_5] at c_3
        refine lv_iconst (v := 2) hx hb dX13_names_42 (by decide) ?_
        refine lv_goto (tgt := 47) hx hb dX13_names_43 (by decide) ?_
        exact W.iret hx hb hr (fun t ht hW => ⟨_, rfl, (by first | decide | (unfold sp_names; (repeat' split) <;> first | rfl | (exfalso; omega))), ht⟩) (fun _ h => by cases h) dX13_names_47
      · rw [fa_eq] at c_3
        try rw [ti_5] at c_3
        refine lv_iload_n hx hb dX13_names_18 rfl (lv_at hl 0 rfl) ?_
        refine lv_bipush (v := 6) hx hb dX13_names_19 (by decide) ?_
        refine lv_icmp_eq (tgt := 42) hx hb dX13_names_21 (by decide) (fun c_4 => ?_) (fun c_4 => ?_)
        · rw [fa_eq] at c_4
          try rw [ti_6] at c_4
          refine lv_iconst (v := 2) hx hb dX13_names_42 (by decide) ?_
          refine lv_goto (tgt := 47) hx hb dX13_names_43 (by decide) ?_
          exact W.iret hx hb hr (fun t ht hW => ⟨_, rfl, (by first | decide | (unfold sp_names; (repeat' split) <;> first | rfl | (exfalso; omega))), ht⟩) (fun _ h => by cases h) dX13_names_47
        · rw [fa_eq] at c_4
          try rw [ti_6] at c_4
          refine lv_iload_n hx hb dX13_names_24 rfl (lv_at hl 0 rfl) ?_
          refine lv_bipush (v := 7) hx hb dX13_names_25 (by decide) ?_
          refine lv_icmp_eq (tgt := 42) hx hb dX13_names_27 (by decide) (fun c_5 => ?_) (fun c_5 => ?_)
          · rw [fa_eq] at c_5
            try rw [ti_7] at c_5
            refine lv_iconst (v := 2) hx hb dX13_names_42 (by decide) ?_
            refine lv_goto (tgt := 47) hx hb dX13_names_43 (by decide) ?_
            exact W.iret hx hb hr (fun t ht hW => ⟨_, rfl, (by first | decide | (unfold sp_names; (repeat' split) <;> first | rfl | (exfalso; omega))), ht⟩) (fun _ h => by cases h) dX13_names_47
          · rw [fa_eq] at c_5
            try rw [ti_7] at c_5
            refine lv_iload_n hx hb dX13_names_30 rfl (lv_at hl 0 rfl) ?_
            refine lv_bipush (v := 9) hx hb dX13_names_31 (by decide) ?_
            refine lv_icmp_eq (tgt := 42) hx hb dX13_names_33 (by decide) (fun c_6 => ?_) (fun c_6 => ?_)
            · rw [fa_eq] at c_6
              try rw [ti_9] at c_6
              refine lv_iconst (v := 2) hx hb dX13_names_42 (by decide) ?_
              refine lv_goto (tgt := 47) hx hb dX13_names_43 (by decide) ?_
              exact W.iret hx hb hr (fun t ht hW => ⟨_, rfl, (by first | decide | (unfold sp_names; (repeat' split) <;> first | rfl | (exfalso; omega))), ht⟩) (fun _ h => by cases h) dX13_names_47
            · rw [fa_eq] at c_6
              try rw [ti_9] at c_6
              refine lv_iload_n hx hb dX13_names_36 rfl (lv_at hl 0 rfl) ?_
              refine lv_bipush (v := 12) hx hb dX13_names_37 (by decide) ?_
              refine lv_icmp_ne (tgt := 46) hx hb dX13_names_39 (by decide) (fun c_7 => ?_) (fun c_7 => ?_)
              · rw [fa_eq] at c_7
                try rw [ti_12] at c_7
                refine lv_iconst (v := 1) hx hb dX13_names_46 (by decide) ?_
                exact W.iret hx hb hr (fun t ht hW => ⟨_, rfl, (by first | decide | (unfold sp_names; (repeat' split) <;> first | rfl | (exfalso; omega))), ht⟩) (fun _ h => by cases h) dX13_names_47
              · rw [fa_eq] at c_7
                try rw [ti_12] at c_7
                refine lv_iconst (v := 2) hx hb dX13_names_42 (by decide) ?_
                refine lv_goto (tgt := 47) hx hb dX13_names_43 (by decide) ?_
                exact W.iret hx hb hr (fun t ht hW => ⟨_, rfl, (by first | decide | (unfold sp_names; (repeat' split) <;> first | rfl | (exfalso; omega))), ht⟩) (fun _ h => by cases h) dX13_names_47
    · rw [fa_eq] at c_2
      try rw [ti_1] at c_2
      refine lv_iconst (v := 0) hx hb dX13_names_9 (by decide) ?_
      refine lv_goto (tgt := 47) hx hb dX13_names_10 (by decide) ?_
      exact W.iret hx hb hr (fun t ht hW => ⟨_, rfl, (by first | decide | (unfold sp_names; (repeat' split) <;> first | rfl | (exfalso; omega))), ht⟩) (fun _ h => by cases h) dX13_names_47
theorem dX13_isNumber_0 : decode cX13_isNumber 0 = .ok (.iload_n 0, 1) := by decide +kernel
theorem dX13_isNumber_1 : decode cX13_isNumber 1 = .ok (.iconst 3, 1) := by decide +kernel
theorem dX13_isNumber_10 : decode cX13_isNumber 10 = .ok (.ldc2_w 179, 3) := by decide +kernel
theorem dX13_isNumber_13 : decode cX13_isNumber 13 = .ok (.invokestatic 175, 3) := by decide +kernel
theorem dX13_isNumber_16 : decode cX13_isNumber 16 = .ok (.goto 50, 3) := by decide +kernel
theorem dX13_isNumber_19 : decode cX13_isNumber 19 = .ok (.iload_n 0, 1) := by decide +kernel
theorem dX13_isNumber_2 : decode cX13_isNumber 2 = .ok (.if_icmp .ne 17, 3) := by decide +kernel
theorem dX13_isNumber_20 : decode cX13_isNumber 20 = .ok (.bipush 8, 2) := by decide +kernel
theorem dX13_isNumber_22 : decode cX13_isNumber 22 = .ok (.if_icmp .ne 15, 3) := by decide +kernel
theorem dX13_isNumber_25 : decode cX13_isNumber 25 = .ok (.iload_n 1, 1) := by decide +kernel
theorem dX13_isNumber_26 : decode cX13_isNumber 26 = .ok (.i2l, 1) := by decide +kernel
theorem dX13_isNumber_27 : decode cX13_isNumber 27 = .ok (.lconst 0, 1) := by decide +kernel
theorem dX13_isNumber_28 : decode cX13_isNumber 28 = .ok (.ldc2_w 186, 3) := by decide +kernel
theorem dX13_isNumber_31 : decode cX13_isNumber 31 = .ok (.invokestatic 175, 3) := by decide +kernel
theorem dX13_isNumber_34 : decode cX13_isNumber 34 = .ok (.goto 32, 3) := by decide +kernel
theorem dX13_isNumber_37 : decode cX13_isNumber 37 = .ok (.iload_n 0, 1) := by decide +kernel
theorem dX13_isNumber_38 : decode cX13_isNumber 38 = .ok (.bipush 12, 2) := by decide +kernel
theorem dX13_isNumber_40 : decode cX13_isNumber 40 = .ok (.if_icmp .ne 17, 3) := by decide +kernel
theorem dX13_isNumber_43 : decode cX13_isNumber 43 = .ok (.iload_n 1, 1) := by decide +kernel
theorem dX13_isNumber_44 : decode cX13_isNumber 44 = .ok (.i2l, 1) := by decide +kernel
theorem dX13_isNumber_45 : decode cX13_isNumber 45 = .ok (.ldc2_w 171, 3) := by decide +kernel
theorem dX13_isNumber_48 : decode cX13_isNumber 48 = .ok (.ldc2_w 173, 3) := by decide +kernel
theorem dX13_isNumber_5 : decode cX13_isNumber 5 = .ok (.iload_n 1, 1) := by decide +kernel
theorem dX13_isNumber_51 : decode cX13_isNumber 51 = .ok (.invokestatic 175, 3) := by decide +kernel
theorem dX13_isNumber_54 : decode cX13_isNumber 54 = .ok (.goto 12, 3) := by decide +kernel
theorem dX13_isNumber_57 : decode cX13_isNumber 57 = .ok (.iload_n 1, 1) := by decide +kernel
theorem dX13_isNumber_58 : decode cX13_isNumber 58 = .ok (.ifCond .ne 7, 3) := by decide +kernel
theorem dX13_isNumber_6 : decode cX13_isNumber 6 = .ok (.i2l, 1) := by decide +kernel
theorem dX13_isNumber_61 : decode cX13_isNumber 61 = .ok (.iconst 1, 1) := by decide +kernel
theorem dX13_isNumber_62 : decode cX13_isNumber 62 = .ok (.goto 4, 3) := by decide +kernel
theorem dX13_isNumber_65 : decode cX13_isNumber 65 = .ok (.iconst 0, 1) := by decide +kernel
theorem dX13_isNumber_66 : decode cX13_isNumber 66 = .ok (.ireturn, 1) := by decide +kernel
theorem dX13_isNumber_7 : decode cX13_isNumber 7 = .ok (.ldc2_w 208, 3) := by decide +kernel
set_option maxRecDepth 20000 in
theorem ggX13_isNumber_X13_in : GoodIn wsX13_isNumber wsX13_in := goodIn_r _ [9] (by decide +kernel) (by decide +kernel)
set_option maxRecDepth 20000 in
theorem gX13_isNumber_X13_in : GoodIn wsX13_isNumber (va_wsS RX13 175 yX13_in wsX13_in) := goodIn_app (goodIn_of _ (by decide +kernel)) ggX13_isNumber_X13_in
set_option maxHeartbeats 4000000 in
set_option maxRecDepth 100000 in
theorem c_X13_isNumber (l : Launch) (D : va_G) (T : Nat → ClassId) (x0 : Int32) (x1 : Int32)  : Met l yX13_isNumber wsX13_isNumber ({ frames := 1, cells := 0, slots := 0, locals := 25 }) (pR [.int x0, .int x1] D T []) (vp_Si (fun r => r = if (x0.toInt = 3 → -9 ≤ x1.toInt ∧ x1.toInt ≤ 9) ∧ (x0.toInt = 8 → 0 ≤ x1.toInt ∧ x1.toInt ≤ 6) ∧ (x0.toInt = 12 → -99 ≤ x1.toInt ∧ x1.toInt ≤ 99) ∧ (x0.toInt ≠ 3 ∧ x0.toInt ≠ 8 ∧ x0.toInt ≠ 12 → x1.toInt = 0) then 1 else 0)) 0 0 (fun _ => False) := by
  refine Met.ofW (cc := cX13_isNumber) (maxL := 2) (ret := (some .boolean)) (by decide) rfl ?_
  intro p e s m args below meth c s₁ B hml hv
  obtain ⟨rfl, hP, hE⟩ := hv
  have hx := B.exec
  have hb := B.bytes
  have hr := B.returns
  have hts := atoms_spec (ws := wsX13_isNumber) B.pre
  have hown : s.vm.findClass RX13 = some m.cls := findClass_of_methodNamed B.named
  have hlocks := B.notSynchronized
  have hP : va_P D vwCl [] s.heap := hP
  have hl := lv_entry ([.int x0, .int x1]) (n := 2) (Nat.le_of_ble_eq_true rfl)
  rw [lg_entry_eq]
  generalize (lg_sl ([.int x0, .int x1]) ++ List.replicate (2 - (lg_sl ([.int x0, .int x1])).length) Slot.unset).toArray = ls at hl ⊢
  have hl : lv_has ls 2 [(0, .int x0), (1, .int x1)] := hl
  refine lv_iload_n hx hb dX13_isNumber_0 rfl (lv_at hl 0 rfl) ?_
  refine lv_iconst (v := 3) hx hb dX13_isNumber_1 (by decide) ?_
  refine lv_icmp_ne (tgt := 19) hx hb dX13_isNumber_2 (by decide) (fun c_1 => ?_) (fun c_1 => ?_)
  · rw [fa_eq] at c_1
    try rw [ti_3] at c_1
    refine lv_iload_n hx hb dX13_isNumber_19 rfl (lv_at hl 0 rfl) ?_
    refine lv_bipush (v := 8) hx hb dX13_isNumber_20 (by decide) ?_
    refine lv_icmp_ne (tgt := 37) hx hb dX13_isNumber_22 (by decide) (fun c_2 => ?_) (fun c_2 => ?_)
    · rw [fa_eq] at c_2
      try rw [ti_8] at c_2
      refine lv_iload_n hx hb dX13_isNumber_37 rfl (lv_at hl 0 rfl) ?_
      refine lv_bipush (v := 12) hx hb dX13_isNumber_38 (by decide) ?_
      refine lv_icmp_ne (tgt := 57) hx hb dX13_isNumber_40 (by decide) (fun c_3 => ?_) (fun c_3 => ?_)
      · rw [fa_eq] at c_3
        try rw [ti_12] at c_3
        refine lv_iload_n hx hb dX13_isNumber_57 rfl (lv_at hl 1 rfl) ?_
        refine lv_if_ne (tgt := 65) hx hb dX13_isNumber_58 (by decide) (fun c_4 => ?_) (fun c_4 => ?_)
        · rw [fa_eq] at c_4
          try rw [ti_0] at c_4
          refine lv_iconst (v := 0) hx hb dX13_isNumber_65 (by decide) ?_
          exact W.zret hx hb hr rfl (fun t ht hW => ⟨_, rfl, (by first | exact (if_pos (by omega)).symm | exact (if_neg (by omega)).symm), ht⟩) (fun _ h => by cases h) dX13_isNumber_66
        · rw [fa_eq] at c_4
          try rw [ti_0] at c_4
          refine lv_iconst (v := 1) hx hb dX13_isNumber_61 (by decide) ?_
          refine lv_goto (tgt := 66) hx hb dX13_isNumber_62 (by decide) ?_
          exact W.zret hx hb hr rfl (fun t ht hW => ⟨_, rfl, (by first | exact (if_pos (by omega)).symm | exact (if_neg (by omega)).symm), ht⟩) (fun _ h => by cases h) dX13_isNumber_66
      · rw [fa_eq] at c_3
        try rw [ti_12] at c_3
        refine lv_iload_n hx hb dX13_isNumber_43 rfl (lv_at hl 1 rfl) ?_
        refine lv_i2l hx hb dX13_isNumber_44 rfl ?_
        refine lv_ldc2 (v := (-99)) hx hb hown (hts (.constantLong RX13 171 (-99)) (List.mem_of_getElem? (i := 4) rfl)) dX13_isNumber_45 ?_
        refine lv_ldc2 (v := 99) hx hb hown (hts (.constantLong RX13 173 (99)) (List.mem_of_getElem? (i := 5) rfl)) dX13_isNumber_48 ?_
        refine vp_callSi (W.runS (As := [.long (x1.toInt64), .long (-99), .long 99]) (rest := []) ⟨hx, hb, hml, hown, hts⟩ (c_X13_in l D T (x1.toInt64) (-99) 99 x1.toInt (-99) 99 ((Int32.toInt_toInt64 _).trans rfl) (by decide) (by decide)) (va_cwS 3 hts gX13_isNumber_X13_in rfl rfl rfl (by decide +kernel) ⟨Nat.le_of_ble_eq_true rfl, Nat.le_of_ble_eq_true rfl⟩) (pR_S hP hE [] rfl) rfl rfl hl.1 rfl (lv_room (Nat.le_of_ble_eq_true rfl)) dX13_isNumber_51 ⟨Nat.le_of_ble_eq_true rfl, Nat.le_of_ble_eq_true rfl⟩) (fun r_5 hr_5 => ?_)
        rcases bool_post hr_5 with ⟨c_6, rfl⟩ | ⟨c_6, rfl⟩
        · refine lv_goto (tgt := 66) hx hb dX13_isNumber_54 (by decide) ?_
          exact W.zret hx hb hr rfl (fun t ht hW => ⟨_, rfl, (by first | exact (if_pos (by omega)).symm | exact (if_neg (by omega)).symm), ht⟩) (fun _ h => by cases h) dX13_isNumber_66
        · refine lv_goto (tgt := 66) hx hb dX13_isNumber_54 (by decide) ?_
          exact W.zret hx hb hr rfl (fun t ht hW => ⟨_, rfl, (by first | exact (if_pos (by omega)).symm | exact (if_neg (by omega)).symm), ht⟩) (fun _ h => by cases h) dX13_isNumber_66
    · rw [fa_eq] at c_2
      try rw [ti_8] at c_2
      refine lv_iload_n hx hb dX13_isNumber_25 rfl (lv_at hl 1 rfl) ?_
      refine lv_i2l hx hb dX13_isNumber_26 rfl ?_
      refine lv_lconst (v := 0) hx hb dX13_isNumber_27 (by decide) ?_
      refine lv_ldc2 (v := 6) hx hb hown (hts (.constantLong RX13 186 (6)) (List.mem_of_getElem? (i := 3) rfl)) dX13_isNumber_28 ?_
      refine vp_callSi (W.runS (As := [.long (x1.toInt64), .long 0, .long 6]) (rest := []) ⟨hx, hb, hml, hown, hts⟩ (c_X13_in l D T (x1.toInt64) 0 6 x1.toInt 0 6 ((Int32.toInt_toInt64 _).trans rfl) (by decide) (by decide)) (va_cwS 3 hts gX13_isNumber_X13_in rfl rfl rfl (by decide +kernel) ⟨Nat.le_of_ble_eq_true rfl, Nat.le_of_ble_eq_true rfl⟩) (pR_S hP hE [] rfl) rfl rfl hl.1 rfl (lv_room (Nat.le_of_ble_eq_true rfl)) dX13_isNumber_31 ⟨Nat.le_of_ble_eq_true rfl, Nat.le_of_ble_eq_true rfl⟩) (fun r_7 hr_7 => ?_)
      rcases bool_post hr_7 with ⟨c_8, rfl⟩ | ⟨c_8, rfl⟩
      · refine lv_goto (tgt := 66) hx hb dX13_isNumber_34 (by decide) ?_
        exact W.zret hx hb hr rfl (fun t ht hW => ⟨_, rfl, (by first | exact (if_pos (by omega)).symm | exact (if_neg (by omega)).symm), ht⟩) (fun _ h => by cases h) dX13_isNumber_66
      · refine lv_goto (tgt := 66) hx hb dX13_isNumber_34 (by decide) ?_
        exact W.zret hx hb hr rfl (fun t ht hW => ⟨_, rfl, (by first | exact (if_pos (by omega)).symm | exact (if_neg (by omega)).symm), ht⟩) (fun _ h => by cases h) dX13_isNumber_66
  · rw [fa_eq] at c_1
    try rw [ti_3] at c_1
    refine lv_iload_n hx hb dX13_isNumber_5 rfl (lv_at hl 1 rfl) ?_
    refine lv_i2l hx hb dX13_isNumber_6 rfl ?_
    refine lv_ldc2 (v := (-9)) hx hb hown (hts (.constantLong RX13 208 (-9)) (List.mem_of_getElem? (i := 1) rfl)) dX13_isNumber_7 ?_
    refine lv_ldc2 (v := 9) hx hb hown (hts (.constantLong RX13 179 (9)) (List.mem_of_getElem? (i := 2) rfl)) dX13_isNumber_10 ?_
    refine vp_callSi (W.runS (As := [.long (x1.toInt64), .long (-9), .long 9]) (rest := []) ⟨hx, hb, hml, hown, hts⟩ (c_X13_in l D T (x1.toInt64) (-9) 9 x1.toInt (-9) 9 ((Int32.toInt_toInt64 _).trans rfl) (by decide) (by decide)) (va_cwS 3 hts gX13_isNumber_X13_in rfl rfl rfl (by decide +kernel) ⟨Nat.le_of_ble_eq_true rfl, Nat.le_of_ble_eq_true rfl⟩) (pR_S hP hE [] rfl) rfl rfl hl.1 rfl (lv_room (Nat.le_of_ble_eq_true rfl)) dX13_isNumber_13 ⟨Nat.le_of_ble_eq_true rfl, Nat.le_of_ble_eq_true rfl⟩) (fun r_9 hr_9 => ?_)
    rcases bool_post hr_9 with ⟨c_10, rfl⟩ | ⟨c_10, rfl⟩
    · refine lv_goto (tgt := 66) hx hb dX13_isNumber_16 (by decide) ?_
      exact W.zret hx hb hr rfl (fun t ht hW => ⟨_, rfl, (by first | exact (if_pos (by omega)).symm | exact (if_neg (by omega)).symm), ht⟩) (fun _ h => by cases h) dX13_isNumber_66
    · refine lv_goto (tgt := 66) hx hb dX13_isNumber_16 (by decide) ?_
      exact W.zret hx hb hr rfl (fun t ht hW => ⟨_, rfl, (by first | exact (if_pos (by omega)).symm | exact (if_neg (by omega)).symm), ht⟩) (fun _ h => by cases h) dX13_isNumber_66
theorem dX13_areNamed_0 : decode cX13_areNamed 0 = .ok (.iload_n 0, 1) := by decide +kernel
theorem dX13_areNamed_1 : decode cX13_areNamed 1 = .ok (.invokestatic 210, 3) := by decide +kernel
theorem dX13_areNamed_10 : decode cX13_areNamed 10 = .ok (.iload_n 3, 1) := by decide +kernel
theorem dX13_areNamed_11 : decode cX13_areNamed 11 = .ok (.iconst 1, 1) := by decide +kernel
theorem dX13_areNamed_12 : decode cX13_areNamed 12 = .ok (.isub, 1) := by decide +kernel
theorem dX13_areNamed_13 : decode cX13_areNamed 13 = .ok (.i2l, 1) := by decide +kernel
theorem dX13_areNamed_14 : decode cX13_areNamed 14 = .ok (.invokestatic 175, 3) := by decide +kernel
theorem dX13_areNamed_17 : decode cX13_areNamed 17 = .ok (.ifCond .eq 42, 3) := by decide +kernel
theorem dX13_areNamed_20 : decode cX13_areNamed 20 = .ok (.goto 7, 3) := by decide +kernel
theorem dX13_areNamed_23 : decode cX13_areNamed 23 = .ok (.iload_n 1, 1) := by decide +kernel
theorem dX13_areNamed_24 : decode cX13_areNamed 24 = .ok (.ifCond .ne 35, 3) := by decide +kernel
theorem dX13_areNamed_27 : decode cX13_areNamed 27 = .ok (.iload_n 0, 1) := by decide +kernel
theorem dX13_areNamed_28 : decode cX13_areNamed 28 = .ok (.invokestatic 210, 3) := by decide +kernel
theorem dX13_areNamed_31 : decode cX13_areNamed 31 = .ok (.iconst 1, 1) := by decide +kernel
theorem dX13_areNamed_32 : decode cX13_areNamed 32 = .ok (.if_icmp .le 19, 3) := by decide +kernel
theorem dX13_areNamed_35 : decode cX13_areNamed 35 = .ok (.iload_n 2, 1) := by decide +kernel
theorem dX13_areNamed_36 : decode cX13_areNamed 36 = .ok (.i2l, 1) := by decide +kernel
theorem dX13_areNamed_37 : decode cX13_areNamed 37 = .ok (.lconst 0, 1) := by decide +kernel
theorem dX13_areNamed_38 : decode cX13_areNamed 38 = .ok (.iload_n 3, 1) := by decide +kernel
theorem dX13_areNamed_39 : decode cX13_areNamed 39 = .ok (.iconst 1, 1) := by decide +kernel
theorem dX13_areNamed_4 : decode cX13_areNamed 4 = .ok (.ifCond .le 19, 3) := by decide +kernel
theorem dX13_areNamed_40 : decode cX13_areNamed 40 = .ok (.isub, 1) := by decide +kernel
theorem dX13_areNamed_41 : decode cX13_areNamed 41 = .ok (.i2l, 1) := by decide +kernel
theorem dX13_areNamed_42 : decode cX13_areNamed 42 = .ok (.invokestatic 175, 3) := by decide +kernel
theorem dX13_areNamed_45 : decode cX13_areNamed 45 = .ok (.ifCond .eq 14, 3) := by decide +kernel
theorem dX13_areNamed_48 : decode cX13_areNamed 48 = .ok (.goto 7, 3) := by decide +kernel
theorem dX13_areNamed_51 : decode cX13_areNamed 51 = .ok (.iload_n 2, 1) := by decide +kernel
theorem dX13_areNamed_52 : decode cX13_areNamed 52 = .ok (.ifCond .ne 7, 3) := by decide +kernel
theorem dX13_areNamed_55 : decode cX13_areNamed 55 = .ok (.iconst 1, 1) := by decide +kernel
theorem dX13_areNamed_56 : decode cX13_areNamed 56 = .ok (.goto 4, 3) := by decide +kernel
theorem dX13_areNamed_59 : decode cX13_areNamed 59 = .ok (.iconst 0, 1) := by decide +kernel
theorem dX13_areNamed_60 : decode cX13_areNamed 60 = .ok (.ireturn, 1) := by decide +kernel
theorem dX13_areNamed_7 : decode cX13_areNamed 7 = .ok (.iload_n 1, 1) := by decide +kernel
theorem dX13_areNamed_8 : decode cX13_areNamed 8 = .ok (.i2l, 1) := by decide +kernel
theorem dX13_areNamed_9 : decode cX13_areNamed 9 = .ok (.lconst 0, 1) := by decide +kernel
set_option maxRecDepth 20000 in
theorem ggX13_areNamed_X13_in : GoodIn wsX13_areNamed wsX13_in := goodIn_r _ [7] (by decide +kernel) (by decide +kernel)
set_option maxRecDepth 20000 in
theorem ggX13_areNamed_X13_names : GoodIn wsX13_areNamed wsX13_names := goodIn_r _ [4] (by decide +kernel) (by decide +kernel)
set_option maxRecDepth 20000 in
theorem gX13_areNamed_X13_in : GoodIn wsX13_areNamed (va_wsS RX13 175 yX13_in wsX13_in) := goodIn_app (goodIn_of _ (by decide +kernel)) ggX13_areNamed_X13_in
set_option maxRecDepth 20000 in
theorem gX13_areNamed_X13_names : GoodIn wsX13_areNamed (va_wsS RX13 210 yX13_names wsX13_names) := goodIn_app (goodIn_of _ (by decide +kernel)) ggX13_areNamed_X13_names
set_option maxHeartbeats 4000000 in
set_option maxRecDepth 100000 in
theorem c_X13_areNamed (l : Launch) (D : va_G) (T : Nat → ClassId) (x0 : Int32) (x1 : Int32) (x2 : Int32) (x3 : Int32) (HI : Int) (hHI : (x3 - 1).toInt = HI) : Met l yX13_areNamed wsX13_areNamed ({ frames := 1, cells := 0, slots := 0, locals := 25 }) (pR [.int x0, .int x1, .int x2, .int x3] D T []) (vp_Si (fun r => r = if ((x0.toInt = 0 ∨ x0.toInt = 1) → x1.toInt = 0) ∧ (¬ (x0.toInt = 0 ∨ x0.toInt = 1) → 0 ≤ x1.toInt ∧ x1.toInt ≤ HI) ∧ ((x0.toInt = 5 ∨ x0.toInt = 6 ∨ x0.toInt = 7 ∨ x0.toInt = 9 ∨ x0.toInt = 12) → 0 ≤ x2.toInt ∧ x2.toInt ≤ HI) ∧ (¬ (x0.toInt = 5 ∨ x0.toInt = 6 ∨ x0.toInt = 7 ∨ x0.toInt = 9 ∨ x0.toInt = 12) → x2.toInt = 0) then 1 else 0)) 0 0 (fun _ => False) := by
  refine Met.ofW (cc := cX13_areNamed) (maxL := 4) (ret := (some .boolean)) (by decide) rfl ?_
  intro p e s m args below meth c s₁ B hml hv
  obtain ⟨rfl, hP, hE⟩ := hv
  have hx := B.exec
  have hb := B.bytes
  have hr := B.returns
  have hts := atoms_spec (ws := wsX13_areNamed) B.pre
  have hown : s.vm.findClass RX13 = some m.cls := findClass_of_methodNamed B.named
  have hlocks := B.notSynchronized
  have hP : va_P D vwCl [] s.heap := hP
  have hl := lv_entry ([.int x0, .int x1, .int x2, .int x3]) (n := 4) (Nat.le_of_ble_eq_true rfl)
  rw [lg_entry_eq]
  generalize (lg_sl ([.int x0, .int x1, .int x2, .int x3]) ++ List.replicate (4 - (lg_sl ([.int x0, .int x1, .int x2, .int x3])).length) Slot.unset).toArray = ls at hl ⊢
  have hl : lv_has ls 4 [(0, .int x0), (1, .int x1), (2, .int x2), (3, .int x3)] := hl
  refine lv_iload_n hx hb dX13_areNamed_0 rfl (lv_at hl 0 rfl) ?_
  refine vp_callSi (W.runS (As := [.int x0]) (rest := []) ⟨hx, hb, hml, hown, hts⟩ (c_X13_names l D T x0) (va_cwS 1 hts gX13_areNamed_X13_names rfl rfl rfl (by decide +kernel) ⟨Nat.le_of_ble_eq_true rfl, Nat.le_of_ble_eq_true rfl⟩) (pR_S hP hE [] rfl) rfl rfl hl.1 rfl (lv_room (Nat.le_of_ble_eq_true rfl)) dX13_areNamed_1 ⟨Nat.le_of_ble_eq_true rfl, Nat.le_of_ble_eq_true rfl⟩) (fun r_1 hr_1 => ?_)
  rcases names_post hr_1 with ⟨c_2, rfl⟩ | ⟨c_2, rfl⟩ | ⟨c_2, rfl⟩
  · refine lv_if_le (tgt := 23) hx hb dX13_areNamed_4 (by decide) (fun _ => ?_) (fun c9 => absurd c9 (by decide))
    refine lv_iload_n hx hb dX13_areNamed_23 rfl (lv_at hl 1 rfl) ?_
    refine lv_if_ne (tgt := 59) hx hb dX13_areNamed_24 (by decide) (fun c_3 => ?_) (fun c_3 => ?_)
    · rw [fa_eq] at c_3
      try rw [ti_0] at c_3
      refine lv_iconst (v := 0) hx hb dX13_areNamed_59 (by decide) ?_
      exact W.zret hx hb hr rfl (fun t ht hW => ⟨_, rfl, (by first | exact (if_pos (by omega)).symm | exact (if_neg (by omega)).symm), ht⟩) (fun _ h => by cases h) dX13_areNamed_60
    · rw [fa_eq] at c_3
      try rw [ti_0] at c_3
      refine lv_iload_n hx hb dX13_areNamed_27 rfl (lv_at hl 0 rfl) ?_
      refine vp_callSi (W.runS (As := [.int x0]) (rest := []) ⟨hx, hb, hml, hown, hts⟩ (c_X13_names l D T x0) (va_cwS 1 hts gX13_areNamed_X13_names rfl rfl rfl (by decide +kernel) ⟨Nat.le_of_ble_eq_true rfl, Nat.le_of_ble_eq_true rfl⟩) (pR_S hP hE [] rfl) rfl rfl hl.1 rfl (lv_room (Nat.le_of_ble_eq_true rfl)) dX13_areNamed_28 ⟨Nat.le_of_ble_eq_true rfl, Nat.le_of_ble_eq_true rfl⟩) (fun r_4 hr_4 => ?_)
      rcases names_post hr_4 with ⟨c_5, rfl⟩ | ⟨c_5, rfl⟩ | ⟨c_5, rfl⟩
      · refine lv_iconst (v := 1) hx hb dX13_areNamed_31 (by decide) ?_
        refine lv_icmp_le (tgt := 51) hx hb dX13_areNamed_32 (by decide) (fun _ => ?_) (fun c9 => absurd c9 (by decide))
        refine lv_iload_n hx hb dX13_areNamed_51 rfl (lv_at hl 2 rfl) ?_
        refine lv_if_ne (tgt := 59) hx hb dX13_areNamed_52 (by decide) (fun c_6 => ?_) (fun c_6 => ?_)
        · rw [fa_eq] at c_6
          try rw [ti_0] at c_6
          refine lv_iconst (v := 0) hx hb dX13_areNamed_59 (by decide) ?_
          exact W.zret hx hb hr rfl (fun t ht hW => ⟨_, rfl, (by first | exact (if_pos (by omega)).symm | exact (if_neg (by omega)).symm), ht⟩) (fun _ h => by cases h) dX13_areNamed_60
        · rw [fa_eq] at c_6
          try rw [ti_0] at c_6
          refine lv_iconst (v := 1) hx hb dX13_areNamed_55 (by decide) ?_
          refine lv_goto (tgt := 60) hx hb dX13_areNamed_56 (by decide) ?_
          exact W.zret hx hb hr rfl (fun t ht hW => ⟨_, rfl, (by first | exact (if_pos (by omega)).symm | exact (if_neg (by omega)).symm), ht⟩) (fun _ h => by cases h) dX13_areNamed_60
      · refine lv_iconst (v := 1) hx hb dX13_areNamed_31 (by decide) ?_
        refine lv_icmp_le (tgt := 51) hx hb dX13_areNamed_32 (by decide) (fun c9 => absurd c9 (by decide)) (fun _ => ?_)
        refine lv_iload_n hx hb dX13_areNamed_35 rfl (lv_at hl 2 rfl) ?_
        refine lv_i2l hx hb dX13_areNamed_36 rfl ?_
        refine lv_lconst (v := 0) hx hb dX13_areNamed_37 (by decide) ?_
        refine lv_iload_n hx hb dX13_areNamed_38 rfl (lv_at hl 3 rfl) ?_
        refine lv_iconst (v := 1) hx hb dX13_areNamed_39 (by decide) ?_
        refine lv_isub hx hb dX13_areNamed_40 ?_
        refine lv_i2l hx hb dX13_areNamed_41 rfl ?_
        refine vp_callSi (W.runS (As := [.long (x2.toInt64), .long 0, .long ((x3 - 1).toInt64)]) (rest := []) ⟨hx, hb, hml, hown, hts⟩ (c_X13_in l D T (x2.toInt64) 0 ((x3 - 1).toInt64) x2.toInt 0 ((x3 - 1)).toInt ((Int32.toInt_toInt64 _).trans rfl) (by decide) ((Int32.toInt_toInt64 _).trans rfl)) (va_cwS 3 hts gX13_areNamed_X13_in rfl rfl rfl (by decide +kernel) ⟨Nat.le_of_ble_eq_true rfl, Nat.le_of_ble_eq_true rfl⟩) (pR_S hP hE [] rfl) rfl rfl hl.1 rfl (lv_room (Nat.le_of_ble_eq_true rfl)) dX13_areNamed_42 ⟨Nat.le_of_ble_eq_true rfl, Nat.le_of_ble_eq_true rfl⟩) (fun r_7 hr_7 => ?_)
        rcases bool_post hr_7 with ⟨c_8, rfl⟩ | ⟨c_8, rfl⟩
        · refine lv_if_eq (tgt := 59) hx hb dX13_areNamed_45 (by decide) (fun c9 => absurd c9 (by decide)) (fun _ => ?_)
          refine lv_goto (tgt := 55) hx hb dX13_areNamed_48 (by decide) ?_
          refine lv_iconst (v := 1) hx hb dX13_areNamed_55 (by decide) ?_
          refine lv_goto (tgt := 60) hx hb dX13_areNamed_56 (by decide) ?_
          exact W.zret hx hb hr rfl (fun t ht hW => ⟨_, rfl, (by first | exact (if_pos (by omega)).symm | exact (if_neg (by omega)).symm), ht⟩) (fun _ h => by cases h) dX13_areNamed_60
        · refine lv_if_eq (tgt := 59) hx hb dX13_areNamed_45 (by decide) (fun _ => ?_) (fun c9 => absurd c9 (by decide))
          refine lv_iconst (v := 0) hx hb dX13_areNamed_59 (by decide) ?_
          exact W.zret hx hb hr rfl (fun t ht hW => ⟨_, rfl, (by first | exact (if_pos (by omega)).symm | exact (if_neg (by omega)).symm), ht⟩) (fun _ h => by cases h) dX13_areNamed_60
      · refine lv_iconst (v := 1) hx hb dX13_areNamed_31 (by decide) ?_
        refine lv_icmp_le (tgt := 51) hx hb dX13_areNamed_32 (by decide) (fun _ => ?_) (fun c9 => absurd c9 (by decide))
        refine lv_iload_n hx hb dX13_areNamed_51 rfl (lv_at hl 2 rfl) ?_
        refine lv_if_ne (tgt := 59) hx hb dX13_areNamed_52 (by decide) (fun c_9 => ?_) (fun c_9 => ?_)
        · rw [fa_eq] at c_9
          try rw [ti_0] at c_9
          refine lv_iconst (v := 0) hx hb dX13_areNamed_59 (by decide) ?_
          exact W.zret hx hb hr rfl (fun t ht hW => ⟨_, rfl, (by first | exact (if_pos (by omega)).symm | exact (if_neg (by omega)).symm), ht⟩) (fun _ h => by cases h) dX13_areNamed_60
        · rw [fa_eq] at c_9
          try rw [ti_0] at c_9
          refine lv_iconst (v := 1) hx hb dX13_areNamed_55 (by decide) ?_
          refine lv_goto (tgt := 60) hx hb dX13_areNamed_56 (by decide) ?_
          exact W.zret hx hb hr rfl (fun t ht hW => ⟨_, rfl, (by first | exact (if_pos (by omega)).symm | exact (if_neg (by omega)).symm), ht⟩) (fun _ h => by cases h) dX13_areNamed_60
  · refine lv_if_le (tgt := 23) hx hb dX13_areNamed_4 (by decide) (fun c9 => absurd c9 (by decide)) (fun _ => ?_)
    refine lv_iload_n hx hb dX13_areNamed_7 rfl (lv_at hl 1 rfl) ?_
    refine lv_i2l hx hb dX13_areNamed_8 rfl ?_
    refine lv_lconst (v := 0) hx hb dX13_areNamed_9 (by decide) ?_
    refine lv_iload_n hx hb dX13_areNamed_10 rfl (lv_at hl 3 rfl) ?_
    refine lv_iconst (v := 1) hx hb dX13_areNamed_11 (by decide) ?_
    refine lv_isub hx hb dX13_areNamed_12 ?_
    refine lv_i2l hx hb dX13_areNamed_13 rfl ?_
    refine vp_callSi (W.runS (As := [.long (x1.toInt64), .long 0, .long ((x3 - 1).toInt64)]) (rest := []) ⟨hx, hb, hml, hown, hts⟩ (c_X13_in l D T (x1.toInt64) 0 ((x3 - 1).toInt64) x1.toInt 0 ((x3 - 1)).toInt ((Int32.toInt_toInt64 _).trans rfl) (by decide) ((Int32.toInt_toInt64 _).trans rfl)) (va_cwS 3 hts gX13_areNamed_X13_in rfl rfl rfl (by decide +kernel) ⟨Nat.le_of_ble_eq_true rfl, Nat.le_of_ble_eq_true rfl⟩) (pR_S hP hE [] rfl) rfl rfl hl.1 rfl (lv_room (Nat.le_of_ble_eq_true rfl)) dX13_areNamed_14 ⟨Nat.le_of_ble_eq_true rfl, Nat.le_of_ble_eq_true rfl⟩) (fun r_10 hr_10 => ?_)
    rcases bool_post hr_10 with ⟨c_11, rfl⟩ | ⟨c_11, rfl⟩
    · refine lv_if_eq (tgt := 59) hx hb dX13_areNamed_17 (by decide) (fun c9 => absurd c9 (by decide)) (fun _ => ?_)
      refine lv_goto (tgt := 27) hx hb dX13_areNamed_20 (by decide) ?_
      refine lv_iload_n hx hb dX13_areNamed_27 rfl (lv_at hl 0 rfl) ?_
      refine vp_callSi (W.runS (As := [.int x0]) (rest := []) ⟨hx, hb, hml, hown, hts⟩ (c_X13_names l D T x0) (va_cwS 1 hts gX13_areNamed_X13_names rfl rfl rfl (by decide +kernel) ⟨Nat.le_of_ble_eq_true rfl, Nat.le_of_ble_eq_true rfl⟩) (pR_S hP hE [] rfl) rfl rfl hl.1 rfl (lv_room (Nat.le_of_ble_eq_true rfl)) dX13_areNamed_28 ⟨Nat.le_of_ble_eq_true rfl, Nat.le_of_ble_eq_true rfl⟩) (fun r_12 hr_12 => ?_)
      rcases names_post hr_12 with ⟨c_13, rfl⟩ | ⟨c_13, rfl⟩ | ⟨c_13, rfl⟩
      · refine lv_iconst (v := 1) hx hb dX13_areNamed_31 (by decide) ?_
        refine lv_icmp_le (tgt := 51) hx hb dX13_areNamed_32 (by decide) (fun _ => ?_) (fun c9 => absurd c9 (by decide))
        refine lv_iload_n hx hb dX13_areNamed_51 rfl (lv_at hl 2 rfl) ?_
        refine lv_if_ne (tgt := 59) hx hb dX13_areNamed_52 (by decide) (fun c_14 => ?_) (fun c_14 => ?_)
        · rw [fa_eq] at c_14
          try rw [ti_0] at c_14
          refine lv_iconst (v := 0) hx hb dX13_areNamed_59 (by decide) ?_
          exact W.zret hx hb hr rfl (fun t ht hW => ⟨_, rfl, (by first | exact (if_pos (by omega)).symm | exact (if_neg (by omega)).symm), ht⟩) (fun _ h => by cases h) dX13_areNamed_60
        · rw [fa_eq] at c_14
          try rw [ti_0] at c_14
          refine lv_iconst (v := 1) hx hb dX13_areNamed_55 (by decide) ?_
          refine lv_goto (tgt := 60) hx hb dX13_areNamed_56 (by decide) ?_
          exact W.zret hx hb hr rfl (fun t ht hW => ⟨_, rfl, (by first | exact (if_pos (by omega)).symm | exact (if_neg (by omega)).symm), ht⟩) (fun _ h => by cases h) dX13_areNamed_60
      · refine lv_iconst (v := 1) hx hb dX13_areNamed_31 (by decide) ?_
        refine lv_icmp_le (tgt := 51) hx hb dX13_areNamed_32 (by decide) (fun c9 => absurd c9 (by decide)) (fun _ => ?_)
        refine lv_iload_n hx hb dX13_areNamed_35 rfl (lv_at hl 2 rfl) ?_
        refine lv_i2l hx hb dX13_areNamed_36 rfl ?_
        refine lv_lconst (v := 0) hx hb dX13_areNamed_37 (by decide) ?_
        refine lv_iload_n hx hb dX13_areNamed_38 rfl (lv_at hl 3 rfl) ?_
        refine lv_iconst (v := 1) hx hb dX13_areNamed_39 (by decide) ?_
        refine lv_isub hx hb dX13_areNamed_40 ?_
        refine lv_i2l hx hb dX13_areNamed_41 rfl ?_
        refine vp_callSi (W.runS (As := [.long (x2.toInt64), .long 0, .long ((x3 - 1).toInt64)]) (rest := []) ⟨hx, hb, hml, hown, hts⟩ (c_X13_in l D T (x2.toInt64) 0 ((x3 - 1).toInt64) x2.toInt 0 ((x3 - 1)).toInt ((Int32.toInt_toInt64 _).trans rfl) (by decide) ((Int32.toInt_toInt64 _).trans rfl)) (va_cwS 3 hts gX13_areNamed_X13_in rfl rfl rfl (by decide +kernel) ⟨Nat.le_of_ble_eq_true rfl, Nat.le_of_ble_eq_true rfl⟩) (pR_S hP hE [] rfl) rfl rfl hl.1 rfl (lv_room (Nat.le_of_ble_eq_true rfl)) dX13_areNamed_42 ⟨Nat.le_of_ble_eq_true rfl, Nat.le_of_ble_eq_true rfl⟩) (fun r_15 hr_15 => ?_)
        rcases bool_post hr_15 with ⟨c_16, rfl⟩ | ⟨c_16, rfl⟩
        · refine lv_if_eq (tgt := 59) hx hb dX13_areNamed_45 (by decide) (fun c9 => absurd c9 (by decide)) (fun _ => ?_)
          refine lv_goto (tgt := 55) hx hb dX13_areNamed_48 (by decide) ?_
          refine lv_iconst (v := 1) hx hb dX13_areNamed_55 (by decide) ?_
          refine lv_goto (tgt := 60) hx hb dX13_areNamed_56 (by decide) ?_
          exact W.zret hx hb hr rfl (fun t ht hW => ⟨_, rfl, (by first | exact (if_pos (by omega)).symm | exact (if_neg (by omega)).symm), ht⟩) (fun _ h => by cases h) dX13_areNamed_60
        · refine lv_if_eq (tgt := 59) hx hb dX13_areNamed_45 (by decide) (fun _ => ?_) (fun c9 => absurd c9 (by decide))
          refine lv_iconst (v := 0) hx hb dX13_areNamed_59 (by decide) ?_
          exact W.zret hx hb hr rfl (fun t ht hW => ⟨_, rfl, (by first | exact (if_pos (by omega)).symm | exact (if_neg (by omega)).symm), ht⟩) (fun _ h => by cases h) dX13_areNamed_60
      · refine lv_iconst (v := 1) hx hb dX13_areNamed_31 (by decide) ?_
        refine lv_icmp_le (tgt := 51) hx hb dX13_areNamed_32 (by decide) (fun _ => ?_) (fun c9 => absurd c9 (by decide))
        refine lv_iload_n hx hb dX13_areNamed_51 rfl (lv_at hl 2 rfl) ?_
        refine lv_if_ne (tgt := 59) hx hb dX13_areNamed_52 (by decide) (fun c_17 => ?_) (fun c_17 => ?_)
        · rw [fa_eq] at c_17
          try rw [ti_0] at c_17
          refine lv_iconst (v := 0) hx hb dX13_areNamed_59 (by decide) ?_
          exact W.zret hx hb hr rfl (fun t ht hW => ⟨_, rfl, (by first | exact (if_pos (by omega)).symm | exact (if_neg (by omega)).symm), ht⟩) (fun _ h => by cases h) dX13_areNamed_60
        · rw [fa_eq] at c_17
          try rw [ti_0] at c_17
          refine lv_iconst (v := 1) hx hb dX13_areNamed_55 (by decide) ?_
          refine lv_goto (tgt := 60) hx hb dX13_areNamed_56 (by decide) ?_
          exact W.zret hx hb hr rfl (fun t ht hW => ⟨_, rfl, (by first | exact (if_pos (by omega)).symm | exact (if_neg (by omega)).symm), ht⟩) (fun _ h => by cases h) dX13_areNamed_60
    · refine lv_if_eq (tgt := 59) hx hb dX13_areNamed_17 (by decide) (fun _ => ?_) (fun c9 => absurd c9 (by decide))
      refine lv_iconst (v := 0) hx hb dX13_areNamed_59 (by decide) ?_
      exact W.zret hx hb hr rfl (fun t ht hW => ⟨_, rfl, (by first | exact (if_pos (by omega)).symm | exact (if_neg (by omega)).symm), ht⟩) (fun _ h => by cases h) dX13_areNamed_60
  · refine lv_if_le (tgt := 23) hx hb dX13_areNamed_4 (by decide) (fun c9 => absurd c9 (by decide)) (fun _ => ?_)
    refine lv_iload_n hx hb dX13_areNamed_7 rfl (lv_at hl 1 rfl) ?_
    refine lv_i2l hx hb dX13_areNamed_8 rfl ?_
    refine lv_lconst (v := 0) hx hb dX13_areNamed_9 (by decide) ?_
    refine lv_iload_n hx hb dX13_areNamed_10 rfl (lv_at hl 3 rfl) ?_
    refine lv_iconst (v := 1) hx hb dX13_areNamed_11 (by decide) ?_
    refine lv_isub hx hb dX13_areNamed_12 ?_
    refine lv_i2l hx hb dX13_areNamed_13 rfl ?_
    refine vp_callSi (W.runS (As := [.long (x1.toInt64), .long 0, .long ((x3 - 1).toInt64)]) (rest := []) ⟨hx, hb, hml, hown, hts⟩ (c_X13_in l D T (x1.toInt64) 0 ((x3 - 1).toInt64) x1.toInt 0 ((x3 - 1)).toInt ((Int32.toInt_toInt64 _).trans rfl) (by decide) ((Int32.toInt_toInt64 _).trans rfl)) (va_cwS 3 hts gX13_areNamed_X13_in rfl rfl rfl (by decide +kernel) ⟨Nat.le_of_ble_eq_true rfl, Nat.le_of_ble_eq_true rfl⟩) (pR_S hP hE [] rfl) rfl rfl hl.1 rfl (lv_room (Nat.le_of_ble_eq_true rfl)) dX13_areNamed_14 ⟨Nat.le_of_ble_eq_true rfl, Nat.le_of_ble_eq_true rfl⟩) (fun r_18 hr_18 => ?_)
    rcases bool_post hr_18 with ⟨c_19, rfl⟩ | ⟨c_19, rfl⟩
    · refine lv_if_eq (tgt := 59) hx hb dX13_areNamed_17 (by decide) (fun c9 => absurd c9 (by decide)) (fun _ => ?_)
      refine lv_goto (tgt := 27) hx hb dX13_areNamed_20 (by decide) ?_
      refine lv_iload_n hx hb dX13_areNamed_27 rfl (lv_at hl 0 rfl) ?_
      refine vp_callSi (W.runS (As := [.int x0]) (rest := []) ⟨hx, hb, hml, hown, hts⟩ (c_X13_names l D T x0) (va_cwS 1 hts gX13_areNamed_X13_names rfl rfl rfl (by decide +kernel) ⟨Nat.le_of_ble_eq_true rfl, Nat.le_of_ble_eq_true rfl⟩) (pR_S hP hE [] rfl) rfl rfl hl.1 rfl (lv_room (Nat.le_of_ble_eq_true rfl)) dX13_areNamed_28 ⟨Nat.le_of_ble_eq_true rfl, Nat.le_of_ble_eq_true rfl⟩) (fun r_20 hr_20 => ?_)
      rcases names_post hr_20 with ⟨c_21, rfl⟩ | ⟨c_21, rfl⟩ | ⟨c_21, rfl⟩
      · refine lv_iconst (v := 1) hx hb dX13_areNamed_31 (by decide) ?_
        refine lv_icmp_le (tgt := 51) hx hb dX13_areNamed_32 (by decide) (fun _ => ?_) (fun c9 => absurd c9 (by decide))
        refine lv_iload_n hx hb dX13_areNamed_51 rfl (lv_at hl 2 rfl) ?_
        refine lv_if_ne (tgt := 59) hx hb dX13_areNamed_52 (by decide) (fun c_22 => ?_) (fun c_22 => ?_)
        · rw [fa_eq] at c_22
          try rw [ti_0] at c_22
          refine lv_iconst (v := 0) hx hb dX13_areNamed_59 (by decide) ?_
          exact W.zret hx hb hr rfl (fun t ht hW => ⟨_, rfl, (by first | exact (if_pos (by omega)).symm | exact (if_neg (by omega)).symm), ht⟩) (fun _ h => by cases h) dX13_areNamed_60
        · rw [fa_eq] at c_22
          try rw [ti_0] at c_22
          refine lv_iconst (v := 1) hx hb dX13_areNamed_55 (by decide) ?_
          refine lv_goto (tgt := 60) hx hb dX13_areNamed_56 (by decide) ?_
          exact W.zret hx hb hr rfl (fun t ht hW => ⟨_, rfl, (by first | exact (if_pos (by omega)).symm | exact (if_neg (by omega)).symm), ht⟩) (fun _ h => by cases h) dX13_areNamed_60
      · refine lv_iconst (v := 1) hx hb dX13_areNamed_31 (by decide) ?_
        refine lv_icmp_le (tgt := 51) hx hb dX13_areNamed_32 (by decide) (fun c9 => absurd c9 (by decide)) (fun _ => ?_)
        refine lv_iload_n hx hb dX13_areNamed_35 rfl (lv_at hl 2 rfl) ?_
        refine lv_i2l hx hb dX13_areNamed_36 rfl ?_
        refine lv_lconst (v := 0) hx hb dX13_areNamed_37 (by decide) ?_
        refine lv_iload_n hx hb dX13_areNamed_38 rfl (lv_at hl 3 rfl) ?_
        refine lv_iconst (v := 1) hx hb dX13_areNamed_39 (by decide) ?_
        refine lv_isub hx hb dX13_areNamed_40 ?_
        refine lv_i2l hx hb dX13_areNamed_41 rfl ?_
        refine vp_callSi (W.runS (As := [.long (x2.toInt64), .long 0, .long ((x3 - 1).toInt64)]) (rest := []) ⟨hx, hb, hml, hown, hts⟩ (c_X13_in l D T (x2.toInt64) 0 ((x3 - 1).toInt64) x2.toInt 0 ((x3 - 1)).toInt ((Int32.toInt_toInt64 _).trans rfl) (by decide) ((Int32.toInt_toInt64 _).trans rfl)) (va_cwS 3 hts gX13_areNamed_X13_in rfl rfl rfl (by decide +kernel) ⟨Nat.le_of_ble_eq_true rfl, Nat.le_of_ble_eq_true rfl⟩) (pR_S hP hE [] rfl) rfl rfl hl.1 rfl (lv_room (Nat.le_of_ble_eq_true rfl)) dX13_areNamed_42 ⟨Nat.le_of_ble_eq_true rfl, Nat.le_of_ble_eq_true rfl⟩) (fun r_23 hr_23 => ?_)
        rcases bool_post hr_23 with ⟨c_24, rfl⟩ | ⟨c_24, rfl⟩
        · refine lv_if_eq (tgt := 59) hx hb dX13_areNamed_45 (by decide) (fun c9 => absurd c9 (by decide)) (fun _ => ?_)
          refine lv_goto (tgt := 55) hx hb dX13_areNamed_48 (by decide) ?_
          refine lv_iconst (v := 1) hx hb dX13_areNamed_55 (by decide) ?_
          refine lv_goto (tgt := 60) hx hb dX13_areNamed_56 (by decide) ?_
          exact W.zret hx hb hr rfl (fun t ht hW => ⟨_, rfl, (by first | exact (if_pos (by omega)).symm | exact (if_neg (by omega)).symm), ht⟩) (fun _ h => by cases h) dX13_areNamed_60
        · refine lv_if_eq (tgt := 59) hx hb dX13_areNamed_45 (by decide) (fun _ => ?_) (fun c9 => absurd c9 (by decide))
          refine lv_iconst (v := 0) hx hb dX13_areNamed_59 (by decide) ?_
          exact W.zret hx hb hr rfl (fun t ht hW => ⟨_, rfl, (by first | exact (if_pos (by omega)).symm | exact (if_neg (by omega)).symm), ht⟩) (fun _ h => by cases h) dX13_areNamed_60
      · refine lv_iconst (v := 1) hx hb dX13_areNamed_31 (by decide) ?_
        refine lv_icmp_le (tgt := 51) hx hb dX13_areNamed_32 (by decide) (fun _ => ?_) (fun c9 => absurd c9 (by decide))
        refine lv_iload_n hx hb dX13_areNamed_51 rfl (lv_at hl 2 rfl) ?_
        refine lv_if_ne (tgt := 59) hx hb dX13_areNamed_52 (by decide) (fun c_25 => ?_) (fun c_25 => ?_)
        · rw [fa_eq] at c_25
          try rw [ti_0] at c_25
          refine lv_iconst (v := 0) hx hb dX13_areNamed_59 (by decide) ?_
          exact W.zret hx hb hr rfl (fun t ht hW => ⟨_, rfl, (by first | exact (if_pos (by omega)).symm | exact (if_neg (by omega)).symm), ht⟩) (fun _ h => by cases h) dX13_areNamed_60
        · rw [fa_eq] at c_25
          try rw [ti_0] at c_25
          refine lv_iconst (v := 1) hx hb dX13_areNamed_55 (by decide) ?_
          refine lv_goto (tgt := 60) hx hb dX13_areNamed_56 (by decide) ?_
          exact W.zret hx hb hr rfl (fun t ht hW => ⟨_, rfl, (by first | exact (if_pos (by omega)).symm | exact (if_neg (by omega)).symm), ht⟩) (fun _ h => by cases h) dX13_areNamed_60
    · refine lv_if_eq (tgt := 59) hx hb dX13_areNamed_17 (by decide) (fun _ => ?_) (fun c9 => absurd c9 (by decide))
      refine lv_iconst (v := 0) hx hb dX13_areNamed_59 (by decide) ?_
      exact W.zret hx hb hr rfl (fun t ht hW => ⟨_, rfl, (by first | exact (if_pos (by omega)).symm | exact (if_neg (by omega)).symm), ht⟩) (fun _ h => by cases h) dX13_areNamed_60
theorem dX13_isClause_0 : decode cX13_isClause 0 = .ok (.iload_n 1, 1) := by decide +kernel
theorem dX13_isClause_1 : decode cX13_isClause 1 = .ok (.i2l, 1) := by decide +kernel
theorem dX13_isClause_10 : decode cX13_isClause 10 = .ok (.invokestatic 175, 3) := by decide +kernel
theorem dX13_isClause_13 : decode cX13_isClause 13 = .ok (.ireturn, 1) := by decide +kernel
theorem dX13_isClause_2 : decode cX13_isClause 2 = .ok (.lconst 0, 1) := by decide +kernel
theorem dX13_isClause_3 : decode cX13_isClause 3 = .ok (.aload_n 0, 1) := by decide +kernel
theorem dX13_isClause_4 : decode cX13_isClause 4 = .ok (.getfield 205, 3) := by decide +kernel
theorem dX13_isClause_7 : decode cX13_isClause 7 = .ok (.iconst 1, 1) := by decide +kernel
theorem dX13_isClause_8 : decode cX13_isClause 8 = .ok (.isub, 1) := by decide +kernel
theorem dX13_isClause_9 : decode cX13_isClause 9 = .ok (.i2l, 1) := by decide +kernel
set_option maxRecDepth 20000 in
theorem ggX13_isClause_X13_in : GoodIn wsX13_isClause wsX13_in := goodIn_r _ [5] (by decide +kernel) (by decide +kernel)
set_option maxRecDepth 20000 in
theorem gX13_isClause_X13_in : GoodIn wsX13_isClause (va_wsS RX13 175 yX13_in wsX13_in) := goodIn_app (goodIn_of _ (by decide +kernel)) ggX13_isClause_X13_in
set_option maxRecDepth 20000 in
theorem in_X13_isClause_X13 : ∀ w ∈ wsX130, w ∈ wsX13_isClause := by decide +kernel
set_option maxHeartbeats 4000000 in
set_option maxRecDepth 100000 in
theorem c_X13_isClause (l : Launch) (D : va_G) (T : Nat → ClassId) (h0 : Nat) (fs0 : List Value) (x1 : Int32) (n : Int32) (HI : Int) (e0_7 : fs0[7]? = some (.int n)) (hHI : (n - 1).toInt = HI) : Met l yX13_isClause wsX13_isClause ({ frames := 1, cells := 0, slots := 0, locals := 25 }) (pR [.ref h0, .int x1] D T [(h0, .inr (10, fs0))]) (vp_Si (fun r => r = if 0 ≤ x1.toInt ∧ x1.toInt ≤ HI then 1 else 0)) 0 0 (fun _ => False) := by
  refine Met.ofW (cc := cX13_isClause) (maxL := 2) (ret := (some .boolean)) (by decide) rfl ?_
  intro p e s m args below meth c s₁ B hml hv
  obtain ⟨rfl, hP, hE⟩ := hv
  have hx := B.exec
  have hb := B.bytes
  have hr := B.returns
  have hts := atoms_spec (ws := wsX13_isClause) B.pre
  have hown : s.vm.findClass RX13 = some m.cls := findClass_of_methodNamed B.named
  have hlocks := B.notSynchronized
  have hP : va_P D vwCl [(h0, .inr (10, fs0))] s.heap := hP
  have hl := lv_entry ([.ref h0, .int x1]) (n := 2) (Nat.le_of_ble_eq_true rfl)
  rw [lg_entry_eq]
  generalize (lg_sl ([.ref h0, .int x1]) ++ List.replicate (2 - (lg_sl ([.ref h0, .int x1])).length) Slot.unset).toArray = ls at hl ⊢
  have hl : lv_has ls 2 [(0, .ref h0), (1, .int x1)] := hl
  refine lv_iload_n hx hb dX13_isClause_0 rfl (lv_at hl 1 rfl) ?_
  refine lv_i2l hx hb dX13_isClause_1 rfl ?_
  refine lv_lconst (v := 0) hx hb dX13_isClause_2 (by decide) ?_
  refine lv_aload_n hx hb dX13_isClause_3 rfl (lv_at hl 0 rfl) ?_
  refine va_get (D := D) (ci := 10) (v := .int n) (C := RX13) (T := TX13) (N := 45) hx hb hts in_X13_isClause_X13 hown hE.1 hP 0 rfl rfl 7 (by decide) (hts (.fieldLink RX13 205 "ClauseBookModel" "many" "I") (List.mem_of_getElem? (i := 1) rfl)) (fun _ h9 => h9) e0_7 dX13_isClause_4 ?_
  refine lv_iconst (v := 1) hx hb dX13_isClause_7 (by decide) ?_
  refine lv_isub hx hb dX13_isClause_8 ?_
  refine lv_i2l hx hb dX13_isClause_9 rfl ?_
  refine vp_callSi (W.runS (As := [.long (x1.toInt64), .long 0, .long ((n - 1).toInt64)]) (rest := []) ⟨hx, hb, hml, hown, hts⟩ (c_X13_in l D T (x1.toInt64) 0 ((n - 1).toInt64) x1.toInt 0 ((n - 1)).toInt ((Int32.toInt_toInt64 _).trans rfl) (by decide) ((Int32.toInt_toInt64 _).trans rfl)) (va_cwS 3 hts gX13_isClause_X13_in rfl rfl rfl (by decide +kernel) ⟨Nat.le_of_ble_eq_true rfl, Nat.le_of_ble_eq_true rfl⟩) (pR_S hP hE [] rfl) rfl rfl hl.1 rfl (lv_room (Nat.le_of_ble_eq_true rfl)) dX13_isClause_10 ⟨Nat.le_of_ble_eq_true rfl, Nat.le_of_ble_eq_true rfl⟩) (fun r_1 hr_1 => ?_)
  rcases bool_post hr_1 with ⟨c_2, rfl⟩ | ⟨c_2, rfl⟩
  · exact W.zret hx hb hr rfl (fun t ht hW => ⟨_, rfl, (by first | exact (if_pos (by omega)).symm | exact (if_neg (by omega)).symm), ht⟩) (fun _ h => by cases h) dX13_isClause_13
  · exact W.zret hx hb hr rfl (fun t ht hW => ⟨_, rfl, (by first | exact (if_pos (by omega)).symm | exact (if_neg (by omega)).symm), ht⟩) (fun _ h => by cases h) dX13_isClause_13
theorem dX13_isHad_0 : decode cX13_isHad 0 = .ok (.aload_n 0, 1) := by decide +kernel
theorem dX13_isHad_1 : decode cX13_isHad 1 = .ok (.iload_n 1, 1) := by decide +kernel
theorem dX13_isHad_2 : decode cX13_isHad 2 = .ok (.invokevirtual 233, 3) := by decide +kernel
theorem dX13_isHad_31 : decode cX13_isHad 31 = .ok (.iconst 0, 1) := by decide +kernel
theorem dX13_isHad_32 : decode cX13_isHad 32 = .ok (.ireturn, 1) := by decide +kernel
theorem dX13_isHad_5 : decode cX13_isHad 5 = .ok (.ifCond .eq 26, 3) := by decide +kernel
set_option maxRecDepth 20000 in
theorem ggX13_isHad_X13_isClause : GoodIn wsX13_isHad wsX13_isClause := goodIn_r _ [6, 7, 8, 9, 5, 10, 15, 16, 17, 18, 19, 20, 21, 22, 23, 24, 25, 26, 27, 28, 29, 30, 31, 32, 33, 34, 35, 36, 37, 38, 39, 40, 41, 42, 43, 44, 45, 46, 47, 48, 49, 50, 51, 52, 53, 54, 55, 56, 57, 58, 59] (by decide +kernel) (by decide +kernel)
set_option maxRecDepth 20000 in
theorem gX13_isHad_X13_isClause : GoodIn wsX13_isHad (wsV RX13 233 RX13 yX13_isClause wsX13_isClause) := goodIn_app (goodIn_of _ (by decide +kernel)) ggX13_isHad_X13_isClause
set_option maxHeartbeats 4000000 in
set_option maxRecDepth 100000 in
theorem f_X13_isHad (l : Launch) (D : va_G) (T : Nat → ClassId) (h0 : Nat) (fs0 : List Value) (x1 : Int32) (x2 : Int32) (x3 : Int32) (e0_7 : fs0[7]? = some (.int 0)) : Met l yX13_isHad wsX13_isHad ({ frames := 2, cells := 0, slots := 0, locals := 46 }) (pR [.ref h0, .int x1, .int x2, .int x3] D T [(h0, .inr (10, fs0))]) (vp_Si (fun r => r = 0)) 0 0 (fun _ => False) := by
  refine Met.ofW (cc := cX13_isHad) (maxL := 4) (ret := (some .boolean)) (by decide) rfl ?_
  intro p e s m args below meth c s₁ B hml hv
  obtain ⟨rfl, hP, hE⟩ := hv
  have hx := B.exec
  have hb := B.bytes
  have hr := B.returns
  have hts := atoms_spec (ws := wsX13_isHad) B.pre
  have hown : s.vm.findClass RX13 = some m.cls := findClass_of_methodNamed B.named
  have hlocks := B.notSynchronized
  have hP : va_P D vwCl [(h0, .inr (10, fs0))] s.heap := hP
  have hl := lv_entry ([.ref h0, .int x1, .int x2, .int x3]) (n := 4) (Nat.le_of_ble_eq_true rfl)
  rw [lg_entry_eq]
  generalize (lg_sl ([.ref h0, .int x1, .int x2, .int x3]) ++ List.replicate (4 - (lg_sl ([.ref h0, .int x1, .int x2, .int x3])).length) Slot.unset).toArray = ls at hl ⊢
  have hl : lv_has ls 4 [(0, .ref h0), (1, .int x1), (2, .int x2), (3, .int x3)] := hl
  refine lv_aload_n hx hb dX13_isHad_0 rfl (lv_at hl 0 rfl) ?_
  refine lv_iload_n hx hb dX13_isHad_1 rfl (lv_at hl 1 rfl) ?_
  refine vp_callSi (W.runV (As := [.int x1]) (rest := []) ⟨hx, hb, hml, hown, hts⟩ (c_X13_isClause l D T h0 fs0 x1 0 (-1) e0_7 (by decide)) (cwV 1 hts gX13_isHad_X13_isClause rfl rfl rfl (by decide +kernel) ⟨Nat.le_of_ble_eq_true rfl, Nat.le_of_ble_eq_true rfl⟩) (pR_V (ci := 10) (q0 := 0) hP hE rfl rfl [0] rfl) rfl rfl hl.1 rfl (lv_room (Nat.le_of_ble_eq_true rfl)) dX13_isHad_2 ⟨Nat.le_of_ble_eq_true rfl, Nat.le_of_ble_eq_true rfl⟩) (fun r_1 hr_1 => ?_)
  rcases bool_post hr_1 with ⟨c_2, rfl⟩ | ⟨c_2, rfl⟩
  · exact absurd c_2 (by omega)
  refine lv_if_eq (tgt := 31) hx hb dX13_isHad_5 (by decide) (fun _ => ?_) (fun c9 => absurd c9 (by decide))
  refine lv_iconst (v := 0) hx hb dX13_isHad_31 (by decide) ?_
  exact W.zret hx hb hr rfl (fun t ht hW => ⟨_, rfl, rfl, ht⟩) (fun _ h => by cases h) dX13_isHad_32
theorem dX13_clauseOf_0 : decode cX13_clauseOf 0 = .ok (.aload_n 0, 1) := by decide +kernel
theorem dX13_clauseOf_1 : decode cX13_clauseOf 1 = .ok (.iload_n 1, 1) := by decide +kernel
theorem dX13_clauseOf_10 : decode cX13_clauseOf 10 = .ok (.ireturn, 1) := by decide +kernel
theorem dX13_clauseOf_2 : decode cX13_clauseOf 2 = .ok (.invokevirtual 233, 3) := by decide +kernel
theorem dX13_clauseOf_5 : decode cX13_clauseOf 5 = .ok (.ifCond .ne 6, 3) := by decide +kernel
theorem dX13_clauseOf_8 : decode cX13_clauseOf 8 = .ok (.bipush (-2), 2) := by decide +kernel
set_option maxRecDepth 20000 in
theorem ggX13_clauseOf_X13_isClause : GoodIn wsX13_clauseOf wsX13_isClause := goodIn_r _ [12, 13, 14, 15, 11, 16, 31, 32, 33, 34, 35, 36, 37, 38, 39, 40, 41, 42, 43, 44, 45, 46, 47, 48, 49, 50, 51, 52, 53, 54, 55, 56, 57, 58, 59, 60, 61, 62, 63, 64, 65, 66, 67, 68, 69, 70, 71, 72, 73, 74, 75] (by decide +kernel) (by decide +kernel)
set_option maxRecDepth 20000 in
theorem gX13_clauseOf_X13_isClause : GoodIn wsX13_clauseOf (wsV RX13 233 RX13 yX13_isClause wsX13_isClause) := goodIn_app (goodIn_of _ (by decide +kernel)) ggX13_clauseOf_X13_isClause
set_option maxHeartbeats 4000000 in
set_option maxRecDepth 100000 in
theorem f_X13_clauseOf (l : Launch) (D : va_G) (T : Nat → ClassId) (h0 : Nat) (fs0 : List Value) (x1 : Int32) (x2 : Int32) (e0_7 : fs0[7]? = some (.int 0)) : Met l yX13_clauseOf wsX13_clauseOf ({ frames := 2, cells := 0, slots := 0, locals := 46 }) (pR [.ref h0, .int x1, .int x2] D T [(h0, .inr (10, fs0))]) (vp_Si (fun r => r = -2)) 0 0 (fun _ => False) := by
  refine Met.ofW (cc := cX13_clauseOf) (maxL := 3) (ret := (some .int)) (by decide) rfl ?_
  intro p e s m args below meth c s₁ B hml hv
  obtain ⟨rfl, hP, hE⟩ := hv
  have hx := B.exec
  have hb := B.bytes
  have hr := B.returns
  have hts := atoms_spec (ws := wsX13_clauseOf) B.pre
  have hown : s.vm.findClass RX13 = some m.cls := findClass_of_methodNamed B.named
  have hlocks := B.notSynchronized
  have hP : va_P D vwCl [(h0, .inr (10, fs0))] s.heap := hP
  have hl := lv_entry ([.ref h0, .int x1, .int x2]) (n := 3) (Nat.le_of_ble_eq_true rfl)
  rw [lg_entry_eq]
  generalize (lg_sl ([.ref h0, .int x1, .int x2]) ++ List.replicate (3 - (lg_sl ([.ref h0, .int x1, .int x2])).length) Slot.unset).toArray = ls at hl ⊢
  have hl : lv_has ls 3 [(0, .ref h0), (1, .int x1), (2, .int x2)] := hl
  refine lv_aload_n hx hb dX13_clauseOf_0 rfl (lv_at hl 0 rfl) ?_
  refine lv_iload_n hx hb dX13_clauseOf_1 rfl (lv_at hl 1 rfl) ?_
  refine vp_callSi (W.runV (As := [.int x1]) (rest := []) ⟨hx, hb, hml, hown, hts⟩ (c_X13_isClause l D T h0 fs0 x1 0 (-1) e0_7 (by decide)) (cwV 1 hts gX13_clauseOf_X13_isClause rfl rfl rfl (by decide +kernel) ⟨Nat.le_of_ble_eq_true rfl, Nat.le_of_ble_eq_true rfl⟩) (pR_V (ci := 10) (q0 := 0) hP hE rfl rfl [0] rfl) rfl rfl hl.1 rfl (lv_room (Nat.le_of_ble_eq_true rfl)) dX13_clauseOf_2 ⟨Nat.le_of_ble_eq_true rfl, Nat.le_of_ble_eq_true rfl⟩) (fun r_1 hr_1 => ?_)
  rcases bool_post hr_1 with ⟨c_2, rfl⟩ | ⟨c_2, rfl⟩
  · exact absurd c_2 (by omega)
  refine lv_if_ne (tgt := 11) hx hb dX13_clauseOf_5 (by decide) (fun c9 => absurd c9 (by decide)) (fun _ => ?_)
  refine lv_bipush (v := (-2)) hx hb dX13_clauseOf_8 (by decide) ?_
  exact W.iret hx hb hr (fun t ht hW => ⟨_, rfl, rfl, ht⟩) (fun _ h => by cases h) dX13_clauseOf_10
theorem dX13_swap_0 : decode cX13_swap 0 = .ok (.aload_n 0, 1) := by decide +kernel
theorem dX13_swap_1 : decode cX13_swap 1 = .ok (.iload_n 1, 1) := by decide +kernel
theorem dX13_swap_2 : decode cX13_swap 2 = .ok (.invokevirtual 233, 3) := by decide +kernel
theorem dX13_swap_23 : decode cX13_swap 23 = .ok (.bipush (-2), 2) := by decide +kernel
theorem dX13_swap_25 : decode cX13_swap 25 = .ok (.ireturn, 1) := by decide +kernel
theorem dX13_swap_5 : decode cX13_swap 5 = .ok (.ifCond .eq 18, 3) := by decide +kernel
set_option maxRecDepth 20000 in
theorem ggX13_swap_X13_isClause : GoodIn wsX13_swap wsX13_isClause := goodIn_r _ [8, 9, 10, 11, 7, 12, 19, 20, 21, 22, 23, 24, 25, 26, 27, 28, 29, 30, 31, 32, 33, 34, 35, 36, 37, 38, 39, 40, 41, 42, 43, 44, 45, 46, 47, 48, 49, 50, 51, 52, 53, 54, 55, 56, 57, 58, 59, 60, 61, 62, 63] (by decide +kernel) (by decide +kernel)
set_option maxRecDepth 20000 in
theorem gX13_swap_X13_isClause : GoodIn wsX13_swap (wsV RX13 233 RX13 yX13_isClause wsX13_isClause) := goodIn_app (goodIn_of _ (by decide +kernel)) ggX13_swap_X13_isClause
set_option maxHeartbeats 4000000 in
set_option maxRecDepth 100000 in
theorem f_X13_swap (l : Launch) (D : va_G) (T : Nat → ClassId) (h0 : Nat) (fs0 : List Value) (x1 : Int32) (x2 : Int32) (x3 : Int32) (e0_7 : fs0[7]? = some (.int 0)) : Met l yX13_swap wsX13_swap ({ frames := 2, cells := 0, slots := 0, locals := 46 }) (pR [.ref h0, .int x1, .int x2, .int x3] D T [(h0, .inr (10, fs0))]) (vp_Si (fun r => r = -2)) 0 0 (fun _ => False) := by
  refine Met.ofW (cc := cX13_swap) (maxL := 4) (ret := (some .int)) (by decide) rfl ?_
  intro p e s m args below meth c s₁ B hml hv
  obtain ⟨rfl, hP, hE⟩ := hv
  have hx := B.exec
  have hb := B.bytes
  have hr := B.returns
  have hts := atoms_spec (ws := wsX13_swap) B.pre
  have hown : s.vm.findClass RX13 = some m.cls := findClass_of_methodNamed B.named
  have hlocks := B.notSynchronized
  have hP : va_P D vwCl [(h0, .inr (10, fs0))] s.heap := hP
  have hl := lv_entry ([.ref h0, .int x1, .int x2, .int x3]) (n := 4) (Nat.le_of_ble_eq_true rfl)
  rw [lg_entry_eq]
  generalize (lg_sl ([.ref h0, .int x1, .int x2, .int x3]) ++ List.replicate (4 - (lg_sl ([.ref h0, .int x1, .int x2, .int x3])).length) Slot.unset).toArray = ls at hl ⊢
  have hl : lv_has ls 4 [(0, .ref h0), (1, .int x1), (2, .int x2), (3, .int x3)] := hl
  refine lv_aload_n hx hb dX13_swap_0 rfl (lv_at hl 0 rfl) ?_
  refine lv_iload_n hx hb dX13_swap_1 rfl (lv_at hl 1 rfl) ?_
  refine vp_callSi (W.runV (As := [.int x1]) (rest := []) ⟨hx, hb, hml, hown, hts⟩ (c_X13_isClause l D T h0 fs0 x1 0 (-1) e0_7 (by decide)) (cwV 1 hts gX13_swap_X13_isClause rfl rfl rfl (by decide +kernel) ⟨Nat.le_of_ble_eq_true rfl, Nat.le_of_ble_eq_true rfl⟩) (pR_V (ci := 10) (q0 := 0) hP hE rfl rfl [0] rfl) rfl rfl hl.1 rfl (lv_room (Nat.le_of_ble_eq_true rfl)) dX13_swap_2 ⟨Nat.le_of_ble_eq_true rfl, Nat.le_of_ble_eq_true rfl⟩) (fun r_1 hr_1 => ?_)
  rcases bool_post hr_1 with ⟨c_2, rfl⟩ | ⟨c_2, rfl⟩
  · exact absurd c_2 (by omega)
  refine lv_if_eq (tgt := 23) hx hb dX13_swap_5 (by decide) (fun _ => ?_) (fun c9 => absurd c9 (by decide))
  refine lv_bipush (v := (-2)) hx hb dX13_swap_23 (by decide) ?_
  exact W.iret hx hb hr (fun t ht hW => ⟨_, rfl, rfl, ht⟩) (fun _ h => by cases h) dX13_swap_25
theorem dX13_chosen_0 : decode cX13_chosen 0 = .ok (.aload_n 0, 1) := by decide +kernel
theorem dX13_chosen_1 : decode cX13_chosen 1 = .ok (.iload_n 1, 1) := by decide +kernel
theorem dX13_chosen_2 : decode cX13_chosen 2 = .ok (.invokevirtual 233, 3) := by decide +kernel
theorem dX13_chosen_38 : decode cX13_chosen 38 = .ok (.bipush (-2), 2) := by decide +kernel
theorem dX13_chosen_40 : decode cX13_chosen 40 = .ok (.ireturn, 1) := by decide +kernel
theorem dX13_chosen_5 : decode cX13_chosen 5 = .ok (.ifCond .eq 33, 3) := by decide +kernel
set_option maxRecDepth 20000 in
theorem ggX13_chosen_X13_isClause : GoodIn wsX13_chosen wsX13_isClause := goodIn_r _ [7, 8, 9, 10, 6, 11, 127, 128, 129, 130, 131, 132, 133, 134, 135, 136, 137, 138, 139, 140, 141, 142, 143, 144, 145, 146, 147, 148, 149, 150, 151, 152, 153, 154, 155, 156, 157, 158, 159, 160, 161, 162, 163, 164, 165, 166, 167, 168, 169, 170, 171] (by decide +kernel) (by decide +kernel)
set_option maxRecDepth 20000 in
theorem gX13_chosen_X13_isClause : GoodIn wsX13_chosen (wsV RX13 233 RX13 yX13_isClause wsX13_isClause) := goodIn_app (goodIn_of _ (by decide +kernel)) ggX13_chosen_X13_isClause
set_option maxHeartbeats 4000000 in
set_option maxRecDepth 100000 in
theorem f_X13_chosen (l : Launch) (D : va_G) (T : Nat → ClassId) (h0 : Nat) (fs0 : List Value) (x1 : Int32) (x2 : Int32) (x3 : Int32) (e0_7 : fs0[7]? = some (.int 0)) : Met l yX13_chosen wsX13_chosen ({ frames := 2, cells := 0, slots := 0, locals := 46 }) (pR [.ref h0, .int x1, .int x2, .int x3] D T [(h0, .inr (10, fs0))]) (vp_Si (fun r => r = -2)) 0 0 (fun _ => False) := by
  refine Met.ofW (cc := cX13_chosen) (maxL := 4) (ret := (some .int)) (by decide) rfl ?_
  intro p e s m args below meth c s₁ B hml hv
  obtain ⟨rfl, hP, hE⟩ := hv
  have hx := B.exec
  have hb := B.bytes
  have hr := B.returns
  have hts := atoms_spec (ws := wsX13_chosen) B.pre
  have hown : s.vm.findClass RX13 = some m.cls := findClass_of_methodNamed B.named
  have hlocks := B.notSynchronized
  have hP : va_P D vwCl [(h0, .inr (10, fs0))] s.heap := hP
  have hl := lv_entry ([.ref h0, .int x1, .int x2, .int x3]) (n := 4) (Nat.le_of_ble_eq_true rfl)
  rw [lg_entry_eq]
  generalize (lg_sl ([.ref h0, .int x1, .int x2, .int x3]) ++ List.replicate (4 - (lg_sl ([.ref h0, .int x1, .int x2, .int x3])).length) Slot.unset).toArray = ls at hl ⊢
  have hl : lv_has ls 4 [(0, .ref h0), (1, .int x1), (2, .int x2), (3, .int x3)] := hl
  refine lv_aload_n hx hb dX13_chosen_0 rfl (lv_at hl 0 rfl) ?_
  refine lv_iload_n hx hb dX13_chosen_1 rfl (lv_at hl 1 rfl) ?_
  refine vp_callSi (W.runV (As := [.int x1]) (rest := []) ⟨hx, hb, hml, hown, hts⟩ (c_X13_isClause l D T h0 fs0 x1 0 (-1) e0_7 (by decide)) (cwV 1 hts gX13_chosen_X13_isClause rfl rfl rfl (by decide +kernel) ⟨Nat.le_of_ble_eq_true rfl, Nat.le_of_ble_eq_true rfl⟩) (pR_V (ci := 10) (q0 := 0) hP hE rfl rfl [0] rfl) rfl rfl hl.1 rfl (lv_room (Nat.le_of_ble_eq_true rfl)) dX13_chosen_2 ⟨Nat.le_of_ble_eq_true rfl, Nat.le_of_ble_eq_true rfl⟩) (fun r_1 hr_1 => ?_)
  rcases bool_post hr_1 with ⟨c_2, rfl⟩ | ⟨c_2, rfl⟩
  · exact absurd c_2 (by omega)
  refine lv_if_eq (tgt := 38) hx hb dX13_chosen_5 (by decide) (fun _ => ?_) (fun c9 => absurd c9 (by decide))
  refine lv_bipush (v := (-2)) hx hb dX13_chosen_38 (by decide) ?_
  exact W.iret hx hb hr (fun t ht hW => ⟨_, rfl, rfl, ht⟩) (fun _ h => by cases h) dX13_chosen_40
theorem dX13_taken_0 : decode cX13_taken 0 = .ok (.aload_n 0, 1) := by decide +kernel
theorem dX13_taken_1 : decode cX13_taken 1 = .ok (.iload_n 1, 1) := by decide +kernel
theorem dX13_taken_2 : decode cX13_taken 2 = .ok (.invokevirtual 233, 3) := by decide +kernel
theorem dX13_taken_38 : decode cX13_taken 38 = .ok (.bipush (-2), 2) := by decide +kernel
theorem dX13_taken_40 : decode cX13_taken 40 = .ok (.ireturn, 1) := by decide +kernel
theorem dX13_taken_5 : decode cX13_taken 5 = .ok (.ifCond .eq 33, 3) := by decide +kernel
set_option maxRecDepth 20000 in
theorem ggX13_taken_X13_isClause : GoodIn wsX13_taken wsX13_isClause := goodIn_r _ [8, 9, 10, 11, 7, 12, 127, 128, 129, 130, 131, 132, 133, 134, 135, 136, 137, 138, 139, 140, 141, 142, 143, 144, 145, 146, 147, 148, 149, 150, 151, 152, 153, 154, 155, 156, 157, 158, 159, 160, 161, 162, 163, 164, 165, 166, 167, 168, 169, 170, 171] (by decide +kernel) (by decide +kernel)
set_option maxRecDepth 20000 in
theorem gX13_taken_X13_isClause : GoodIn wsX13_taken (wsV RX13 233 RX13 yX13_isClause wsX13_isClause) := goodIn_app (goodIn_of _ (by decide +kernel)) ggX13_taken_X13_isClause
set_option maxHeartbeats 4000000 in
set_option maxRecDepth 100000 in
theorem f_X13_taken (l : Launch) (D : va_G) (T : Nat → ClassId) (h0 : Nat) (fs0 : List Value) (x1 : Int32) (x2 : Int32) (x3 : Int32) (e0_7 : fs0[7]? = some (.int 0)) : Met l yX13_taken wsX13_taken ({ frames := 2, cells := 0, slots := 0, locals := 46 }) (pR [.ref h0, .int x1, .int x2, .int x3] D T [(h0, .inr (10, fs0))]) (vp_Si (fun r => r = -2)) 0 0 (fun _ => False) := by
  refine Met.ofW (cc := cX13_taken) (maxL := 4) (ret := (some .int)) (by decide) rfl ?_
  intro p e s m args below meth c s₁ B hml hv
  obtain ⟨rfl, hP, hE⟩ := hv
  have hx := B.exec
  have hb := B.bytes
  have hr := B.returns
  have hts := atoms_spec (ws := wsX13_taken) B.pre
  have hown : s.vm.findClass RX13 = some m.cls := findClass_of_methodNamed B.named
  have hlocks := B.notSynchronized
  have hP : va_P D vwCl [(h0, .inr (10, fs0))] s.heap := hP
  have hl := lv_entry ([.ref h0, .int x1, .int x2, .int x3]) (n := 4) (Nat.le_of_ble_eq_true rfl)
  rw [lg_entry_eq]
  generalize (lg_sl ([.ref h0, .int x1, .int x2, .int x3]) ++ List.replicate (4 - (lg_sl ([.ref h0, .int x1, .int x2, .int x3])).length) Slot.unset).toArray = ls at hl ⊢
  have hl : lv_has ls 4 [(0, .ref h0), (1, .int x1), (2, .int x2), (3, .int x3)] := hl
  refine lv_aload_n hx hb dX13_taken_0 rfl (lv_at hl 0 rfl) ?_
  refine lv_iload_n hx hb dX13_taken_1 rfl (lv_at hl 1 rfl) ?_
  refine vp_callSi (W.runV (As := [.int x1]) (rest := []) ⟨hx, hb, hml, hown, hts⟩ (c_X13_isClause l D T h0 fs0 x1 0 (-1) e0_7 (by decide)) (cwV 1 hts gX13_taken_X13_isClause rfl rfl rfl (by decide +kernel) ⟨Nat.le_of_ble_eq_true rfl, Nat.le_of_ble_eq_true rfl⟩) (pR_V (ci := 10) (q0 := 0) hP hE rfl rfl [0] rfl) rfl rfl hl.1 rfl (lv_room (Nat.le_of_ble_eq_true rfl)) dX13_taken_2 ⟨Nat.le_of_ble_eq_true rfl, Nat.le_of_ble_eq_true rfl⟩) (fun r_1 hr_1 => ?_)
  rcases bool_post hr_1 with ⟨c_2, rfl⟩ | ⟨c_2, rfl⟩
  · exact absurd c_2 (by omega)
  refine lv_if_eq (tgt := 38) hx hb dX13_taken_5 (by decide) (fun _ => ?_) (fun c9 => absurd c9 (by decide))
  refine lv_bipush (v := (-2)) hx hb dX13_taken_38 (by decide) ?_
  exact W.iret hx hb hr (fun t ht hW => ⟨_, rfl, rfl, ht⟩) (fun _ h => by cases h) dX13_taken_40
theorem dX13_alike_0 : decode cX13_alike 0 = .ok (.aload_n 0, 1) := by decide +kernel
theorem dX13_alike_1 : decode cX13_alike 1 = .ok (.iload_n 1, 1) := by decide +kernel
theorem dX13_alike_16 : decode cX13_alike 16 = .ok (.bipush (-2), 2) := by decide +kernel
theorem dX13_alike_18 : decode cX13_alike 18 = .ok (.ireturn, 1) := by decide +kernel
theorem dX13_alike_2 : decode cX13_alike 2 = .ok (.invokevirtual 233, 3) := by decide +kernel
theorem dX13_alike_5 : decode cX13_alike 5 = .ok (.ifCond .eq 11, 3) := by decide +kernel
set_option maxRecDepth 20000 in
theorem ggX13_alike_X13_isClause : GoodIn wsX13_alike wsX13_isClause := goodIn_r _ [9, 10, 11, 12, 8, 13, 111, 112, 113, 114, 115, 116, 117, 118, 119, 120, 121, 122, 123, 124, 125, 126, 127, 128, 129, 130, 131, 132, 133, 134, 135, 136, 137, 138, 139, 140, 141, 142, 143, 144, 145, 146, 147, 148, 149, 150, 151, 152, 153, 154, 155] (by decide +kernel) (by decide +kernel)
set_option maxRecDepth 20000 in
theorem gX13_alike_X13_isClause : GoodIn wsX13_alike (wsV RX13 233 RX13 yX13_isClause wsX13_isClause) := goodIn_app (goodIn_of _ (by decide +kernel)) ggX13_alike_X13_isClause
set_option maxHeartbeats 4000000 in
set_option maxRecDepth 100000 in
theorem f_X13_alike (l : Launch) (D : va_G) (T : Nat → ClassId) (h0 : Nat) (fs0 : List Value) (x1 : Int32) (x2 : Int32) (e0_7 : fs0[7]? = some (.int 0)) : Met l yX13_alike wsX13_alike ({ frames := 2, cells := 0, slots := 0, locals := 46 }) (pR [.ref h0, .int x1, .int x2] D T [(h0, .inr (10, fs0))]) (vp_Si (fun r => r = -2)) 0 0 (fun _ => False) := by
  refine Met.ofW (cc := cX13_alike) (maxL := 6) (ret := (some .int)) (by decide) rfl ?_
  intro p e s m args below meth c s₁ B hml hv
  obtain ⟨rfl, hP, hE⟩ := hv
  have hx := B.exec
  have hb := B.bytes
  have hr := B.returns
  have hts := atoms_spec (ws := wsX13_alike) B.pre
  have hown : s.vm.findClass RX13 = some m.cls := findClass_of_methodNamed B.named
  have hlocks := B.notSynchronized
  have hP : va_P D vwCl [(h0, .inr (10, fs0))] s.heap := hP
  have hl := lv_entry ([.ref h0, .int x1, .int x2]) (n := 6) (Nat.le_of_ble_eq_true rfl)
  rw [lg_entry_eq]
  generalize (lg_sl ([.ref h0, .int x1, .int x2]) ++ List.replicate (6 - (lg_sl ([.ref h0, .int x1, .int x2])).length) Slot.unset).toArray = ls at hl ⊢
  have hl : lv_has ls 6 [(0, .ref h0), (1, .int x1), (2, .int x2)] := hl
  refine lv_aload_n hx hb dX13_alike_0 rfl (lv_at hl 0 rfl) ?_
  refine lv_iload_n hx hb dX13_alike_1 rfl (lv_at hl 1 rfl) ?_
  refine vp_callSi (W.runV (As := [.int x1]) (rest := []) ⟨hx, hb, hml, hown, hts⟩ (c_X13_isClause l D T h0 fs0 x1 0 (-1) e0_7 (by decide)) (cwV 1 hts gX13_alike_X13_isClause rfl rfl rfl (by decide +kernel) ⟨Nat.le_of_ble_eq_true rfl, Nat.le_of_ble_eq_true rfl⟩) (pR_V (ci := 10) (q0 := 0) hP hE rfl rfl [0] rfl) rfl rfl hl.1 rfl (lv_room (Nat.le_of_ble_eq_true rfl)) dX13_alike_2 ⟨Nat.le_of_ble_eq_true rfl, Nat.le_of_ble_eq_true rfl⟩) (fun r_1 hr_1 => ?_)
  rcases bool_post hr_1 with ⟨c_2, rfl⟩ | ⟨c_2, rfl⟩
  · exact absurd c_2 (by omega)
  refine lv_if_eq (tgt := 16) hx hb dX13_alike_5 (by decide) (fun _ => ?_) (fun c9 => absurd c9 (by decide))
  refine lv_bipush (v := (-2)) hx hb dX13_alike_16 (by decide) ?_
  exact W.iret hx hb hr (fun t ht hW => ⟨_, rfl, rfl, ht⟩) (fun _ h => by cases h) dX13_alike_18
theorem dX13_unlike_0 : decode cX13_unlike 0 = .ok (.aload_n 0, 1) := by decide +kernel
theorem dX13_unlike_1 : decode cX13_unlike 1 = .ok (.iload_n 1, 1) := by decide +kernel
theorem dX13_unlike_16 : decode cX13_unlike 16 = .ok (.bipush (-2), 2) := by decide +kernel
theorem dX13_unlike_18 : decode cX13_unlike 18 = .ok (.ireturn, 1) := by decide +kernel
theorem dX13_unlike_2 : decode cX13_unlike 2 = .ok (.invokevirtual 233, 3) := by decide +kernel
theorem dX13_unlike_5 : decode cX13_unlike 5 = .ok (.ifCond .eq 11, 3) := by decide +kernel
set_option maxRecDepth 20000 in
theorem ggX13_unlike_X13_isClause : GoodIn wsX13_unlike wsX13_isClause := goodIn_r _ [5, 6, 7, 8, 4, 9, 119, 120, 121, 122, 123, 124, 125, 126, 127, 128, 129, 130, 131, 132, 133, 134, 135, 136, 137, 138, 139, 140, 141, 142, 143, 144, 145, 146, 147, 148, 149, 150, 151, 152, 153, 154, 155, 156, 157, 158, 159, 160, 161, 162, 163] (by decide +kernel) (by decide +kernel)
set_option maxRecDepth 20000 in
theorem gX13_unlike_X13_isClause : GoodIn wsX13_unlike (wsV RX13 233 RX13 yX13_isClause wsX13_isClause) := goodIn_app (goodIn_of _ (by decide +kernel)) ggX13_unlike_X13_isClause
set_option maxHeartbeats 4000000 in
set_option maxRecDepth 100000 in
theorem f_X13_unlike (l : Launch) (D : va_G) (T : Nat → ClassId) (h0 : Nat) (fs0 : List Value) (x1 : Int32) (x2 : Int32) (e0_7 : fs0[7]? = some (.int 0)) : Met l yX13_unlike wsX13_unlike ({ frames := 2, cells := 0, slots := 0, locals := 46 }) (pR [.ref h0, .int x1, .int x2] D T [(h0, .inr (10, fs0))]) (vp_Si (fun r => r = -2)) 0 0 (fun _ => False) := by
  refine Met.ofW (cc := cX13_unlike) (maxL := 5) (ret := (some .int)) (by decide) rfl ?_
  intro p e s m args below meth c s₁ B hml hv
  obtain ⟨rfl, hP, hE⟩ := hv
  have hx := B.exec
  have hb := B.bytes
  have hr := B.returns
  have hts := atoms_spec (ws := wsX13_unlike) B.pre
  have hown : s.vm.findClass RX13 = some m.cls := findClass_of_methodNamed B.named
  have hlocks := B.notSynchronized
  have hP : va_P D vwCl [(h0, .inr (10, fs0))] s.heap := hP
  have hl := lv_entry ([.ref h0, .int x1, .int x2]) (n := 5) (Nat.le_of_ble_eq_true rfl)
  rw [lg_entry_eq]
  generalize (lg_sl ([.ref h0, .int x1, .int x2]) ++ List.replicate (5 - (lg_sl ([.ref h0, .int x1, .int x2])).length) Slot.unset).toArray = ls at hl ⊢
  have hl : lv_has ls 5 [(0, .ref h0), (1, .int x1), (2, .int x2)] := hl
  refine lv_aload_n hx hb dX13_unlike_0 rfl (lv_at hl 0 rfl) ?_
  refine lv_iload_n hx hb dX13_unlike_1 rfl (lv_at hl 1 rfl) ?_
  refine vp_callSi (W.runV (As := [.int x1]) (rest := []) ⟨hx, hb, hml, hown, hts⟩ (c_X13_isClause l D T h0 fs0 x1 0 (-1) e0_7 (by decide)) (cwV 1 hts gX13_unlike_X13_isClause rfl rfl rfl (by decide +kernel) ⟨Nat.le_of_ble_eq_true rfl, Nat.le_of_ble_eq_true rfl⟩) (pR_V (ci := 10) (q0 := 0) hP hE rfl rfl [0] rfl) rfl rfl hl.1 rfl (lv_room (Nat.le_of_ble_eq_true rfl)) dX13_unlike_2 ⟨Nat.le_of_ble_eq_true rfl, Nat.le_of_ble_eq_true rfl⟩) (fun r_1 hr_1 => ?_)
  rcases bool_post hr_1 with ⟨c_2, rfl⟩ | ⟨c_2, rfl⟩
  · exact absurd c_2 (by omega)
  refine lv_if_eq (tgt := 16) hx hb dX13_unlike_5 (by decide) (fun _ => ?_) (fun c9 => absurd c9 (by decide))
  refine lv_bipush (v := (-2)) hx hb dX13_unlike_16 (by decide) ?_
  exact W.iret hx hb hr (fun t ht hW => ⟨_, rfl, rfl, ht⟩) (fun _ h => by cases h) dX13_unlike_18
theorem dX13_most_0 : decode cX13_most 0 = .ok (.aload_n 0, 1) := by decide +kernel
theorem dX13_most_1 : decode cX13_most 1 = .ok (.iload_n 1, 1) := by decide +kernel
theorem dX13_most_2 : decode cX13_most 2 = .ok (.invokevirtual 233, 3) := by decide +kernel
theorem dX13_most_20 : decode cX13_most 20 = .ok (.bipush (-2), 2) := by decide +kernel
theorem dX13_most_22 : decode cX13_most 22 = .ok (.ireturn, 1) := by decide +kernel
theorem dX13_most_5 : decode cX13_most 5 = .ok (.ifCond .eq 15, 3) := by decide +kernel
set_option maxRecDepth 20000 in
theorem ggX13_most_X13_isClause : GoodIn wsX13_most wsX13_isClause := goodIn_r _ [9, 10, 11, 12, 8, 13, 112, 113, 114, 115, 116, 117, 118, 119, 120, 121, 122, 123, 124, 125, 126, 127, 128, 129, 130, 131, 132, 133, 134, 135, 136, 137, 138, 139, 140, 141, 142, 143, 144, 145, 146, 147, 148, 149, 150, 151, 152, 153, 154, 155, 156] (by decide +kernel) (by decide +kernel)
set_option maxRecDepth 20000 in
theorem gX13_most_X13_isClause : GoodIn wsX13_most (wsV RX13 233 RX13 yX13_isClause wsX13_isClause) := goodIn_app (goodIn_of _ (by decide +kernel)) ggX13_most_X13_isClause
set_option maxHeartbeats 4000000 in
set_option maxRecDepth 100000 in
theorem f_X13_most (l : Launch) (D : va_G) (T : Nat → ClassId) (h0 : Nat) (fs0 : List Value) (x1 : Int32) (x2 : Int32) (e0_7 : fs0[7]? = some (.int 0)) : Met l yX13_most wsX13_most ({ frames := 2, cells := 0, slots := 0, locals := 46 }) (pR [.ref h0, .int x1, .int x2] D T [(h0, .inr (10, fs0))]) (vp_Si (fun r => r = -2)) 0 0 (fun _ => False) := by
  refine Met.ofW (cc := cX13_most) (maxL := 8) (ret := (some .int)) (by decide) rfl ?_
  intro p e s m args below meth c s₁ B hml hv
  obtain ⟨rfl, hP, hE⟩ := hv
  have hx := B.exec
  have hb := B.bytes
  have hr := B.returns
  have hts := atoms_spec (ws := wsX13_most) B.pre
  have hown : s.vm.findClass RX13 = some m.cls := findClass_of_methodNamed B.named
  have hlocks := B.notSynchronized
  have hP : va_P D vwCl [(h0, .inr (10, fs0))] s.heap := hP
  have hl := lv_entry ([.ref h0, .int x1, .int x2]) (n := 8) (Nat.le_of_ble_eq_true rfl)
  rw [lg_entry_eq]
  generalize (lg_sl ([.ref h0, .int x1, .int x2]) ++ List.replicate (8 - (lg_sl ([.ref h0, .int x1, .int x2])).length) Slot.unset).toArray = ls at hl ⊢
  have hl : lv_has ls 8 [(0, .ref h0), (1, .int x1), (2, .int x2)] := hl
  refine lv_aload_n hx hb dX13_most_0 rfl (lv_at hl 0 rfl) ?_
  refine lv_iload_n hx hb dX13_most_1 rfl (lv_at hl 1 rfl) ?_
  refine vp_callSi (W.runV (As := [.int x1]) (rest := []) ⟨hx, hb, hml, hown, hts⟩ (c_X13_isClause l D T h0 fs0 x1 0 (-1) e0_7 (by decide)) (cwV 1 hts gX13_most_X13_isClause rfl rfl rfl (by decide +kernel) ⟨Nat.le_of_ble_eq_true rfl, Nat.le_of_ble_eq_true rfl⟩) (pR_V (ci := 10) (q0 := 0) hP hE rfl rfl [0] rfl) rfl rfl hl.1 rfl (lv_room (Nat.le_of_ble_eq_true rfl)) dX13_most_2 ⟨Nat.le_of_ble_eq_true rfl, Nat.le_of_ble_eq_true rfl⟩) (fun r_1 hr_1 => ?_)
  rcases bool_post hr_1 with ⟨c_2, rfl⟩ | ⟨c_2, rfl⟩
  · exact absurd c_2 (by omega)
  refine lv_if_eq (tgt := 20) hx hb dX13_most_5 (by decide) (fun _ => ?_) (fun c9 => absurd c9 (by decide))
  refine lv_bipush (v := (-2)) hx hb dX13_most_20 (by decide) ?_
  exact W.iret hx hb hr (fun t ht hW => ⟨_, rfl, rfl, ht⟩) (fun _ h => by cases h) dX13_most_22
theorem dX13_dueDays_0 : decode cX13_dueDays 0 = .ok (.aload_n 0, 1) := by decide +kernel
theorem dX13_dueDays_1 : decode cX13_dueDays 1 = .ok (.iload_n 1, 1) := by decide +kernel
theorem dX13_dueDays_10 : decode cX13_dueDays 10 = .ok (.bipush (-2), 2) := by decide +kernel
theorem dX13_dueDays_12 : decode cX13_dueDays 12 = .ok (.goto 22, 3) := by decide +kernel
theorem dX13_dueDays_2 : decode cX13_dueDays 2 = .ok (.iload_n 2, 1) := by decide +kernel
theorem dX13_dueDays_3 : decode cX13_dueDays 3 = .ok (.iload_n 3, 1) := by decide +kernel
theorem dX13_dueDays_34 : decode cX13_dueDays 34 = .ok (.ireturn, 1) := by decide +kernel
theorem dX13_dueDays_4 : decode cX13_dueDays 4 = .ok (.invokevirtual 326, 3) := by decide +kernel
theorem dX13_dueDays_7 : decode cX13_dueDays 7 = .ok (.ifCond .ne 8, 3) := by decide +kernel
set_option maxRecDepth 20000 in
theorem ggX13_dueDays_X13_isHad : GoodIn wsX13_dueDays wsX13_isHad := goodIn_r _ [6, 7, 8, 9, 10, 5, 11, 12, 13, 14, 15, 16, 17, 18, 19, 157, 158, 159, 160, 161, 162, 163, 164, 165, 166, 167, 168, 169, 170, 171, 172, 173, 174, 175, 176, 177, 178, 179, 180, 181, 182, 183, 184, 185, 186, 187, 188, 189, 190, 191, 192, 193, 194, 195, 196, 197, 198, 199, 200, 201] (by decide +kernel) (by decide +kernel)
set_option maxRecDepth 20000 in
theorem gX13_dueDays_X13_isHad : GoodIn wsX13_dueDays (wsV RX13 326 RX13 yX13_isHad wsX13_isHad) := goodIn_app (goodIn_of _ (by decide +kernel)) ggX13_dueDays_X13_isHad
set_option maxHeartbeats 4000000 in
set_option maxRecDepth 100000 in
theorem f_X13_dueDays (l : Launch) (D : va_G) (T : Nat → ClassId) (h0 : Nat) (fs0 : List Value) (x1 : Int32) (x2 : Int32) (x3 : Int32) (e0_7 : fs0[7]? = some (.int 0)) : Met l yX13_dueDays wsX13_dueDays ({ frames := 3, cells := 0, slots := 0, locals := 69 }) (pR [.ref h0, .int x1, .int x2, .int x3] D T [(h0, .inr (10, fs0))]) (vp_Si (fun r => r = -2)) 0 0 (fun _ => False) := by
  refine Met.ofW (cc := cX13_dueDays) (maxL := 4) (ret := (some .int)) (by decide) rfl ?_
  intro p e s m args below meth c s₁ B hml hv
  obtain ⟨rfl, hP, hE⟩ := hv
  have hx := B.exec
  have hb := B.bytes
  have hr := B.returns
  have hts := atoms_spec (ws := wsX13_dueDays) B.pre
  have hown : s.vm.findClass RX13 = some m.cls := findClass_of_methodNamed B.named
  have hlocks := B.notSynchronized
  have hP : va_P D vwCl [(h0, .inr (10, fs0))] s.heap := hP
  have hl := lv_entry ([.ref h0, .int x1, .int x2, .int x3]) (n := 4) (Nat.le_of_ble_eq_true rfl)
  rw [lg_entry_eq]
  generalize (lg_sl ([.ref h0, .int x1, .int x2, .int x3]) ++ List.replicate (4 - (lg_sl ([.ref h0, .int x1, .int x2, .int x3])).length) Slot.unset).toArray = ls at hl ⊢
  have hl : lv_has ls 4 [(0, .ref h0), (1, .int x1), (2, .int x2), (3, .int x3)] := hl
  refine lv_aload_n hx hb dX13_dueDays_0 rfl (lv_at hl 0 rfl) ?_
  refine lv_iload_n hx hb dX13_dueDays_1 rfl (lv_at hl 1 rfl) ?_
  refine lv_iload_n hx hb dX13_dueDays_2 rfl (lv_at hl 2 rfl) ?_
  refine lv_iload_n hx hb dX13_dueDays_3 rfl (lv_at hl 3 rfl) ?_
  refine vp_callSi (W.runV (As := [.int x1, .int x2, .int x3]) (rest := []) ⟨hx, hb, hml, hown, hts⟩ (f_X13_isHad l D T h0 fs0 x1 x2 x3 e0_7) (cwV 3 hts gX13_dueDays_X13_isHad rfl rfl rfl (by decide +kernel) ⟨Nat.le_of_ble_eq_true rfl, Nat.le_of_ble_eq_true rfl⟩) (pR_V (ci := 10) (q0 := 0) hP hE rfl rfl [0] rfl) rfl rfl hl.1 rfl (lv_room (Nat.le_of_ble_eq_true rfl)) dX13_dueDays_4 ⟨Nat.le_of_ble_eq_true rfl, Nat.le_of_ble_eq_true rfl⟩) (fun r_1 hr_1 => ?_)
  obtain rfl : r_1 = 0 := hr_1
  refine lv_if_ne (tgt := 15) hx hb dX13_dueDays_7 (by decide) (fun c9 => absurd c9 (by decide)) (fun _ => ?_)
  refine lv_bipush (v := (-2)) hx hb dX13_dueDays_10 (by decide) ?_
  refine lv_goto (tgt := 34) hx hb dX13_dueDays_12 (by decide) ?_
  exact W.iret hx hb hr (fun t ht hW => ⟨_, rfl, rfl, ht⟩) (fun _ h => by cases h) dX13_dueDays_34
theorem dX13_dues_0 : decode cX13_dues 0 = .ok (.aload_n 0, 1) := by decide +kernel
theorem dX13_dues_1 : decode cX13_dues 1 = .ok (.iload_n 1, 1) := by decide +kernel
theorem dX13_dues_18 : decode cX13_dues 18 = .ok (.bipush (-2), 2) := by decide +kernel
theorem dX13_dues_2 : decode cX13_dues 2 = .ok (.iload_n 2, 1) := by decide +kernel
theorem dX13_dues_20 : decode cX13_dues 20 = .ok (.ireturn, 1) := by decide +kernel
theorem dX13_dues_3 : decode cX13_dues 3 = .ok (.iload_n 3, 1) := by decide +kernel
theorem dX13_dues_4 : decode cX13_dues 4 = .ok (.invokevirtual 326, 3) := by decide +kernel
theorem dX13_dues_7 : decode cX13_dues 7 = .ok (.ifCond .eq 11, 3) := by decide +kernel
set_option maxRecDepth 20000 in
theorem ggX13_dues_X13_isHad : GoodIn wsX13_dues wsX13_isHad := goodIn_r _ [7, 8, 9, 10, 11, 6, 12, 13, 14, 15, 16, 17, 18, 19, 20, 173, 174, 175, 176, 177, 178, 179, 180, 181, 182, 183, 184, 185, 186, 187, 188, 189, 190, 191, 192, 193, 194, 195, 196, 197, 198, 199, 200, 201, 202, 203, 204, 205, 206, 207, 208, 209, 210, 211, 212, 213, 214, 215, 216, 217] (by decide +kernel) (by decide +kernel)
set_option maxRecDepth 20000 in
theorem gX13_dues_X13_isHad : GoodIn wsX13_dues (wsV RX13 326 RX13 yX13_isHad wsX13_isHad) := goodIn_app (goodIn_of _ (by decide +kernel)) ggX13_dues_X13_isHad
set_option maxHeartbeats 4000000 in
set_option maxRecDepth 100000 in
theorem f_X13_dues (l : Launch) (D : va_G) (T : Nat → ClassId) (h0 : Nat) (fs0 : List Value) (x1 : Int32) (x2 : Int32) (x3 : Int32) (x4 : Int32) (e0_7 : fs0[7]? = some (.int 0)) : Met l yX13_dues wsX13_dues ({ frames := 3, cells := 0, slots := 0, locals := 69 }) (pR [.ref h0, .int x1, .int x2, .int x3, .int x4] D T [(h0, .inr (10, fs0))]) (vp_Si (fun r => r = -2)) 0 0 (fun _ => False) := by
  refine Met.ofW (cc := cX13_dues) (maxL := 7) (ret := (some .int)) (by decide) rfl ?_
  intro p e s m args below meth c s₁ B hml hv
  obtain ⟨rfl, hP, hE⟩ := hv
  have hx := B.exec
  have hb := B.bytes
  have hr := B.returns
  have hts := atoms_spec (ws := wsX13_dues) B.pre
  have hown : s.vm.findClass RX13 = some m.cls := findClass_of_methodNamed B.named
  have hlocks := B.notSynchronized
  have hP : va_P D vwCl [(h0, .inr (10, fs0))] s.heap := hP
  have hl := lv_entry ([.ref h0, .int x1, .int x2, .int x3, .int x4]) (n := 7) (Nat.le_of_ble_eq_true rfl)
  rw [lg_entry_eq]
  generalize (lg_sl ([.ref h0, .int x1, .int x2, .int x3, .int x4]) ++ List.replicate (7 - (lg_sl ([.ref h0, .int x1, .int x2, .int x3, .int x4])).length) Slot.unset).toArray = ls at hl ⊢
  have hl : lv_has ls 7 [(0, .ref h0), (1, .int x1), (2, .int x2), (3, .int x3), (4, .int x4)] := hl
  refine lv_aload_n hx hb dX13_dues_0 rfl (lv_at hl 0 rfl) ?_
  refine lv_iload_n hx hb dX13_dues_1 rfl (lv_at hl 1 rfl) ?_
  refine lv_iload_n hx hb dX13_dues_2 rfl (lv_at hl 2 rfl) ?_
  refine lv_iload_n hx hb dX13_dues_3 rfl (lv_at hl 3 rfl) ?_
  refine vp_callSi (W.runV (As := [.int x1, .int x2, .int x3]) (rest := []) ⟨hx, hb, hml, hown, hts⟩ (f_X13_isHad l D T h0 fs0 x1 x2 x3 e0_7) (cwV 3 hts gX13_dues_X13_isHad rfl rfl rfl (by decide +kernel) ⟨Nat.le_of_ble_eq_true rfl, Nat.le_of_ble_eq_true rfl⟩) (pR_V (ci := 10) (q0 := 0) hP hE rfl rfl [0] rfl) rfl rfl hl.1 rfl (lv_room (Nat.le_of_ble_eq_true rfl)) dX13_dues_4 ⟨Nat.le_of_ble_eq_true rfl, Nat.le_of_ble_eq_true rfl⟩) (fun r_1 hr_1 => ?_)
  obtain rfl : r_1 = 0 := hr_1
  refine lv_if_eq (tgt := 18) hx hb dX13_dues_7 (by decide) (fun _ => ?_) (fun c9 => absurd c9 (by decide))
  refine lv_bipush (v := (-2)) hx hb dX13_dues_18 (by decide) ?_
  exact W.iret hx hb hr (fun t ht hW => ⟨_, rfl, rfl, ht⟩) (fun _ h => by cases h) dX13_dues_20
theorem dX13_put_0 : decode cX13_put 0 = .ok (.iload_n 1, 1) := by decide +kernel
theorem dX13_put_1 : decode cX13_put 1 = .ok (.invokestatic 405, 3) := by decide +kernel
theorem dX13_put_12 : decode cX13_put 12 = .ok (.ifCond .ne 6, 3) := by decide +kernel
theorem dX13_put_15 : decode cX13_put 15 = .ok (.bipush (-2), 2) := by decide +kernel
theorem dX13_put_17 : decode cX13_put 17 = .ok (.ireturn, 1) := by decide +kernel
theorem dX13_put_4 : decode cX13_put 4 = .ok (.ifCond .eq 11, 3) := by decide +kernel
theorem dX13_put_7 : decode cX13_put 7 = .ok (.aload_n 0, 1) := by decide +kernel
theorem dX13_put_8 : decode cX13_put 8 = .ok (.iload_n 2, 1) := by decide +kernel
theorem dX13_put_9 : decode cX13_put 9 = .ok (.invokevirtual 233, 3) := by decide +kernel
set_option maxRecDepth 20000 in
theorem ggX13_put_X13_isBag : GoodIn wsX13_put wsX13_isBag := goodIn_r _ [6, 7, 8, 9, 5, 10] (by decide +kernel) (by decide +kernel)
set_option maxRecDepth 20000 in
theorem ggX13_put_X13_isClause : GoodIn wsX13_put wsX13_isClause := goodIn_r _ [14, 15, 8, 9, 5, 10, 16, 17, 18, 19, 20, 21, 22, 23, 24, 25, 26, 27, 28, 29, 30, 31, 32, 33, 34, 35, 36, 37, 38, 39, 40, 41, 42, 43, 44, 45, 46, 47, 48, 49, 50, 51, 52, 53, 54, 55, 56, 57, 58, 59, 60] (by decide +kernel) (by decide +kernel)
set_option maxRecDepth 20000 in
theorem gX13_put_X13_isBag : GoodIn wsX13_put (va_wsS RX13 405 yX13_isBag wsX13_isBag) := goodIn_app (goodIn_of _ (by decide +kernel)) ggX13_put_X13_isBag
set_option maxRecDepth 20000 in
theorem gX13_put_X13_isClause : GoodIn wsX13_put (wsV RX13 233 RX13 yX13_isClause wsX13_isClause) := goodIn_app (goodIn_of _ (by decide +kernel)) ggX13_put_X13_isClause
set_option maxHeartbeats 4000000 in
set_option maxRecDepth 100000 in
theorem f_X13_put (l : Launch) (D : va_G) (T : Nat → ClassId) (h0 : Nat) (fs0 : List Value) (x1 : Int32) (x2 : Int32) (e0_7 : fs0[7]? = some (.int 0)) : Met l yX13_put wsX13_put ({ frames := 2, cells := 0, slots := 0, locals := 46 }) (pR [.ref h0, .int x1, .int x2] D T [(h0, .inr (10, fs0))]) (vp_Si (fun r => r = -2)) 0 0 (fun _ => False) := by
  refine Met.ofW (cc := cX13_put) (maxL := 3) (ret := (some .int)) (by decide) rfl ?_
  intro p e s m args below meth c s₁ B hml hv
  obtain ⟨rfl, hP, hE⟩ := hv
  have hx := B.exec
  have hb := B.bytes
  have hr := B.returns
  have hts := atoms_spec (ws := wsX13_put) B.pre
  have hown : s.vm.findClass RX13 = some m.cls := findClass_of_methodNamed B.named
  have hlocks := B.notSynchronized
  have hP : va_P D vwCl [(h0, .inr (10, fs0))] s.heap := hP
  have hl := lv_entry ([.ref h0, .int x1, .int x2]) (n := 3) (Nat.le_of_ble_eq_true rfl)
  rw [lg_entry_eq]
  generalize (lg_sl ([.ref h0, .int x1, .int x2]) ++ List.replicate (3 - (lg_sl ([.ref h0, .int x1, .int x2])).length) Slot.unset).toArray = ls at hl ⊢
  have hl : lv_has ls 3 [(0, .ref h0), (1, .int x1), (2, .int x2)] := hl
  refine lv_iload_n hx hb dX13_put_0 rfl (lv_at hl 1 rfl) ?_
  refine vp_callSi (W.runS (As := [.int x1]) (rest := []) ⟨hx, hb, hml, hown, hts⟩ (c_X13_isBag l D T x1) (va_cwS 1 hts gX13_put_X13_isBag rfl rfl rfl (by decide +kernel) ⟨Nat.le_of_ble_eq_true rfl, Nat.le_of_ble_eq_true rfl⟩) (pR_S hP hE [] rfl) rfl rfl hl.1 rfl (lv_room (Nat.le_of_ble_eq_true rfl)) dX13_put_1 ⟨Nat.le_of_ble_eq_true rfl, Nat.le_of_ble_eq_true rfl⟩) (fun r_1 hr_1 => ?_)
  rcases bool_post hr_1 with ⟨c_2, rfl⟩ | ⟨c_2, rfl⟩
  · refine lv_if_eq (tgt := 15) hx hb dX13_put_4 (by decide) (fun c9 => absurd c9 (by decide)) (fun _ => ?_)
    refine lv_aload_n hx hb dX13_put_7 rfl (lv_at hl 0 rfl) ?_
    refine lv_iload_n hx hb dX13_put_8 rfl (lv_at hl 2 rfl) ?_
    refine vp_callSi (W.runV (As := [.int x2]) (rest := []) ⟨hx, hb, hml, hown, hts⟩ (c_X13_isClause l D T h0 fs0 x2 0 (-1) e0_7 (by decide)) (cwV 1 hts gX13_put_X13_isClause rfl rfl rfl (by decide +kernel) ⟨Nat.le_of_ble_eq_true rfl, Nat.le_of_ble_eq_true rfl⟩) (pR_V (ci := 10) (q0 := 0) hP hE rfl rfl [0] rfl) rfl rfl hl.1 rfl (lv_room (Nat.le_of_ble_eq_true rfl)) dX13_put_9 ⟨Nat.le_of_ble_eq_true rfl, Nat.le_of_ble_eq_true rfl⟩) (fun r_3 hr_3 => ?_)
    rcases bool_post hr_3 with ⟨c_4, rfl⟩ | ⟨c_4, rfl⟩
    · exact absurd c_4 (by omega)
    refine lv_if_ne (tgt := 18) hx hb dX13_put_12 (by decide) (fun c9 => absurd c9 (by decide)) (fun _ => ?_)
    refine lv_bipush (v := (-2)) hx hb dX13_put_15 (by decide) ?_
    exact W.iret hx hb hr (fun t ht hW => ⟨_, rfl, rfl, ht⟩) (fun _ h => by cases h) dX13_put_17
  · refine lv_if_eq (tgt := 15) hx hb dX13_put_4 (by decide) (fun _ => ?_) (fun c9 => absurd c9 (by decide))
    refine lv_bipush (v := (-2)) hx hb dX13_put_15 (by decide) ?_
    exact W.iret hx hb hr (fun t ht hW => ⟨_, rfl, rfl, ht⟩) (fun _ h => by cases h) dX13_put_17
theorem dX13_compare_0 : decode cX13_compare 0 = .ok (.iload_n 1, 1) := by decide +kernel
theorem dX13_compare_1 : decode cX13_compare 1 = .ok (.invokestatic 417, 3) := by decide +kernel
theorem dX13_compare_12 : decode cX13_compare 12 = .ok (.ifCond .eq 12, 3) := by decide +kernel
theorem dX13_compare_24 : decode cX13_compare 24 = .ok (.bipush (-2), 2) := by decide +kernel
theorem dX13_compare_26 : decode cX13_compare 26 = .ok (.ireturn, 1) := by decide +kernel
theorem dX13_compare_4 : decode cX13_compare 4 = .ok (.ifCond .eq 20, 3) := by decide +kernel
theorem dX13_compare_7 : decode cX13_compare 7 = .ok (.aload_n 0, 1) := by decide +kernel
theorem dX13_compare_8 : decode cX13_compare 8 = .ok (.iload_n 2, 1) := by decide +kernel
theorem dX13_compare_9 : decode cX13_compare 9 = .ok (.invokevirtual 233, 3) := by decide +kernel
set_option maxRecDepth 20000 in
theorem ggX13_compare_X13_isClause : GoodIn wsX13_compare wsX13_isClause := goodIn_r _ [17, 18, 11, 12, 8, 13, 126, 127, 128, 129, 130, 131, 132, 133, 134, 135, 136, 137, 138, 139, 140, 141, 142, 143, 144, 145, 146, 147, 148, 149, 150, 151, 152, 153, 154, 155, 156, 157, 158, 159, 160, 161, 162, 163, 164, 165, 166, 167, 168, 169, 170] (by decide +kernel) (by decide +kernel)
set_option maxRecDepth 20000 in
theorem ggX13_compare_X13_isHand : GoodIn wsX13_compare wsX13_isHand := goodIn_r _ [9, 10, 11, 12, 8, 13] (by decide +kernel) (by decide +kernel)
set_option maxRecDepth 20000 in
theorem gX13_compare_X13_isClause : GoodIn wsX13_compare (wsV RX13 233 RX13 yX13_isClause wsX13_isClause) := goodIn_app (goodIn_of _ (by decide +kernel)) ggX13_compare_X13_isClause
set_option maxRecDepth 20000 in
theorem gX13_compare_X13_isHand : GoodIn wsX13_compare (va_wsS RX13 417 yX13_isHand wsX13_isHand) := goodIn_app (goodIn_of _ (by decide +kernel)) ggX13_compare_X13_isHand
set_option maxHeartbeats 4000000 in
set_option maxRecDepth 100000 in
theorem f_X13_compare (l : Launch) (D : va_G) (T : Nat → ClassId) (h0 : Nat) (fs0 : List Value) (x1 : Int32) (x2 : Int32) (x3 : Int32) (x4 : Int32) (e0_7 : fs0[7]? = some (.int 0)) : Met l yX13_compare wsX13_compare ({ frames := 2, cells := 0, slots := 0, locals := 46 }) (pR [.ref h0, .int x1, .int x2, .int x3, .int x4] D T [(h0, .inr (10, fs0))]) (vp_Si (fun r => r = -2)) 0 0 (fun _ => False) := by
  refine Met.ofW (cc := cX13_compare) (maxL := 7) (ret := (some .int)) (by decide) rfl ?_
  intro p e s m args below meth c s₁ B hml hv
  obtain ⟨rfl, hP, hE⟩ := hv
  have hx := B.exec
  have hb := B.bytes
  have hr := B.returns
  have hts := atoms_spec (ws := wsX13_compare) B.pre
  have hown : s.vm.findClass RX13 = some m.cls := findClass_of_methodNamed B.named
  have hlocks := B.notSynchronized
  have hP : va_P D vwCl [(h0, .inr (10, fs0))] s.heap := hP
  have hl := lv_entry ([.ref h0, .int x1, .int x2, .int x3, .int x4]) (n := 7) (Nat.le_of_ble_eq_true rfl)
  rw [lg_entry_eq]
  generalize (lg_sl ([.ref h0, .int x1, .int x2, .int x3, .int x4]) ++ List.replicate (7 - (lg_sl ([.ref h0, .int x1, .int x2, .int x3, .int x4])).length) Slot.unset).toArray = ls at hl ⊢
  have hl : lv_has ls 7 [(0, .ref h0), (1, .int x1), (2, .int x2), (3, .int x3), (4, .int x4)] := hl
  refine lv_iload_n hx hb dX13_compare_0 rfl (lv_at hl 1 rfl) ?_
  refine vp_callSi (W.runS (As := [.int x1]) (rest := []) ⟨hx, hb, hml, hown, hts⟩ (c_X13_isHand l D T x1) (va_cwS 1 hts gX13_compare_X13_isHand rfl rfl rfl (by decide +kernel) ⟨Nat.le_of_ble_eq_true rfl, Nat.le_of_ble_eq_true rfl⟩) (pR_S hP hE [] rfl) rfl rfl hl.1 rfl (lv_room (Nat.le_of_ble_eq_true rfl)) dX13_compare_1 ⟨Nat.le_of_ble_eq_true rfl, Nat.le_of_ble_eq_true rfl⟩) (fun r_1 hr_1 => ?_)
  rcases bool_post hr_1 with ⟨c_2, rfl⟩ | ⟨c_2, rfl⟩
  · refine lv_if_eq (tgt := 24) hx hb dX13_compare_4 (by decide) (fun c9 => absurd c9 (by decide)) (fun _ => ?_)
    refine lv_aload_n hx hb dX13_compare_7 rfl (lv_at hl 0 rfl) ?_
    refine lv_iload_n hx hb dX13_compare_8 rfl (lv_at hl 2 rfl) ?_
    refine vp_callSi (W.runV (As := [.int x2]) (rest := []) ⟨hx, hb, hml, hown, hts⟩ (c_X13_isClause l D T h0 fs0 x2 0 (-1) e0_7 (by decide)) (cwV 1 hts gX13_compare_X13_isClause rfl rfl rfl (by decide +kernel) ⟨Nat.le_of_ble_eq_true rfl, Nat.le_of_ble_eq_true rfl⟩) (pR_V (ci := 10) (q0 := 0) hP hE rfl rfl [0] rfl) rfl rfl hl.1 rfl (lv_room (Nat.le_of_ble_eq_true rfl)) dX13_compare_9 ⟨Nat.le_of_ble_eq_true rfl, Nat.le_of_ble_eq_true rfl⟩) (fun r_3 hr_3 => ?_)
    rcases bool_post hr_3 with ⟨c_4, rfl⟩ | ⟨c_4, rfl⟩
    · exact absurd c_4 (by omega)
    refine lv_if_eq (tgt := 24) hx hb dX13_compare_12 (by decide) (fun _ => ?_) (fun c9 => absurd c9 (by decide))
    refine lv_bipush (v := (-2)) hx hb dX13_compare_24 (by decide) ?_
    exact W.iret hx hb hr (fun t ht hW => ⟨_, rfl, rfl, ht⟩) (fun _ h => by cases h) dX13_compare_26
  · refine lv_if_eq (tgt := 24) hx hb dX13_compare_4 (by decide) (fun _ => ?_) (fun c9 => absurd c9 (by decide))
    refine lv_bipush (v := (-2)) hx hb dX13_compare_24 (by decide) ?_
    exact W.iret hx hb hr (fun t ht hW => ⟨_, rfl, rfl, ht⟩) (fun _ h => by cases h) dX13_compare_26
theorem dX13_value_0 : decode cX13_value 0 = .ok (.aload_n 0, 1) := by decide +kernel
theorem dX13_value_1 : decode cX13_value 1 = .ok (.iload_n 1, 1) := by decide +kernel
theorem dX13_value_2 : decode cX13_value 2 = .ok (.invokevirtual 233, 3) := by decide +kernel
theorem dX13_value_27 : decode cX13_value 27 = .ok (.bipush (-2), 2) := by decide +kernel
theorem dX13_value_29 : decode cX13_value 29 = .ok (.invokestatic 270, 3) := by decide +kernel
theorem dX13_value_32 : decode cX13_value 32 = .ok (.lreturn, 1) := by decide +kernel
theorem dX13_value_5 : decode cX13_value 5 = .ok (.ifCond .eq 22, 3) := by decide +kernel
set_option maxRecDepth 20000 in
theorem ggX13_value_X13_isClause : GoodIn wsX13_value wsX13_isClause := goodIn_r _ [8, 9, 10, 11, 7, 12, 119, 120, 121, 122, 123, 124, 125, 126, 127, 128, 129, 130, 131, 132, 133, 134, 135, 136, 137, 138, 139, 140, 141, 142, 143, 144, 145, 146, 147, 148, 149, 150, 151, 152, 153, 154, 155, 156, 157, 158, 159, 160, 161, 162, 163] (by decide +kernel) (by decide +kernel)
set_option maxRecDepth 20000 in
theorem ggX13_value_X13_refused : GoodIn wsX13_value wsX13_refused := goodIn_r _ [19, 20] (by decide +kernel) (by decide +kernel)
set_option maxRecDepth 20000 in
theorem gX13_value_X13_isClause : GoodIn wsX13_value (wsV RX13 233 RX13 yX13_isClause wsX13_isClause) := goodIn_app (goodIn_of _ (by decide +kernel)) ggX13_value_X13_isClause
set_option maxRecDepth 20000 in
theorem gX13_value_X13_refused : GoodIn wsX13_value (va_wsS RX13 270 yX13_refused wsX13_refused) := goodIn_app (goodIn_of _ (by decide +kernel)) ggX13_value_X13_refused
set_option maxHeartbeats 4000000 in
set_option maxRecDepth 100000 in
theorem f_X13_value (l : Launch) (D : va_G) (T : Nat → ClassId) (h0 : Nat) (fs0 : List Value) (x1 : Int32) (x2 : Int32) (x3 : Int32) (x4 : Int32) (e0_7 : fs0[7]? = some (.int 0)) : Met l yX13_value wsX13_value ({ frames := 2, cells := 0, slots := 0, locals := 46 }) (pR [.ref h0, .int x1, .int x2, .int x3, .int x4] D T [(h0, .inr (10, fs0))]) (vp_Sl (fun r => r = (-4611686018427387906))) 0 0 (fun _ => False) := by
  refine Met.ofW (cc := cX13_value) (maxL := 6) (ret := (some .long)) (by decide) rfl ?_
  intro p e s m args below meth c s₁ B hml hv
  obtain ⟨rfl, hP, hE⟩ := hv
  have hx := B.exec
  have hb := B.bytes
  have hr := B.returns
  have hts := atoms_spec (ws := wsX13_value) B.pre
  have hown : s.vm.findClass RX13 = some m.cls := findClass_of_methodNamed B.named
  have hlocks := B.notSynchronized
  have hP : va_P D vwCl [(h0, .inr (10, fs0))] s.heap := hP
  have hl := lv_entry ([.ref h0, .int x1, .int x2, .int x3, .int x4]) (n := 6) (Nat.le_of_ble_eq_true rfl)
  rw [lg_entry_eq]
  generalize (lg_sl ([.ref h0, .int x1, .int x2, .int x3, .int x4]) ++ List.replicate (6 - (lg_sl ([.ref h0, .int x1, .int x2, .int x3, .int x4])).length) Slot.unset).toArray = ls at hl ⊢
  have hl : lv_has ls 6 [(0, .ref h0), (1, .int x1), (2, .int x2), (3, .int x3), (4, .int x4)] := hl
  refine lv_aload_n hx hb dX13_value_0 rfl (lv_at hl 0 rfl) ?_
  refine lv_iload_n hx hb dX13_value_1 rfl (lv_at hl 1 rfl) ?_
  refine vp_callSi (W.runV (As := [.int x1]) (rest := []) ⟨hx, hb, hml, hown, hts⟩ (c_X13_isClause l D T h0 fs0 x1 0 (-1) e0_7 (by decide)) (cwV 1 hts gX13_value_X13_isClause rfl rfl rfl (by decide +kernel) ⟨Nat.le_of_ble_eq_true rfl, Nat.le_of_ble_eq_true rfl⟩) (pR_V (ci := 10) (q0 := 0) hP hE rfl rfl [0] rfl) rfl rfl hl.1 rfl (lv_room (Nat.le_of_ble_eq_true rfl)) dX13_value_2 ⟨Nat.le_of_ble_eq_true rfl, Nat.le_of_ble_eq_true rfl⟩) (fun r_1 hr_1 => ?_)
  rcases bool_post hr_1 with ⟨c_2, rfl⟩ | ⟨c_2, rfl⟩
  · exact absurd c_2 (by omega)
  refine lv_if_eq (tgt := 27) hx hb dX13_value_5 (by decide) (fun _ => ?_) (fun c9 => absurd c9 (by decide))
  refine lv_bipush (v := (-2)) hx hb dX13_value_27 (by decide) ?_
  refine vp_callSl (W.runS (As := [.int (-2)]) (rest := []) ⟨hx, hb, hml, hown, hts⟩ (c_X13_refused l D T (-2)) (va_cwS 1 hts gX13_value_X13_refused rfl rfl rfl (by decide +kernel) ⟨Nat.le_of_ble_eq_true rfl, Nat.le_of_ble_eq_true rfl⟩) (pR_S hP hE [] rfl) rfl rfl hl.1 rfl (lv_room (Nat.le_of_ble_eq_true rfl)) dX13_value_29 ⟨Nat.le_of_ble_eq_true rfl, Nat.le_of_ble_eq_true rfl⟩) (fun r_3 hr_3 => ?_)
  obtain rfl : r_3 = (-4611686018427387906) := hr_3.trans (by decide)
  exact W.lret hx hb hr (fun t ht hW => ⟨_, rfl, rfl, ht⟩) (fun _ h => by cases h) dX13_value_32
theorem dX13_mean_0 : decode cX13_mean 0 = .ok (.aload_n 0, 1) := by decide +kernel
theorem dX13_mean_1 : decode cX13_mean 1 = .ok (.iload_n 1, 1) := by decide +kernel
theorem dX13_mean_2 : decode cX13_mean 2 = .ok (.invokevirtual 233, 3) := by decide +kernel
theorem dX13_mean_33 : decode cX13_mean 33 = .ok (.bipush (-2), 2) := by decide +kernel
theorem dX13_mean_35 : decode cX13_mean 35 = .ok (.invokestatic 270, 3) := by decide +kernel
theorem dX13_mean_38 : decode cX13_mean 38 = .ok (.lreturn, 1) := by decide +kernel
theorem dX13_mean_5 : decode cX13_mean 5 = .ok (.ifCond .eq 28, 3) := by decide +kernel
set_option maxRecDepth 20000 in
theorem ggX13_mean_X13_isClause : GoodIn wsX13_mean wsX13_isClause := goodIn_r _ [8, 9, 10, 11, 7, 12, 119, 120, 121, 122, 123, 124, 125, 126, 127, 128, 129, 130, 131, 132, 133, 134, 135, 136, 137, 138, 139, 140, 141, 142, 143, 144, 145, 146, 147, 148, 149, 150, 151, 152, 153, 154, 155, 156, 157, 158, 159, 160, 161, 162, 163] (by decide +kernel) (by decide +kernel)
set_option maxRecDepth 20000 in
theorem ggX13_mean_X13_refused : GoodIn wsX13_mean wsX13_refused := goodIn_r _ [19, 20] (by decide +kernel) (by decide +kernel)
set_option maxRecDepth 20000 in
theorem gX13_mean_X13_isClause : GoodIn wsX13_mean (wsV RX13 233 RX13 yX13_isClause wsX13_isClause) := goodIn_app (goodIn_of _ (by decide +kernel)) ggX13_mean_X13_isClause
set_option maxRecDepth 20000 in
theorem gX13_mean_X13_refused : GoodIn wsX13_mean (va_wsS RX13 270 yX13_refused wsX13_refused) := goodIn_app (goodIn_of _ (by decide +kernel)) ggX13_mean_X13_refused
set_option maxHeartbeats 4000000 in
set_option maxRecDepth 100000 in
theorem f_X13_mean (l : Launch) (D : va_G) (T : Nat → ClassId) (h0 : Nat) (fs0 : List Value) (x1 : Int32) (x2 : Int32) (x3 : Int32) (x4 : Int32) (e0_7 : fs0[7]? = some (.int 0)) : Met l yX13_mean wsX13_mean ({ frames := 2, cells := 0, slots := 0, locals := 46 }) (pR [.ref h0, .int x1, .int x2, .int x3, .int x4] D T [(h0, .inr (10, fs0))]) (vp_Sl (fun r => r = (-4611686018427387906))) 0 0 (fun _ => False) := by
  refine Met.ofW (cc := cX13_mean) (maxL := 5) (ret := (some .long)) (by decide) rfl ?_
  intro p e s m args below meth c s₁ B hml hv
  obtain ⟨rfl, hP, hE⟩ := hv
  have hx := B.exec
  have hb := B.bytes
  have hr := B.returns
  have hts := atoms_spec (ws := wsX13_mean) B.pre
  have hown : s.vm.findClass RX13 = some m.cls := findClass_of_methodNamed B.named
  have hlocks := B.notSynchronized
  have hP : va_P D vwCl [(h0, .inr (10, fs0))] s.heap := hP
  have hl := lv_entry ([.ref h0, .int x1, .int x2, .int x3, .int x4]) (n := 5) (Nat.le_of_ble_eq_true rfl)
  rw [lg_entry_eq]
  generalize (lg_sl ([.ref h0, .int x1, .int x2, .int x3, .int x4]) ++ List.replicate (5 - (lg_sl ([.ref h0, .int x1, .int x2, .int x3, .int x4])).length) Slot.unset).toArray = ls at hl ⊢
  have hl : lv_has ls 5 [(0, .ref h0), (1, .int x1), (2, .int x2), (3, .int x3), (4, .int x4)] := hl
  refine lv_aload_n hx hb dX13_mean_0 rfl (lv_at hl 0 rfl) ?_
  refine lv_iload_n hx hb dX13_mean_1 rfl (lv_at hl 1 rfl) ?_
  refine vp_callSi (W.runV (As := [.int x1]) (rest := []) ⟨hx, hb, hml, hown, hts⟩ (c_X13_isClause l D T h0 fs0 x1 0 (-1) e0_7 (by decide)) (cwV 1 hts gX13_mean_X13_isClause rfl rfl rfl (by decide +kernel) ⟨Nat.le_of_ble_eq_true rfl, Nat.le_of_ble_eq_true rfl⟩) (pR_V (ci := 10) (q0 := 0) hP hE rfl rfl [0] rfl) rfl rfl hl.1 rfl (lv_room (Nat.le_of_ble_eq_true rfl)) dX13_mean_2 ⟨Nat.le_of_ble_eq_true rfl, Nat.le_of_ble_eq_true rfl⟩) (fun r_1 hr_1 => ?_)
  rcases bool_post hr_1 with ⟨c_2, rfl⟩ | ⟨c_2, rfl⟩
  · exact absurd c_2 (by omega)
  refine lv_if_eq (tgt := 33) hx hb dX13_mean_5 (by decide) (fun _ => ?_) (fun c9 => absurd c9 (by decide))
  refine lv_bipush (v := (-2)) hx hb dX13_mean_33 (by decide) ?_
  refine vp_callSl (W.runS (As := [.int (-2)]) (rest := []) ⟨hx, hb, hml, hown, hts⟩ (c_X13_refused l D T (-2)) (va_cwS 1 hts gX13_mean_X13_refused rfl rfl rfl (by decide +kernel) ⟨Nat.le_of_ble_eq_true rfl, Nat.le_of_ble_eq_true rfl⟩) (pR_S hP hE [] rfl) rfl rfl hl.1 rfl (lv_room (Nat.le_of_ble_eq_true rfl)) dX13_mean_35 ⟨Nat.le_of_ble_eq_true rfl, Nat.le_of_ble_eq_true rfl⟩) (fun r_3 hr_3 => ?_)
  obtain rfl : r_3 = (-4611686018427387906) := hr_3.trans (by decide)
  exact W.lret hx hb hr (fun t ht hW => ⟨_, rfl, rfl, ht⟩) (fun _ h => by cases h) dX13_mean_38
theorem dX13_valueAs_0 : decode cX13_valueAs 0 = .ok (.aload_n 0, 1) := by decide +kernel
theorem dX13_valueAs_1 : decode cX13_valueAs 1 = .ok (.iload_n 1, 1) := by decide +kernel
theorem dX13_valueAs_2 : decode cX13_valueAs 2 = .ok (.invokevirtual 233, 3) := by decide +kernel
theorem dX13_valueAs_29 : decode cX13_valueAs 29 = .ok (.bipush (-2), 2) := by decide +kernel
theorem dX13_valueAs_31 : decode cX13_valueAs 31 = .ok (.invokestatic 270, 3) := by decide +kernel
theorem dX13_valueAs_34 : decode cX13_valueAs 34 = .ok (.lreturn, 1) := by decide +kernel
theorem dX13_valueAs_5 : decode cX13_valueAs 5 = .ok (.ifCond .eq 24, 3) := by decide +kernel
set_option maxRecDepth 20000 in
theorem ggX13_valueAs_X13_isClause : GoodIn wsX13_valueAs wsX13_isClause := goodIn_r _ [13, 14, 15, 16, 12, 17, 148, 149, 150, 151, 152, 153, 154, 155, 156, 157, 158, 159, 160, 161, 162, 163, 164, 165, 166, 167, 168, 169, 170, 171, 172, 173, 174, 175, 176, 177, 178, 179, 180, 181, 182, 183, 184, 185, 186, 187, 188, 189, 190, 191, 192] (by decide +kernel) (by decide +kernel)
set_option maxRecDepth 20000 in
theorem ggX13_valueAs_X13_refused : GoodIn wsX13_valueAs wsX13_refused := goodIn_r _ [24, 25] (by decide +kernel) (by decide +kernel)
set_option maxRecDepth 20000 in
theorem gX13_valueAs_X13_isClause : GoodIn wsX13_valueAs (wsV RX13 233 RX13 yX13_isClause wsX13_isClause) := goodIn_app (goodIn_of _ (by decide +kernel)) ggX13_valueAs_X13_isClause
set_option maxRecDepth 20000 in
theorem gX13_valueAs_X13_refused : GoodIn wsX13_valueAs (va_wsS RX13 270 yX13_refused wsX13_refused) := goodIn_app (goodIn_of _ (by decide +kernel)) ggX13_valueAs_X13_refused
set_option maxHeartbeats 4000000 in
set_option maxRecDepth 100000 in
theorem f_X13_valueAs (l : Launch) (D : va_G) (T : Nat → ClassId) (h0 : Nat) (fs0 : List Value) (x1 : Int32) (x2 : Int32) (x3 : Int32) (x4 : Int32) (e0_7 : fs0[7]? = some (.int 0)) : Met l yX13_valueAs wsX13_valueAs ({ frames := 2, cells := 0, slots := 0, locals := 46 }) (pR [.ref h0, .int x1, .int x2, .int x3, .int x4] D T [(h0, .inr (10, fs0))]) (vp_Sl (fun r => r = (-4611686018427387906))) 0 0 (fun _ => False) := by
  refine Met.ofW (cc := cX13_valueAs) (maxL := 8) (ret := (some .long)) (by decide) rfl ?_
  intro p e s m args below meth c s₁ B hml hv
  obtain ⟨rfl, hP, hE⟩ := hv
  have hx := B.exec
  have hb := B.bytes
  have hr := B.returns
  have hts := atoms_spec (ws := wsX13_valueAs) B.pre
  have hown : s.vm.findClass RX13 = some m.cls := findClass_of_methodNamed B.named
  have hlocks := B.notSynchronized
  have hP : va_P D vwCl [(h0, .inr (10, fs0))] s.heap := hP
  have hl := lv_entry ([.ref h0, .int x1, .int x2, .int x3, .int x4]) (n := 8) (Nat.le_of_ble_eq_true rfl)
  rw [lg_entry_eq]
  generalize (lg_sl ([.ref h0, .int x1, .int x2, .int x3, .int x4]) ++ List.replicate (8 - (lg_sl ([.ref h0, .int x1, .int x2, .int x3, .int x4])).length) Slot.unset).toArray = ls at hl ⊢
  have hl : lv_has ls 8 [(0, .ref h0), (1, .int x1), (2, .int x2), (3, .int x3), (4, .int x4)] := hl
  refine lv_aload_n hx hb dX13_valueAs_0 rfl (lv_at hl 0 rfl) ?_
  refine lv_iload_n hx hb dX13_valueAs_1 rfl (lv_at hl 1 rfl) ?_
  refine vp_callSi (W.runV (As := [.int x1]) (rest := []) ⟨hx, hb, hml, hown, hts⟩ (c_X13_isClause l D T h0 fs0 x1 0 (-1) e0_7 (by decide)) (cwV 1 hts gX13_valueAs_X13_isClause rfl rfl rfl (by decide +kernel) ⟨Nat.le_of_ble_eq_true rfl, Nat.le_of_ble_eq_true rfl⟩) (pR_V (ci := 10) (q0 := 0) hP hE rfl rfl [0] rfl) rfl rfl hl.1 rfl (lv_room (Nat.le_of_ble_eq_true rfl)) dX13_valueAs_2 ⟨Nat.le_of_ble_eq_true rfl, Nat.le_of_ble_eq_true rfl⟩) (fun r_1 hr_1 => ?_)
  rcases bool_post hr_1 with ⟨c_2, rfl⟩ | ⟨c_2, rfl⟩
  · exact absurd c_2 (by omega)
  refine lv_if_eq (tgt := 29) hx hb dX13_valueAs_5 (by decide) (fun _ => ?_) (fun c9 => absurd c9 (by decide))
  refine lv_bipush (v := (-2)) hx hb dX13_valueAs_29 (by decide) ?_
  refine vp_callSl (W.runS (As := [.int (-2)]) (rest := []) ⟨hx, hb, hml, hown, hts⟩ (c_X13_refused l D T (-2)) (va_cwS 1 hts gX13_valueAs_X13_refused rfl rfl rfl (by decide +kernel) ⟨Nat.le_of_ble_eq_true rfl, Nat.le_of_ble_eq_true rfl⟩) (pR_S hP hE [] rfl) rfl rfl hl.1 rfl (lv_room (Nat.le_of_ble_eq_true rfl)) dX13_valueAs_31 ⟨Nat.le_of_ble_eq_true rfl, Nat.le_of_ble_eq_true rfl⟩) (fun r_3 hr_3 => ?_)
  obtain rfl : r_3 = (-4611686018427387906) := hr_3.trans (by decide)
  exact W.lret hx hb hr (fun t ht hW => ⟨_, rfl, rfl, ht⟩) (fun _ h => by cases h) dX13_valueAs_34
theorem dX13_due_0 : decode cX13_due 0 = .ok (.aload_n 0, 1) := by decide +kernel
theorem dX13_due_1 : decode cX13_due 1 = .ok (.iload_n 1, 1) := by decide +kernel
theorem dX13_due_2 : decode cX13_due 2 = .ok (.iload_n 2, 1) := by decide +kernel
theorem dX13_due_23 : decode cX13_due 23 = .ok (.bipush (-2), 2) := by decide +kernel
theorem dX13_due_25 : decode cX13_due 25 = .ok (.invokestatic 270, 3) := by decide +kernel
theorem dX13_due_28 : decode cX13_due 28 = .ok (.lreturn, 1) := by decide +kernel
theorem dX13_due_3 : decode cX13_due 3 = .ok (.iload_n 3, 1) := by decide +kernel
theorem dX13_due_4 : decode cX13_due 4 = .ok (.invokevirtual 326, 3) := by decide +kernel
theorem dX13_due_7 : decode cX13_due 7 = .ok (.ifCond .eq 16, 3) := by decide +kernel
set_option maxRecDepth 20000 in
theorem ggX13_due_X13_isHad : GoodIn wsX13_due wsX13_isHad := goodIn_r _ [7, 1, 8, 9, 10, 6, 11, 12, 13, 14, 15, 16, 17, 18, 19, 161, 162, 163, 164, 165, 166, 167, 168, 169, 170, 171, 172, 173, 174, 175, 176, 177, 178, 179, 180, 181, 182, 183, 184, 185, 186, 187, 188, 189, 190, 191, 192, 193, 194, 195, 196, 197, 198, 199, 200, 201, 202, 203, 204, 205] (by decide +kernel) (by decide +kernel)
set_option maxRecDepth 20000 in
theorem ggX13_due_X13_refused : GoodIn wsX13_due wsX13_refused := goodIn_r _ [22, 23] (by decide +kernel) (by decide +kernel)
set_option maxRecDepth 20000 in
theorem gX13_due_X13_isHad : GoodIn wsX13_due (wsV RX13 326 RX13 yX13_isHad wsX13_isHad) := goodIn_app (goodIn_of _ (by decide +kernel)) ggX13_due_X13_isHad
set_option maxRecDepth 20000 in
theorem gX13_due_X13_refused : GoodIn wsX13_due (va_wsS RX13 270 yX13_refused wsX13_refused) := goodIn_app (goodIn_of _ (by decide +kernel)) ggX13_due_X13_refused
set_option maxHeartbeats 4000000 in
set_option maxRecDepth 100000 in
theorem f_X13_due (l : Launch) (D : va_G) (T : Nat → ClassId) (h0 : Nat) (fs0 : List Value) (x1 : Int32) (x2 : Int32) (x3 : Int32) (x4 : Int32) (e0_7 : fs0[7]? = some (.int 0)) : Met l yX13_due wsX13_due ({ frames := 3, cells := 0, slots := 0, locals := 69 }) (pR [.ref h0, .int x1, .int x2, .int x3, .int x4] D T [(h0, .inr (10, fs0))]) (vp_Sl (fun r => r = (-4611686018427387906))) 0 0 (fun _ => False) := by
  refine Met.ofW (cc := cX13_due) (maxL := 5) (ret := (some .long)) (by decide) rfl ?_
  intro p e s m args below meth c s₁ B hml hv
  obtain ⟨rfl, hP, hE⟩ := hv
  have hx := B.exec
  have hb := B.bytes
  have hr := B.returns
  have hts := atoms_spec (ws := wsX13_due) B.pre
  have hown : s.vm.findClass RX13 = some m.cls := findClass_of_methodNamed B.named
  have hlocks := B.notSynchronized
  have hP : va_P D vwCl [(h0, .inr (10, fs0))] s.heap := hP
  have hl := lv_entry ([.ref h0, .int x1, .int x2, .int x3, .int x4]) (n := 5) (Nat.le_of_ble_eq_true rfl)
  rw [lg_entry_eq]
  generalize (lg_sl ([.ref h0, .int x1, .int x2, .int x3, .int x4]) ++ List.replicate (5 - (lg_sl ([.ref h0, .int x1, .int x2, .int x3, .int x4])).length) Slot.unset).toArray = ls at hl ⊢
  have hl : lv_has ls 5 [(0, .ref h0), (1, .int x1), (2, .int x2), (3, .int x3), (4, .int x4)] := hl
  refine lv_aload_n hx hb dX13_due_0 rfl (lv_at hl 0 rfl) ?_
  refine lv_iload_n hx hb dX13_due_1 rfl (lv_at hl 1 rfl) ?_
  refine lv_iload_n hx hb dX13_due_2 rfl (lv_at hl 2 rfl) ?_
  refine lv_iload_n hx hb dX13_due_3 rfl (lv_at hl 3 rfl) ?_
  refine vp_callSi (W.runV (As := [.int x1, .int x2, .int x3]) (rest := []) ⟨hx, hb, hml, hown, hts⟩ (f_X13_isHad l D T h0 fs0 x1 x2 x3 e0_7) (cwV 3 hts gX13_due_X13_isHad rfl rfl rfl (by decide +kernel) ⟨Nat.le_of_ble_eq_true rfl, Nat.le_of_ble_eq_true rfl⟩) (pR_V (ci := 10) (q0 := 0) hP hE rfl rfl [0] rfl) rfl rfl hl.1 rfl (lv_room (Nat.le_of_ble_eq_true rfl)) dX13_due_4 ⟨Nat.le_of_ble_eq_true rfl, Nat.le_of_ble_eq_true rfl⟩) (fun r_1 hr_1 => ?_)
  obtain rfl : r_1 = 0 := hr_1
  refine lv_if_eq (tgt := 23) hx hb dX13_due_7 (by decide) (fun _ => ?_) (fun c9 => absurd c9 (by decide))
  refine lv_bipush (v := (-2)) hx hb dX13_due_23 (by decide) ?_
  refine vp_callSl (W.runS (As := [.int (-2)]) (rest := []) ⟨hx, hb, hml, hown, hts⟩ (c_X13_refused l D T (-2)) (va_cwS 1 hts gX13_due_X13_refused rfl rfl rfl (by decide +kernel) ⟨Nat.le_of_ble_eq_true rfl, Nat.le_of_ble_eq_true rfl⟩) (pR_S hP hE [] rfl) rfl rfl hl.1 rfl (lv_room (Nat.le_of_ble_eq_true rfl)) dX13_due_25 ⟨Nat.le_of_ble_eq_true rfl, Nat.le_of_ble_eq_true rfl⟩) (fun r_2 hr_2 => ?_)
  obtain rfl : r_2 = (-4611686018427387906) := hr_2.trans (by decide)
  exact W.lret hx hb hr (fun t ht hW => ⟨_, rfl, rfl, ht⟩) (fun _ h => by cases h) dX13_due_28
theorem dX13_failed_0 : decode cX13_failed 0 = .ok (.aload_n 0, 1) := by decide +kernel
theorem dX13_failed_1 : decode cX13_failed 1 = .ok (.iload_n 1, 1) := by decide +kernel
theorem dX13_failed_2 : decode cX13_failed 2 = .ok (.iload_n 2, 1) := by decide +kernel
theorem dX13_failed_3 : decode cX13_failed 3 = .ok (.iload_n 3, 1) := by decide +kernel
theorem dX13_failed_36 : decode cX13_failed 36 = .ok (.bipush (-2), 2) := by decide +kernel
theorem dX13_failed_38 : decode cX13_failed 38 = .ok (.invokestatic 270, 3) := by decide +kernel
theorem dX13_failed_4 : decode cX13_failed 4 = .ok (.invokevirtual 326, 3) := by decide +kernel
theorem dX13_failed_41 : decode cX13_failed 41 = .ok (.lreturn, 1) := by decide +kernel
theorem dX13_failed_7 : decode cX13_failed 7 = .ok (.ifCond .eq 29, 3) := by decide +kernel
set_option maxRecDepth 20000 in
theorem ggX13_failed_X13_isHad : GoodIn wsX13_failed wsX13_isHad := goodIn_r _ [9, 1, 10, 11, 12, 8, 13, 14, 15, 16, 17, 18, 19, 20, 21, 162, 163, 164, 165, 166, 167, 168, 169, 170, 171, 172, 173, 174, 175, 176, 177, 178, 179, 180, 181, 182, 183, 184, 185, 186, 187, 188, 189, 190, 191, 192, 193, 194, 195, 196, 197, 198, 199, 200, 201, 202, 203, 204, 205, 206] (by decide +kernel) (by decide +kernel)
set_option maxRecDepth 20000 in
theorem ggX13_failed_X13_refused : GoodIn wsX13_failed wsX13_refused := goodIn_r _ [24, 25] (by decide +kernel) (by decide +kernel)
set_option maxRecDepth 20000 in
theorem gX13_failed_X13_isHad : GoodIn wsX13_failed (wsV RX13 326 RX13 yX13_isHad wsX13_isHad) := goodIn_app (goodIn_of _ (by decide +kernel)) ggX13_failed_X13_isHad
set_option maxRecDepth 20000 in
theorem gX13_failed_X13_refused : GoodIn wsX13_failed (va_wsS RX13 270 yX13_refused wsX13_refused) := goodIn_app (goodIn_of _ (by decide +kernel)) ggX13_failed_X13_refused
set_option maxHeartbeats 4000000 in
set_option maxRecDepth 100000 in
theorem f_X13_failed (l : Launch) (D : va_G) (T : Nat → ClassId) (h0 : Nat) (fs0 : List Value) (x1 : Int32) (x2 : Int32) (x3 : Int32) (x4 : Int32) (x5 : Int32) (e0_7 : fs0[7]? = some (.int 0)) : Met l yX13_failed wsX13_failed ({ frames := 3, cells := 0, slots := 0, locals := 69 }) (pR [.ref h0, .int x1, .int x2, .int x3, .int x4, .int x5] D T [(h0, .inr (10, fs0))]) (vp_Sl (fun r => r = (-4611686018427387906))) 0 0 (fun _ => False) := by
  refine Met.ofW (cc := cX13_failed) (maxL := 13) (ret := (some .long)) (by decide) rfl ?_
  intro p e s m args below meth c s₁ B hml hv
  obtain ⟨rfl, hP, hE⟩ := hv
  have hx := B.exec
  have hb := B.bytes
  have hr := B.returns
  have hts := atoms_spec (ws := wsX13_failed) B.pre
  have hown : s.vm.findClass RX13 = some m.cls := findClass_of_methodNamed B.named
  have hlocks := B.notSynchronized
  have hP : va_P D vwCl [(h0, .inr (10, fs0))] s.heap := hP
  have hl := lv_entry ([.ref h0, .int x1, .int x2, .int x3, .int x4, .int x5]) (n := 13) (Nat.le_of_ble_eq_true rfl)
  rw [lg_entry_eq]
  generalize (lg_sl ([.ref h0, .int x1, .int x2, .int x3, .int x4, .int x5]) ++ List.replicate (13 - (lg_sl ([.ref h0, .int x1, .int x2, .int x3, .int x4, .int x5])).length) Slot.unset).toArray = ls at hl ⊢
  have hl : lv_has ls 13 [(0, .ref h0), (1, .int x1), (2, .int x2), (3, .int x3), (4, .int x4), (5, .int x5)] := hl
  refine lv_aload_n hx hb dX13_failed_0 rfl (lv_at hl 0 rfl) ?_
  refine lv_iload_n hx hb dX13_failed_1 rfl (lv_at hl 1 rfl) ?_
  refine lv_iload_n hx hb dX13_failed_2 rfl (lv_at hl 2 rfl) ?_
  refine lv_iload_n hx hb dX13_failed_3 rfl (lv_at hl 3 rfl) ?_
  refine vp_callSi (W.runV (As := [.int x1, .int x2, .int x3]) (rest := []) ⟨hx, hb, hml, hown, hts⟩ (f_X13_isHad l D T h0 fs0 x1 x2 x3 e0_7) (cwV 3 hts gX13_failed_X13_isHad rfl rfl rfl (by decide +kernel) ⟨Nat.le_of_ble_eq_true rfl, Nat.le_of_ble_eq_true rfl⟩) (pR_V (ci := 10) (q0 := 0) hP hE rfl rfl [0] rfl) rfl rfl hl.1 rfl (lv_room (Nat.le_of_ble_eq_true rfl)) dX13_failed_4 ⟨Nat.le_of_ble_eq_true rfl, Nat.le_of_ble_eq_true rfl⟩) (fun r_1 hr_1 => ?_)
  obtain rfl : r_1 = 0 := hr_1
  refine lv_if_eq (tgt := 36) hx hb dX13_failed_7 (by decide) (fun _ => ?_) (fun c9 => absurd c9 (by decide))
  refine lv_bipush (v := (-2)) hx hb dX13_failed_36 (by decide) ?_
  refine vp_callSl (W.runS (As := [.int (-2)]) (rest := []) ⟨hx, hb, hml, hown, hts⟩ (c_X13_refused l D T (-2)) (va_cwS 1 hts gX13_failed_X13_refused rfl rfl rfl (by decide +kernel) ⟨Nat.le_of_ble_eq_true rfl, Nat.le_of_ble_eq_true rfl⟩) (pR_S hP hE [] rfl) rfl rfl hl.1 rfl (lv_room (Nat.le_of_ble_eq_true rfl)) dX13_failed_38 ⟨Nat.le_of_ble_eq_true rfl, Nat.le_of_ble_eq_true rfl⟩) (fun r_2 hr_2 => ?_)
  obtain rfl : r_2 = (-4611686018427387906) := hr_2.trans (by decide)
  exact W.lret hx hb hr (fun t ht hW => ⟨_, rfl, rfl, ht⟩) (fun _ h => by cases h) dX13_failed_41
theorem dX13_drop_0 : decode cX13_drop 0 = .ok (.aload_n 0, 1) := by decide +kernel
theorem dX13_drop_1 : decode cX13_drop 1 = .ok (.getfield 205, 3) := by decide +kernel
theorem dX13_drop_4 : decode cX13_drop 4 = .ok (.ifCond .ne 6, 3) := by decide +kernel
theorem dX13_drop_7 : decode cX13_drop 7 = .ok (.bipush (-3), 2) := by decide +kernel
theorem dX13_drop_9 : decode cX13_drop 9 = .ok (.ireturn, 1) := by decide +kernel
set_option maxRecDepth 20000 in
theorem in_X13_drop_X13 : ∀ w ∈ wsX130, w ∈ wsX13_drop := by decide +kernel
set_option maxHeartbeats 4000000 in
set_option maxRecDepth 100000 in
theorem f_X13_drop (l : Launch) (D : va_G) (T : Nat → ClassId) (h0 : Nat) (fs0 : List Value) (e0_7 : fs0[7]? = some (.int 0)) : Met l yX13_drop wsX13_drop ({ frames := 0, cells := 0, slots := 0, locals := 0 }) (pR [.ref h0] D T [(h0, .inr (10, fs0))]) (vp_Si (fun r => r = -3)) 0 0 (fun _ => False) := by
  refine Met.ofW (cc := cX13_drop) (maxL := 1) (ret := (some .int)) (by decide) rfl ?_
  intro p e s m args below meth c s₁ B hml hv
  obtain ⟨rfl, hP, hE⟩ := hv
  have hx := B.exec
  have hb := B.bytes
  have hr := B.returns
  have hts := atoms_spec (ws := wsX13_drop) B.pre
  have hown : s.vm.findClass RX13 = some m.cls := findClass_of_methodNamed B.named
  have hlocks := B.notSynchronized
  have hP : va_P D vwCl [(h0, .inr (10, fs0))] s.heap := hP
  have hl := lv_entry ([.ref h0]) (n := 1) (Nat.le_of_ble_eq_true rfl)
  rw [lg_entry_eq]
  generalize (lg_sl ([.ref h0]) ++ List.replicate (1 - (lg_sl ([.ref h0])).length) Slot.unset).toArray = ls at hl ⊢
  have hl : lv_has ls 1 [(0, .ref h0)] := hl
  refine lv_aload_n hx hb dX13_drop_0 rfl (lv_at hl 0 rfl) ?_
  refine va_get (D := D) (ci := 10) (v := .int 0) (C := RX13) (T := TX13) (N := 45) hx hb hts in_X13_drop_X13 hown hE.1 hP 0 rfl rfl 7 (by decide) (hts (.fieldLink RX13 205 "ClauseBookModel" "many" "I") (List.mem_of_getElem? (i := 1) rfl)) (fun _ h9 => h9) e0_7 dX13_drop_1 ?_
  refine lv_if_ne (tgt := 10) hx hb dX13_drop_4 (by decide) (fun c9 => absurd c9 (by decide)) (fun _ => ?_)
  refine lv_bipush (v := (-3)) hx hb dX13_drop_7 (by decide) ?_
  exact W.iret hx hb hr (fun t ht hW => ⟨_, rfl, rfl, ht⟩) (fun _ h => by cases h) dX13_drop_9
theorem dX13_back_0 : decode cX13_back 0 = .ok (.aload_n 0, 1) := by decide +kernel
theorem dX13_back_1 : decode cX13_back 1 = .ok (.getfield 436, 3) := by decide +kernel
theorem dX13_back_4 : decode cX13_back 4 = .ok (.ifCond .ne 6, 3) := by decide +kernel
theorem dX13_back_7 : decode cX13_back 7 = .ok (.bipush (-3), 2) := by decide +kernel
theorem dX13_back_9 : decode cX13_back 9 = .ok (.ireturn, 1) := by decide +kernel
set_option maxRecDepth 20000 in
theorem in_X13_back_X13 : ∀ w ∈ wsX130, w ∈ wsX13_back := by decide +kernel
set_option maxHeartbeats 4000000 in
set_option maxRecDepth 100000 in
theorem f_X13_back (l : Launch) (D : va_G) (T : Nat → ClassId) (h0 : Nat) (fs0 : List Value) (e0_41 : fs0[41]? = some (.int 0)) : Met l yX13_back wsX13_back ({ frames := 0, cells := 0, slots := 0, locals := 0 }) (pR [.ref h0] D T [(h0, .inr (10, fs0))]) (vp_Si (fun r => r = -3)) 0 0 (fun _ => False) := by
  refine Met.ofW (cc := cX13_back) (maxL := 1) (ret := (some .int)) (by decide) rfl ?_
  intro p e s m args below meth c s₁ B hml hv
  obtain ⟨rfl, hP, hE⟩ := hv
  have hx := B.exec
  have hb := B.bytes
  have hr := B.returns
  have hts := atoms_spec (ws := wsX13_back) B.pre
  have hown : s.vm.findClass RX13 = some m.cls := findClass_of_methodNamed B.named
  have hlocks := B.notSynchronized
  have hP : va_P D vwCl [(h0, .inr (10, fs0))] s.heap := hP
  have hl := lv_entry ([.ref h0]) (n := 1) (Nat.le_of_ble_eq_true rfl)
  rw [lg_entry_eq]
  generalize (lg_sl ([.ref h0]) ++ List.replicate (1 - (lg_sl ([.ref h0])).length) Slot.unset).toArray = ls at hl ⊢
  have hl : lv_has ls 1 [(0, .ref h0)] := hl
  refine lv_aload_n hx hb dX13_back_0 rfl (lv_at hl 0 rfl) ?_
  refine va_get (D := D) (ci := 10) (v := .int 0) (C := RX13) (T := TX13) (N := 45) hx hb hts in_X13_back_X13 hown hE.1 hP 0 rfl rfl 41 (by decide) (hts (.fieldLink RX13 436 "ClauseBookModel" "isKept" "Z") (List.mem_of_getElem? (i := 1) rfl)) (fun _ h9 => h9) e0_41 dX13_back_1 ?_
  refine lv_if_ne (tgt := 10) hx hb dX13_back_4 (by decide) (fun c9 => absurd c9 (by decide)) (fun _ => ?_)
  refine lv_bipush (v := (-3)) hx hb dX13_back_7 (by decide) ?_
  exact W.iret hx hb hr (fun t ht hW => ⟨_, rfl, rfl, ht⟩) (fun _ h => by cases h) dX13_back_9
theorem dX13_priceAt_0 : decode cX13_priceAt 0 = .ok (.aload_n 0, 1) := by decide +kernel
theorem dX13_priceAt_1 : decode cX13_priceAt 1 = .ok (.getfield 181, 3) := by decide +kernel
theorem dX13_priceAt_10 : decode cX13_priceAt 10 = .ok (.iadd, 1) := by decide +kernel
theorem dX13_priceAt_11 : decode cX13_priceAt 11 = .ok (.aload_n 0, 1) := by decide +kernel
theorem dX13_priceAt_12 : decode cX13_priceAt 12 = .ok (.getfield 13, 3) := by decide +kernel
theorem dX13_priceAt_15 : decode cX13_priceAt 15 = .ok (.iload_n 1, 1) := by decide +kernel
theorem dX13_priceAt_16 : decode cX13_priceAt 16 = .ok (.iload_n 2, 1) := by decide +kernel
theorem dX13_priceAt_17 : decode cX13_priceAt 17 = .ok (.isub, 1) := by decide +kernel
theorem dX13_priceAt_18 : decode cX13_priceAt 18 = .ok (.imul, 1) := by decide +kernel
theorem dX13_priceAt_19 : decode cX13_priceAt 19 = .ok (.isub, 1) := by decide +kernel
theorem dX13_priceAt_20 : decode cX13_priceAt 20 = .ok (.ireturn, 1) := by decide +kernel
theorem dX13_priceAt_4 : decode cX13_priceAt 4 = .ok (.aload_n 0, 1) := by decide +kernel
theorem dX13_priceAt_5 : decode cX13_priceAt 5 = .ok (.getfield 7, 3) := by decide +kernel
theorem dX13_priceAt_8 : decode cX13_priceAt 8 = .ok (.iload_n 2, 1) := by decide +kernel
theorem dX13_priceAt_9 : decode cX13_priceAt 9 = .ok (.imul, 1) := by decide +kernel
set_option maxRecDepth 20000 in
theorem in_X13_priceAt_X13 : ∀ w ∈ wsX130, w ∈ wsX13_priceAt := by decide +kernel
set_option maxHeartbeats 4000000 in
set_option maxRecDepth 100000 in
theorem c_X13_priceAt (l : Launch) (D : va_G) (T : Nat → ClassId) (h0 : Nat) (fs0 : List Value) (x1 : Int32) (x2 : Int32) (n0 : Int32) (n1 : Int32) (n2 : Int32) (e0_0 : fs0[0]? = some (.int n0)) (e0_1 : fs0[1]? = some (.int n1)) (e0_2 : fs0[2]? = some (.int n2)) : Met l yX13_priceAt wsX13_priceAt ({ frames := 0, cells := 0, slots := 0, locals := 0 }) (pR [.ref h0, .int x1, .int x2] D T [(h0, .inr (10, fs0))]) (vp_Si (fun r => r = ((n0 + (n1 * x2)) - (n2 * (x1 - x2))))) 0 0 (fun _ => False) := by
  refine Met.ofW (cc := cX13_priceAt) (maxL := 3) (ret := (some .int)) (by decide) rfl ?_
  intro p e s m args below meth c s₁ B hml hv
  obtain ⟨rfl, hP, hE⟩ := hv
  have hx := B.exec
  have hb := B.bytes
  have hr := B.returns
  have hts := atoms_spec (ws := wsX13_priceAt) B.pre
  have hown : s.vm.findClass RX13 = some m.cls := findClass_of_methodNamed B.named
  have hlocks := B.notSynchronized
  have hP : va_P D vwCl [(h0, .inr (10, fs0))] s.heap := hP
  have hl := lv_entry ([.ref h0, .int x1, .int x2]) (n := 3) (Nat.le_of_ble_eq_true rfl)
  rw [lg_entry_eq]
  generalize (lg_sl ([.ref h0, .int x1, .int x2]) ++ List.replicate (3 - (lg_sl ([.ref h0, .int x1, .int x2])).length) Slot.unset).toArray = ls at hl ⊢
  have hl : lv_has ls 3 [(0, .ref h0), (1, .int x1), (2, .int x2)] := hl
  refine lv_aload_n hx hb dX13_priceAt_0 rfl (lv_at hl 0 rfl) ?_
  refine va_get (D := D) (ci := 10) (v := .int n0) (C := RX13) (T := TX13) (N := 45) hx hb hts in_X13_priceAt_X13 hown hE.1 hP 0 rfl rfl 0 (by decide) (hts (.fieldLink RX13 181 "ClauseBookModel" "start" "I") (List.mem_of_getElem? (i := 1) rfl)) (fun _ h9 => h9) e0_0 dX13_priceAt_1 ?_
  refine lv_aload_n hx hb dX13_priceAt_4 rfl (lv_at hl 0 rfl) ?_
  refine va_get (D := D) (ci := 10) (v := .int n1) (C := RX13) (T := TX13) (N := 45) hx hb hts in_X13_priceAt_X13 hown hE.1 hP 0 rfl rfl 1 (by decide) (hts (.fieldLink RX13 7 "ClauseBookModel" "up" "I") (List.mem_of_getElem? (i := 2) rfl)) (fun _ h9 => h9) e0_1 dX13_priceAt_5 ?_
  refine lv_iload_n hx hb dX13_priceAt_8 rfl (lv_at hl 2 rfl) ?_
  refine lv_imul hx hb dX13_priceAt_9 ?_
  refine lv_iadd hx hb dX13_priceAt_10 ?_
  refine lv_aload_n hx hb dX13_priceAt_11 rfl (lv_at hl 0 rfl) ?_
  refine va_get (D := D) (ci := 10) (v := .int n2) (C := RX13) (T := TX13) (N := 45) hx hb hts in_X13_priceAt_X13 hown hE.1 hP 0 rfl rfl 2 (by decide) (hts (.fieldLink RX13 13 "ClauseBookModel" "down" "I") (List.mem_of_getElem? (i := 3) rfl)) (fun _ h9 => h9) e0_2 dX13_priceAt_12 ?_
  refine lv_iload_n hx hb dX13_priceAt_15 rfl (lv_at hl 1 rfl) ?_
  refine lv_iload_n hx hb dX13_priceAt_16 rfl (lv_at hl 2 rfl) ?_
  refine lv_isub hx hb dX13_priceAt_17 ?_
  refine lv_imul hx hb dX13_priceAt_18 ?_
  refine lv_isub hx hb dX13_priceAt_19 ?_
  exact W.iret hx hb hr (fun t ht hW => ⟨_, rfl, rfl, ht⟩) (fun _ h => by cases h) dX13_priceAt_20
theorem dX13_price_0 : decode cX13_price 0 = .ok (.iload_n 1, 1) := by decide +kernel
theorem dX13_price_1 : decode cX13_price 1 = .ok (.iload_n 2, 1) := by decide +kernel
theorem dX13_price_10 : decode cX13_price 10 = .ok (.iload_n 2, 1) := by decide +kernel
theorem dX13_price_11 : decode cX13_price 11 = .ok (.invokevirtual 192, 3) := by decide +kernel
theorem dX13_price_14 : decode cX13_price 14 = .ok (.goto 5, 3) := by decide +kernel
theorem dX13_price_17 : decode cX13_price 17 = .ok (.bipush (-2), 2) := by decide +kernel
theorem dX13_price_19 : decode cX13_price 19 = .ok (.ireturn, 1) := by decide +kernel
theorem dX13_price_2 : decode cX13_price 2 = .ok (.invokestatic 188, 3) := by decide +kernel
theorem dX13_price_5 : decode cX13_price 5 = .ok (.ifCond .eq 12, 3) := by decide +kernel
theorem dX13_price_8 : decode cX13_price 8 = .ok (.aload_n 0, 1) := by decide +kernel
theorem dX13_price_9 : decode cX13_price 9 = .ok (.iload_n 1, 1) := by decide +kernel
set_option maxRecDepth 20000 in
theorem ggX13_price_X13_isSpot : GoodIn wsX13_price wsX13_isSpot := goodIn_r _ [4, 5, 6, 7, 3, 8] (by decide +kernel) (by decide +kernel)
set_option maxRecDepth 20000 in
theorem ggX13_price_X13_priceAt : GoodIn wsX13_price wsX13_priceAt := goodIn_r _ [12, 13, 14, 15, 16, 17, 18, 19, 20, 21, 22, 23, 24, 25, 26, 27, 28, 29, 30, 31, 32, 33, 34, 35, 36, 37, 38, 39, 40, 41, 42, 43, 44, 45, 46, 47, 48, 49, 50, 51, 52, 53, 54, 55, 56, 57, 58, 59, 60] (by decide +kernel) (by decide +kernel)
set_option maxRecDepth 20000 in
theorem gX13_price_X13_isSpot : GoodIn wsX13_price (va_wsS RX13 188 yX13_isSpot wsX13_isSpot) := goodIn_app (goodIn_of _ (by decide +kernel)) ggX13_price_X13_isSpot
set_option maxRecDepth 20000 in
theorem gX13_price_X13_priceAt : GoodIn wsX13_price (wsV RX13 192 RX13 yX13_priceAt wsX13_priceAt) := goodIn_app (goodIn_of _ (by decide +kernel)) ggX13_price_X13_priceAt
set_option maxHeartbeats 4000000 in
set_option maxRecDepth 100000 in
theorem f_X13_price (l : Launch) (D : va_G) (T : Nat → ClassId) (h0 : Nat) (fs0 : List Value) (x1 : Int32) (x2 : Int32) (e0_0 : fs0[0]? = some (.int 0)) (e0_1 : fs0[1]? = some (.int 1)) (e0_2 : fs0[2]? = some (.int 1)) : Met l yX13_price wsX13_price ({ frames := 2, cells := 0, slots := 0, locals := 46 }) (pR [.ref h0, .int x1, .int x2] D T [(h0, .inr (10, fs0))]) (vp_Si (fun r => r = sp_price x1 x2)) 0 0 (fun _ => False) := by
  refine Met.ofW (cc := cX13_price) (maxL := 3) (ret := (some .int)) (by decide) rfl ?_
  intro p e s m args below meth c s₁ B hml hv
  obtain ⟨rfl, hP, hE⟩ := hv
  have hx := B.exec
  have hb := B.bytes
  have hr := B.returns
  have hts := atoms_spec (ws := wsX13_price) B.pre
  have hown : s.vm.findClass RX13 = some m.cls := findClass_of_methodNamed B.named
  have hlocks := B.notSynchronized
  have hP : va_P D vwCl [(h0, .inr (10, fs0))] s.heap := hP
  have hl := lv_entry ([.ref h0, .int x1, .int x2]) (n := 3) (Nat.le_of_ble_eq_true rfl)
  rw [lg_entry_eq]
  generalize (lg_sl ([.ref h0, .int x1, .int x2]) ++ List.replicate (3 - (lg_sl ([.ref h0, .int x1, .int x2])).length) Slot.unset).toArray = ls at hl ⊢
  have hl : lv_has ls 3 [(0, .ref h0), (1, .int x1), (2, .int x2)] := hl
  refine lv_iload_n hx hb dX13_price_0 rfl (lv_at hl 1 rfl) ?_
  refine lv_iload_n hx hb dX13_price_1 rfl (lv_at hl 2 rfl) ?_
  refine vp_callSi (W.runS (As := [.int x1, .int x2]) (rest := []) ⟨hx, hb, hml, hown, hts⟩ (c_X13_isSpot l D T x1 x2) (va_cwS 2 hts gX13_price_X13_isSpot rfl rfl rfl (by decide +kernel) ⟨Nat.le_of_ble_eq_true rfl, Nat.le_of_ble_eq_true rfl⟩) (pR_S hP hE [] rfl) rfl rfl hl.1 rfl (lv_room (Nat.le_of_ble_eq_true rfl)) dX13_price_2 ⟨Nat.le_of_ble_eq_true rfl, Nat.le_of_ble_eq_true rfl⟩) (fun r_1 hr_1 => ?_)
  rcases bool_post hr_1 with ⟨c_2, rfl⟩ | ⟨c_2, rfl⟩
  · refine lv_if_eq (tgt := 17) hx hb dX13_price_5 (by decide) (fun c9 => absurd c9 (by decide)) (fun _ => ?_)
    refine lv_aload_n hx hb dX13_price_8 rfl (lv_at hl 0 rfl) ?_
    refine lv_iload_n hx hb dX13_price_9 rfl (lv_at hl 1 rfl) ?_
    refine lv_iload_n hx hb dX13_price_10 rfl (lv_at hl 2 rfl) ?_
    refine vp_callSi (W.runV (As := [.int x1, .int x2]) (rest := []) ⟨hx, hb, hml, hown, hts⟩ (c_X13_priceAt l D T h0 fs0 x1 x2 0 1 1 e0_0 e0_1 e0_2) (cwV 2 hts gX13_price_X13_priceAt rfl rfl rfl (by decide +kernel) ⟨Nat.le_of_ble_eq_true rfl, Nat.le_of_ble_eq_true rfl⟩) (pR_V (ci := 10) (q0 := 0) hP hE rfl rfl [0] rfl) rfl rfl hl.1 rfl (lv_room (Nat.le_of_ble_eq_true rfl)) dX13_price_11 ⟨Nat.le_of_ble_eq_true rfl, Nat.le_of_ble_eq_true rfl⟩) (fun r_3 hr_3 => ?_)
    obtain rfl : r_3 = ((0 + (1 * x2)) - (1 * (x1 - x2))) := hr_3
    refine lv_goto (tgt := 19) hx hb dX13_price_14 (by decide) ?_
    exact W.iret hx hb hr (fun t ht hW => ⟨_, rfl, (by first | decide | (unfold sp_price; (repeat' split) <;> first | rfl | (exfalso; omega))), ht⟩) (fun _ h => by cases h) dX13_price_19
  · refine lv_if_eq (tgt := 17) hx hb dX13_price_5 (by decide) (fun _ => ?_) (fun c9 => absurd c9 (by decide))
    refine lv_bipush (v := (-2)) hx hb dX13_price_17 (by decide) ?_
    exact W.iret hx hb hr (fun t ht hW => ⟨_, rfl, (by first | decide | (unfold sp_price; (repeat' split) <;> first | rfl | (exfalso; omega))), ht⟩) (fun _ h => by cases h) dX13_price_19
theorem dX13_take_0 : decode cX13_take 0 = .ok (.iload_n 1, 1) := by decide +kernel
theorem dX13_take_1 : decode cX13_take 1 = .ok (.invokestatic 405, 3) := by decide +kernel
theorem dX13_take_10 : decode cX13_take 10 = .ok (.aload_n 0, 1) := by decide +kernel
theorem dX13_take_11 : decode cX13_take 11 = .ok (.getfield 44, 3) := by decide +kernel
theorem dX13_take_14 : decode cX13_take 14 = .ok (.iload_n 1, 1) := by decide +kernel
theorem dX13_take_15 : decode cX13_take 15 = .ok (.iaload, 1) := by decide +kernel
theorem dX13_take_16 : decode cX13_take 16 = .ok (.ifCond .ne 5, 3) := by decide +kernel
theorem dX13_take_19 : decode cX13_take 19 = .ok (.iconst (-1), 1) := by decide +kernel
theorem dX13_take_20 : decode cX13_take 20 = .ok (.ireturn, 1) := by decide +kernel
theorem dX13_take_4 : decode cX13_take 4 = .ok (.ifCond .ne 6, 3) := by decide +kernel
theorem dX13_take_7 : decode cX13_take 7 = .ok (.bipush (-2), 2) := by decide +kernel
theorem dX13_take_9 : decode cX13_take 9 = .ok (.ireturn, 1) := by decide +kernel
set_option maxRecDepth 20000 in
theorem ggX13_take_X13_isBag : GoodIn wsX13_take wsX13_isBag := goodIn_r _ [6, 7, 8, 9, 5, 10] (by decide +kernel) (by decide +kernel)
set_option maxRecDepth 20000 in
theorem gX13_take_X13_isBag : GoodIn wsX13_take (va_wsS RX13 405 yX13_isBag wsX13_isBag) := goodIn_app (goodIn_of _ (by decide +kernel)) ggX13_take_X13_isBag
set_option maxRecDepth 20000 in
theorem in_X13_take_X13 : ∀ w ∈ wsX130, w ∈ wsX13_take := by decide +kernel
set_option maxHeartbeats 4000000 in
set_option maxRecDepth 100000 in
theorem f_X13_take (l : Launch) (D : va_G) (T : Nat → ClassId) (h0 : Nat) (fs0 : List Value) (h1 : Nat) (f1 : Nat → Int32) (h2 : Nat) (f2 : Nat → Int32) (x1 : Int32) (e0_12 : fs0[12]? = some (.ref h1)) (e0_13 : fs0[13]? = some (.ref h2)) (e0_7 : fs0[7]? = some (.int 0)) (e2_0 : f2 0 = 0) (e2_1 : f2 1 = 0) (e2_2 : f2 2 = 0) : Met l yX13_take wsX13_take ({ frames := 2, cells := 0, slots := 0, locals := 45 }) (pR [.ref h0, .int x1] D T [(h0, .inr (10, fs0)), (h1, .inl (T 0, 36, .inl f1)), (h2, .inl (T 0, 3, .inl f2))]) (vp_Si (fun r => r = sp_take x1)) 0 0 (fun _ => False) := by
  refine Met.ofW (cc := cX13_take) (maxL := 2) (ret := (some .int)) (by decide) rfl ?_
  intro p e s m args below meth c s₁ B hml hv
  obtain ⟨rfl, hP, hE⟩ := hv
  have hx := B.exec
  have hb := B.bytes
  have hr := B.returns
  have hts := atoms_spec (ws := wsX13_take) B.pre
  have hown : s.vm.findClass RX13 = some m.cls := findClass_of_methodNamed B.named
  have hlocks := B.notSynchronized
  have hP : va_P D vwCl [(h0, .inr (10, fs0)), (h1, .inl (T 0, 36, .inl f1)), (h2, .inl (T 0, 3, .inl f2))] s.heap := hP
  have hl := lv_entry ([.ref h0, .int x1]) (n := 2) (Nat.le_of_ble_eq_true rfl)
  rw [lg_entry_eq]
  generalize (lg_sl ([.ref h0, .int x1]) ++ List.replicate (2 - (lg_sl ([.ref h0, .int x1])).length) Slot.unset).toArray = ls at hl ⊢
  have hl : lv_has ls 2 [(0, .ref h0), (1, .int x1)] := hl
  refine lv_iload_n hx hb dX13_take_0 rfl (lv_at hl 1 rfl) ?_
  refine vp_callSi (W.runS (As := [.int x1]) (rest := []) ⟨hx, hb, hml, hown, hts⟩ (c_X13_isBag l D T x1) (va_cwS 1 hts gX13_take_X13_isBag rfl rfl rfl (by decide +kernel) ⟨Nat.le_of_ble_eq_true rfl, Nat.le_of_ble_eq_true rfl⟩) (pR_S hP hE [] rfl) rfl rfl hl.1 rfl (lv_room (Nat.le_of_ble_eq_true rfl)) dX13_take_1 ⟨Nat.le_of_ble_eq_true rfl, Nat.le_of_ble_eq_true rfl⟩) (fun r_1 hr_1 => ?_)
  rcases bool_post hr_1 with ⟨c_2, rfl⟩ | ⟨c_2, rfl⟩
  · refine lv_if_ne (tgt := 10) hx hb dX13_take_4 (by decide) (fun _ => ?_) (fun c9 => absurd c9 (by decide))
    refine lv_aload_n hx hb dX13_take_10 rfl (lv_at hl 0 rfl) ?_
    refine va_get (D := D) (ci := 10) (v := .ref h2) (C := RX13) (T := TX13) (N := 45) hx hb hts in_X13_take_X13 hown hE.1 hP 0 rfl rfl 13 (by decide) (hts (.fieldLink RX13 44 "ClauseBookModel" "bagged" "[I") (List.mem_of_getElem? (i := 1) rfl)) (fun _ h9 => h9) e0_13 dX13_take_11 ?_
    refine lv_iload_n hx hb dX13_take_14 rfl (lv_at hl 1 rfl) ?_
    rcases in3 (x := x1) (by omega) with rfl | rfl | rfl
    · refine va_iald hx hb hE.1 hP 2 0 rfl rfl (by unfold vp_in; decide) dX13_take_15 ?_
      refine lv_topi (fun z_3 ez_3 => ?_)
      obtain rfl : z_3 = 0 := ez_3.trans e2_0
      refine lv_if_ne (tgt := 21) hx hb dX13_take_16 (by decide) (fun c9 => absurd c9 (by decide)) (fun _ => ?_)
      refine lv_iconst (v := (-1)) hx hb dX13_take_19 (by decide) ?_
      exact W.iret hx hb hr (fun t ht hW => ⟨_, rfl, (by first | decide | (unfold sp_take; (repeat' split) <;> first | rfl | (exfalso; omega))), ht⟩) (fun _ h => by cases h) dX13_take_20
    · refine va_iald hx hb hE.1 hP 2 0 rfl rfl (by unfold vp_in; decide) dX13_take_15 ?_
      refine lv_topi (fun z_4 ez_4 => ?_)
      obtain rfl : z_4 = 0 := ez_4.trans e2_1
      refine lv_if_ne (tgt := 21) hx hb dX13_take_16 (by decide) (fun c9 => absurd c9 (by decide)) (fun _ => ?_)
      refine lv_iconst (v := (-1)) hx hb dX13_take_19 (by decide) ?_
      exact W.iret hx hb hr (fun t ht hW => ⟨_, rfl, (by first | decide | (unfold sp_take; (repeat' split) <;> first | rfl | (exfalso; omega))), ht⟩) (fun _ h => by cases h) dX13_take_20
    · refine va_iald hx hb hE.1 hP 2 0 rfl rfl (by unfold vp_in; decide) dX13_take_15 ?_
      refine lv_topi (fun z_5 ez_5 => ?_)
      obtain rfl : z_5 = 0 := ez_5.trans e2_2
      refine lv_if_ne (tgt := 21) hx hb dX13_take_16 (by decide) (fun c9 => absurd c9 (by decide)) (fun _ => ?_)
      refine lv_iconst (v := (-1)) hx hb dX13_take_19 (by decide) ?_
      exact W.iret hx hb hr (fun t ht hW => ⟨_, rfl, (by first | decide | (unfold sp_take; (repeat' split) <;> first | rfl | (exfalso; omega))), ht⟩) (fun _ h => by cases h) dX13_take_20
  · refine lv_if_ne (tgt := 10) hx hb dX13_take_4 (by decide) (fun c9 => absurd c9 (by decide)) (fun _ => ?_)
    refine lv_bipush (v := (-2)) hx hb dX13_take_7 (by decide) ?_
    exact W.iret hx hb hr (fun t ht hW => ⟨_, rfl, (by first | decide | (unfold sp_take; (repeat' split) <;> first | rfl | (exfalso; omega))), ht⟩) (fun _ h => by cases h) dX13_take_9
theorem dX13_bagOf_0 : decode cX13_bagOf 0 = .ok (.iload_n 1, 1) := by decide +kernel
theorem dX13_bagOf_1 : decode cX13_bagOf 1 = .ok (.invokestatic 405, 3) := by decide +kernel
theorem dX13_bagOf_12 : decode cX13_bagOf 12 = .ok (.iload_n 2, 1) := by decide +kernel
theorem dX13_bagOf_13 : decode cX13_bagOf 13 = .ok (.i2l, 1) := by decide +kernel
theorem dX13_bagOf_14 : decode cX13_bagOf 14 = .ok (.lconst 0, 1) := by decide +kernel
theorem dX13_bagOf_15 : decode cX13_bagOf 15 = .ok (.aload_n 0, 1) := by decide +kernel
theorem dX13_bagOf_16 : decode cX13_bagOf 16 = .ok (.getfield 44, 3) := by decide +kernel
theorem dX13_bagOf_19 : decode cX13_bagOf 19 = .ok (.iload_n 1, 1) := by decide +kernel
theorem dX13_bagOf_20 : decode cX13_bagOf 20 = .ok (.iaload, 1) := by decide +kernel
theorem dX13_bagOf_21 : decode cX13_bagOf 21 = .ok (.iconst 1, 1) := by decide +kernel
theorem dX13_bagOf_22 : decode cX13_bagOf 22 = .ok (.isub, 1) := by decide +kernel
theorem dX13_bagOf_23 : decode cX13_bagOf 23 = .ok (.i2l, 1) := by decide +kernel
theorem dX13_bagOf_24 : decode cX13_bagOf 24 = .ok (.invokestatic 175, 3) := by decide +kernel
theorem dX13_bagOf_27 : decode cX13_bagOf 27 = .ok (.ifCond .eq 17, 3) := by decide +kernel
theorem dX13_bagOf_4 : decode cX13_bagOf 4 = .ok (.ifCond .ne 8, 3) := by decide +kernel
theorem dX13_bagOf_44 : decode cX13_bagOf 44 = .ok (.bipush (-12), 2) := by decide +kernel
theorem dX13_bagOf_46 : decode cX13_bagOf 46 = .ok (.ireturn, 1) := by decide +kernel
theorem dX13_bagOf_7 : decode cX13_bagOf 7 = .ok (.bipush (-2), 2) := by decide +kernel
theorem dX13_bagOf_9 : decode cX13_bagOf 9 = .ok (.goto 37, 3) := by decide +kernel
set_option maxRecDepth 20000 in
theorem ggX13_bagOf_X13_in : GoodIn wsX13_bagOf wsX13_in := goodIn_r _ [10] (by decide +kernel) (by decide +kernel)
set_option maxRecDepth 20000 in
theorem ggX13_bagOf_X13_isBag : GoodIn wsX13_bagOf wsX13_isBag := goodIn_r _ [6, 7, 8, 9, 5, 10] (by decide +kernel) (by decide +kernel)
set_option maxRecDepth 20000 in
theorem gX13_bagOf_X13_in : GoodIn wsX13_bagOf (va_wsS RX13 175 yX13_in wsX13_in) := goodIn_app (goodIn_of _ (by decide +kernel)) ggX13_bagOf_X13_in
set_option maxRecDepth 20000 in
theorem gX13_bagOf_X13_isBag : GoodIn wsX13_bagOf (va_wsS RX13 405 yX13_isBag wsX13_isBag) := goodIn_app (goodIn_of _ (by decide +kernel)) ggX13_bagOf_X13_isBag
set_option maxRecDepth 20000 in
theorem in_X13_bagOf_X13 : ∀ w ∈ wsX130, w ∈ wsX13_bagOf := by decide +kernel
set_option maxHeartbeats 4000000 in
set_option maxRecDepth 100000 in
theorem f_X13_bagOf (l : Launch) (D : va_G) (T : Nat → ClassId) (h0 : Nat) (fs0 : List Value) (h1 : Nat) (f1 : Nat → Int32) (h2 : Nat) (f2 : Nat → Int32) (x1 : Int32) (x2 : Int32) (e0_12 : fs0[12]? = some (.ref h1)) (e0_13 : fs0[13]? = some (.ref h2)) (e0_7 : fs0[7]? = some (.int 0)) (e2_0 : f2 0 = 0) (e2_1 : f2 1 = 0) (e2_2 : f2 2 = 0) : Met l yX13_bagOf wsX13_bagOf ({ frames := 2, cells := 0, slots := 0, locals := 45 }) (pR [.ref h0, .int x1, .int x2] D T [(h0, .inr (10, fs0)), (h1, .inl (T 0, 36, .inl f1)), (h2, .inl (T 0, 3, .inl f2))]) (vp_Si (fun r => r = sp_bagOf x1)) 0 0 (fun _ => False) := by
  refine Met.ofW (cc := cX13_bagOf) (maxL := 3) (ret := (some .int)) (by decide) rfl ?_
  intro p e s m args below meth c s₁ B hml hv
  obtain ⟨rfl, hP, hE⟩ := hv
  have hx := B.exec
  have hb := B.bytes
  have hr := B.returns
  have hts := atoms_spec (ws := wsX13_bagOf) B.pre
  have hown : s.vm.findClass RX13 = some m.cls := findClass_of_methodNamed B.named
  have hlocks := B.notSynchronized
  have hP : va_P D vwCl [(h0, .inr (10, fs0)), (h1, .inl (T 0, 36, .inl f1)), (h2, .inl (T 0, 3, .inl f2))] s.heap := hP
  have hl := lv_entry ([.ref h0, .int x1, .int x2]) (n := 3) (Nat.le_of_ble_eq_true rfl)
  rw [lg_entry_eq]
  generalize (lg_sl ([.ref h0, .int x1, .int x2]) ++ List.replicate (3 - (lg_sl ([.ref h0, .int x1, .int x2])).length) Slot.unset).toArray = ls at hl ⊢
  have hl : lv_has ls 3 [(0, .ref h0), (1, .int x1), (2, .int x2)] := hl
  refine lv_iload_n hx hb dX13_bagOf_0 rfl (lv_at hl 1 rfl) ?_
  refine vp_callSi (W.runS (As := [.int x1]) (rest := []) ⟨hx, hb, hml, hown, hts⟩ (c_X13_isBag l D T x1) (va_cwS 1 hts gX13_bagOf_X13_isBag rfl rfl rfl (by decide +kernel) ⟨Nat.le_of_ble_eq_true rfl, Nat.le_of_ble_eq_true rfl⟩) (pR_S hP hE [] rfl) rfl rfl hl.1 rfl (lv_room (Nat.le_of_ble_eq_true rfl)) dX13_bagOf_1 ⟨Nat.le_of_ble_eq_true rfl, Nat.le_of_ble_eq_true rfl⟩) (fun r_1 hr_1 => ?_)
  rcases bool_post hr_1 with ⟨c_2, rfl⟩ | ⟨c_2, rfl⟩
  · refine lv_if_ne (tgt := 12) hx hb dX13_bagOf_4 (by decide) (fun _ => ?_) (fun c9 => absurd c9 (by decide))
    refine lv_iload_n hx hb dX13_bagOf_12 rfl (lv_at hl 2 rfl) ?_
    refine lv_i2l hx hb dX13_bagOf_13 rfl ?_
    refine lv_lconst (v := 0) hx hb dX13_bagOf_14 (by decide) ?_
    refine lv_aload_n hx hb dX13_bagOf_15 rfl (lv_at hl 0 rfl) ?_
    refine va_get (D := D) (ci := 10) (v := .ref h2) (C := RX13) (T := TX13) (N := 45) hx hb hts in_X13_bagOf_X13 hown hE.1 hP 0 rfl rfl 13 (by decide) (hts (.fieldLink RX13 44 "ClauseBookModel" "bagged" "[I") (List.mem_of_getElem? (i := 1) rfl)) (fun _ h9 => h9) e0_13 dX13_bagOf_16 ?_
    refine lv_iload_n hx hb dX13_bagOf_19 rfl (lv_at hl 1 rfl) ?_
    rcases in3 (x := x1) (by omega) with rfl | rfl | rfl
    · refine va_iald hx hb hE.1 hP 2 0 rfl rfl (by unfold vp_in; decide) dX13_bagOf_20 ?_
      refine lv_topi (fun z_3 ez_3 => ?_)
      obtain rfl : z_3 = 0 := ez_3.trans e2_0
      refine lv_iconst (v := 1) hx hb dX13_bagOf_21 (by decide) ?_
      refine lv_isub hx hb dX13_bagOf_22 ?_
      refine lv_topi (fun z_4 ez_4 => ?_)
      obtain rfl : z_4 = (-1) := ez_4.trans (by decide)
      refine lv_i2l (v := (-1)) hx hb dX13_bagOf_23 (by decide) ?_
      refine vp_callSi (W.runS (As := [.long (x2.toInt64), .long 0, .long (-1)]) (rest := []) ⟨hx, hb, hml, hown, hts⟩ (c_X13_in l D T (x2.toInt64) 0 (-1) x2.toInt 0 (-1) ((Int32.toInt_toInt64 _).trans rfl) (by decide) (by decide)) (va_cwS 3 hts gX13_bagOf_X13_in rfl rfl rfl (by decide +kernel) ⟨Nat.le_of_ble_eq_true rfl, Nat.le_of_ble_eq_true rfl⟩) (pR_S hP hE [] rfl) rfl rfl hl.1 rfl (lv_room (Nat.le_of_ble_eq_true rfl)) dX13_bagOf_24 ⟨Nat.le_of_ble_eq_true rfl, Nat.le_of_ble_eq_true rfl⟩) (fun r_5 hr_5 => ?_)
      rcases bool_post hr_5 with ⟨c_6, rfl⟩ | ⟨c_6, rfl⟩
      · exact absurd c_6 (by omega)
      refine lv_if_eq (tgt := 44) hx hb dX13_bagOf_27 (by decide) (fun _ => ?_) (fun c9 => absurd c9 (by decide))
      refine lv_bipush (v := (-12)) hx hb dX13_bagOf_44 (by decide) ?_
      exact W.iret hx hb hr (fun t ht hW => ⟨_, rfl, (by first | decide | (unfold sp_bagOf; (repeat' split) <;> first | rfl | (exfalso; omega))), ht⟩) (fun _ h => by cases h) dX13_bagOf_46
    · refine va_iald hx hb hE.1 hP 2 0 rfl rfl (by unfold vp_in; decide) dX13_bagOf_20 ?_
      refine lv_topi (fun z_7 ez_7 => ?_)
      obtain rfl : z_7 = 0 := ez_7.trans e2_1
      refine lv_iconst (v := 1) hx hb dX13_bagOf_21 (by decide) ?_
      refine lv_isub hx hb dX13_bagOf_22 ?_
      refine lv_topi (fun z_8 ez_8 => ?_)
      obtain rfl : z_8 = (-1) := ez_8.trans (by decide)
      refine lv_i2l (v := (-1)) hx hb dX13_bagOf_23 (by decide) ?_
      refine vp_callSi (W.runS (As := [.long (x2.toInt64), .long 0, .long (-1)]) (rest := []) ⟨hx, hb, hml, hown, hts⟩ (c_X13_in l D T (x2.toInt64) 0 (-1) x2.toInt 0 (-1) ((Int32.toInt_toInt64 _).trans rfl) (by decide) (by decide)) (va_cwS 3 hts gX13_bagOf_X13_in rfl rfl rfl (by decide +kernel) ⟨Nat.le_of_ble_eq_true rfl, Nat.le_of_ble_eq_true rfl⟩) (pR_S hP hE [] rfl) rfl rfl hl.1 rfl (lv_room (Nat.le_of_ble_eq_true rfl)) dX13_bagOf_24 ⟨Nat.le_of_ble_eq_true rfl, Nat.le_of_ble_eq_true rfl⟩) (fun r_9 hr_9 => ?_)
      rcases bool_post hr_9 with ⟨c_10, rfl⟩ | ⟨c_10, rfl⟩
      · exact absurd c_10 (by omega)
      refine lv_if_eq (tgt := 44) hx hb dX13_bagOf_27 (by decide) (fun _ => ?_) (fun c9 => absurd c9 (by decide))
      refine lv_bipush (v := (-12)) hx hb dX13_bagOf_44 (by decide) ?_
      exact W.iret hx hb hr (fun t ht hW => ⟨_, rfl, (by first | decide | (unfold sp_bagOf; (repeat' split) <;> first | rfl | (exfalso; omega))), ht⟩) (fun _ h => by cases h) dX13_bagOf_46
    · refine va_iald hx hb hE.1 hP 2 0 rfl rfl (by unfold vp_in; decide) dX13_bagOf_20 ?_
      refine lv_topi (fun z_11 ez_11 => ?_)
      obtain rfl : z_11 = 0 := ez_11.trans e2_2
      refine lv_iconst (v := 1) hx hb dX13_bagOf_21 (by decide) ?_
      refine lv_isub hx hb dX13_bagOf_22 ?_
      refine lv_topi (fun z_12 ez_12 => ?_)
      obtain rfl : z_12 = (-1) := ez_12.trans (by decide)
      refine lv_i2l (v := (-1)) hx hb dX13_bagOf_23 (by decide) ?_
      refine vp_callSi (W.runS (As := [.long (x2.toInt64), .long 0, .long (-1)]) (rest := []) ⟨hx, hb, hml, hown, hts⟩ (c_X13_in l D T (x2.toInt64) 0 (-1) x2.toInt 0 (-1) ((Int32.toInt_toInt64 _).trans rfl) (by decide) (by decide)) (va_cwS 3 hts gX13_bagOf_X13_in rfl rfl rfl (by decide +kernel) ⟨Nat.le_of_ble_eq_true rfl, Nat.le_of_ble_eq_true rfl⟩) (pR_S hP hE [] rfl) rfl rfl hl.1 rfl (lv_room (Nat.le_of_ble_eq_true rfl)) dX13_bagOf_24 ⟨Nat.le_of_ble_eq_true rfl, Nat.le_of_ble_eq_true rfl⟩) (fun r_13 hr_13 => ?_)
      rcases bool_post hr_13 with ⟨c_14, rfl⟩ | ⟨c_14, rfl⟩
      · exact absurd c_14 (by omega)
      refine lv_if_eq (tgt := 44) hx hb dX13_bagOf_27 (by decide) (fun _ => ?_) (fun c9 => absurd c9 (by decide))
      refine lv_bipush (v := (-12)) hx hb dX13_bagOf_44 (by decide) ?_
      exact W.iret hx hb hr (fun t ht hW => ⟨_, rfl, (by first | decide | (unfold sp_bagOf; (repeat' split) <;> first | rfl | (exfalso; omega))), ht⟩) (fun _ h => by cases h) dX13_bagOf_46
  · refine lv_if_ne (tgt := 12) hx hb dX13_bagOf_4 (by decide) (fun c9 => absurd c9 (by decide)) (fun _ => ?_)
    refine lv_bipush (v := (-2)) hx hb dX13_bagOf_7 (by decide) ?_
    refine lv_goto (tgt := 46) hx hb dX13_bagOf_9 (by decide) ?_
    exact W.iret hx hb hr (fun t ht hW => ⟨_, rfl, (by first | decide | (unfold sp_bagOf; (repeat' split) <;> first | rfl | (exfalso; omega))), ht⟩) (fun _ h => by cases h) dX13_bagOf_46
theorem dX13_sum_0 : decode cX13_sum 0 = .ok (.iload_n 1, 1) := by decide +kernel
theorem dX13_sum_1 : decode cX13_sum 1 = .ok (.invokestatic 405, 3) := by decide +kernel
theorem dX13_sum_10 : decode cX13_sum 10 = .ok (.aload_n 0, 1) := by decide +kernel
theorem dX13_sum_11 : decode cX13_sum 11 = .ok (.getfield 44, 3) := by decide +kernel
theorem dX13_sum_14 : decode cX13_sum 14 = .ok (.iload_n 1, 1) := by decide +kernel
theorem dX13_sum_15 : decode cX13_sum 15 = .ok (.iaload, 1) := by decide +kernel
theorem dX13_sum_16 : decode cX13_sum 16 = .ok (.ifCond .le 7, 3) := by decide +kernel
theorem dX13_sum_23 : decode cX13_sum 23 = .ok (.iconst 0, 1) := by decide +kernel
theorem dX13_sum_24 : decode cX13_sum 24 = .ok (.istore_n 2, 1) := by decide +kernel
theorem dX13_sum_25 : decode cX13_sum 25 = .ok (.iconst 0, 1) := by decide +kernel
theorem dX13_sum_26 : decode cX13_sum 26 = .ok (.istore_n 3, 1) := by decide +kernel
theorem dX13_sum_27 : decode cX13_sum 27 = .ok (.iload_n 3, 1) := by decide +kernel
theorem dX13_sum_28 : decode cX13_sum 28 = .ok (.aload_n 0, 1) := by decide +kernel
theorem dX13_sum_29 : decode cX13_sum 29 = .ok (.getfield 44, 3) := by decide +kernel
theorem dX13_sum_32 : decode cX13_sum 32 = .ok (.iload_n 1, 1) := by decide +kernel
theorem dX13_sum_33 : decode cX13_sum 33 = .ok (.iaload, 1) := by decide +kernel
theorem dX13_sum_34 : decode cX13_sum 34 = .ok (.if_icmp .ge 27, 3) := by decide +kernel
theorem dX13_sum_4 : decode cX13_sum 4 = .ok (.ifCond .ne 6, 3) := by decide +kernel
theorem dX13_sum_61 : decode cX13_sum 61 = .ok (.iload_n 2, 1) := by decide +kernel
theorem dX13_sum_62 : decode cX13_sum 62 = .ok (.ifCond .ne 5, 3) := by decide +kernel
theorem dX13_sum_65 : decode cX13_sum 65 = .ok (.iconst (-1), 1) := by decide +kernel
theorem dX13_sum_66 : decode cX13_sum 66 = .ok (.ireturn, 1) := by decide +kernel
theorem dX13_sum_7 : decode cX13_sum 7 = .ok (.bipush (-2), 2) := by decide +kernel
theorem dX13_sum_9 : decode cX13_sum 9 = .ok (.ireturn, 1) := by decide +kernel
set_option maxRecDepth 20000 in
theorem ggX13_sum_X13_isBag : GoodIn wsX13_sum wsX13_isBag := goodIn_r _ [7, 8, 9, 10, 6, 11] (by decide +kernel) (by decide +kernel)
set_option maxRecDepth 20000 in
theorem gX13_sum_X13_isBag : GoodIn wsX13_sum (va_wsS RX13 405 yX13_isBag wsX13_isBag) := goodIn_app (goodIn_of _ (by decide +kernel)) ggX13_sum_X13_isBag
set_option maxRecDepth 20000 in
theorem in_X13_sum_X13 : ∀ w ∈ wsX130, w ∈ wsX13_sum := by decide +kernel
set_option maxHeartbeats 4000000 in
set_option maxRecDepth 100000 in
theorem f_X13_sum (l : Launch) (D : va_G) (T : Nat → ClassId) (h0 : Nat) (fs0 : List Value) (h1 : Nat) (f1 : Nat → Int32) (h2 : Nat) (f2 : Nat → Int32) (x1 : Int32) (e0_12 : fs0[12]? = some (.ref h1)) (e0_13 : fs0[13]? = some (.ref h2)) (e0_7 : fs0[7]? = some (.int 0)) (e2_0 : f2 0 = 0) (e2_1 : f2 1 = 0) (e2_2 : f2 2 = 0) : Met l yX13_sum wsX13_sum ({ frames := 2, cells := 0, slots := 0, locals := 45 }) (pR [.ref h0, .int x1] D T [(h0, .inr (10, fs0)), (h1, .inl (T 0, 36, .inl f1)), (h2, .inl (T 0, 3, .inl f2))]) (vp_Si (fun r => r = sp_take x1)) 0 0 (fun _ => False) := by
  refine Met.ofW (cc := cX13_sum) (maxL := 5) (ret := (some .int)) (by decide) rfl ?_
  intro p e s m args below meth c s₁ B hml hv
  obtain ⟨rfl, hP, hE⟩ := hv
  have hx := B.exec
  have hb := B.bytes
  have hr := B.returns
  have hts := atoms_spec (ws := wsX13_sum) B.pre
  have hown : s.vm.findClass RX13 = some m.cls := findClass_of_methodNamed B.named
  have hlocks := B.notSynchronized
  have hP : va_P D vwCl [(h0, .inr (10, fs0)), (h1, .inl (T 0, 36, .inl f1)), (h2, .inl (T 0, 3, .inl f2))] s.heap := hP
  have hl := lv_entry ([.ref h0, .int x1]) (n := 5) (Nat.le_of_ble_eq_true rfl)
  rw [lg_entry_eq]
  generalize (lg_sl ([.ref h0, .int x1]) ++ List.replicate (5 - (lg_sl ([.ref h0, .int x1])).length) Slot.unset).toArray = ls at hl ⊢
  have hl : lv_has ls 5 [(0, .ref h0), (1, .int x1)] := hl
  refine lv_iload_n hx hb dX13_sum_0 rfl (lv_at hl 1 rfl) ?_
  refine vp_callSi (W.runS (As := [.int x1]) (rest := []) ⟨hx, hb, hml, hown, hts⟩ (c_X13_isBag l D T x1) (va_cwS 1 hts gX13_sum_X13_isBag rfl rfl rfl (by decide +kernel) ⟨Nat.le_of_ble_eq_true rfl, Nat.le_of_ble_eq_true rfl⟩) (pR_S hP hE [] rfl) rfl rfl hl.1 rfl (lv_room (Nat.le_of_ble_eq_true rfl)) dX13_sum_1 ⟨Nat.le_of_ble_eq_true rfl, Nat.le_of_ble_eq_true rfl⟩) (fun r_1 hr_1 => ?_)
  rcases bool_post hr_1 with ⟨c_2, rfl⟩ | ⟨c_2, rfl⟩
  · refine lv_if_ne (tgt := 10) hx hb dX13_sum_4 (by decide) (fun _ => ?_) (fun c9 => absurd c9 (by decide))
    refine lv_aload_n hx hb dX13_sum_10 rfl (lv_at hl 0 rfl) ?_
    refine va_get (D := D) (ci := 10) (v := .ref h2) (C := RX13) (T := TX13) (N := 45) hx hb hts in_X13_sum_X13 hown hE.1 hP 0 rfl rfl 13 (by decide) (hts (.fieldLink RX13 44 "ClauseBookModel" "bagged" "[I") (List.mem_of_getElem? (i := 1) rfl)) (fun _ h9 => h9) e0_13 dX13_sum_11 ?_
    refine lv_iload_n hx hb dX13_sum_14 rfl (lv_at hl 1 rfl) ?_
    rcases in3 (x := x1) (by omega) with rfl | rfl | rfl
    · refine va_iald hx hb hE.1 hP 2 0 rfl rfl (by unfold vp_in; decide) dX13_sum_15 ?_
      refine lv_topi (fun z_3 ez_3 => ?_)
      obtain rfl : z_3 = 0 := ez_3.trans e2_0
      refine lv_if_le (tgt := 23) hx hb dX13_sum_16 (by decide) (fun _ => ?_) (fun c9 => absurd c9 (by decide))
      refine lv_iconst (v := 0) hx hb dX13_sum_23 (by decide) ?_
      refine lv_istore_n (lv' := [(2, .int 0), (0, .ref h0), (1, .int 0)]) hx hb dX13_sum_24 rfl hl (by decide) rfl (fun ls hl => ?_)
      refine lv_iconst (v := 0) hx hb dX13_sum_25 (by decide) ?_
      refine lv_istore_n (lv' := [(3, .int 0), (2, .int 0), (0, .ref h0), (1, .int 0)]) hx hb dX13_sum_26 rfl hl (by decide) rfl (fun ls hl => ?_)
      refine lv_iload_n hx hb dX13_sum_27 rfl (lv_at hl 0 rfl) ?_
      refine lv_aload_n hx hb dX13_sum_28 rfl (lv_at hl 2 rfl) ?_
      refine va_get (D := D) (ci := 10) (v := .ref h2) (C := RX13) (T := TX13) (N := 45) hx hb hts in_X13_sum_X13 hown hE.1 hP 0 rfl rfl 13 (by decide) (hts (.fieldLink RX13 44 "ClauseBookModel" "bagged" "[I") (List.mem_of_getElem? (i := 1) rfl)) (fun _ h9 => h9) e0_13 dX13_sum_29 ?_
      refine lv_iload_n hx hb dX13_sum_32 rfl (lv_at hl 3 rfl) ?_
      refine va_iald hx hb hE.1 hP 2 0 rfl rfl (by unfold vp_in; decide) dX13_sum_33 ?_
      refine lv_topi (fun z_4 ez_4 => ?_)
      obtain rfl : z_4 = 0 := ez_4.trans e2_0
      refine lv_icmp_ge (tgt := 61) hx hb dX13_sum_34 (by decide) (fun _ => ?_) (fun c9 => absurd c9 (by decide))
      refine lv_iload_n hx hb dX13_sum_61 rfl (lv_at hl 1 rfl) ?_
      refine lv_if_ne (tgt := 67) hx hb dX13_sum_62 (by decide) (fun c9 => absurd c9 (by decide)) (fun _ => ?_)
      refine lv_iconst (v := (-1)) hx hb dX13_sum_65 (by decide) ?_
      exact W.iret hx hb hr (fun t ht hW => ⟨_, rfl, (by first | decide | (unfold sp_take; (repeat' split) <;> first | rfl | (exfalso; omega))), ht⟩) (fun _ h => by cases h) dX13_sum_66
    · refine va_iald hx hb hE.1 hP 2 0 rfl rfl (by unfold vp_in; decide) dX13_sum_15 ?_
      refine lv_topi (fun z_5 ez_5 => ?_)
      obtain rfl : z_5 = 0 := ez_5.trans e2_1
      refine lv_if_le (tgt := 23) hx hb dX13_sum_16 (by decide) (fun _ => ?_) (fun c9 => absurd c9 (by decide))
      refine lv_iconst (v := 0) hx hb dX13_sum_23 (by decide) ?_
      refine lv_istore_n (lv' := [(2, .int 0), (0, .ref h0), (1, .int 1)]) hx hb dX13_sum_24 rfl hl (by decide) rfl (fun ls hl => ?_)
      refine lv_iconst (v := 0) hx hb dX13_sum_25 (by decide) ?_
      refine lv_istore_n (lv' := [(3, .int 0), (2, .int 0), (0, .ref h0), (1, .int 1)]) hx hb dX13_sum_26 rfl hl (by decide) rfl (fun ls hl => ?_)
      refine lv_iload_n hx hb dX13_sum_27 rfl (lv_at hl 0 rfl) ?_
      refine lv_aload_n hx hb dX13_sum_28 rfl (lv_at hl 2 rfl) ?_
      refine va_get (D := D) (ci := 10) (v := .ref h2) (C := RX13) (T := TX13) (N := 45) hx hb hts in_X13_sum_X13 hown hE.1 hP 0 rfl rfl 13 (by decide) (hts (.fieldLink RX13 44 "ClauseBookModel" "bagged" "[I") (List.mem_of_getElem? (i := 1) rfl)) (fun _ h9 => h9) e0_13 dX13_sum_29 ?_
      refine lv_iload_n hx hb dX13_sum_32 rfl (lv_at hl 3 rfl) ?_
      refine va_iald hx hb hE.1 hP 2 0 rfl rfl (by unfold vp_in; decide) dX13_sum_33 ?_
      refine lv_topi (fun z_6 ez_6 => ?_)
      obtain rfl : z_6 = 0 := ez_6.trans e2_1
      refine lv_icmp_ge (tgt := 61) hx hb dX13_sum_34 (by decide) (fun _ => ?_) (fun c9 => absurd c9 (by decide))
      refine lv_iload_n hx hb dX13_sum_61 rfl (lv_at hl 1 rfl) ?_
      refine lv_if_ne (tgt := 67) hx hb dX13_sum_62 (by decide) (fun c9 => absurd c9 (by decide)) (fun _ => ?_)
      refine lv_iconst (v := (-1)) hx hb dX13_sum_65 (by decide) ?_
      exact W.iret hx hb hr (fun t ht hW => ⟨_, rfl, (by first | decide | (unfold sp_take; (repeat' split) <;> first | rfl | (exfalso; omega))), ht⟩) (fun _ h => by cases h) dX13_sum_66
    · refine va_iald hx hb hE.1 hP 2 0 rfl rfl (by unfold vp_in; decide) dX13_sum_15 ?_
      refine lv_topi (fun z_7 ez_7 => ?_)
      obtain rfl : z_7 = 0 := ez_7.trans e2_2
      refine lv_if_le (tgt := 23) hx hb dX13_sum_16 (by decide) (fun _ => ?_) (fun c9 => absurd c9 (by decide))
      refine lv_iconst (v := 0) hx hb dX13_sum_23 (by decide) ?_
      refine lv_istore_n (lv' := [(2, .int 0), (0, .ref h0), (1, .int 2)]) hx hb dX13_sum_24 rfl hl (by decide) rfl (fun ls hl => ?_)
      refine lv_iconst (v := 0) hx hb dX13_sum_25 (by decide) ?_
      refine lv_istore_n (lv' := [(3, .int 0), (2, .int 0), (0, .ref h0), (1, .int 2)]) hx hb dX13_sum_26 rfl hl (by decide) rfl (fun ls hl => ?_)
      refine lv_iload_n hx hb dX13_sum_27 rfl (lv_at hl 0 rfl) ?_
      refine lv_aload_n hx hb dX13_sum_28 rfl (lv_at hl 2 rfl) ?_
      refine va_get (D := D) (ci := 10) (v := .ref h2) (C := RX13) (T := TX13) (N := 45) hx hb hts in_X13_sum_X13 hown hE.1 hP 0 rfl rfl 13 (by decide) (hts (.fieldLink RX13 44 "ClauseBookModel" "bagged" "[I") (List.mem_of_getElem? (i := 1) rfl)) (fun _ h9 => h9) e0_13 dX13_sum_29 ?_
      refine lv_iload_n hx hb dX13_sum_32 rfl (lv_at hl 3 rfl) ?_
      refine va_iald hx hb hE.1 hP 2 0 rfl rfl (by unfold vp_in; decide) dX13_sum_33 ?_
      refine lv_topi (fun z_8 ez_8 => ?_)
      obtain rfl : z_8 = 0 := ez_8.trans e2_2
      refine lv_icmp_ge (tgt := 61) hx hb dX13_sum_34 (by decide) (fun _ => ?_) (fun c9 => absurd c9 (by decide))
      refine lv_iload_n hx hb dX13_sum_61 rfl (lv_at hl 1 rfl) ?_
      refine lv_if_ne (tgt := 67) hx hb dX13_sum_62 (by decide) (fun c9 => absurd c9 (by decide)) (fun _ => ?_)
      refine lv_iconst (v := (-1)) hx hb dX13_sum_65 (by decide) ?_
      exact W.iret hx hb hr (fun t ht hW => ⟨_, rfl, (by first | decide | (unfold sp_take; (repeat' split) <;> first | rfl | (exfalso; omega))), ht⟩) (fun _ h => by cases h) dX13_sum_66
  · refine lv_if_ne (tgt := 10) hx hb dX13_sum_4 (by decide) (fun c9 => absurd c9 (by decide)) (fun _ => ?_)
    refine lv_bipush (v := (-2)) hx hb dX13_sum_7 (by decide) ?_
    exact W.iret hx hb hr (fun t ht hW => ⟨_, rfl, (by first | decide | (unfold sp_take; (repeat' split) <;> first | rfl | (exfalso; omega))), ht⟩) (fun _ h => by cases h) dX13_sum_9
theorem dX13_wrong_0 : decode cX13_wrong 0 = .ok (.iload_n 1, 1) := by decide +kernel
theorem dX13_wrong_1 : decode cX13_wrong 1 = .ok (.invokestatic 332, 3) := by decide +kernel
theorem dX13_wrong_12 : decode cX13_wrong 12 = .ok (.aload_n 0, 1) := by decide +kernel
theorem dX13_wrong_13 : decode cX13_wrong 13 = .ok (.getfield 104, 3) := by decide +kernel
theorem dX13_wrong_16 : decode cX13_wrong 16 = .ok (.iload_n 1, 1) := by decide +kernel
theorem dX13_wrong_17 : decode cX13_wrong 17 = .ok (.iaload, 1) := by decide +kernel
theorem dX13_wrong_18 : decode cX13_wrong 18 = .ok (.ifCond .ge 8, 3) := by decide +kernel
theorem dX13_wrong_21 : decode cX13_wrong 21 = .ok (.bipush (-11), 2) := by decide +kernel
theorem dX13_wrong_23 : decode cX13_wrong 23 = .ok (.goto 27, 3) := by decide +kernel
theorem dX13_wrong_4 : decode cX13_wrong 4 = .ok (.ifCond .ne 8, 3) := by decide +kernel
theorem dX13_wrong_50 : decode cX13_wrong 50 = .ok (.ireturn, 1) := by decide +kernel
theorem dX13_wrong_7 : decode cX13_wrong 7 = .ok (.bipush (-2), 2) := by decide +kernel
theorem dX13_wrong_9 : decode cX13_wrong 9 = .ok (.goto 41, 3) := by decide +kernel
set_option maxRecDepth 20000 in
theorem ggX13_wrong_X13_isSheet : GoodIn wsX13_wrong wsX13_isSheet := goodIn_r _ [6, 7, 8, 9, 5, 10] (by decide +kernel) (by decide +kernel)
set_option maxRecDepth 20000 in
theorem gX13_wrong_X13_isSheet : GoodIn wsX13_wrong (va_wsS RX13 332 yX13_isSheet wsX13_isSheet) := goodIn_app (goodIn_of _ (by decide +kernel)) ggX13_wrong_X13_isSheet
set_option maxRecDepth 20000 in
theorem in_X13_wrong_X13 : ∀ w ∈ wsX130, w ∈ wsX13_wrong := by decide +kernel
set_option maxHeartbeats 4000000 in
set_option maxRecDepth 100000 in
theorem f_X13_wrong (l : Launch) (D : va_G) (T : Nat → ClassId) (h0 : Nat) (fs0 : List Value) (h1 : Nat) (f1 : Nat → Int32) (h2 : Nat) (f2 : Nat → Int32) (x1 : Int32) (x2 : Int32) (e0_34 : fs0[34]? = some (.ref h1)) (e0_35 : fs0[35]? = some (.ref h2)) (e1_0 : f1 0 = (-1)) (e1_1 : f1 1 = (-1)) (e1_2 : f1 2 = (-1)) (e1_3 : f1 3 = (-1)) : Met l yX13_wrong wsX13_wrong ({ frames := 2, cells := 0, slots := 0, locals := 45 }) (pR [.ref h0, .int x1, .int x2] D T [(h0, .inr (10, fs0)), (h1, .inl (T 0, 4, .inl f1)), (h2, .inl (T 0, 4, .inl f2))]) (vp_Si (fun r => r = sp_cell x1)) 0 0 (fun _ => False) := by
  refine Met.ofW (cc := cX13_wrong) (maxL := 3) (ret := (some .int)) (by decide) rfl ?_
  intro p e s m args below meth c s₁ B hml hv
  obtain ⟨rfl, hP, hE⟩ := hv
  have hx := B.exec
  have hb := B.bytes
  have hr := B.returns
  have hts := atoms_spec (ws := wsX13_wrong) B.pre
  have hown : s.vm.findClass RX13 = some m.cls := findClass_of_methodNamed B.named
  have hlocks := B.notSynchronized
  have hP : va_P D vwCl [(h0, .inr (10, fs0)), (h1, .inl (T 0, 4, .inl f1)), (h2, .inl (T 0, 4, .inl f2))] s.heap := hP
  have hl := lv_entry ([.ref h0, .int x1, .int x2]) (n := 3) (Nat.le_of_ble_eq_true rfl)
  rw [lg_entry_eq]
  generalize (lg_sl ([.ref h0, .int x1, .int x2]) ++ List.replicate (3 - (lg_sl ([.ref h0, .int x1, .int x2])).length) Slot.unset).toArray = ls at hl ⊢
  have hl : lv_has ls 3 [(0, .ref h0), (1, .int x1), (2, .int x2)] := hl
  refine lv_iload_n hx hb dX13_wrong_0 rfl (lv_at hl 1 rfl) ?_
  refine vp_callSi (W.runS (As := [.int x1]) (rest := []) ⟨hx, hb, hml, hown, hts⟩ (c_X13_isSheet l D T x1) (va_cwS 1 hts gX13_wrong_X13_isSheet rfl rfl rfl (by decide +kernel) ⟨Nat.le_of_ble_eq_true rfl, Nat.le_of_ble_eq_true rfl⟩) (pR_S hP hE [] rfl) rfl rfl hl.1 rfl (lv_room (Nat.le_of_ble_eq_true rfl)) dX13_wrong_1 ⟨Nat.le_of_ble_eq_true rfl, Nat.le_of_ble_eq_true rfl⟩) (fun r_1 hr_1 => ?_)
  rcases bool_post hr_1 with ⟨c_2, rfl⟩ | ⟨c_2, rfl⟩
  · refine lv_if_ne (tgt := 12) hx hb dX13_wrong_4 (by decide) (fun _ => ?_) (fun c9 => absurd c9 (by decide))
    refine lv_aload_n hx hb dX13_wrong_12 rfl (lv_at hl 0 rfl) ?_
    refine va_get (D := D) (ci := 10) (v := .ref h1) (C := RX13) (T := TX13) (N := 45) hx hb hts in_X13_wrong_X13 hown hE.1 hP 0 rfl rfl 34 (by decide) (hts (.fieldLink RX13 104 "ClauseBookModel" "sorts" "[I") (List.mem_of_getElem? (i := 1) rfl)) (fun _ h9 => h9) e0_34 dX13_wrong_13 ?_
    refine lv_iload_n hx hb dX13_wrong_16 rfl (lv_at hl 1 rfl) ?_
    rcases in4 (x := x1) (by omega) with rfl | rfl | rfl | rfl
    · refine va_iald hx hb hE.1 hP 1 0 rfl rfl (by unfold vp_in; decide) dX13_wrong_17 ?_
      refine lv_topi (fun z_3 ez_3 => ?_)
      obtain rfl : z_3 = (-1) := ez_3.trans e1_0
      refine lv_if_ge (tgt := 26) hx hb dX13_wrong_18 (by decide) (fun c9 => absurd c9 (by decide)) (fun _ => ?_)
      refine lv_bipush (v := (-11)) hx hb dX13_wrong_21 (by decide) ?_
      refine lv_goto (tgt := 50) hx hb dX13_wrong_23 (by decide) ?_
      exact W.iret hx hb hr (fun t ht hW => ⟨_, rfl, (by first | decide | (unfold sp_cell; (repeat' split) <;> first | rfl | (exfalso; omega))), ht⟩) (fun _ h => by cases h) dX13_wrong_50
    · refine va_iald hx hb hE.1 hP 1 0 rfl rfl (by unfold vp_in; decide) dX13_wrong_17 ?_
      refine lv_topi (fun z_4 ez_4 => ?_)
      obtain rfl : z_4 = (-1) := ez_4.trans e1_1
      refine lv_if_ge (tgt := 26) hx hb dX13_wrong_18 (by decide) (fun c9 => absurd c9 (by decide)) (fun _ => ?_)
      refine lv_bipush (v := (-11)) hx hb dX13_wrong_21 (by decide) ?_
      refine lv_goto (tgt := 50) hx hb dX13_wrong_23 (by decide) ?_
      exact W.iret hx hb hr (fun t ht hW => ⟨_, rfl, (by first | decide | (unfold sp_cell; (repeat' split) <;> first | rfl | (exfalso; omega))), ht⟩) (fun _ h => by cases h) dX13_wrong_50
    · refine va_iald hx hb hE.1 hP 1 0 rfl rfl (by unfold vp_in; decide) dX13_wrong_17 ?_
      refine lv_topi (fun z_5 ez_5 => ?_)
      obtain rfl : z_5 = (-1) := ez_5.trans e1_2
      refine lv_if_ge (tgt := 26) hx hb dX13_wrong_18 (by decide) (fun c9 => absurd c9 (by decide)) (fun _ => ?_)
      refine lv_bipush (v := (-11)) hx hb dX13_wrong_21 (by decide) ?_
      refine lv_goto (tgt := 50) hx hb dX13_wrong_23 (by decide) ?_
      exact W.iret hx hb hr (fun t ht hW => ⟨_, rfl, (by first | decide | (unfold sp_cell; (repeat' split) <;> first | rfl | (exfalso; omega))), ht⟩) (fun _ h => by cases h) dX13_wrong_50
    · refine va_iald hx hb hE.1 hP 1 0 rfl rfl (by unfold vp_in; decide) dX13_wrong_17 ?_
      refine lv_topi (fun z_6 ez_6 => ?_)
      obtain rfl : z_6 = (-1) := ez_6.trans e1_3
      refine lv_if_ge (tgt := 26) hx hb dX13_wrong_18 (by decide) (fun c9 => absurd c9 (by decide)) (fun _ => ?_)
      refine lv_bipush (v := (-11)) hx hb dX13_wrong_21 (by decide) ?_
      refine lv_goto (tgt := 50) hx hb dX13_wrong_23 (by decide) ?_
      exact W.iret hx hb hr (fun t ht hW => ⟨_, rfl, (by first | decide | (unfold sp_cell; (repeat' split) <;> first | rfl | (exfalso; omega))), ht⟩) (fun _ h => by cases h) dX13_wrong_50
  · refine lv_if_ne (tgt := 12) hx hb dX13_wrong_4 (by decide) (fun c9 => absurd c9 (by decide)) (fun _ => ?_)
    refine lv_bipush (v := (-2)) hx hb dX13_wrong_7 (by decide) ?_
    refine lv_goto (tgt := 50) hx hb dX13_wrong_9 (by decide) ?_
    exact W.iret hx hb hr (fun t ht hW => ⟨_, rfl, (by first | decide | (unfold sp_cell; (repeat' split) <;> first | rfl | (exfalso; omega))), ht⟩) (fun _ h => by cases h) dX13_wrong_50
theorem dX13_cell_0 : decode cX13_cell 0 = .ok (.aload_n 0, 1) := by decide +kernel
theorem dX13_cell_1 : decode cX13_cell 1 = .ok (.iload_n 1, 1) := by decide +kernel
theorem dX13_cell_10 : decode cX13_cell 10 = .ok (.ifCond .eq 6, 3) := by decide +kernel
theorem dX13_cell_13 : decode cX13_cell 13 = .ok (.iload 5, 2) := by decide +kernel
theorem dX13_cell_15 : decode cX13_cell 15 = .ok (.ireturn, 1) := by decide +kernel
theorem dX13_cell_2 : decode cX13_cell 2 = .ok (.iload_n 2, 1) := by decide +kernel
theorem dX13_cell_3 : decode cX13_cell 3 = .ok (.invokevirtual 410, 3) := by decide +kernel
theorem dX13_cell_6 : decode cX13_cell 6 = .ok (.istore 5, 2) := by decide +kernel
theorem dX13_cell_8 : decode cX13_cell 8 = .ok (.iload 5, 2) := by decide +kernel
set_option maxRecDepth 20000 in
theorem ggX13_cell_X13_wrong : GoodIn wsX13_cell wsX13_wrong := goodIn_r _ [8, 1, 9, 10, 11, 7, 12, 13, 14, 15, 16, 17, 18, 19, 20, 21, 22, 23, 24, 25, 26, 27, 28, 29, 30, 31, 32, 33, 34, 35, 36, 37, 38, 39, 40, 41, 42, 43, 44, 45, 46, 47, 48, 49, 50, 51, 52, 53, 54, 55, 56, 57, 58, 59, 60, 61] (by decide +kernel) (by decide +kernel)
set_option maxRecDepth 20000 in
theorem gX13_cell_X13_wrong : GoodIn wsX13_cell (wsV RX13 410 RX13 yX13_wrong wsX13_wrong) := goodIn_app (goodIn_of _ (by decide +kernel)) ggX13_cell_X13_wrong
set_option maxHeartbeats 4000000 in
set_option maxRecDepth 100000 in
theorem f_X13_cell (l : Launch) (D : va_G) (T : Nat → ClassId) (h0 : Nat) (fs0 : List Value) (h1 : Nat) (f1 : Nat → Int32) (h2 : Nat) (f2 : Nat → Int32) (x1 : Int32) (x2 : Int32) (x3 : Int64) (e0_34 : fs0[34]? = some (.ref h1)) (e0_35 : fs0[35]? = some (.ref h2)) (e1_0 : f1 0 = (-1)) (e1_1 : f1 1 = (-1)) (e1_2 : f1 2 = (-1)) (e1_3 : f1 3 = (-1)) : Met l yX13_cell wsX13_cell ({ frames := 3, cells := 0, slots := 0, locals := 67 }) (pR [.ref h0, .int x1, .int x2, .long x3] D T [(h0, .inr (10, fs0)), (h1, .inl (T 0, 4, .inl f1)), (h2, .inl (T 0, 4, .inl f2))]) (vp_Si (fun r => r = sp_cell x1)) 0 0 (fun _ => False) := by
  refine Met.ofW (cc := cX13_cell) (maxL := 6) (ret := (some .int)) (by decide) rfl ?_
  intro p e s m args below meth c s₁ B hml hv
  obtain ⟨rfl, hP, hE⟩ := hv
  have hx := B.exec
  have hb := B.bytes
  have hr := B.returns
  have hts := atoms_spec (ws := wsX13_cell) B.pre
  have hown : s.vm.findClass RX13 = some m.cls := findClass_of_methodNamed B.named
  have hlocks := B.notSynchronized
  have hP : va_P D vwCl [(h0, .inr (10, fs0)), (h1, .inl (T 0, 4, .inl f1)), (h2, .inl (T 0, 4, .inl f2))] s.heap := hP
  have hl := lv_entry ([.ref h0, .int x1, .int x2, .long x3]) (n := 6) (Nat.le_of_ble_eq_true rfl)
  rw [lg_entry_eq]
  generalize (lg_sl ([.ref h0, .int x1, .int x2, .long x3]) ++ List.replicate (6 - (lg_sl ([.ref h0, .int x1, .int x2, .long x3])).length) Slot.unset).toArray = ls at hl ⊢
  have hl : lv_has ls 6 [(0, .ref h0), (1, .int x1), (2, .int x2), (3, .long x3)] := hl
  refine lv_aload_n hx hb dX13_cell_0 rfl (lv_at hl 0 rfl) ?_
  refine lv_iload_n hx hb dX13_cell_1 rfl (lv_at hl 1 rfl) ?_
  refine lv_iload_n hx hb dX13_cell_2 rfl (lv_at hl 2 rfl) ?_
  refine vp_callSi (W.runV (As := [.int x1, .int x2]) (rest := []) ⟨hx, hb, hml, hown, hts⟩ (f_X13_wrong l D T h0 fs0 h1 f1 h2 f2 x1 x2 e0_34 e0_35 e1_0 e1_1 e1_2 e1_3) (cwV 2 hts gX13_cell_X13_wrong rfl rfl rfl (by decide +kernel) ⟨Nat.le_of_ble_eq_true rfl, Nat.le_of_ble_eq_true rfl⟩) (pR_V (ci := 10) (q0 := 0) hP hE rfl rfl [0, 1, 2] rfl) rfl rfl hl.1 rfl (lv_room (Nat.le_of_ble_eq_true rfl)) dX13_cell_3 ⟨Nat.le_of_ble_eq_true rfl, Nat.le_of_ble_eq_true rfl⟩) (fun r_1 hr_1 => ?_)
  rcases pf_post hr_1 with ⟨c_2, rfl⟩ | ⟨c_2, rfl⟩
  · refine lv_istore (lv' := [(5, .int (-11)), (0, .ref h0), (1, .int x1), (2, .int x2), (3, .long x3)]) hx hb dX13_cell_6 hl (by decide) rfl (fun ls hl => ?_)
    refine lv_iload hx hb dX13_cell_8 (lv_at hl 0 rfl) ?_
    refine lv_if_eq (tgt := 16) hx hb dX13_cell_10 (by decide) (fun c9 => absurd c9 (by decide)) (fun _ => ?_)
    refine lv_iload hx hb dX13_cell_13 (lv_at hl 0 rfl) ?_
    exact W.iret hx hb hr (fun t ht hW => ⟨_, rfl, (by first | decide | (unfold sp_cell; (repeat' split) <;> first | rfl | (exfalso; omega))), ht⟩) (fun _ h => by cases h) dX13_cell_15
  · refine lv_istore (lv' := [(5, .int (-2)), (0, .ref h0), (1, .int x1), (2, .int x2), (3, .long x3)]) hx hb dX13_cell_6 hl (by decide) rfl (fun ls hl => ?_)
    refine lv_iload hx hb dX13_cell_8 (lv_at hl 0 rfl) ?_
    refine lv_if_eq (tgt := 16) hx hb dX13_cell_10 (by decide) (fun c9 => absurd c9 (by decide)) (fun _ => ?_)
    refine lv_iload hx hb dX13_cell_13 (lv_at hl 0 rfl) ?_
    exact W.iret hx hb hr (fun t ht hW => ⟨_, rfl, (by first | decide | (unfold sp_cell; (repeat' split) <;> first | rfl | (exfalso; omega))), ht⟩) (fun _ h => by cases h) dX13_cell_15
theorem dX13_halve_0 : decode cX13_halve 0 = .ok (.aload_n 0, 1) := by decide +kernel
theorem dX13_halve_1 : decode cX13_halve 1 = .ok (.iload_n 1, 1) := by decide +kernel
theorem dX13_halve_11 : decode cX13_halve 11 = .ok (.iload_n 3, 1) := by decide +kernel
theorem dX13_halve_12 : decode cX13_halve 12 = .ok (.ireturn, 1) := by decide +kernel
theorem dX13_halve_2 : decode cX13_halve 2 = .ok (.iload_n 2, 1) := by decide +kernel
theorem dX13_halve_3 : decode cX13_halve 3 = .ok (.invokevirtual 410, 3) := by decide +kernel
theorem dX13_halve_6 : decode cX13_halve 6 = .ok (.istore_n 3, 1) := by decide +kernel
theorem dX13_halve_7 : decode cX13_halve 7 = .ok (.iload_n 3, 1) := by decide +kernel
theorem dX13_halve_8 : decode cX13_halve 8 = .ok (.ifCond .eq 5, 3) := by decide +kernel
set_option maxRecDepth 20000 in
theorem ggX13_halve_X13_wrong : GoodIn wsX13_halve wsX13_wrong := goodIn_r _ [10, 4, 11, 12, 13, 9, 14, 15, 16, 17, 18, 19, 20, 21, 22, 23, 24, 25, 26, 27, 28, 29, 30, 31, 32, 33, 34, 35, 36, 37, 38, 39, 40, 41, 42, 43, 44, 45, 46, 47, 48, 49, 50, 51, 52, 53, 54, 55, 56, 57, 58, 59, 60, 61, 62, 63] (by decide +kernel) (by decide +kernel)
set_option maxRecDepth 20000 in
theorem gX13_halve_X13_wrong : GoodIn wsX13_halve (wsV RX13 410 RX13 yX13_wrong wsX13_wrong) := goodIn_app (goodIn_of _ (by decide +kernel)) ggX13_halve_X13_wrong
set_option maxHeartbeats 4000000 in
set_option maxRecDepth 100000 in
theorem f_X13_halve (l : Launch) (D : va_G) (T : Nat → ClassId) (h0 : Nat) (fs0 : List Value) (h1 : Nat) (f1 : Nat → Int32) (h2 : Nat) (f2 : Nat → Int32) (x1 : Int32) (x2 : Int32) (e0_34 : fs0[34]? = some (.ref h1)) (e0_35 : fs0[35]? = some (.ref h2)) (e1_0 : f1 0 = (-1)) (e1_1 : f1 1 = (-1)) (e1_2 : f1 2 = (-1)) (e1_3 : f1 3 = (-1)) : Met l yX13_halve wsX13_halve ({ frames := 3, cells := 0, slots := 0, locals := 67 }) (pR [.ref h0, .int x1, .int x2] D T [(h0, .inr (10, fs0)), (h1, .inl (T 0, 4, .inl f1)), (h2, .inl (T 0, 4, .inl f2))]) (vp_Si (fun r => r = sp_cell x1)) 0 0 (fun _ => False) := by
  refine Met.ofW (cc := cX13_halve) (maxL := 5) (ret := (some .int)) (by decide) rfl ?_
  intro p e s m args below meth c s₁ B hml hv
  obtain ⟨rfl, hP, hE⟩ := hv
  have hx := B.exec
  have hb := B.bytes
  have hr := B.returns
  have hts := atoms_spec (ws := wsX13_halve) B.pre
  have hown : s.vm.findClass RX13 = some m.cls := findClass_of_methodNamed B.named
  have hlocks := B.notSynchronized
  have hP : va_P D vwCl [(h0, .inr (10, fs0)), (h1, .inl (T 0, 4, .inl f1)), (h2, .inl (T 0, 4, .inl f2))] s.heap := hP
  have hl := lv_entry ([.ref h0, .int x1, .int x2]) (n := 5) (Nat.le_of_ble_eq_true rfl)
  rw [lg_entry_eq]
  generalize (lg_sl ([.ref h0, .int x1, .int x2]) ++ List.replicate (5 - (lg_sl ([.ref h0, .int x1, .int x2])).length) Slot.unset).toArray = ls at hl ⊢
  have hl : lv_has ls 5 [(0, .ref h0), (1, .int x1), (2, .int x2)] := hl
  refine lv_aload_n hx hb dX13_halve_0 rfl (lv_at hl 0 rfl) ?_
  refine lv_iload_n hx hb dX13_halve_1 rfl (lv_at hl 1 rfl) ?_
  refine lv_iload_n hx hb dX13_halve_2 rfl (lv_at hl 2 rfl) ?_
  refine vp_callSi (W.runV (As := [.int x1, .int x2]) (rest := []) ⟨hx, hb, hml, hown, hts⟩ (f_X13_wrong l D T h0 fs0 h1 f1 h2 f2 x1 x2 e0_34 e0_35 e1_0 e1_1 e1_2 e1_3) (cwV 2 hts gX13_halve_X13_wrong rfl rfl rfl (by decide +kernel) ⟨Nat.le_of_ble_eq_true rfl, Nat.le_of_ble_eq_true rfl⟩) (pR_V (ci := 10) (q0 := 0) hP hE rfl rfl [0, 1, 2] rfl) rfl rfl hl.1 rfl (lv_room (Nat.le_of_ble_eq_true rfl)) dX13_halve_3 ⟨Nat.le_of_ble_eq_true rfl, Nat.le_of_ble_eq_true rfl⟩) (fun r_1 hr_1 => ?_)
  rcases pf_post hr_1 with ⟨c_2, rfl⟩ | ⟨c_2, rfl⟩
  · refine lv_istore_n (lv' := [(3, .int (-11)), (0, .ref h0), (1, .int x1), (2, .int x2)]) hx hb dX13_halve_6 rfl hl (by decide) rfl (fun ls hl => ?_)
    refine lv_iload_n hx hb dX13_halve_7 rfl (lv_at hl 0 rfl) ?_
    refine lv_if_eq (tgt := 13) hx hb dX13_halve_8 (by decide) (fun c9 => absurd c9 (by decide)) (fun _ => ?_)
    refine lv_iload_n hx hb dX13_halve_11 rfl (lv_at hl 0 rfl) ?_
    exact W.iret hx hb hr (fun t ht hW => ⟨_, rfl, (by first | decide | (unfold sp_cell; (repeat' split) <;> first | rfl | (exfalso; omega))), ht⟩) (fun _ h => by cases h) dX13_halve_12
  · refine lv_istore_n (lv' := [(3, .int (-2)), (0, .ref h0), (1, .int x1), (2, .int x2)]) hx hb dX13_halve_6 rfl hl (by decide) rfl (fun ls hl => ?_)
    refine lv_iload_n hx hb dX13_halve_7 rfl (lv_at hl 0 rfl) ?_
    refine lv_if_eq (tgt := 13) hx hb dX13_halve_8 (by decide) (fun c9 => absurd c9 (by decide)) (fun _ => ?_)
    refine lv_iload_n hx hb dX13_halve_11 rfl (lv_at hl 0 rfl) ?_
    exact W.iret hx hb hr (fun t ht hW => ⟨_, rfl, (by first | decide | (unfold sp_cell; (repeat' split) <;> first | rfl | (exfalso; omega))), ht⟩) (fun _ h => by cases h) dX13_halve_12
theorem dX13_read_0 : decode cX13_read 0 = .ok (.iload_n 1, 1) := by decide +kernel
theorem dX13_read_1 : decode cX13_read 1 = .ok (.invokestatic 332, 3) := by decide +kernel
theorem dX13_read_10 : decode cX13_read 10 = .ok (.ldc2_w 408, 3) := by decide +kernel
theorem dX13_read_13 : decode cX13_read 13 = .ok (.invokestatic 175, 3) := by decide +kernel
theorem dX13_read_16 : decode cX13_read 16 = .ok (.ifCond .ne 9, 3) := by decide +kernel
theorem dX13_read_19 : decode cX13_read 19 = .ok (.bipush (-2), 2) := by decide +kernel
theorem dX13_read_21 : decode cX13_read 21 = .ok (.invokestatic 270, 3) := by decide +kernel
theorem dX13_read_24 : decode cX13_read 24 = .ok (.lreturn, 1) := by decide +kernel
theorem dX13_read_25 : decode cX13_read 25 = .ok (.aload_n 0, 1) := by decide +kernel
theorem dX13_read_26 : decode cX13_read 26 = .ok (.iload_n 1, 1) := by decide +kernel
theorem dX13_read_27 : decode cX13_read 27 = .ok (.iload_n 2, 1) := by decide +kernel
theorem dX13_read_28 : decode cX13_read 28 = .ok (.invokevirtual 410, 3) := by decide +kernel
theorem dX13_read_31 : decode cX13_read 31 = .ok (.istore 4, 2) := by decide +kernel
theorem dX13_read_33 : decode cX13_read 33 = .ok (.iload 4, 2) := by decide +kernel
theorem dX13_read_35 : decode cX13_read 35 = .ok (.ifCond .eq 9, 3) := by decide +kernel
theorem dX13_read_38 : decode cX13_read 38 = .ok (.iload 4, 2) := by decide +kernel
theorem dX13_read_4 : decode cX13_read 4 = .ok (.ifCond .eq 15, 3) := by decide +kernel
theorem dX13_read_40 : decode cX13_read 40 = .ok (.invokestatic 270, 3) := by decide +kernel
theorem dX13_read_43 : decode cX13_read 43 = .ok (.lreturn, 1) := by decide +kernel
theorem dX13_read_7 : decode cX13_read 7 = .ok (.iload_n 3, 1) := by decide +kernel
theorem dX13_read_8 : decode cX13_read 8 = .ok (.i2l, 1) := by decide +kernel
theorem dX13_read_9 : decode cX13_read 9 = .ok (.lconst 0, 1) := by decide +kernel
set_option maxRecDepth 20000 in
theorem ggX13_read_X13_in : GoodIn wsX13_read wsX13_in := goodIn_r _ [12] (by decide +kernel) (by decide +kernel)
set_option maxRecDepth 20000 in
theorem ggX13_read_X13_isSheet : GoodIn wsX13_read wsX13_isSheet := goodIn_r _ [9, 1, 10, 11, 8, 12] (by decide +kernel) (by decide +kernel)
set_option maxRecDepth 20000 in
theorem ggX13_read_X13_refused : GoodIn wsX13_read wsX13_refused := goodIn_r _ [15, 16] (by decide +kernel) (by decide +kernel)
set_option maxRecDepth 20000 in
theorem ggX13_read_X13_wrong : GoodIn wsX13_read wsX13_wrong := goodIn_r _ [20, 4, 21, 6, 7, 8, 9, 1, 10, 11, 12, 46, 47, 48, 49, 50, 51, 52, 53, 54, 55, 56, 57, 58, 59, 60, 61, 62, 63, 64, 65, 66, 67, 68, 69, 70, 71, 72, 73, 74, 75, 76, 77, 78, 79, 80, 81, 82, 83, 84, 85, 86, 87, 88, 89, 90] (by decide +kernel) (by decide +kernel)
set_option maxRecDepth 20000 in
theorem gX13_read_X13_in : GoodIn wsX13_read (va_wsS RX13 175 yX13_in wsX13_in) := goodIn_app (goodIn_of _ (by decide +kernel)) ggX13_read_X13_in
set_option maxRecDepth 20000 in
theorem gX13_read_X13_isSheet : GoodIn wsX13_read (va_wsS RX13 332 yX13_isSheet wsX13_isSheet) := goodIn_app (goodIn_of _ (by decide +kernel)) ggX13_read_X13_isSheet
set_option maxRecDepth 20000 in
theorem gX13_read_X13_refused : GoodIn wsX13_read (va_wsS RX13 270 yX13_refused wsX13_refused) := goodIn_app (goodIn_of _ (by decide +kernel)) ggX13_read_X13_refused
set_option maxRecDepth 20000 in
theorem gX13_read_X13_wrong : GoodIn wsX13_read (wsV RX13 410 RX13 yX13_wrong wsX13_wrong) := goodIn_app (goodIn_of _ (by decide +kernel)) ggX13_read_X13_wrong
set_option maxHeartbeats 4000000 in
set_option maxRecDepth 100000 in
theorem f_X13_read (l : Launch) (D : va_G) (T : Nat → ClassId) (h0 : Nat) (fs0 : List Value) (h1 : Nat) (f1 : Nat → Int32) (h2 : Nat) (f2 : Nat → Int32) (x1 : Int32) (x2 : Int32) (x3 : Int32) (e0_34 : fs0[34]? = some (.ref h1)) (e0_35 : fs0[35]? = some (.ref h2)) (e1_0 : f1 0 = (-1)) (e1_1 : f1 1 = (-1)) (e1_2 : f1 2 = (-1)) (e1_3 : f1 3 = (-1)) : Met l yX13_read wsX13_read ({ frames := 3, cells := 0, slots := 0, locals := 67 }) (pR [.ref h0, .int x1, .int x2, .int x3] D T [(h0, .inr (10, fs0)), (h1, .inl (T 0, 4, .inl f1)), (h2, .inl (T 0, 4, .inl f2))]) (vp_Sl (fun r => r = sp_read x1 x3)) 0 0 (fun _ => False) := by
  refine Met.ofW (cc := cX13_read) (maxL := 10) (ret := (some .long)) (by decide) rfl ?_
  intro p e s m args below meth c s₁ B hml hv
  obtain ⟨rfl, hP, hE⟩ := hv
  have hx := B.exec
  have hb := B.bytes
  have hr := B.returns
  have hts := atoms_spec (ws := wsX13_read) B.pre
  have hown : s.vm.findClass RX13 = some m.cls := findClass_of_methodNamed B.named
  have hlocks := B.notSynchronized
  have hP : va_P D vwCl [(h0, .inr (10, fs0)), (h1, .inl (T 0, 4, .inl f1)), (h2, .inl (T 0, 4, .inl f2))] s.heap := hP
  have hl := lv_entry ([.ref h0, .int x1, .int x2, .int x3]) (n := 10) (Nat.le_of_ble_eq_true rfl)
  rw [lg_entry_eq]
  generalize (lg_sl ([.ref h0, .int x1, .int x2, .int x3]) ++ List.replicate (10 - (lg_sl ([.ref h0, .int x1, .int x2, .int x3])).length) Slot.unset).toArray = ls at hl ⊢
  have hl : lv_has ls 10 [(0, .ref h0), (1, .int x1), (2, .int x2), (3, .int x3)] := hl
  refine lv_iload_n hx hb dX13_read_0 rfl (lv_at hl 1 rfl) ?_
  refine vp_callSi (W.runS (As := [.int x1]) (rest := []) ⟨hx, hb, hml, hown, hts⟩ (c_X13_isSheet l D T x1) (va_cwS 1 hts gX13_read_X13_isSheet rfl rfl rfl (by decide +kernel) ⟨Nat.le_of_ble_eq_true rfl, Nat.le_of_ble_eq_true rfl⟩) (pR_S hP hE [] rfl) rfl rfl hl.1 rfl (lv_room (Nat.le_of_ble_eq_true rfl)) dX13_read_1 ⟨Nat.le_of_ble_eq_true rfl, Nat.le_of_ble_eq_true rfl⟩) (fun r_1 hr_1 => ?_)
  rcases bool_post hr_1 with ⟨c_2, rfl⟩ | ⟨c_2, rfl⟩
  · refine lv_if_eq (tgt := 19) hx hb dX13_read_4 (by decide) (fun c9 => absurd c9 (by decide)) (fun _ => ?_)
    refine lv_iload_n hx hb dX13_read_7 rfl (lv_at hl 3 rfl) ?_
    refine lv_i2l hx hb dX13_read_8 rfl ?_
    refine lv_lconst (v := 0) hx hb dX13_read_9 (by decide) ?_
    refine lv_ldc2 (v := 3) hx hb hown (hts (.constantLong RX13 408 (3)) (List.mem_of_getElem? (i := 1) rfl)) dX13_read_10 ?_
    refine vp_callSi (W.runS (As := [.long (x3.toInt64), .long 0, .long 3]) (rest := []) ⟨hx, hb, hml, hown, hts⟩ (c_X13_in l D T (x3.toInt64) 0 3 x3.toInt 0 3 ((Int32.toInt_toInt64 _).trans rfl) (by decide) (by decide)) (va_cwS 3 hts gX13_read_X13_in rfl rfl rfl (by decide +kernel) ⟨Nat.le_of_ble_eq_true rfl, Nat.le_of_ble_eq_true rfl⟩) (pR_S hP hE [] rfl) rfl rfl hl.1 rfl (lv_room (Nat.le_of_ble_eq_true rfl)) dX13_read_13 ⟨Nat.le_of_ble_eq_true rfl, Nat.le_of_ble_eq_true rfl⟩) (fun r_3 hr_3 => ?_)
    rcases bool_post hr_3 with ⟨c_4, rfl⟩ | ⟨c_4, rfl⟩
    · refine lv_if_ne (tgt := 25) hx hb dX13_read_16 (by decide) (fun _ => ?_) (fun c9 => absurd c9 (by decide))
      refine lv_aload_n hx hb dX13_read_25 rfl (lv_at hl 0 rfl) ?_
      refine lv_iload_n hx hb dX13_read_26 rfl (lv_at hl 1 rfl) ?_
      refine lv_iload_n hx hb dX13_read_27 rfl (lv_at hl 2 rfl) ?_
      refine vp_callSi (W.runV (As := [.int x1, .int x2]) (rest := []) ⟨hx, hb, hml, hown, hts⟩ (f_X13_wrong l D T h0 fs0 h1 f1 h2 f2 x1 x2 e0_34 e0_35 e1_0 e1_1 e1_2 e1_3) (cwV 2 hts gX13_read_X13_wrong rfl rfl rfl (by decide +kernel) ⟨Nat.le_of_ble_eq_true rfl, Nat.le_of_ble_eq_true rfl⟩) (pR_V (ci := 10) (q0 := 0) hP hE rfl rfl [0, 1, 2] rfl) rfl rfl hl.1 rfl (lv_room (Nat.le_of_ble_eq_true rfl)) dX13_read_28 ⟨Nat.le_of_ble_eq_true rfl, Nat.le_of_ble_eq_true rfl⟩) (fun r_5 hr_5 => ?_)
      rcases pf_post hr_5 with ⟨c_6, rfl⟩ | ⟨c_6, rfl⟩
      · refine lv_istore (lv' := [(4, .int (-11)), (0, .ref h0), (1, .int x1), (2, .int x2), (3, .int x3)]) hx hb dX13_read_31 hl (by decide) rfl (fun ls hl => ?_)
        refine lv_iload hx hb dX13_read_33 (lv_at hl 0 rfl) ?_
        refine lv_if_eq (tgt := 44) hx hb dX13_read_35 (by decide) (fun c9 => absurd c9 (by decide)) (fun _ => ?_)
        refine lv_iload hx hb dX13_read_38 (lv_at hl 0 rfl) ?_
        refine vp_callSl (W.runS (As := [.int (-11)]) (rest := []) ⟨hx, hb, hml, hown, hts⟩ (c_X13_refused l D T (-11)) (va_cwS 1 hts gX13_read_X13_refused rfl rfl rfl (by decide +kernel) ⟨Nat.le_of_ble_eq_true rfl, Nat.le_of_ble_eq_true rfl⟩) (pR_S hP hE [] rfl) rfl rfl hl.1 rfl (lv_room (Nat.le_of_ble_eq_true rfl)) dX13_read_40 ⟨Nat.le_of_ble_eq_true rfl, Nat.le_of_ble_eq_true rfl⟩) (fun r_7 hr_7 => ?_)
        obtain rfl : r_7 = (-4611686018427387915) := hr_7.trans (by decide)
        exact W.lret hx hb hr (fun t ht hW => ⟨_, rfl, (by first | decide | (unfold sp_read; (repeat' split) <;> first | rfl | (exfalso; omega))), ht⟩) (fun _ h => by cases h) dX13_read_43
      · refine lv_istore (lv' := [(4, .int (-2)), (0, .ref h0), (1, .int x1), (2, .int x2), (3, .int x3)]) hx hb dX13_read_31 hl (by decide) rfl (fun ls hl => ?_)
        refine lv_iload hx hb dX13_read_33 (lv_at hl 0 rfl) ?_
        refine lv_if_eq (tgt := 44) hx hb dX13_read_35 (by decide) (fun c9 => absurd c9 (by decide)) (fun _ => ?_)
        refine lv_iload hx hb dX13_read_38 (lv_at hl 0 rfl) ?_
        refine vp_callSl (W.runS (As := [.int (-2)]) (rest := []) ⟨hx, hb, hml, hown, hts⟩ (c_X13_refused l D T (-2)) (va_cwS 1 hts gX13_read_X13_refused rfl rfl rfl (by decide +kernel) ⟨Nat.le_of_ble_eq_true rfl, Nat.le_of_ble_eq_true rfl⟩) (pR_S hP hE [] rfl) rfl rfl hl.1 rfl (lv_room (Nat.le_of_ble_eq_true rfl)) dX13_read_40 ⟨Nat.le_of_ble_eq_true rfl, Nat.le_of_ble_eq_true rfl⟩) (fun r_8 hr_8 => ?_)
        obtain rfl : r_8 = (-4611686018427387906) := hr_8.trans (by decide)
        exact W.lret hx hb hr (fun t ht hW => ⟨_, rfl, (by first | decide | (unfold sp_read; (repeat' split) <;> first | rfl | (exfalso; omega))), ht⟩) (fun _ h => by cases h) dX13_read_43
    · refine lv_if_ne (tgt := 25) hx hb dX13_read_16 (by decide) (fun c9 => absurd c9 (by decide)) (fun _ => ?_)
      refine lv_bipush (v := (-2)) hx hb dX13_read_19 (by decide) ?_
      refine vp_callSl (W.runS (As := [.int (-2)]) (rest := []) ⟨hx, hb, hml, hown, hts⟩ (c_X13_refused l D T (-2)) (va_cwS 1 hts gX13_read_X13_refused rfl rfl rfl (by decide +kernel) ⟨Nat.le_of_ble_eq_true rfl, Nat.le_of_ble_eq_true rfl⟩) (pR_S hP hE [] rfl) rfl rfl hl.1 rfl (lv_room (Nat.le_of_ble_eq_true rfl)) dX13_read_21 ⟨Nat.le_of_ble_eq_true rfl, Nat.le_of_ble_eq_true rfl⟩) (fun r_9 hr_9 => ?_)
      obtain rfl : r_9 = (-4611686018427387906) := hr_9.trans (by decide)
      exact W.lret hx hb hr (fun t ht hW => ⟨_, rfl, (by first | decide | (unfold sp_read; (repeat' split) <;> first | rfl | (exfalso; omega))), ht⟩) (fun _ h => by cases h) dX13_read_24
  · refine lv_if_eq (tgt := 19) hx hb dX13_read_4 (by decide) (fun _ => ?_) (fun c9 => absurd c9 (by decide))
    refine lv_bipush (v := (-2)) hx hb dX13_read_19 (by decide) ?_
    refine vp_callSl (W.runS (As := [.int (-2)]) (rest := []) ⟨hx, hb, hml, hown, hts⟩ (c_X13_refused l D T (-2)) (va_cwS 1 hts gX13_read_X13_refused rfl rfl rfl (by decide +kernel) ⟨Nat.le_of_ble_eq_true rfl, Nat.le_of_ble_eq_true rfl⟩) (pR_S hP hE [] rfl) rfl rfl hl.1 rfl (lv_room (Nat.le_of_ble_eq_true rfl)) dX13_read_21 ⟨Nat.le_of_ble_eq_true rfl, Nat.le_of_ble_eq_true rfl⟩) (fun r_10 hr_10 => ?_)
    obtain rfl : r_10 = (-4611686018427387906) := hr_10.trans (by decide)
    exact W.lret hx hb hr (fun t ht hW => ⟨_, rfl, (by first | decide | (unfold sp_read; (repeat' split) <;> first | rfl | (exfalso; omega))), ht⟩) (fun _ h => by cases h) dX13_read_24
theorem dX13_copy_0 : decode cX13_copy 0 = .ok (.iload_n 1, 1) := by decide +kernel
theorem dX13_copy_1 : decode cX13_copy 1 = .ok (.invokestatic 332, 3) := by decide +kernel
theorem dX13_copy_11 : decode cX13_copy 11 = .ok (.ifCond .ne 6, 3) := by decide +kernel
theorem dX13_copy_14 : decode cX13_copy 14 = .ok (.bipush (-2), 2) := by decide +kernel
theorem dX13_copy_16 : decode cX13_copy 16 = .ok (.ireturn, 1) := by decide +kernel
theorem dX13_copy_17 : decode cX13_copy 17 = .ok (.aload_n 0, 1) := by decide +kernel
theorem dX13_copy_18 : decode cX13_copy 18 = .ok (.getfield 104, 3) := by decide +kernel
theorem dX13_copy_21 : decode cX13_copy 21 = .ok (.iload_n 1, 1) := by decide +kernel
theorem dX13_copy_22 : decode cX13_copy 22 = .ok (.iaload, 1) := by decide +kernel
theorem dX13_copy_23 : decode cX13_copy 23 = .ok (.ifCond .lt 12, 3) := by decide +kernel
theorem dX13_copy_35 : decode cX13_copy 35 = .ok (.bipush (-11), 2) := by decide +kernel
theorem dX13_copy_37 : decode cX13_copy 37 = .ok (.ireturn, 1) := by decide +kernel
theorem dX13_copy_4 : decode cX13_copy 4 = .ok (.ifCond .eq 10, 3) := by decide +kernel
theorem dX13_copy_7 : decode cX13_copy 7 = .ok (.iload_n 3, 1) := by decide +kernel
theorem dX13_copy_8 : decode cX13_copy 8 = .ok (.invokestatic 332, 3) := by decide +kernel
set_option maxRecDepth 20000 in
theorem ggX13_copy_X13_isSheet : GoodIn wsX13_copy wsX13_isSheet := goodIn_r _ [8, 9, 10, 11, 7, 12] (by decide +kernel) (by decide +kernel)
set_option maxRecDepth 20000 in
theorem gX13_copy_X13_isSheet : GoodIn wsX13_copy (va_wsS RX13 332 yX13_isSheet wsX13_isSheet) := goodIn_app (goodIn_of _ (by decide +kernel)) ggX13_copy_X13_isSheet
set_option maxRecDepth 20000 in
theorem in_X13_copy_X13 : ∀ w ∈ wsX130, w ∈ wsX13_copy := by decide +kernel
set_option maxHeartbeats 4000000 in
set_option maxRecDepth 100000 in
theorem f_X13_copy (l : Launch) (D : va_G) (T : Nat → ClassId) (h0 : Nat) (fs0 : List Value) (h1 : Nat) (f1 : Nat → Int32) (h2 : Nat) (f2 : Nat → Int32) (x1 : Int32) (x2 : Int32) (x3 : Int32) (x4 : Int32) (x5 : Int32) (e0_34 : fs0[34]? = some (.ref h1)) (e0_35 : fs0[35]? = some (.ref h2)) (e1_0 : f1 0 = (-1)) (e1_1 : f1 1 = (-1)) (e1_2 : f1 2 = (-1)) (e1_3 : f1 3 = (-1)) : Met l yX13_copy wsX13_copy ({ frames := 2, cells := 0, slots := 0, locals := 45 }) (pR [.ref h0, .int x1, .int x2, .int x3, .int x4, .int x5] D T [(h0, .inr (10, fs0)), (h1, .inl (T 0, 4, .inl f1)), (h2, .inl (T 0, 4, .inl f2))]) (vp_Si (fun r => r = sp_copy x1 x3)) 0 0 (fun _ => False) := by
  refine Met.ofW (cc := cX13_copy) (maxL := 8) (ret := (some .int)) (by decide) rfl ?_
  intro p e s m args below meth c s₁ B hml hv
  obtain ⟨rfl, hP, hE⟩ := hv
  have hx := B.exec
  have hb := B.bytes
  have hr := B.returns
  have hts := atoms_spec (ws := wsX13_copy) B.pre
  have hown : s.vm.findClass RX13 = some m.cls := findClass_of_methodNamed B.named
  have hlocks := B.notSynchronized
  have hP : va_P D vwCl [(h0, .inr (10, fs0)), (h1, .inl (T 0, 4, .inl f1)), (h2, .inl (T 0, 4, .inl f2))] s.heap := hP
  have hl := lv_entry ([.ref h0, .int x1, .int x2, .int x3, .int x4, .int x5]) (n := 8) (Nat.le_of_ble_eq_true rfl)
  rw [lg_entry_eq]
  generalize (lg_sl ([.ref h0, .int x1, .int x2, .int x3, .int x4, .int x5]) ++ List.replicate (8 - (lg_sl ([.ref h0, .int x1, .int x2, .int x3, .int x4, .int x5])).length) Slot.unset).toArray = ls at hl ⊢
  have hl : lv_has ls 8 [(0, .ref h0), (1, .int x1), (2, .int x2), (3, .int x3), (4, .int x4), (5, .int x5)] := hl
  refine lv_iload_n hx hb dX13_copy_0 rfl (lv_at hl 1 rfl) ?_
  refine vp_callSi (W.runS (As := [.int x1]) (rest := []) ⟨hx, hb, hml, hown, hts⟩ (c_X13_isSheet l D T x1) (va_cwS 1 hts gX13_copy_X13_isSheet rfl rfl rfl (by decide +kernel) ⟨Nat.le_of_ble_eq_true rfl, Nat.le_of_ble_eq_true rfl⟩) (pR_S hP hE [] rfl) rfl rfl hl.1 rfl (lv_room (Nat.le_of_ble_eq_true rfl)) dX13_copy_1 ⟨Nat.le_of_ble_eq_true rfl, Nat.le_of_ble_eq_true rfl⟩) (fun r_1 hr_1 => ?_)
  rcases bool_post hr_1 with ⟨c_2, rfl⟩ | ⟨c_2, rfl⟩
  · refine lv_if_eq (tgt := 14) hx hb dX13_copy_4 (by decide) (fun c9 => absurd c9 (by decide)) (fun _ => ?_)
    refine lv_iload_n hx hb dX13_copy_7 rfl (lv_at hl 3 rfl) ?_
    refine vp_callSi (W.runS (As := [.int x3]) (rest := []) ⟨hx, hb, hml, hown, hts⟩ (c_X13_isSheet l D T x3) (va_cwS 1 hts gX13_copy_X13_isSheet rfl rfl rfl (by decide +kernel) ⟨Nat.le_of_ble_eq_true rfl, Nat.le_of_ble_eq_true rfl⟩) (pR_S hP hE [] rfl) rfl rfl hl.1 rfl (lv_room (Nat.le_of_ble_eq_true rfl)) dX13_copy_8 ⟨Nat.le_of_ble_eq_true rfl, Nat.le_of_ble_eq_true rfl⟩) (fun r_3 hr_3 => ?_)
    rcases bool_post hr_3 with ⟨c_4, rfl⟩ | ⟨c_4, rfl⟩
    · refine lv_if_ne (tgt := 17) hx hb dX13_copy_11 (by decide) (fun _ => ?_) (fun c9 => absurd c9 (by decide))
      refine lv_aload_n hx hb dX13_copy_17 rfl (lv_at hl 0 rfl) ?_
      refine va_get (D := D) (ci := 10) (v := .ref h1) (C := RX13) (T := TX13) (N := 45) hx hb hts in_X13_copy_X13 hown hE.1 hP 0 rfl rfl 34 (by decide) (hts (.fieldLink RX13 104 "ClauseBookModel" "sorts" "[I") (List.mem_of_getElem? (i := 1) rfl)) (fun _ h9 => h9) e0_34 dX13_copy_18 ?_
      refine lv_iload_n hx hb dX13_copy_21 rfl (lv_at hl 1 rfl) ?_
      rcases in4 (x := x1) (by omega) with rfl | rfl | rfl | rfl
      · refine va_iald hx hb hE.1 hP 1 0 rfl rfl (by unfold vp_in; decide) dX13_copy_22 ?_
        refine lv_topi (fun z_5 ez_5 => ?_)
        obtain rfl : z_5 = (-1) := ez_5.trans e1_0
        refine lv_if_lt (tgt := 35) hx hb dX13_copy_23 (by decide) (fun _ => ?_) (fun c9 => absurd c9 (by decide))
        refine lv_bipush (v := (-11)) hx hb dX13_copy_35 (by decide) ?_
        exact W.iret hx hb hr (fun t ht hW => ⟨_, rfl, (by first | decide | (unfold sp_copy; (repeat' split) <;> first | rfl | (exfalso; omega))), ht⟩) (fun _ h => by cases h) dX13_copy_37
      · refine va_iald hx hb hE.1 hP 1 0 rfl rfl (by unfold vp_in; decide) dX13_copy_22 ?_
        refine lv_topi (fun z_6 ez_6 => ?_)
        obtain rfl : z_6 = (-1) := ez_6.trans e1_1
        refine lv_if_lt (tgt := 35) hx hb dX13_copy_23 (by decide) (fun _ => ?_) (fun c9 => absurd c9 (by decide))
        refine lv_bipush (v := (-11)) hx hb dX13_copy_35 (by decide) ?_
        exact W.iret hx hb hr (fun t ht hW => ⟨_, rfl, (by first | decide | (unfold sp_copy; (repeat' split) <;> first | rfl | (exfalso; omega))), ht⟩) (fun _ h => by cases h) dX13_copy_37
      · refine va_iald hx hb hE.1 hP 1 0 rfl rfl (by unfold vp_in; decide) dX13_copy_22 ?_
        refine lv_topi (fun z_7 ez_7 => ?_)
        obtain rfl : z_7 = (-1) := ez_7.trans e1_2
        refine lv_if_lt (tgt := 35) hx hb dX13_copy_23 (by decide) (fun _ => ?_) (fun c9 => absurd c9 (by decide))
        refine lv_bipush (v := (-11)) hx hb dX13_copy_35 (by decide) ?_
        exact W.iret hx hb hr (fun t ht hW => ⟨_, rfl, (by first | decide | (unfold sp_copy; (repeat' split) <;> first | rfl | (exfalso; omega))), ht⟩) (fun _ h => by cases h) dX13_copy_37
      · refine va_iald hx hb hE.1 hP 1 0 rfl rfl (by unfold vp_in; decide) dX13_copy_22 ?_
        refine lv_topi (fun z_8 ez_8 => ?_)
        obtain rfl : z_8 = (-1) := ez_8.trans e1_3
        refine lv_if_lt (tgt := 35) hx hb dX13_copy_23 (by decide) (fun _ => ?_) (fun c9 => absurd c9 (by decide))
        refine lv_bipush (v := (-11)) hx hb dX13_copy_35 (by decide) ?_
        exact W.iret hx hb hr (fun t ht hW => ⟨_, rfl, (by first | decide | (unfold sp_copy; (repeat' split) <;> first | rfl | (exfalso; omega))), ht⟩) (fun _ h => by cases h) dX13_copy_37
    · refine lv_if_ne (tgt := 17) hx hb dX13_copy_11 (by decide) (fun c9 => absurd c9 (by decide)) (fun _ => ?_)
      refine lv_bipush (v := (-2)) hx hb dX13_copy_14 (by decide) ?_
      exact W.iret hx hb hr (fun t ht hW => ⟨_, rfl, (by first | decide | (unfold sp_copy; (repeat' split) <;> first | rfl | (exfalso; omega))), ht⟩) (fun _ h => by cases h) dX13_copy_16
  · refine lv_if_eq (tgt := 14) hx hb dX13_copy_4 (by decide) (fun _ => ?_) (fun c9 => absurd c9 (by decide))
    refine lv_bipush (v := (-2)) hx hb dX13_copy_14 (by decide) ?_
    exact W.iret hx hb hr (fun t ht hW => ⟨_, rfl, (by first | decide | (unfold sp_copy; (repeat' split) <;> first | rfl | (exfalso; omega))), ht⟩) (fun _ h => by cases h) dX13_copy_16
theorem dX13_lacks_0 : decode cX13_lacks 0 = .ok (.aload_n 0, 1) := by decide +kernel
theorem dX13_lacks_1 : decode cX13_lacks 1 = .ok (.getfield 117, 3) := by decide +kernel
theorem dX13_lacks_11 : decode cX13_lacks 11 = .ok (.goto 19, 3) := by decide +kernel
theorem dX13_lacks_30 : decode cX13_lacks 30 = .ok (.ireturn, 1) := by decide +kernel
theorem dX13_lacks_4 : decode cX13_lacks 4 = .ok (.iload_n 1, 1) := by decide +kernel
theorem dX13_lacks_5 : decode cX13_lacks 5 = .ok (.iaload, 1) := by decide +kernel
theorem dX13_lacks_6 : decode cX13_lacks 6 = .ok (.ifCond .ne 8, 3) := by decide +kernel
theorem dX13_lacks_9 : decode cX13_lacks 9 = .ok (.bipush (-11), 2) := by decide +kernel
set_option maxRecDepth 20000 in
theorem in_X13_lacks_X13 : ∀ w ∈ wsX130, w ∈ wsX13_lacks := by decide +kernel
set_option maxHeartbeats 4000000 in
set_option maxRecDepth 100000 in
theorem f_X13_lacks (l : Launch) (D : va_G) (T : Nat → ClassId) (h0 : Nat) (fs0 : List Value) (h1 : Nat) (f1 : Nat → Int32) (x1 : Int32) (x2 : Int32) (e0_38 : fs0[38]? = some (.ref h1)) (e1_0 : f1 0 = 0) (e1_1 : f1 1 = 0) (e1_2 : f1 2 = 0) (e1_3 : f1 3 = 0) (hr1 : 0 ≤ x1.toInt ∧ x1.toInt ≤ 3) : Met l yX13_lacks wsX13_lacks ({ frames := 0, cells := 0, slots := 0, locals := 0 }) (pR [.ref h0, .int x1, .int x2] D T [(h0, .inr (10, fs0)), (h1, .inl (T 0, 4, .inl f1))]) (vp_Si (fun r => r = -11)) 0 0 (fun _ => False) := by
  refine Met.ofW (cc := cX13_lacks) (maxL := 3) (ret := (some .int)) (by decide) rfl ?_
  intro p e s m args below meth c s₁ B hml hv
  obtain ⟨rfl, hP, hE⟩ := hv
  have hx := B.exec
  have hb := B.bytes
  have hr := B.returns
  have hts := atoms_spec (ws := wsX13_lacks) B.pre
  have hown : s.vm.findClass RX13 = some m.cls := findClass_of_methodNamed B.named
  have hlocks := B.notSynchronized
  have hP : va_P D vwCl [(h0, .inr (10, fs0)), (h1, .inl (T 0, 4, .inl f1))] s.heap := hP
  have hl := lv_entry ([.ref h0, .int x1, .int x2]) (n := 3) (Nat.le_of_ble_eq_true rfl)
  rw [lg_entry_eq]
  generalize (lg_sl ([.ref h0, .int x1, .int x2]) ++ List.replicate (3 - (lg_sl ([.ref h0, .int x1, .int x2])).length) Slot.unset).toArray = ls at hl ⊢
  have hl : lv_has ls 3 [(0, .ref h0), (1, .int x1), (2, .int x2)] := hl
  refine lv_aload_n hx hb dX13_lacks_0 rfl (lv_at hl 0 rfl) ?_
  refine va_get (D := D) (ci := 10) (v := .ref h1) (C := RX13) (T := TX13) (N := 45) hx hb hts in_X13_lacks_X13 hown hE.1 hP 0 rfl rfl 38 (by decide) (hts (.fieldLink RX13 117 "ClauseBookModel" "handSort" "[I") (List.mem_of_getElem? (i := 1) rfl)) (fun _ h9 => h9) e0_38 dX13_lacks_1 ?_
  refine lv_iload_n hx hb dX13_lacks_4 rfl (lv_at hl 1 rfl) ?_
  rcases in4 (x := x1) (by omega) with rfl | rfl | rfl | rfl
  · refine va_iald hx hb hE.1 hP 1 0 rfl rfl (by unfold vp_in; decide) dX13_lacks_5 ?_
    refine lv_topi (fun z_1 ez_1 => ?_)
    obtain rfl : z_1 = 0 := ez_1.trans e1_0
    refine lv_if_ne (tgt := 14) hx hb dX13_lacks_6 (by decide) (fun c9 => absurd c9 (by decide)) (fun _ => ?_)
    refine lv_bipush (v := (-11)) hx hb dX13_lacks_9 (by decide) ?_
    refine lv_goto (tgt := 30) hx hb dX13_lacks_11 (by decide) ?_
    exact W.iret hx hb hr (fun t ht hW => ⟨_, rfl, rfl, ht⟩) (fun _ h => by cases h) dX13_lacks_30
  · refine va_iald hx hb hE.1 hP 1 0 rfl rfl (by unfold vp_in; decide) dX13_lacks_5 ?_
    refine lv_topi (fun z_2 ez_2 => ?_)
    obtain rfl : z_2 = 0 := ez_2.trans e1_1
    refine lv_if_ne (tgt := 14) hx hb dX13_lacks_6 (by decide) (fun c9 => absurd c9 (by decide)) (fun _ => ?_)
    refine lv_bipush (v := (-11)) hx hb dX13_lacks_9 (by decide) ?_
    refine lv_goto (tgt := 30) hx hb dX13_lacks_11 (by decide) ?_
    exact W.iret hx hb hr (fun t ht hW => ⟨_, rfl, rfl, ht⟩) (fun _ h => by cases h) dX13_lacks_30
  · refine va_iald hx hb hE.1 hP 1 0 rfl rfl (by unfold vp_in; decide) dX13_lacks_5 ?_
    refine lv_topi (fun z_3 ez_3 => ?_)
    obtain rfl : z_3 = 0 := ez_3.trans e1_2
    refine lv_if_ne (tgt := 14) hx hb dX13_lacks_6 (by decide) (fun c9 => absurd c9 (by decide)) (fun _ => ?_)
    refine lv_bipush (v := (-11)) hx hb dX13_lacks_9 (by decide) ?_
    refine lv_goto (tgt := 30) hx hb dX13_lacks_11 (by decide) ?_
    exact W.iret hx hb hr (fun t ht hW => ⟨_, rfl, rfl, ht⟩) (fun _ h => by cases h) dX13_lacks_30
  · refine va_iald hx hb hE.1 hP 1 0 rfl rfl (by unfold vp_in; decide) dX13_lacks_5 ?_
    refine lv_topi (fun z_4 ez_4 => ?_)
    obtain rfl : z_4 = 0 := ez_4.trans e1_3
    refine lv_if_ne (tgt := 14) hx hb dX13_lacks_6 (by decide) (fun c9 => absurd c9 (by decide)) (fun _ => ?_)
    refine lv_bipush (v := (-11)) hx hb dX13_lacks_9 (by decide) ?_
    refine lv_goto (tgt := 30) hx hb dX13_lacks_11 (by decide) ?_
    exact W.iret hx hb hr (fun t ht hW => ⟨_, rfl, rfl, ht⟩) (fun _ h => by cases h) dX13_lacks_30
theorem dX13_asClause_0 : decode cX13_asClause 0 = .ok (.iload_n 1, 1) := by decide +kernel
theorem dX13_asClause_1 : decode cX13_asClause 1 = .ok (.invokestatic 417, 3) := by decide +kernel
theorem dX13_asClause_10 : decode cX13_asClause 10 = .ok (.ldc2_w 408, 3) := by decide +kernel
theorem dX13_asClause_13 : decode cX13_asClause 13 = .ok (.invokestatic 175, 3) := by decide +kernel
theorem dX13_asClause_16 : decode cX13_asClause 16 = .ok (.ifCond .ne 6, 3) := by decide +kernel
theorem dX13_asClause_19 : decode cX13_asClause 19 = .ok (.bipush (-2), 2) := by decide +kernel
theorem dX13_asClause_21 : decode cX13_asClause 21 = .ok (.ireturn, 1) := by decide +kernel
theorem dX13_asClause_22 : decode cX13_asClause 22 = .ok (.aload_n 0, 1) := by decide +kernel
theorem dX13_asClause_23 : decode cX13_asClause 23 = .ok (.iload_n 1, 1) := by decide +kernel
theorem dX13_asClause_24 : decode cX13_asClause 24 = .ok (.iconst 1, 1) := by decide +kernel
theorem dX13_asClause_25 : decode cX13_asClause 25 = .ok (.invokevirtual 420, 3) := by decide +kernel
theorem dX13_asClause_28 : decode cX13_asClause 28 = .ok (.istore_n 3, 1) := by decide +kernel
theorem dX13_asClause_29 : decode cX13_asClause 29 = .ok (.iload_n 3, 1) := by decide +kernel
theorem dX13_asClause_30 : decode cX13_asClause 30 = .ok (.ifCond .eq 5, 3) := by decide +kernel
theorem dX13_asClause_33 : decode cX13_asClause 33 = .ok (.iload_n 3, 1) := by decide +kernel
theorem dX13_asClause_34 : decode cX13_asClause 34 = .ok (.ireturn, 1) := by decide +kernel
theorem dX13_asClause_4 : decode cX13_asClause 4 = .ok (.ifCond .eq 15, 3) := by decide +kernel
theorem dX13_asClause_7 : decode cX13_asClause 7 = .ok (.iload_n 2, 1) := by decide +kernel
theorem dX13_asClause_8 : decode cX13_asClause 8 = .ok (.i2l, 1) := by decide +kernel
theorem dX13_asClause_9 : decode cX13_asClause 9 = .ok (.lconst 0, 1) := by decide +kernel
set_option maxRecDepth 20000 in
theorem ggX13_asClause_X13_in : GoodIn wsX13_asClause wsX13_in := goodIn_r _ [10] (by decide +kernel) (by decide +kernel)
set_option maxRecDepth 20000 in
theorem ggX13_asClause_X13_isHand : GoodIn wsX13_asClause wsX13_isHand := goodIn_r _ [7, 1, 8, 9, 6, 10] (by decide +kernel) (by decide +kernel)
set_option maxRecDepth 20000 in
theorem ggX13_asClause_X13_lacks : GoodIn wsX13_asClause wsX13_lacks := goodIn_r _ [14, 15, 24, 25, 26, 27, 28, 29, 30, 31, 32, 33, 34, 35, 36, 37, 38, 39, 40, 41, 42, 43, 44, 45, 46, 47, 48, 49, 50, 51, 52, 53, 54, 55, 56, 57, 58, 59, 60, 61, 62, 63, 64, 65, 66, 67, 68] (by decide +kernel) (by decide +kernel)
set_option maxRecDepth 20000 in
theorem gX13_asClause_X13_in : GoodIn wsX13_asClause (va_wsS RX13 175 yX13_in wsX13_in) := goodIn_app (goodIn_of _ (by decide +kernel)) ggX13_asClause_X13_in
set_option maxRecDepth 20000 in
theorem gX13_asClause_X13_isHand : GoodIn wsX13_asClause (va_wsS RX13 417 yX13_isHand wsX13_isHand) := goodIn_app (goodIn_of _ (by decide +kernel)) ggX13_asClause_X13_isHand
set_option maxRecDepth 20000 in
theorem gX13_asClause_X13_lacks : GoodIn wsX13_asClause (wsV RX13 420 RX13 yX13_lacks wsX13_lacks) := goodIn_app (goodIn_of _ (by decide +kernel)) ggX13_asClause_X13_lacks
set_option maxHeartbeats 4000000 in
set_option maxRecDepth 100000 in
theorem f_X13_asClause (l : Launch) (D : va_G) (T : Nat → ClassId) (h0 : Nat) (fs0 : List Value) (h1 : Nat) (f1 : Nat → Int32) (x1 : Int32) (x2 : Int32) (e0_38 : fs0[38]? = some (.ref h1)) (e1_0 : f1 0 = 0) (e1_1 : f1 1 = 0) (e1_2 : f1 2 = 0) (e1_3 : f1 3 = 0) : Met l yX13_asClause wsX13_asClause ({ frames := 2, cells := 0, slots := 0, locals := 45 }) (pR [.ref h0, .int x1, .int x2] D T [(h0, .inr (10, fs0)), (h1, .inl (T 0, 4, .inl f1))]) (vp_Si (fun r => r = sp_asClause x1 x2)) 0 0 (fun _ => False) := by
  refine Met.ofW (cc := cX13_asClause) (maxL := 5) (ret := (some .int)) (by decide) rfl ?_
  intro p e s m args below meth c s₁ B hml hv
  obtain ⟨rfl, hP, hE⟩ := hv
  have hx := B.exec
  have hb := B.bytes
  have hr := B.returns
  have hts := atoms_spec (ws := wsX13_asClause) B.pre
  have hown : s.vm.findClass RX13 = some m.cls := findClass_of_methodNamed B.named
  have hlocks := B.notSynchronized
  have hP : va_P D vwCl [(h0, .inr (10, fs0)), (h1, .inl (T 0, 4, .inl f1))] s.heap := hP
  have hl := lv_entry ([.ref h0, .int x1, .int x2]) (n := 5) (Nat.le_of_ble_eq_true rfl)
  rw [lg_entry_eq]
  generalize (lg_sl ([.ref h0, .int x1, .int x2]) ++ List.replicate (5 - (lg_sl ([.ref h0, .int x1, .int x2])).length) Slot.unset).toArray = ls at hl ⊢
  have hl : lv_has ls 5 [(0, .ref h0), (1, .int x1), (2, .int x2)] := hl
  refine lv_iload_n hx hb dX13_asClause_0 rfl (lv_at hl 1 rfl) ?_
  refine vp_callSi (W.runS (As := [.int x1]) (rest := []) ⟨hx, hb, hml, hown, hts⟩ (c_X13_isHand l D T x1) (va_cwS 1 hts gX13_asClause_X13_isHand rfl rfl rfl (by decide +kernel) ⟨Nat.le_of_ble_eq_true rfl, Nat.le_of_ble_eq_true rfl⟩) (pR_S hP hE [] rfl) rfl rfl hl.1 rfl (lv_room (Nat.le_of_ble_eq_true rfl)) dX13_asClause_1 ⟨Nat.le_of_ble_eq_true rfl, Nat.le_of_ble_eq_true rfl⟩) (fun r_1 hr_1 => ?_)
  rcases bool_post hr_1 with ⟨c_2, rfl⟩ | ⟨c_2, rfl⟩
  · refine lv_if_eq (tgt := 19) hx hb dX13_asClause_4 (by decide) (fun c9 => absurd c9 (by decide)) (fun _ => ?_)
    refine lv_iload_n hx hb dX13_asClause_7 rfl (lv_at hl 2 rfl) ?_
    refine lv_i2l hx hb dX13_asClause_8 rfl ?_
    refine lv_lconst (v := 0) hx hb dX13_asClause_9 (by decide) ?_
    refine lv_ldc2 (v := 3) hx hb hown (hts (.constantLong RX13 408 (3)) (List.mem_of_getElem? (i := 1) rfl)) dX13_asClause_10 ?_
    refine vp_callSi (W.runS (As := [.long (x2.toInt64), .long 0, .long 3]) (rest := []) ⟨hx, hb, hml, hown, hts⟩ (c_X13_in l D T (x2.toInt64) 0 3 x2.toInt 0 3 ((Int32.toInt_toInt64 _).trans rfl) (by decide) (by decide)) (va_cwS 3 hts gX13_asClause_X13_in rfl rfl rfl (by decide +kernel) ⟨Nat.le_of_ble_eq_true rfl, Nat.le_of_ble_eq_true rfl⟩) (pR_S hP hE [] rfl) rfl rfl hl.1 rfl (lv_room (Nat.le_of_ble_eq_true rfl)) dX13_asClause_13 ⟨Nat.le_of_ble_eq_true rfl, Nat.le_of_ble_eq_true rfl⟩) (fun r_3 hr_3 => ?_)
    rcases bool_post hr_3 with ⟨c_4, rfl⟩ | ⟨c_4, rfl⟩
    · refine lv_if_ne (tgt := 22) hx hb dX13_asClause_16 (by decide) (fun _ => ?_) (fun c9 => absurd c9 (by decide))
      refine lv_aload_n hx hb dX13_asClause_22 rfl (lv_at hl 0 rfl) ?_
      refine lv_iload_n hx hb dX13_asClause_23 rfl (lv_at hl 1 rfl) ?_
      refine lv_iconst (v := 1) hx hb dX13_asClause_24 (by decide) ?_
      refine vp_callSi (W.runV (As := [.int x1, .int 1]) (rest := []) ⟨hx, hb, hml, hown, hts⟩ (f_X13_lacks l D T h0 fs0 h1 f1 x1 1 e0_38 e1_0 e1_1 e1_2 e1_3 (by omega)) (cwV 2 hts gX13_asClause_X13_lacks rfl rfl rfl (by decide +kernel) ⟨Nat.le_of_ble_eq_true rfl, Nat.le_of_ble_eq_true rfl⟩) (pR_V (ci := 10) (q0 := 0) hP hE rfl rfl [0, 1] rfl) rfl rfl hl.1 rfl (lv_room (Nat.le_of_ble_eq_true rfl)) dX13_asClause_25 ⟨Nat.le_of_ble_eq_true rfl, Nat.le_of_ble_eq_true rfl⟩) (fun r_5 hr_5 => ?_)
      obtain rfl : r_5 = (-11) := hr_5
      refine lv_istore_n (lv' := [(3, .int (-11)), (0, .ref h0), (1, .int x1), (2, .int x2)]) hx hb dX13_asClause_28 rfl hl (by decide) rfl (fun ls hl => ?_)
      refine lv_iload_n hx hb dX13_asClause_29 rfl (lv_at hl 0 rfl) ?_
      refine lv_if_eq (tgt := 35) hx hb dX13_asClause_30 (by decide) (fun c9 => absurd c9 (by decide)) (fun _ => ?_)
      refine lv_iload_n hx hb dX13_asClause_33 rfl (lv_at hl 0 rfl) ?_
      exact W.iret hx hb hr (fun t ht hW => ⟨_, rfl, (by first | decide | (unfold sp_asClause; (repeat' split) <;> first | rfl | (exfalso; omega))), ht⟩) (fun _ h => by cases h) dX13_asClause_34
    · refine lv_if_ne (tgt := 22) hx hb dX13_asClause_16 (by decide) (fun c9 => absurd c9 (by decide)) (fun _ => ?_)
      refine lv_bipush (v := (-2)) hx hb dX13_asClause_19 (by decide) ?_
      exact W.iret hx hb hr (fun t ht hW => ⟨_, rfl, (by first | decide | (unfold sp_asClause; (repeat' split) <;> first | rfl | (exfalso; omega))), ht⟩) (fun _ h => by cases h) dX13_asClause_21
  · refine lv_if_eq (tgt := 19) hx hb dX13_asClause_4 (by decide) (fun _ => ?_) (fun c9 => absurd c9 (by decide))
    refine lv_bipush (v := (-2)) hx hb dX13_asClause_19 (by decide) ?_
    exact W.iret hx hb hr (fun t ht hW => ⟨_, rfl, (by first | decide | (unfold sp_asClause; (repeat' split) <;> first | rfl | (exfalso; omega))), ht⟩) (fun _ h => by cases h) dX13_asClause_21
theorem dX13_asFraction_0 : decode cX13_asFraction 0 = .ok (.iload_n 1, 1) := by decide +kernel
theorem dX13_asFraction_1 : decode cX13_asFraction 1 = .ok (.invokestatic 417, 3) := by decide +kernel
theorem dX13_asFraction_10 : decode cX13_asFraction 10 = .ok (.lconst 1, 1) := by decide +kernel
theorem dX13_asFraction_11 : decode cX13_asFraction 11 = .ok (.invokestatic 175, 3) := by decide +kernel
theorem dX13_asFraction_14 : decode cX13_asFraction 14 = .ok (.ifCond .ne 9, 3) := by decide +kernel
theorem dX13_asFraction_17 : decode cX13_asFraction 17 = .ok (.bipush (-2), 2) := by decide +kernel
theorem dX13_asFraction_19 : decode cX13_asFraction 19 = .ok (.invokestatic 270, 3) := by decide +kernel
theorem dX13_asFraction_22 : decode cX13_asFraction 22 = .ok (.lreturn, 1) := by decide +kernel
theorem dX13_asFraction_23 : decode cX13_asFraction 23 = .ok (.aload_n 0, 1) := by decide +kernel
theorem dX13_asFraction_24 : decode cX13_asFraction 24 = .ok (.iload_n 1, 1) := by decide +kernel
theorem dX13_asFraction_25 : decode cX13_asFraction 25 = .ok (.iconst 2, 1) := by decide +kernel
theorem dX13_asFraction_26 : decode cX13_asFraction 26 = .ok (.invokevirtual 420, 3) := by decide +kernel
theorem dX13_asFraction_29 : decode cX13_asFraction 29 = .ok (.istore_n 3, 1) := by decide +kernel
theorem dX13_asFraction_30 : decode cX13_asFraction 30 = .ok (.iload_n 3, 1) := by decide +kernel
theorem dX13_asFraction_31 : decode cX13_asFraction 31 = .ok (.ifCond .eq 10, 3) := by decide +kernel
theorem dX13_asFraction_34 : decode cX13_asFraction 34 = .ok (.iload_n 3, 1) := by decide +kernel
theorem dX13_asFraction_35 : decode cX13_asFraction 35 = .ok (.invokestatic 270, 3) := by decide +kernel
theorem dX13_asFraction_38 : decode cX13_asFraction 38 = .ok (.goto 22, 3) := by decide +kernel
theorem dX13_asFraction_4 : decode cX13_asFraction 4 = .ok (.ifCond .eq 13, 3) := by decide +kernel
theorem dX13_asFraction_60 : decode cX13_asFraction 60 = .ok (.lreturn, 1) := by decide +kernel
theorem dX13_asFraction_7 : decode cX13_asFraction 7 = .ok (.iload_n 2, 1) := by decide +kernel
theorem dX13_asFraction_8 : decode cX13_asFraction 8 = .ok (.i2l, 1) := by decide +kernel
theorem dX13_asFraction_9 : decode cX13_asFraction 9 = .ok (.lconst 0, 1) := by decide +kernel
set_option maxRecDepth 20000 in
theorem ggX13_asFraction_X13_in : GoodIn wsX13_asFraction wsX13_in := goodIn_r _ [10] (by decide +kernel) (by decide +kernel)
set_option maxRecDepth 20000 in
theorem ggX13_asFraction_X13_isHand : GoodIn wsX13_asFraction wsX13_isHand := goodIn_r _ [6, 7, 8, 9, 5, 10] (by decide +kernel) (by decide +kernel)
set_option maxRecDepth 20000 in
theorem ggX13_asFraction_X13_lacks : GoodIn wsX13_asFraction wsX13_lacks := goodIn_r _ [18, 19, 20, 21, 22, 23, 24, 25, 26, 27, 28, 29, 30, 31, 32, 33, 34, 35, 36, 37, 38, 39, 40, 41, 42, 43, 44, 45, 46, 47, 48, 49, 50, 51, 52, 53, 54, 55, 56, 57, 58, 59, 60, 61, 62, 63, 64] (by decide +kernel) (by decide +kernel)
set_option maxRecDepth 20000 in
theorem ggX13_asFraction_X13_refused : GoodIn wsX13_asFraction wsX13_refused := goodIn_r _ [13, 14] (by decide +kernel) (by decide +kernel)
set_option maxRecDepth 20000 in
theorem gX13_asFraction_X13_in : GoodIn wsX13_asFraction (va_wsS RX13 175 yX13_in wsX13_in) := goodIn_app (goodIn_of _ (by decide +kernel)) ggX13_asFraction_X13_in
set_option maxRecDepth 20000 in
theorem gX13_asFraction_X13_isHand : GoodIn wsX13_asFraction (va_wsS RX13 417 yX13_isHand wsX13_isHand) := goodIn_app (goodIn_of _ (by decide +kernel)) ggX13_asFraction_X13_isHand
set_option maxRecDepth 20000 in
theorem gX13_asFraction_X13_lacks : GoodIn wsX13_asFraction (wsV RX13 420 RX13 yX13_lacks wsX13_lacks) := goodIn_app (goodIn_of _ (by decide +kernel)) ggX13_asFraction_X13_lacks
set_option maxRecDepth 20000 in
theorem gX13_asFraction_X13_refused : GoodIn wsX13_asFraction (va_wsS RX13 270 yX13_refused wsX13_refused) := goodIn_app (goodIn_of _ (by decide +kernel)) ggX13_asFraction_X13_refused
set_option maxHeartbeats 4000000 in
set_option maxRecDepth 100000 in
theorem f_X13_asFraction (l : Launch) (D : va_G) (T : Nat → ClassId) (h0 : Nat) (fs0 : List Value) (h1 : Nat) (f1 : Nat → Int32) (x1 : Int32) (x2 : Int32) (e0_38 : fs0[38]? = some (.ref h1)) (e1_0 : f1 0 = 0) (e1_1 : f1 1 = 0) (e1_2 : f1 2 = 0) (e1_3 : f1 3 = 0) : Met l yX13_asFraction wsX13_asFraction ({ frames := 2, cells := 0, slots := 0, locals := 45 }) (pR [.ref h0, .int x1, .int x2] D T [(h0, .inr (10, fs0)), (h1, .inl (T 0, 4, .inl f1))]) (vp_Sl (fun r => r = sp_asFraction x1 x2)) 0 0 (fun _ => False) := by
  refine Met.ofW (cc := cX13_asFraction) (maxL := 4) (ret := (some .long)) (by decide) rfl ?_
  intro p e s m args below meth c s₁ B hml hv
  obtain ⟨rfl, hP, hE⟩ := hv
  have hx := B.exec
  have hb := B.bytes
  have hr := B.returns
  have hts := atoms_spec (ws := wsX13_asFraction) B.pre
  have hown : s.vm.findClass RX13 = some m.cls := findClass_of_methodNamed B.named
  have hlocks := B.notSynchronized
  have hP : va_P D vwCl [(h0, .inr (10, fs0)), (h1, .inl (T 0, 4, .inl f1))] s.heap := hP
  have hl := lv_entry ([.ref h0, .int x1, .int x2]) (n := 4) (Nat.le_of_ble_eq_true rfl)
  rw [lg_entry_eq]
  generalize (lg_sl ([.ref h0, .int x1, .int x2]) ++ List.replicate (4 - (lg_sl ([.ref h0, .int x1, .int x2])).length) Slot.unset).toArray = ls at hl ⊢
  have hl : lv_has ls 4 [(0, .ref h0), (1, .int x1), (2, .int x2)] := hl
  refine lv_iload_n hx hb dX13_asFraction_0 rfl (lv_at hl 1 rfl) ?_
  refine vp_callSi (W.runS (As := [.int x1]) (rest := []) ⟨hx, hb, hml, hown, hts⟩ (c_X13_isHand l D T x1) (va_cwS 1 hts gX13_asFraction_X13_isHand rfl rfl rfl (by decide +kernel) ⟨Nat.le_of_ble_eq_true rfl, Nat.le_of_ble_eq_true rfl⟩) (pR_S hP hE [] rfl) rfl rfl hl.1 rfl (lv_room (Nat.le_of_ble_eq_true rfl)) dX13_asFraction_1 ⟨Nat.le_of_ble_eq_true rfl, Nat.le_of_ble_eq_true rfl⟩) (fun r_1 hr_1 => ?_)
  rcases bool_post hr_1 with ⟨c_2, rfl⟩ | ⟨c_2, rfl⟩
  · refine lv_if_eq (tgt := 17) hx hb dX13_asFraction_4 (by decide) (fun c9 => absurd c9 (by decide)) (fun _ => ?_)
    refine lv_iload_n hx hb dX13_asFraction_7 rfl (lv_at hl 2 rfl) ?_
    refine lv_i2l hx hb dX13_asFraction_8 rfl ?_
    refine lv_lconst (v := 0) hx hb dX13_asFraction_9 (by decide) ?_
    refine lv_lconst (v := 1) hx hb dX13_asFraction_10 (by decide) ?_
    refine vp_callSi (W.runS (As := [.long (x2.toInt64), .long 0, .long 1]) (rest := []) ⟨hx, hb, hml, hown, hts⟩ (c_X13_in l D T (x2.toInt64) 0 1 x2.toInt 0 1 ((Int32.toInt_toInt64 _).trans rfl) (by decide) (by decide)) (va_cwS 3 hts gX13_asFraction_X13_in rfl rfl rfl (by decide +kernel) ⟨Nat.le_of_ble_eq_true rfl, Nat.le_of_ble_eq_true rfl⟩) (pR_S hP hE [] rfl) rfl rfl hl.1 rfl (lv_room (Nat.le_of_ble_eq_true rfl)) dX13_asFraction_11 ⟨Nat.le_of_ble_eq_true rfl, Nat.le_of_ble_eq_true rfl⟩) (fun r_3 hr_3 => ?_)
    rcases bool_post hr_3 with ⟨c_4, rfl⟩ | ⟨c_4, rfl⟩
    · refine lv_if_ne (tgt := 23) hx hb dX13_asFraction_14 (by decide) (fun _ => ?_) (fun c9 => absurd c9 (by decide))
      refine lv_aload_n hx hb dX13_asFraction_23 rfl (lv_at hl 0 rfl) ?_
      refine lv_iload_n hx hb dX13_asFraction_24 rfl (lv_at hl 1 rfl) ?_
      refine lv_iconst (v := 2) hx hb dX13_asFraction_25 (by decide) ?_
      refine vp_callSi (W.runV (As := [.int x1, .int 2]) (rest := []) ⟨hx, hb, hml, hown, hts⟩ (f_X13_lacks l D T h0 fs0 h1 f1 x1 2 e0_38 e1_0 e1_1 e1_2 e1_3 (by omega)) (cwV 2 hts gX13_asFraction_X13_lacks rfl rfl rfl (by decide +kernel) ⟨Nat.le_of_ble_eq_true rfl, Nat.le_of_ble_eq_true rfl⟩) (pR_V (ci := 10) (q0 := 0) hP hE rfl rfl [0, 1] rfl) rfl rfl hl.1 rfl (lv_room (Nat.le_of_ble_eq_true rfl)) dX13_asFraction_26 ⟨Nat.le_of_ble_eq_true rfl, Nat.le_of_ble_eq_true rfl⟩) (fun r_5 hr_5 => ?_)
      obtain rfl : r_5 = (-11) := hr_5
      refine lv_istore_n (lv' := [(3, .int (-11)), (0, .ref h0), (1, .int x1), (2, .int x2)]) hx hb dX13_asFraction_29 rfl hl (by decide) rfl (fun ls hl => ?_)
      refine lv_iload_n hx hb dX13_asFraction_30 rfl (lv_at hl 0 rfl) ?_
      refine lv_if_eq (tgt := 41) hx hb dX13_asFraction_31 (by decide) (fun c9 => absurd c9 (by decide)) (fun _ => ?_)
      refine lv_iload_n hx hb dX13_asFraction_34 rfl (lv_at hl 0 rfl) ?_
      refine vp_callSl (W.runS (As := [.int (-11)]) (rest := []) ⟨hx, hb, hml, hown, hts⟩ (c_X13_refused l D T (-11)) (va_cwS 1 hts gX13_asFraction_X13_refused rfl rfl rfl (by decide +kernel) ⟨Nat.le_of_ble_eq_true rfl, Nat.le_of_ble_eq_true rfl⟩) (pR_S hP hE [] rfl) rfl rfl hl.1 rfl (lv_room (Nat.le_of_ble_eq_true rfl)) dX13_asFraction_35 ⟨Nat.le_of_ble_eq_true rfl, Nat.le_of_ble_eq_true rfl⟩) (fun r_6 hr_6 => ?_)
      obtain rfl : r_6 = (-4611686018427387915) := hr_6.trans (by decide)
      refine lv_goto (tgt := 60) hx hb dX13_asFraction_38 (by decide) ?_
      exact W.lret hx hb hr (fun t ht hW => ⟨_, rfl, (by first | decide | (unfold sp_asFraction; (repeat' split) <;> first | rfl | (exfalso; omega))), ht⟩) (fun _ h => by cases h) dX13_asFraction_60
    · refine lv_if_ne (tgt := 23) hx hb dX13_asFraction_14 (by decide) (fun c9 => absurd c9 (by decide)) (fun _ => ?_)
      refine lv_bipush (v := (-2)) hx hb dX13_asFraction_17 (by decide) ?_
      refine vp_callSl (W.runS (As := [.int (-2)]) (rest := []) ⟨hx, hb, hml, hown, hts⟩ (c_X13_refused l D T (-2)) (va_cwS 1 hts gX13_asFraction_X13_refused rfl rfl rfl (by decide +kernel) ⟨Nat.le_of_ble_eq_true rfl, Nat.le_of_ble_eq_true rfl⟩) (pR_S hP hE [] rfl) rfl rfl hl.1 rfl (lv_room (Nat.le_of_ble_eq_true rfl)) dX13_asFraction_19 ⟨Nat.le_of_ble_eq_true rfl, Nat.le_of_ble_eq_true rfl⟩) (fun r_7 hr_7 => ?_)
      obtain rfl : r_7 = (-4611686018427387906) := hr_7.trans (by decide)
      exact W.lret hx hb hr (fun t ht hW => ⟨_, rfl, (by first | decide | (unfold sp_asFraction; (repeat' split) <;> first | rfl | (exfalso; omega))), ht⟩) (fun _ h => by cases h) dX13_asFraction_22
  · refine lv_if_eq (tgt := 17) hx hb dX13_asFraction_4 (by decide) (fun _ => ?_) (fun c9 => absurd c9 (by decide))
    refine lv_bipush (v := (-2)) hx hb dX13_asFraction_17 (by decide) ?_
    refine vp_callSl (W.runS (As := [.int (-2)]) (rest := []) ⟨hx, hb, hml, hown, hts⟩ (c_X13_refused l D T (-2)) (va_cwS 1 hts gX13_asFraction_X13_refused rfl rfl rfl (by decide +kernel) ⟨Nat.le_of_ble_eq_true rfl, Nat.le_of_ble_eq_true rfl⟩) (pR_S hP hE [] rfl) rfl rfl hl.1 rfl (lv_room (Nat.le_of_ble_eq_true rfl)) dX13_asFraction_19 ⟨Nat.le_of_ble_eq_true rfl, Nat.le_of_ble_eq_true rfl⟩) (fun r_8 hr_8 => ?_)
    obtain rfl : r_8 = (-4611686018427387906) := hr_8.trans (by decide)
    exact W.lret hx hb hr (fun t ht hW => ⟨_, rfl, (by first | decide | (unfold sp_asFraction; (repeat' split) <;> first | rfl | (exfalso; omega))), ht⟩) (fun _ h => by cases h) dX13_asFraction_22
theorem dX13_count_0 : decode cX13_count 0 = .ok (.iconst 0, 1) := by decide +kernel
theorem dX13_count_1 : decode cX13_count 1 = .ok (.istore_n 2, 1) := by decide +kernel
theorem dX13_count_10 : decode cX13_count 10 = .ok (.getfield 205, 3) := by decide +kernel
theorem dX13_count_100 : decode cX13_count 100 = .ok (.goto (-58), 3) := by decide +kernel
theorem dX13_count_103 : decode cX13_count 103 = .ok (.iload_n 1, 1) := by decide +kernel
theorem dX13_count_104 : decode cX13_count 104 = .ok (.ifCond .ne 10, 3) := by decide +kernel
theorem dX13_count_107 : decode cX13_count 107 = .ok (.aload_n 0, 1) := by decide +kernel
theorem dX13_count_108 : decode cX13_count 108 = .ok (.getfield 205, 3) := by decide +kernel
theorem dX13_count_111 : decode cX13_count 111 = .ok (.goto 35, 3) := by decide +kernel
theorem dX13_count_114 : decode cX13_count 114 = .ok (.iload_n 1, 1) := by decide +kernel
theorem dX13_count_115 : decode cX13_count 115 = .ok (.iconst 1, 1) := by decide +kernel
theorem dX13_count_116 : decode cX13_count 116 = .ok (.if_icmp .ne 10, 3) := by decide +kernel
theorem dX13_count_119 : decode cX13_count 119 = .ok (.aload_n 0, 1) := by decide +kernel
theorem dX13_count_120 : decode cX13_count 120 = .ok (.getfield 181, 3) := by decide +kernel
theorem dX13_count_123 : decode cX13_count 123 = .ok (.goto 23, 3) := by decide +kernel
theorem dX13_count_126 : decode cX13_count 126 = .ok (.iload_n 1, 1) := by decide +kernel
theorem dX13_count_127 : decode cX13_count 127 = .ok (.iconst 2, 1) := by decide +kernel
theorem dX13_count_128 : decode cX13_count 128 = .ok (.if_icmp .ne 7, 3) := by decide +kernel
theorem dX13_count_13 : decode cX13_count 13 = .ok (.if_icmp .ge 26, 3) := by decide +kernel
theorem dX13_count_131 : decode cX13_count 131 = .ok (.iload_n 2, 1) := by decide +kernel
theorem dX13_count_132 : decode cX13_count 132 = .ok (.goto 14, 3) := by decide +kernel
theorem dX13_count_135 : decode cX13_count 135 = .ok (.iload_n 1, 1) := by decide +kernel
theorem dX13_count_136 : decode cX13_count 136 = .ok (.iconst 3, 1) := by decide +kernel
theorem dX13_count_137 : decode cX13_count 137 = .ok (.if_icmp .ne 7, 3) := by decide +kernel
theorem dX13_count_140 : decode cX13_count 140 = .ok (.iload_n 3, 1) := by decide +kernel
theorem dX13_count_141 : decode cX13_count 141 = .ok (.goto 5, 3) := by decide +kernel
theorem dX13_count_144 : decode cX13_count 144 = .ok (.bipush (-2), 2) := by decide +kernel
theorem dX13_count_146 : decode cX13_count 146 = .ok (.ireturn, 1) := by decide +kernel
theorem dX13_count_2 : decode cX13_count 2 = .ok (.iconst 0, 1) := by decide +kernel
theorem dX13_count_3 : decode cX13_count 3 = .ok (.istore_n 3, 1) := by decide +kernel
theorem dX13_count_39 : decode cX13_count 39 = .ok (.iconst 0, 1) := by decide +kernel
theorem dX13_count_4 : decode cX13_count 4 = .ok (.iconst 0, 1) := by decide +kernel
theorem dX13_count_40 : decode cX13_count 40 = .ok (.istore 4, 2) := by decide +kernel
theorem dX13_count_42 : decode cX13_count 42 = .ok (.iload 4, 2) := by decide +kernel
theorem dX13_count_44 : decode cX13_count 44 = .ok (.iconst 3, 1) := by decide +kernel
theorem dX13_count_45 : decode cX13_count 45 = .ok (.if_icmp .ge 58, 3) := by decide +kernel
theorem dX13_count_48 : decode cX13_count 48 = .ok (.iconst 0, 1) := by decide +kernel
theorem dX13_count_49 : decode cX13_count 49 = .ok (.istore 5, 2) := by decide +kernel
theorem dX13_count_5 : decode cX13_count 5 = .ok (.istore 4, 2) := by decide +kernel
theorem dX13_count_51 : decode cX13_count 51 = .ok (.iload 5, 2) := by decide +kernel
theorem dX13_count_53 : decode cX13_count 53 = .ok (.aload_n 0, 1) := by decide +kernel
theorem dX13_count_54 : decode cX13_count 54 = .ok (.getfield 44, 3) := by decide +kernel
theorem dX13_count_57 : decode cX13_count 57 = .ok (.iload 4, 2) := by decide +kernel
theorem dX13_count_59 : decode cX13_count 59 = .ok (.iaload, 1) := by decide +kernel
theorem dX13_count_60 : decode cX13_count 60 = .ok (.if_icmp .ge 37, 3) := by decide +kernel
theorem dX13_count_7 : decode cX13_count 7 = .ok (.iload 4, 2) := by decide +kernel
theorem dX13_count_9 : decode cX13_count 9 = .ok (.aload_n 0, 1) := by decide +kernel
theorem dX13_count_97 : decode cX13_count 97 = .ok (.iinc 4 1, 3) := by decide +kernel
set_option maxRecDepth 20000 in
theorem in_X13_count_X13 : ∀ w ∈ wsX130, w ∈ wsX13_count := by decide +kernel
set_option maxHeartbeats 4000000 in
set_option maxRecDepth 100000 in
theorem f_X13_count (l : Launch) (D : va_G) (T : Nat → ClassId) (h0 : Nat) (fs0 : List Value) (h1 : Nat) (f1 : Nat → Int32) (x1 : Int32) (e0_0 : fs0[0]? = some (.int 0)) (e0_7 : fs0[7]? = some (.int 0)) (e0_13 : fs0[13]? = some (.ref h1)) (e1_0 : f1 0 = 0) (e1_1 : f1 1 = 0) (e1_2 : f1 2 = 0) : Met l yX13_count wsX13_count ({ frames := 0, cells := 0, slots := 0, locals := 0 }) (pR [.ref h0, .int x1] D T [(h0, .inr (10, fs0)), (h1, .inl (T 0, 3, .inl f1))]) (vp_Si (fun r => r = sp_count x1)) 0 0 (fun _ => False) := by
  refine Met.ofW (cc := cX13_count) (maxL := 6) (ret := (some .int)) (by decide) rfl ?_
  intro p e s m args below meth c s₁ B hml hv
  obtain ⟨rfl, hP, hE⟩ := hv
  have hx := B.exec
  have hb := B.bytes
  have hr := B.returns
  have hts := atoms_spec (ws := wsX13_count) B.pre
  have hown : s.vm.findClass RX13 = some m.cls := findClass_of_methodNamed B.named
  have hlocks := B.notSynchronized
  have hP : va_P D vwCl [(h0, .inr (10, fs0)), (h1, .inl (T 0, 3, .inl f1))] s.heap := hP
  have hl := lv_entry ([.ref h0, .int x1]) (n := 6) (Nat.le_of_ble_eq_true rfl)
  rw [lg_entry_eq]
  generalize (lg_sl ([.ref h0, .int x1]) ++ List.replicate (6 - (lg_sl ([.ref h0, .int x1])).length) Slot.unset).toArray = ls at hl ⊢
  have hl : lv_has ls 6 [(0, .ref h0), (1, .int x1)] := hl
  refine lv_iconst (v := 0) hx hb dX13_count_0 (by decide) ?_
  refine lv_istore_n (lv' := [(2, .int 0), (0, .ref h0), (1, .int x1)]) hx hb dX13_count_1 rfl hl (by decide) rfl (fun ls hl => ?_)
  refine lv_iconst (v := 0) hx hb dX13_count_2 (by decide) ?_
  refine lv_istore_n (lv' := [(3, .int 0), (2, .int 0), (0, .ref h0), (1, .int x1)]) hx hb dX13_count_3 rfl hl (by decide) rfl (fun ls hl => ?_)
  refine lv_iconst (v := 0) hx hb dX13_count_4 (by decide) ?_
  refine lv_istore (lv' := [(4, .int 0), (3, .int 0), (2, .int 0), (0, .ref h0), (1, .int x1)]) hx hb dX13_count_5 hl (by decide) rfl (fun ls hl => ?_)
  refine lv_iload hx hb dX13_count_7 (lv_at hl 0 rfl) ?_
  refine lv_aload_n hx hb dX13_count_9 rfl (lv_at hl 3 rfl) ?_
  refine va_get (D := D) (ci := 10) (v := .int 0) (C := RX13) (T := TX13) (N := 45) hx hb hts in_X13_count_X13 hown hE.1 hP 0 rfl rfl 7 (by decide) (hts (.fieldLink RX13 205 "ClauseBookModel" "many" "I") (List.mem_of_getElem? (i := 1) rfl)) (fun _ h9 => h9) e0_7 dX13_count_10 ?_
  refine lv_icmp_ge (tgt := 39) hx hb dX13_count_13 (by decide) (fun _ => ?_) (fun c9 => absurd c9 (by decide))
  refine lv_iconst (v := 0) hx hb dX13_count_39 (by decide) ?_
  refine lv_istore (lv' := [(4, .int 0), (3, .int 0), (2, .int 0), (0, .ref h0), (1, .int x1)]) hx hb dX13_count_40 hl (by decide) rfl (fun ls hl => ?_)
  refine lv_iload hx hb dX13_count_42 (lv_at hl 0 rfl) ?_
  refine lv_iconst (v := 3) hx hb dX13_count_44 (by decide) ?_
  refine lv_icmp_ge (tgt := 103) hx hb dX13_count_45 (by decide) (fun c9 => absurd c9 (by decide)) (fun _ => ?_)
  refine lv_iconst (v := 0) hx hb dX13_count_48 (by decide) ?_
  refine lv_istore (lv' := [(5, .int 0), (4, .int 0), (3, .int 0), (2, .int 0), (0, .ref h0), (1, .int x1)]) hx hb dX13_count_49 hl (by decide) rfl (fun ls hl => ?_)
  refine lv_iload hx hb dX13_count_51 (lv_at hl 0 rfl) ?_
  refine lv_aload_n hx hb dX13_count_53 rfl (lv_at hl 4 rfl) ?_
  refine va_get (D := D) (ci := 10) (v := .ref h1) (C := RX13) (T := TX13) (N := 45) hx hb hts in_X13_count_X13 hown hE.1 hP 0 rfl rfl 13 (by decide) (hts (.fieldLink RX13 44 "ClauseBookModel" "bagged" "[I") (List.mem_of_getElem? (i := 2) rfl)) (fun _ h9 => h9) e0_13 dX13_count_54 ?_
  refine lv_iload hx hb dX13_count_57 (lv_at hl 1 rfl) ?_
  refine va_iald hx hb hE.1 hP 1 0 rfl rfl (by unfold vp_in; decide) dX13_count_59 ?_
  refine lv_topi (fun z_1 ez_1 => ?_)
  obtain rfl : z_1 = 0 := ez_1.trans e1_0
  refine lv_icmp_ge (tgt := 97) hx hb dX13_count_60 (by decide) (fun _ => ?_) (fun c9 => absurd c9 (by decide))
  refine lv_iinc (v := 1) (lv' := [(4, .int 1), (5, .int 0), (3, .int 0), (2, .int 0), (0, .ref h0), (1, .int x1)]) hx hb dX13_count_97 hl (k := 1) rfl (by decide) (by decide) rfl (fun ls hl => ?_)
  refine lv_goto (tgt := 42) hx hb dX13_count_100 (by decide) ?_
  refine lv_iload hx hb dX13_count_42 (lv_at hl 0 rfl) ?_
  refine lv_iconst (v := 3) hx hb dX13_count_44 (by decide) ?_
  refine lv_icmp_ge (tgt := 103) hx hb dX13_count_45 (by decide) (fun c9 => absurd c9 (by decide)) (fun _ => ?_)
  refine lv_iconst (v := 0) hx hb dX13_count_48 (by decide) ?_
  refine lv_istore (lv' := [(5, .int 0), (4, .int 1), (3, .int 0), (2, .int 0), (0, .ref h0), (1, .int x1)]) hx hb dX13_count_49 hl (by decide) rfl (fun ls hl => ?_)
  refine lv_iload hx hb dX13_count_51 (lv_at hl 0 rfl) ?_
  refine lv_aload_n hx hb dX13_count_53 rfl (lv_at hl 4 rfl) ?_
  refine va_get (D := D) (ci := 10) (v := .ref h1) (C := RX13) (T := TX13) (N := 45) hx hb hts in_X13_count_X13 hown hE.1 hP 0 rfl rfl 13 (by decide) (hts (.fieldLink RX13 44 "ClauseBookModel" "bagged" "[I") (List.mem_of_getElem? (i := 2) rfl)) (fun _ h9 => h9) e0_13 dX13_count_54 ?_
  refine lv_iload hx hb dX13_count_57 (lv_at hl 1 rfl) ?_
  refine va_iald hx hb hE.1 hP 1 0 rfl rfl (by unfold vp_in; decide) dX13_count_59 ?_
  refine lv_topi (fun z_2 ez_2 => ?_)
  obtain rfl : z_2 = 0 := ez_2.trans e1_1
  refine lv_icmp_ge (tgt := 97) hx hb dX13_count_60 (by decide) (fun _ => ?_) (fun c9 => absurd c9 (by decide))
  refine lv_iinc (v := 2) (lv' := [(4, .int 2), (5, .int 0), (3, .int 0), (2, .int 0), (0, .ref h0), (1, .int x1)]) hx hb dX13_count_97 hl (k := 1) rfl (by decide) (by decide) rfl (fun ls hl => ?_)
  refine lv_goto (tgt := 42) hx hb dX13_count_100 (by decide) ?_
  refine lv_iload hx hb dX13_count_42 (lv_at hl 0 rfl) ?_
  refine lv_iconst (v := 3) hx hb dX13_count_44 (by decide) ?_
  refine lv_icmp_ge (tgt := 103) hx hb dX13_count_45 (by decide) (fun c9 => absurd c9 (by decide)) (fun _ => ?_)
  refine lv_iconst (v := 0) hx hb dX13_count_48 (by decide) ?_
  refine lv_istore (lv' := [(5, .int 0), (4, .int 2), (3, .int 0), (2, .int 0), (0, .ref h0), (1, .int x1)]) hx hb dX13_count_49 hl (by decide) rfl (fun ls hl => ?_)
  refine lv_iload hx hb dX13_count_51 (lv_at hl 0 rfl) ?_
  refine lv_aload_n hx hb dX13_count_53 rfl (lv_at hl 4 rfl) ?_
  refine va_get (D := D) (ci := 10) (v := .ref h1) (C := RX13) (T := TX13) (N := 45) hx hb hts in_X13_count_X13 hown hE.1 hP 0 rfl rfl 13 (by decide) (hts (.fieldLink RX13 44 "ClauseBookModel" "bagged" "[I") (List.mem_of_getElem? (i := 2) rfl)) (fun _ h9 => h9) e0_13 dX13_count_54 ?_
  refine lv_iload hx hb dX13_count_57 (lv_at hl 1 rfl) ?_
  refine va_iald hx hb hE.1 hP 1 0 rfl rfl (by unfold vp_in; decide) dX13_count_59 ?_
  refine lv_topi (fun z_3 ez_3 => ?_)
  obtain rfl : z_3 = 0 := ez_3.trans e1_2
  refine lv_icmp_ge (tgt := 97) hx hb dX13_count_60 (by decide) (fun _ => ?_) (fun c9 => absurd c9 (by decide))
  refine lv_iinc (v := 3) (lv' := [(4, .int 3), (5, .int 0), (3, .int 0), (2, .int 0), (0, .ref h0), (1, .int x1)]) hx hb dX13_count_97 hl (k := 1) rfl (by decide) (by decide) rfl (fun ls hl => ?_)
  refine lv_goto (tgt := 42) hx hb dX13_count_100 (by decide) ?_
  refine lv_iload hx hb dX13_count_42 (lv_at hl 0 rfl) ?_
  refine lv_iconst (v := 3) hx hb dX13_count_44 (by decide) ?_
  refine lv_icmp_ge (tgt := 103) hx hb dX13_count_45 (by decide) (fun _ => ?_) (fun c9 => absurd c9 (by decide))
  refine lv_iload_n hx hb dX13_count_103 rfl (lv_at hl 5 rfl) ?_
  refine lv_if_ne (tgt := 114) hx hb dX13_count_104 (by decide) (fun c_4 => ?_) (fun c_4 => ?_)
  · rw [fa_eq] at c_4
    try rw [ti_0] at c_4
    refine lv_iload_n hx hb dX13_count_114 rfl (lv_at hl 5 rfl) ?_
    refine lv_iconst (v := 1) hx hb dX13_count_115 (by decide) ?_
    refine lv_icmp_ne (tgt := 126) hx hb dX13_count_116 (by decide) (fun c_5 => ?_) (fun c_5 => ?_)
    · rw [fa_eq] at c_5
      try rw [ti_1] at c_5
      refine lv_iload_n hx hb dX13_count_126 rfl (lv_at hl 5 rfl) ?_
      refine lv_iconst (v := 2) hx hb dX13_count_127 (by decide) ?_
      refine lv_icmp_ne (tgt := 135) hx hb dX13_count_128 (by decide) (fun c_6 => ?_) (fun c_6 => ?_)
      · rw [fa_eq] at c_6
        try rw [ti_2] at c_6
        refine lv_iload_n hx hb dX13_count_135 rfl (lv_at hl 5 rfl) ?_
        refine lv_iconst (v := 3) hx hb dX13_count_136 (by decide) ?_
        refine lv_icmp_ne (tgt := 144) hx hb dX13_count_137 (by decide) (fun c_7 => ?_) (fun c_7 => ?_)
        · rw [fa_eq] at c_7
          try rw [ti_3] at c_7
          refine lv_bipush (v := (-2)) hx hb dX13_count_144 (by decide) ?_
          exact W.iret hx hb hr (fun t ht hW => ⟨_, rfl, (by first | decide | (unfold sp_count; (repeat' split) <;> first | rfl | (exfalso; omega))), ht⟩) (fun _ h => by cases h) dX13_count_146
        · rw [fa_eq] at c_7
          try rw [ti_3] at c_7
          refine lv_iload_n hx hb dX13_count_140 rfl (lv_at hl 2 rfl) ?_
          refine lv_goto (tgt := 146) hx hb dX13_count_141 (by decide) ?_
          exact W.iret hx hb hr (fun t ht hW => ⟨_, rfl, (by first | decide | (unfold sp_count; (repeat' split) <;> first | rfl | (exfalso; omega))), ht⟩) (fun _ h => by cases h) dX13_count_146
      · rw [fa_eq] at c_6
        try rw [ti_2] at c_6
        refine lv_iload_n hx hb dX13_count_131 rfl (lv_at hl 3 rfl) ?_
        refine lv_goto (tgt := 146) hx hb dX13_count_132 (by decide) ?_
        exact W.iret hx hb hr (fun t ht hW => ⟨_, rfl, (by first | decide | (unfold sp_count; (repeat' split) <;> first | rfl | (exfalso; omega))), ht⟩) (fun _ h => by cases h) dX13_count_146
    · rw [fa_eq] at c_5
      try rw [ti_1] at c_5
      refine lv_aload_n hx hb dX13_count_119 rfl (lv_at hl 4 rfl) ?_
      refine va_get (D := D) (ci := 10) (v := .int 0) (C := RX13) (T := TX13) (N := 45) hx hb hts in_X13_count_X13 hown hE.1 hP 0 rfl rfl 0 (by decide) (hts (.fieldLink RX13 181 "ClauseBookModel" "start" "I") (List.mem_of_getElem? (i := 4) rfl)) (fun _ h9 => h9) e0_0 dX13_count_120 ?_
      refine lv_goto (tgt := 146) hx hb dX13_count_123 (by decide) ?_
      exact W.iret hx hb hr (fun t ht hW => ⟨_, rfl, (by first | decide | (unfold sp_count; (repeat' split) <;> first | rfl | (exfalso; omega))), ht⟩) (fun _ h => by cases h) dX13_count_146
  · rw [fa_eq] at c_4
    try rw [ti_0] at c_4
    refine lv_aload_n hx hb dX13_count_107 rfl (lv_at hl 4 rfl) ?_
    refine va_get (D := D) (ci := 10) (v := .int 0) (C := RX13) (T := TX13) (N := 45) hx hb hts in_X13_count_X13 hown hE.1 hP 0 rfl rfl 7 (by decide) (hts (.fieldLink RX13 205 "ClauseBookModel" "many" "I") (List.mem_of_getElem? (i := 1) rfl)) (fun _ h9 => h9) e0_7 dX13_count_108 ?_
    refine lv_goto (tgt := 146) hx hb dX13_count_111 (by decide) ?_
    exact W.iret hx hb hr (fun t ht hW => ⟨_, rfl, (by first | decide | (unfold sp_count; (repeat' split) <;> first | rfl | (exfalso; omega))), ht⟩) (fun _ h => by cases h) dX13_count_146
