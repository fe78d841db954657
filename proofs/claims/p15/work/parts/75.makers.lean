theorem dX8_init_0 : decode cX8_init 0 = .ok (.aload_n 0, 1) := by decide +kernel
theorem dX8_init_1 : decode cX8_init 1 = .ok (.invokespecial 1, 3) := by decide +kernel
theorem dX8_init_10 : decode cX8_init 10 = .ok (.iconst 1, 1) := by decide +kernel
theorem dX8_init_11 : decode cX8_init 11 = .ok (.putfield 13, 3) := by decide +kernel
theorem dX8_init_14 : decode cX8_init 14 = .ok (.aload_n 0, 1) := by decide +kernel
theorem dX8_init_15 : decode cX8_init 15 = .ok (.iconst 1, 1) := by decide +kernel
theorem dX8_init_16 : decode cX8_init 16 = .ok (.putfield 16, 3) := by decide +kernel
theorem dX8_init_19 : decode cX8_init 19 = .ok (.aload_n 0, 1) := by decide +kernel
theorem dX8_init_20 : decode cX8_init 20 = .ok (.iconst 1, 1) := by decide +kernel
theorem dX8_init_21 : decode cX8_init 21 = .ok (.putfield 19, 3) := by decide +kernel
theorem dX8_init_24 : decode cX8_init 24 = .ok (.aload_n 0, 1) := by decide +kernel
theorem dX8_init_25 : decode cX8_init 25 = .ok (.iconst 2, 1) := by decide +kernel
theorem dX8_init_26 : decode cX8_init 26 = .ok (.putfield 22, 3) := by decide +kernel
theorem dX8_init_29 : decode cX8_init 29 = .ok (.aload_n 0, 1) := by decide +kernel
theorem dX8_init_30 : decode cX8_init 30 = .ok (.iconst 1, 1) := by decide +kernel
theorem dX8_init_31 : decode cX8_init 31 = .ok (.putfield 25, 3) := by decide +kernel
theorem dX8_init_34 : decode cX8_init 34 = .ok (.aload_n 0, 1) := by decide +kernel
theorem dX8_init_35 : decode cX8_init 35 = .ok (.iconst 1, 1) := by decide +kernel
theorem dX8_init_36 : decode cX8_init 36 = .ok (.putfield 28, 3) := by decide +kernel
theorem dX8_init_39 : decode cX8_init 39 = .ok (.return_, 1) := by decide +kernel
theorem dX8_init_4 : decode cX8_init 4 = .ok (.aload_n 0, 1) := by decide +kernel
theorem dX8_init_5 : decode cX8_init 5 = .ok (.iconst 0, 1) := by decide +kernel
theorem dX8_init_6 : decode cX8_init 6 = .ok (.putfield 7, 3) := by decide +kernel
theorem dX8_init_9 : decode cX8_init 9 = .ok (.aload_n 0, 1) := by decide +kernel
set_option maxRecDepth 20000 in
theorem in_X8_init_X8 : ∀ w ∈ wsX80, w ∈ wsX8_init := sub_r [11, 12, 13, 14, 15, 16, 17] rfl
set_option maxHeartbeats 4000000 in
set_option maxRecDepth 100000 in
theorem c_X8_init (l : Launch) (D : va_G) (T : Nat → ClassId) (sz : Nat) (h0 : Nat)  : Met l yX8_init wsX8_init ({ frames := 1, cells := 0, slots := 0, locals := 20 }) (pW [.ref h0] D T [(h0, .inr (5, [.int 0, .int 0, .int 0, .int 0, .int 0, .int 0, .int 0]))] sz) (va_Qv (fun (u : Nat → Nat) => True) (bW D (va_A [(h0, .inr (5, [.int 0, .int 0, .int 0, .int 0, .int 0, .int 0, .int 0]))] sz) (fun (u : Nat → Nat) => [(h0, .inr (5, [.int 0, .int 1, .int 1, .int 1, .int 2, .int 1, .int 1]))])) (va_A [(h0, .inr (5, [.int 0, .int 0, .int 0, .int 0, .int 0, .int 0, .int 0]))] sz)) 0 0 (va_A [(h0, .inr (5, [.int 0, .int 0, .int 0, .int 0, .int 0, .int 0, .int 0]))] sz) := by
  refine Met.ofW (cc := cX8_init) (maxL := 1) (ret := none) (by decide +kernel) rfl ?_
  intro p e s m args below meth c s₁ B hml hv
  obtain ⟨rfl, hsz, hP, hE, hD0⟩ := hv
  have hx := B.exec
  have hb := B.bytes
  have hr := B.returns
  have hts := atoms_spec (ws := wsX8_init) B.pre
  have hown : s.vm.findClass RX8 = some m.cls := findClass_of_methodNamed B.named
  have hlocks := B.notSynchronized
  have hin : meth.name = "<init>" := (name_of_methodNamed B.named B.method).1
  subst hsz
  have hD := hD0.self (sz := s.heap.size)
  generalize hAe : va_A [(h0, .inr (5, [.int 0, .int 0, .int 0, .int 0, .int 0, .int 0, .int 0]))] s.heap.size = A at hD ⊢
  have hA : ∀ q : Nat, s.heap.size ≤ q → A q := fun q h => by rw [← hAe]; exact Or.inr h
  have hS : va_S A s.heap s.heap [] := va_S.rf
  have hP : va_P D vwCl [(h0, .inr (5, [.int 0, .int 0, .int 0, .int 0, .int 0, .int 0, .int 0]))] s.heap := hP
  have hl := lv_entry ([.ref h0]) (n := 1) (Nat.le_of_ble_eq_true rfl)
  rw [lg_entry_eq]
  generalize (lg_sl ([.ref h0]) ++ List.replicate (1 - (lg_sl ([.ref h0])).length) Slot.unset).toArray = ls at hl ⊢
  have hl : lv_has ls 1 [(0, .ref h0)] := hl
  clear hD0
  refine lv_aload_n hx hb dX8_init_0 rfl (lv_at hl 0 rfl) ?_
  refine W.objInit hx hb hown (hts (.methodLink RX8 1 objectInit) (List.mem_of_getElem? (i := 1) rfl)) (hts (.instanceMethod objectInit) (List.mem_of_getElem? (i := 2) rfl)) (hts (.code objectInit ⟨#[0xb1]⟩ 1 none) (List.mem_of_getElem? (i := 3) rfl)) rfl (by rw [hml]; exact hl.1) rfl dX8_init_1 (Nat.le_of_ble_eq_true rfl) (Nat.le_of_ble_eq_true rfl) ?_
  refine W.eq (g2 := F0 m 4 ls []) rfl ?_
  refine lv_aload_n hx hb dX8_init_4 rfl (lv_at hl 0 rfl) ?_
  refine lv_iconst (v := 0) hx hb dX8_init_5 (by decide +kernel) ?_
  refine va_put (D := D) (ci := 5) (v := .int 0) (ty := .int) (C := RX8) (T := TX8) (N := 7) hx hb hts in_X8_init_X8 tyX8 tyX8_ok nmX8 hown hE.1 hP hD hS 0 rfl rfl 0 (by decide +kernel) (hts (.fieldLink RX8 7 "ClauseBook$Lattice" "start" "I") (List.mem_of_getElem? (i := 4) rfl)) (fun _ h9 => h9) rfl (by decide +kernel) rfl rfl (Nat.le_of_ble_eq_true rfl) dX8_init_6 (fun H locs hP hD hS => ?_)
  obtain ⟨hP, hD⟩ := wPD [(h0, .inr (5, [.int 0, .int 0, .int 0, .int 0, .int 0, .int 0, .int 0]))] hP hD rfl
  refine lv_aload_n hx hb dX8_init_9 rfl (lv_at hl 0 rfl) ?_
  refine lv_iconst (v := 1) hx hb dX8_init_10 (by decide +kernel) ?_
  refine va_put (D := D) (ci := 5) (v := .int 1) (ty := .int) (C := RX8) (T := TX8) (N := 7) hx hb hts in_X8_init_X8 tyX8 tyX8_ok nmX8 hown hE.1 hP hD hS 0 rfl rfl 1 (by decide +kernel) (hts (.fieldLink RX8 13 "ClauseBook$Lattice" "up" "I") (List.mem_of_getElem? (i := 5) rfl)) (fun _ h9 => h9) rfl (by decide +kernel) rfl rfl (Nat.le_of_ble_eq_true rfl) dX8_init_11 (fun H locs hP hD hS => ?_)
  obtain ⟨hP, hD⟩ := wPD [(h0, .inr (5, [.int 0, .int 1, .int 0, .int 0, .int 0, .int 0, .int 0]))] hP hD rfl
  refine lv_aload_n hx hb dX8_init_14 rfl (lv_at hl 0 rfl) ?_
  refine lv_iconst (v := 1) hx hb dX8_init_15 (by decide +kernel) ?_
  refine va_put (D := D) (ci := 5) (v := .int 1) (ty := .int) (C := RX8) (T := TX8) (N := 7) hx hb hts in_X8_init_X8 tyX8 tyX8_ok nmX8 hown hE.1 hP hD hS 0 rfl rfl 2 (by decide +kernel) (hts (.fieldLink RX8 16 "ClauseBook$Lattice" "down" "I") (List.mem_of_getElem? (i := 6) rfl)) (fun _ h9 => h9) rfl (by decide +kernel) rfl rfl (Nat.le_of_ble_eq_true rfl) dX8_init_16 (fun H locs hP hD hS => ?_)
  obtain ⟨hP, hD⟩ := wPD [(h0, .inr (5, [.int 0, .int 1, .int 1, .int 0, .int 0, .int 0, .int 0]))] hP hD rfl
  refine lv_aload_n hx hb dX8_init_19 rfl (lv_at hl 0 rfl) ?_
  refine lv_iconst (v := 1) hx hb dX8_init_20 (by decide +kernel) ?_
  refine va_put (D := D) (ci := 5) (v := .int 1) (ty := .int) (C := RX8) (T := TX8) (N := 7) hx hb hts in_X8_init_X8 tyX8 tyX8_ok nmX8 hown hE.1 hP hD hS 0 rfl rfl 3 (by decide +kernel) (hts (.fieldLink RX8 19 "ClauseBook$Lattice" "p" "I") (List.mem_of_getElem? (i := 7) rfl)) (fun _ h9 => h9) rfl (by decide +kernel) rfl rfl (Nat.le_of_ble_eq_true rfl) dX8_init_21 (fun H locs hP hD hS => ?_)
  obtain ⟨hP, hD⟩ := wPD [(h0, .inr (5, [.int 0, .int 1, .int 1, .int 1, .int 0, .int 0, .int 0]))] hP hD rfl
  refine lv_aload_n hx hb dX8_init_24 rfl (lv_at hl 0 rfl) ?_
  refine lv_iconst (v := 2) hx hb dX8_init_25 (by decide +kernel) ?_
  refine va_put (D := D) (ci := 5) (v := .int 2) (ty := .int) (C := RX8) (T := TX8) (N := 7) hx hb hts in_X8_init_X8 tyX8 tyX8_ok nmX8 hown hE.1 hP hD hS 0 rfl rfl 4 (by decide +kernel) (hts (.fieldLink RX8 22 "ClauseBook$Lattice" "q" "I") (List.mem_of_getElem? (i := 8) rfl)) (fun _ h9 => h9) rfl (by decide +kernel) rfl rfl (Nat.le_of_ble_eq_true rfl) dX8_init_26 (fun H locs hP hD hS => ?_)
  obtain ⟨hP, hD⟩ := wPD [(h0, .inr (5, [.int 0, .int 1, .int 1, .int 1, .int 2, .int 0, .int 0]))] hP hD rfl
  refine lv_aload_n hx hb dX8_init_29 rfl (lv_at hl 0 rfl) ?_
  refine lv_iconst (v := 1) hx hb dX8_init_30 (by decide +kernel) ?_
  refine va_put (D := D) (ci := 5) (v := .int 1) (ty := .int) (C := RX8) (T := TX8) (N := 7) hx hb hts in_X8_init_X8 tyX8 tyX8_ok nmX8 hown hE.1 hP hD hS 0 rfl rfl 5 (by decide +kernel) (hts (.fieldLink RX8 25 "ClauseBook$Lattice" "a" "I") (List.mem_of_getElem? (i := 9) rfl)) (fun _ h9 => h9) rfl (by decide +kernel) rfl rfl (Nat.le_of_ble_eq_true rfl) dX8_init_31 (fun H locs hP hD hS => ?_)
  obtain ⟨hP, hD⟩ := wPD [(h0, .inr (5, [.int 0, .int 1, .int 1, .int 1, .int 2, .int 1, .int 0]))] hP hD rfl
  refine lv_aload_n hx hb dX8_init_34 rfl (lv_at hl 0 rfl) ?_
  refine lv_iconst (v := 1) hx hb dX8_init_35 (by decide +kernel) ?_
  refine va_put (D := D) (ci := 5) (v := .int 1) (ty := .int) (C := RX8) (T := TX8) (N := 7) hx hb hts in_X8_init_X8 tyX8 tyX8_ok nmX8 hown hE.1 hP hD hS 0 rfl rfl 6 (by decide +kernel) (hts (.fieldLink RX8 28 "ClauseBook$Lattice" "b" "I") (List.mem_of_getElem? (i := 10) rfl)) (fun _ h9 => h9) rfl (by decide +kernel) rfl rfl (Nat.le_of_ble_eq_true rfl) dX8_init_36 (fun H locs hP hD hS => ?_)
  obtain ⟨hP, hD⟩ := wPD [(h0, .inr (5, [.int 0, .int 1, .int 1, .int 1, .int 2, .int 1, .int 1]))] hP hD rfl
  exact W.vret hx hb hr (fun t ht hW => ⟨⟨(fun k => 0), rfl, trivial, by rw [ht]; exact hP.sub [0] rfl, hD.sub [0] (by decide +kernel) rfl⟩, hS.F ht⟩) hS.2.2 dX8_init_39
theorem dX2_init_0 : decode cX2_init 0 = .ok (.aload_n 0, 1) := by decide +kernel
theorem dX2_init_1 : decode cX2_init 1 = .ok (.invokespecial 3, 3) := by decide +kernel
theorem dX2_init_10 : decode cX2_init 10 = .ok (.bipush 24, 2) := by decide +kernel
theorem dX2_init_12 : decode cX2_init 12 = .ok (.newarray .int, 2) := by decide +kernel
theorem dX2_init_14 : decode cX2_init 14 = .ok (.putfield 15, 3) := by decide +kernel
theorem dX2_init_17 : decode cX2_init 17 = .ok (.aload_n 0, 1) := by decide +kernel
theorem dX2_init_18 : decode cX2_init 18 = .ok (.bipush 24, 2) := by decide +kernel
theorem dX2_init_20 : decode cX2_init 20 = .ok (.newarray .int, 2) := by decide +kernel
theorem dX2_init_22 : decode cX2_init 22 = .ok (.putfield 19, 3) := by decide +kernel
theorem dX2_init_25 : decode cX2_init 25 = .ok (.aload_n 0, 1) := by decide +kernel
theorem dX2_init_26 : decode cX2_init 26 = .ok (.bipush 24, 2) := by decide +kernel
theorem dX2_init_28 : decode cX2_init 28 = .ok (.newarray .int, 2) := by decide +kernel
theorem dX2_init_30 : decode cX2_init 30 = .ok (.putfield 22, 3) := by decide +kernel
theorem dX2_init_33 : decode cX2_init 33 = .ok (.aload_n 0, 1) := by decide +kernel
theorem dX2_init_34 : decode cX2_init 34 = .ok (.bipush 24, 2) := by decide +kernel
theorem dX2_init_36 : decode cX2_init 36 = .ok (.newarray .int, 2) := by decide +kernel
theorem dX2_init_38 : decode cX2_init 38 = .ok (.putfield 25, 3) := by decide +kernel
theorem dX2_init_4 : decode cX2_init 4 = .ok (.aload_n 0, 1) := by decide +kernel
theorem dX2_init_41 : decode cX2_init 41 = .ok (.aload_n 0, 1) := by decide +kernel
theorem dX2_init_42 : decode cX2_init 42 = .ok (.bipush 24, 2) := by decide +kernel
theorem dX2_init_44 : decode cX2_init 44 = .ok (.newarray .int, 2) := by decide +kernel
theorem dX2_init_46 : decode cX2_init 46 = .ok (.putfield 28, 3) := by decide +kernel
theorem dX2_init_49 : decode cX2_init 49 = .ok (.aload_n 0, 1) := by decide +kernel
theorem dX2_init_5 : decode cX2_init 5 = .ok (.iconst 0, 1) := by decide +kernel
theorem dX2_init_50 : decode cX2_init 50 = .ok (.bipush 24, 2) := by decide +kernel
theorem dX2_init_52 : decode cX2_init 52 = .ok (.newarray .int, 2) := by decide +kernel
theorem dX2_init_54 : decode cX2_init 54 = .ok (.putfield 31, 3) := by decide +kernel
theorem dX2_init_57 : decode cX2_init 57 = .ok (.aload_n 0, 1) := by decide +kernel
theorem dX2_init_58 : decode cX2_init 58 = .ok (.bipush 24, 2) := by decide +kernel
theorem dX2_init_6 : decode cX2_init 6 = .ok (.putfield 9, 3) := by decide +kernel
theorem dX2_init_60 : decode cX2_init 60 = .ok (.newarray .int, 2) := by decide +kernel
theorem dX2_init_62 : decode cX2_init 62 = .ok (.putfield 34, 3) := by decide +kernel
theorem dX2_init_65 : decode cX2_init 65 = .ok (.return_, 1) := by decide +kernel
theorem dX2_init_9 : decode cX2_init 9 = .ok (.aload_n 0, 1) := by decide +kernel
set_option maxRecDepth 20000 in
theorem in_X2_init_X2 : ∀ w ∈ wsX20, w ∈ wsX2_init := sub_r [13, 14, 15, 16, 17, 18, 19, 20] rfl
set_option maxHeartbeats 4000000 in
set_option maxRecDepth 100000 in
theorem c_X2_init (l : Launch) (D : va_G) (T : Nat → ClassId) (sz : Nat) (h0 : Nat)  : Met l yX2_init wsX2_init ({ frames := 1, cells := 7, slots := 168, locals := 20 }) (pW [.ref h0] D T [(h0, .inr (1, [.int 0, .null, .null, .null, .null, .null, .null, .null]))] sz) (va_Qv (fun (u : Nat → Nat) => True) (bW D (va_A [(h0, .inr (1, [.int 0, .null, .null, .null, .null, .null, .null, .null]))] sz) (fun (u : Nat → Nat) => [(h0, .inr (1, [.int 0, .ref (u 0), .ref (u 1), .ref (u 2), .ref (u 3), .ref (u 4), .ref (u 5), .ref (u 6)])), ((u 0), .inl (T 0, 24, .inl (fun _ => 0))), ((u 1), .inl (T 0, 24, .inl (fun _ => 0))), ((u 2), .inl (T 0, 24, .inl (fun _ => 0))), ((u 3), .inl (T 0, 24, .inl (fun _ => 0))), ((u 4), .inl (T 0, 24, .inl (fun _ => 0))), ((u 5), .inl (T 0, 24, .inl (fun _ => 0))), ((u 6), .inl (T 0, 24, .inl (fun _ => 0)))])) (va_A [(h0, .inr (1, [.int 0, .null, .null, .null, .null, .null, .null, .null]))] sz)) 7 168 (va_A [(h0, .inr (1, [.int 0, .null, .null, .null, .null, .null, .null, .null]))] sz) := by
  refine Met.ofW (cc := cX2_init) (maxL := 1) (ret := none) (by decide +kernel) rfl ?_
  intro p e s m args below meth c s₁ B hml hv
  obtain ⟨rfl, hsz, hP, hE, hD0⟩ := hv
  have hx := B.exec
  have hb := B.bytes
  have hr := B.returns
  have hts := atoms_spec (ws := wsX2_init) B.pre
  have hown : s.vm.findClass RX2 = some m.cls := findClass_of_methodNamed B.named
  have hlocks := B.notSynchronized
  have hin : meth.name = "<init>" := (name_of_methodNamed B.named B.method).1
  subst hsz
  have hD := hD0.self (sz := s.heap.size)
  generalize hAe : va_A [(h0, .inr (1, [.int 0, .null, .null, .null, .null, .null, .null, .null]))] s.heap.size = A at hD ⊢
  have hA : ∀ q : Nat, s.heap.size ≤ q → A q := fun q h => by rw [← hAe]; exact Or.inr h
  have hS : va_S A s.heap s.heap [] := va_S.rf
  have hP : va_P D vwCl [(h0, .inr (1, [.int 0, .null, .null, .null, .null, .null, .null, .null]))] s.heap := hP
  have hl := lv_entry ([.ref h0]) (n := 1) (Nat.le_of_ble_eq_true rfl)
  rw [lg_entry_eq]
  generalize (lg_sl ([.ref h0]) ++ List.replicate (1 - (lg_sl ([.ref h0])).length) Slot.unset).toArray = ls at hl ⊢
  have hl : lv_has ls 1 [(0, .ref h0)] := hl
  clear hD0
  refine lv_aload_n hx hb dX2_init_0 rfl (lv_at hl 0 rfl) ?_
  refine W.objInit hx hb hown (hts (.methodLink RX2 3 objectInit) (List.mem_of_getElem? (i := 1) rfl)) (hts (.instanceMethod objectInit) (List.mem_of_getElem? (i := 2) rfl)) (hts (.code objectInit ⟨#[0xb1]⟩ 1 none) (List.mem_of_getElem? (i := 3) rfl)) rfl (by rw [hml]; exact hl.1) rfl dX2_init_1 (Nat.le_of_ble_eq_true rfl) (Nat.le_of_ble_eq_true rfl) ?_
  refine W.eq (g2 := F0 m 4 ls []) rfl ?_
  refine lv_aload_n hx hb dX2_init_4 rfl (lv_at hl 0 rfl) ?_
  refine lv_iconst (v := 0) hx hb dX2_init_5 (by decide +kernel) ?_
  refine va_put (D := D) (ci := 1) (v := .int 0) (ty := .int) (C := RX2) (T := TX2) (N := 8) hx hb hts in_X2_init_X2 tyX2 tyX2_ok nmX2 hown hE.1 hP hD hS 0 rfl rfl 0 (by decide +kernel) (hts (.fieldLink RX2 9 "ClauseBook$Clauses" "size" "I") (List.mem_of_getElem? (i := 4) rfl)) (fun _ h9 => h9) rfl (by decide +kernel) rfl rfl (Nat.le_of_ble_eq_true rfl) dX2_init_6 (fun H locs hP hD hS => ?_)
  obtain ⟨hP, hD⟩ := wPD [(h0, .inr (1, [.int 0, .null, .null, .null, .null, .null, .null, .null]))] hP hD rfl
  refine lv_aload_n hx hb dX2_init_9 rfl (lv_at hl 0 rfl) ?_
  refine lv_bipush (v := 24) hx hb dX2_init_10 (by decide +kernel) ?_
  refine nw_newa (atype := .int) (ty := .int) (a0 := (24, .inl (fun _ => 0))) (N' := 24) hx hb (hts (.arrayClass .int) (List.mem_of_getElem? (i := 5) rfl)) rfl hE.1 hP hD hS hA 0 rfl (fun _ => by first | rfl | simp [vp_cell, arrV, defaultValue]) (by decide +kernel) (by decide +kernel) (Nat.le_of_ble_eq_true rfl) (Nat.le_of_ble_eq_true rfl) (Nat.le_of_ble_eq_true rfl) dX2_init_12 (fun q_1 H hP hD hS => ?_)
  obtain ⟨hP, hD⟩ := wPD [(h0, .inr (1, [.int 0, .null, .null, .null, .null, .null, .null, .null])), (q_1, .inl (T 0, 24, .inl (fun _ => 0)))] hP hD rfl
  refine W.widen (k := 1) (n := 24) (Nat.le_of_ble_eq_true rfl) (Nat.le_of_ble_eq_true rfl) ?_
  refine va_putF (D := D) (ci := 1) (v := .ref q_1) (ty := .array .int) (C := RX2) (T := TX2) (N := 8) hx hb hts in_X2_init_X2 tyX2 tyX2_ok nmX2 hown hE.1 hP hD hS 0 rfl rfl 1 (by decide +kernel) (hts (.fieldLink RX2 15 "ClauseBook$Clauses" "kind" "[I") (List.mem_of_getElem? (i := 6) rfl)) (fun _ h9 => h9) rfl hin rfl (by decide +kernel) rfl rfl (Nat.le_of_ble_eq_true rfl) dX2_init_14 (fun H locs hP hD hS => ?_)
  obtain ⟨hP, hD⟩ := wPD [(h0, .inr (1, [.int 0, .ref q_1, .null, .null, .null, .null, .null, .null])), (q_1, .inl (T 0, 24, .inl (fun _ => 0)))] hP hD rfl
  refine lv_aload_n hx hb dX2_init_17 rfl (lv_at hl 0 rfl) ?_
  refine lv_bipush (v := 24) hx hb dX2_init_18 (by decide +kernel) ?_
  refine nw_newa (atype := .int) (ty := .int) (a0 := (24, .inl (fun _ => 0))) (N' := 24) hx hb (hts (.arrayClass .int) (List.mem_of_getElem? (i := 5) rfl)) rfl hE.1 hP hD hS hA 0 rfl (fun _ => by first | rfl | simp [vp_cell, arrV, defaultValue]) (by decide +kernel) (by decide +kernel) (Nat.le_of_ble_eq_true rfl) (Nat.le_of_ble_eq_true rfl) (Nat.le_of_ble_eq_true rfl) dX2_init_20 (fun q_2 H hP hD hS => ?_)
  obtain ⟨hP, hD⟩ := wPD [(h0, .inr (1, [.int 0, .ref q_1, .null, .null, .null, .null, .null, .null])), (q_1, .inl (T 0, 24, .inl (fun _ => 0))), (q_2, .inl (T 0, 24, .inl (fun _ => 0)))] hP hD rfl
  refine W.widen (k := 2) (n := 48) (Nat.le_of_ble_eq_true rfl) (Nat.le_of_ble_eq_true rfl) ?_
  refine va_putF (D := D) (ci := 1) (v := .ref q_2) (ty := .array .int) (C := RX2) (T := TX2) (N := 8) hx hb hts in_X2_init_X2 tyX2 tyX2_ok nmX2 hown hE.1 hP hD hS 0 rfl rfl 2 (by decide +kernel) (hts (.fieldLink RX2 19 "ClauseBook$Clauses" "n" "[I") (List.mem_of_getElem? (i := 7) rfl)) (fun _ h9 => h9) rfl hin rfl (by decide +kernel) rfl rfl (Nat.le_of_ble_eq_true rfl) dX2_init_22 (fun H locs hP hD hS => ?_)
  obtain ⟨hP, hD⟩ := wPD [(h0, .inr (1, [.int 0, .ref q_1, .ref q_2, .null, .null, .null, .null, .null])), (q_1, .inl (T 0, 24, .inl (fun _ => 0))), (q_2, .inl (T 0, 24, .inl (fun _ => 0)))] hP hD rfl
  refine lv_aload_n hx hb dX2_init_25 rfl (lv_at hl 0 rfl) ?_
  refine lv_bipush (v := 24) hx hb dX2_init_26 (by decide +kernel) ?_
  refine nw_newa (atype := .int) (ty := .int) (a0 := (24, .inl (fun _ => 0))) (N' := 24) hx hb (hts (.arrayClass .int) (List.mem_of_getElem? (i := 5) rfl)) rfl hE.1 hP hD hS hA 0 rfl (fun _ => by first | rfl | simp [vp_cell, arrV, defaultValue]) (by decide +kernel) (by decide +kernel) (Nat.le_of_ble_eq_true rfl) (Nat.le_of_ble_eq_true rfl) (Nat.le_of_ble_eq_true rfl) dX2_init_28 (fun q_3 H hP hD hS => ?_)
  obtain ⟨hP, hD⟩ := wPD [(h0, .inr (1, [.int 0, .ref q_1, .ref q_2, .null, .null, .null, .null, .null])), (q_1, .inl (T 0, 24, .inl (fun _ => 0))), (q_2, .inl (T 0, 24, .inl (fun _ => 0))), (q_3, .inl (T 0, 24, .inl (fun _ => 0)))] hP hD rfl
  refine W.widen (k := 3) (n := 72) (Nat.le_of_ble_eq_true rfl) (Nat.le_of_ble_eq_true rfl) ?_
  refine va_putF (D := D) (ci := 1) (v := .ref q_3) (ty := .array .int) (C := RX2) (T := TX2) (N := 8) hx hb hts in_X2_init_X2 tyX2 tyX2_ok nmX2 hown hE.1 hP hD hS 0 rfl rfl 3 (by decide +kernel) (hts (.fieldLink RX2 22 "ClauseBook$Clauses" "c" "[I") (List.mem_of_getElem? (i := 8) rfl)) (fun _ h9 => h9) rfl hin rfl (by decide +kernel) rfl rfl (Nat.le_of_ble_eq_true rfl) dX2_init_30 (fun H locs hP hD hS => ?_)
  obtain ⟨hP, hD⟩ := wPD [(h0, .inr (1, [.int 0, .ref q_1, .ref q_2, .ref q_3, .null, .null, .null, .null])), (q_1, .inl (T 0, 24, .inl (fun _ => 0))), (q_2, .inl (T 0, 24, .inl (fun _ => 0))), (q_3, .inl (T 0, 24, .inl (fun _ => 0)))] hP hD rfl
  refine lv_aload_n hx hb dX2_init_33 rfl (lv_at hl 0 rfl) ?_
  refine lv_bipush (v := 24) hx hb dX2_init_34 (by decide +kernel) ?_
  refine nw_newa (atype := .int) (ty := .int) (a0 := (24, .inl (fun _ => 0))) (N' := 24) hx hb (hts (.arrayClass .int) (List.mem_of_getElem? (i := 5) rfl)) rfl hE.1 hP hD hS hA 0 rfl (fun _ => by first | rfl | simp [vp_cell, arrV, defaultValue]) (by decide +kernel) (by decide +kernel) (Nat.le_of_ble_eq_true rfl) (Nat.le_of_ble_eq_true rfl) (Nat.le_of_ble_eq_true rfl) dX2_init_36 (fun q_4 H hP hD hS => ?_)
  obtain ⟨hP, hD⟩ := wPD [(h0, .inr (1, [.int 0, .ref q_1, .ref q_2, .ref q_3, .null, .null, .null, .null])), (q_1, .inl (T 0, 24, .inl (fun _ => 0))), (q_2, .inl (T 0, 24, .inl (fun _ => 0))), (q_3, .inl (T 0, 24, .inl (fun _ => 0))), (q_4, .inl (T 0, 24, .inl (fun _ => 0)))] hP hD rfl
  refine W.widen (k := 4) (n := 96) (Nat.le_of_ble_eq_true rfl) (Nat.le_of_ble_eq_true rfl) ?_
  refine va_putF (D := D) (ci := 1) (v := .ref q_4) (ty := .array .int) (C := RX2) (T := TX2) (N := 8) hx hb hts in_X2_init_X2 tyX2 tyX2_ok nmX2 hown hE.1 hP hD hS 0 rfl rfl 4 (by decide +kernel) (hts (.fieldLink RX2 25 "ClauseBook$Clauses" "d" "[I") (List.mem_of_getElem? (i := 9) rfl)) (fun _ h9 => h9) rfl hin rfl (by decide +kernel) rfl rfl (Nat.le_of_ble_eq_true rfl) dX2_init_38 (fun H locs hP hD hS => ?_)
  obtain ⟨hP, hD⟩ := wPD [(h0, .inr (1, [.int 0, .ref q_1, .ref q_2, .ref q_3, .ref q_4, .null, .null, .null])), (q_1, .inl (T 0, 24, .inl (fun _ => 0))), (q_2, .inl (T 0, 24, .inl (fun _ => 0))), (q_3, .inl (T 0, 24, .inl (fun _ => 0))), (q_4, .inl (T 0, 24, .inl (fun _ => 0)))] hP hD rfl
  refine lv_aload_n hx hb dX2_init_41 rfl (lv_at hl 0 rfl) ?_
  refine lv_bipush (v := 24) hx hb dX2_init_42 (by decide +kernel) ?_
  refine nw_newa (atype := .int) (ty := .int) (a0 := (24, .inl (fun _ => 0))) (N' := 24) hx hb (hts (.arrayClass .int) (List.mem_of_getElem? (i := 5) rfl)) rfl hE.1 hP hD hS hA 0 rfl (fun _ => by first | rfl | simp [vp_cell, arrV, defaultValue]) (by decide +kernel) (by decide +kernel) (Nat.le_of_ble_eq_true rfl) (Nat.le_of_ble_eq_true rfl) (Nat.le_of_ble_eq_true rfl) dX2_init_44 (fun q_5 H hP hD hS => ?_)
  obtain ⟨hP, hD⟩ := wPD [(h0, .inr (1, [.int 0, .ref q_1, .ref q_2, .ref q_3, .ref q_4, .null, .null, .null])), (q_1, .inl (T 0, 24, .inl (fun _ => 0))), (q_2, .inl (T 0, 24, .inl (fun _ => 0))), (q_3, .inl (T 0, 24, .inl (fun _ => 0))), (q_4, .inl (T 0, 24, .inl (fun _ => 0))), (q_5, .inl (T 0, 24, .inl (fun _ => 0)))] hP hD rfl
  refine W.widen (k := 5) (n := 120) (Nat.le_of_ble_eq_true rfl) (Nat.le_of_ble_eq_true rfl) ?_
  refine va_putF (D := D) (ci := 1) (v := .ref q_5) (ty := .array .int) (C := RX2) (T := TX2) (N := 8) hx hb hts in_X2_init_X2 tyX2 tyX2_ok nmX2 hown hE.1 hP hD hS 0 rfl rfl 5 (by decide +kernel) (hts (.fieldLink RX2 28 "ClauseBook$Clauses" "end" "[I") (List.mem_of_getElem? (i := 10) rfl)) (fun _ h9 => h9) rfl hin rfl (by decide +kernel) rfl rfl (Nat.le_of_ble_eq_true rfl) dX2_init_46 (fun H locs hP hD hS => ?_)
  obtain ⟨hP, hD⟩ := wPD [(h0, .inr (1, [.int 0, .ref q_1, .ref q_2, .ref q_3, .ref q_4, .ref q_5, .null, .null])), (q_1, .inl (T 0, 24, .inl (fun _ => 0))), (q_2, .inl (T 0, 24, .inl (fun _ => 0))), (q_3, .inl (T 0, 24, .inl (fun _ => 0))), (q_4, .inl (T 0, 24, .inl (fun _ => 0))), (q_5, .inl (T 0, 24, .inl (fun _ => 0)))] hP hD rfl
  refine lv_aload_n hx hb dX2_init_49 rfl (lv_at hl 0 rfl) ?_
  refine lv_bipush (v := 24) hx hb dX2_init_50 (by decide +kernel) ?_
  refine nw_newa (atype := .int) (ty := .int) (a0 := (24, .inl (fun _ => 0))) (N' := 24) hx hb (hts (.arrayClass .int) (List.mem_of_getElem? (i := 5) rfl)) rfl hE.1 hP hD hS hA 0 rfl (fun _ => by first | rfl | simp [vp_cell, arrV, defaultValue]) (by decide +kernel) (by decide +kernel) (Nat.le_of_ble_eq_true rfl) (Nat.le_of_ble_eq_true rfl) (Nat.le_of_ble_eq_true rfl) dX2_init_52 (fun q_6 H hP hD hS => ?_)
  obtain ⟨hP, hD⟩ := wPD [(h0, .inr (1, [.int 0, .ref q_1, .ref q_2, .ref q_3, .ref q_4, .ref q_5, .null, .null])), (q_1, .inl (T 0, 24, .inl (fun _ => 0))), (q_2, .inl (T 0, 24, .inl (fun _ => 0))), (q_3, .inl (T 0, 24, .inl (fun _ => 0))), (q_4, .inl (T 0, 24, .inl (fun _ => 0))), (q_5, .inl (T 0, 24, .inl (fun _ => 0))), (q_6, .inl (T 0, 24, .inl (fun _ => 0)))] hP hD rfl
  refine W.widen (k := 6) (n := 144) (Nat.le_of_ble_eq_true rfl) (Nat.le_of_ble_eq_true rfl) ?_
  refine va_putF (D := D) (ci := 1) (v := .ref q_6) (ty := .array .int) (C := RX2) (T := TX2) (N := 8) hx hb hts in_X2_init_X2 tyX2 tyX2_ok nmX2 hown hE.1 hP hD hS 0 rfl rfl 6 (by decide +kernel) (hts (.fieldLink RX2 31 "ClauseBook$Clauses" "made" "[I") (List.mem_of_getElem? (i := 11) rfl)) (fun _ h9 => h9) rfl hin rfl (by decide +kernel) rfl rfl (Nat.le_of_ble_eq_true rfl) dX2_init_54 (fun H locs hP hD hS => ?_)
  obtain ⟨hP, hD⟩ := wPD [(h0, .inr (1, [.int 0, .ref q_1, .ref q_2, .ref q_3, .ref q_4, .ref q_5, .ref q_6, .null])), (q_1, .inl (T 0, 24, .inl (fun _ => 0))), (q_2, .inl (T 0, 24, .inl (fun _ => 0))), (q_3, .inl (T 0, 24, .inl (fun _ => 0))), (q_4, .inl (T 0, 24, .inl (fun _ => 0))), (q_5, .inl (T 0, 24, .inl (fun _ => 0))), (q_6, .inl (T 0, 24, .inl (fun _ => 0)))] hP hD rfl
  refine lv_aload_n hx hb dX2_init_57 rfl (lv_at hl 0 rfl) ?_
  refine lv_bipush (v := 24) hx hb dX2_init_58 (by decide +kernel) ?_
  refine nw_newa (atype := .int) (ty := .int) (a0 := (24, .inl (fun _ => 0))) (N' := 24) hx hb (hts (.arrayClass .int) (List.mem_of_getElem? (i := 5) rfl)) rfl hE.1 hP hD hS hA 0 rfl (fun _ => by first | rfl | simp [vp_cell, arrV, defaultValue]) (by decide +kernel) (by decide +kernel) (Nat.le_of_ble_eq_true rfl) (Nat.le_of_ble_eq_true rfl) (Nat.le_of_ble_eq_true rfl) dX2_init_60 (fun q_7 H hP hD hS => ?_)
  obtain ⟨hP, hD⟩ := wPD [(h0, .inr (1, [.int 0, .ref q_1, .ref q_2, .ref q_3, .ref q_4, .ref q_5, .ref q_6, .null])), (q_1, .inl (T 0, 24, .inl (fun _ => 0))), (q_2, .inl (T 0, 24, .inl (fun _ => 0))), (q_3, .inl (T 0, 24, .inl (fun _ => 0))), (q_4, .inl (T 0, 24, .inl (fun _ => 0))), (q_5, .inl (T 0, 24, .inl (fun _ => 0))), (q_6, .inl (T 0, 24, .inl (fun _ => 0))), (q_7, .inl (T 0, 24, .inl (fun _ => 0)))] hP hD rfl
  refine W.widen (k := 7) (n := 168) (Nat.le_of_ble_eq_true rfl) (Nat.le_of_ble_eq_true rfl) ?_
  refine va_putF (D := D) (ci := 1) (v := .ref q_7) (ty := .array .int) (C := RX2) (T := TX2) (N := 8) hx hb hts in_X2_init_X2 tyX2 tyX2_ok nmX2 hown hE.1 hP hD hS 0 rfl rfl 7 (by decide +kernel) (hts (.fieldLink RX2 34 "ClauseBook$Clauses" "deep" "[I") (List.mem_of_getElem? (i := 12) rfl)) (fun _ h9 => h9) rfl hin rfl (by decide +kernel) rfl rfl (Nat.le_of_ble_eq_true rfl) dX2_init_62 (fun H locs hP hD hS => ?_)
  obtain ⟨hP, hD⟩ := wPD [(h0, .inr (1, [.int 0, .ref q_1, .ref q_2, .ref q_3, .ref q_4, .ref q_5, .ref q_6, .ref q_7])), (q_1, .inl (T 0, 24, .inl (fun _ => 0))), (q_2, .inl (T 0, 24, .inl (fun _ => 0))), (q_3, .inl (T 0, 24, .inl (fun _ => 0))), (q_4, .inl (T 0, 24, .inl (fun _ => 0))), (q_5, .inl (T 0, 24, .inl (fun _ => 0))), (q_6, .inl (T 0, 24, .inl (fun _ => 0))), (q_7, .inl (T 0, 24, .inl (fun _ => 0)))] hP hD rfl
  exact W.vret hx hb hr (fun t ht hW => ⟨⟨(fun k => [q_1, q_2, q_3, q_4, q_5, q_6, q_7].getD k 0), rfl, trivial, by rw [ht]; exact hP.sub [0, 1, 2, 3, 4, 5, 6, 7] rfl, hD.sub [0, 1, 2, 3, 4, 5, 6, 7] (by decide +kernel) rfl⟩, hS.F ht⟩) hS.2.2 dX2_init_65
theorem dX1_init_0 : decode cX1_init 0 = .ok (.aload_n 0, 1) := by decide +kernel
theorem dX1_init_1 : decode cX1_init 1 = .ok (.invokespecial 3, 3) := by decide +kernel
theorem dX1_init_10 : decode cX1_init 10 = .ok (.bipush 12, 2) := by decide +kernel
theorem dX1_init_12 : decode cX1_init 12 = .ok (.newarray .int, 2) := by decide +kernel
theorem dX1_init_14 : decode cX1_init 14 = .ok (.putfield 15, 3) := by decide +kernel
theorem dX1_init_17 : decode cX1_init 17 = .ok (.return_, 1) := by decide +kernel
theorem dX1_init_4 : decode cX1_init 4 = .ok (.aload_n 0, 1) := by decide +kernel
theorem dX1_init_5 : decode cX1_init 5 = .ok (.iconst 0, 1) := by decide +kernel
theorem dX1_init_6 : decode cX1_init 6 = .ok (.putfield 9, 3) := by decide +kernel
theorem dX1_init_9 : decode cX1_init 9 = .ok (.aload_n 0, 1) := by decide +kernel
set_option maxRecDepth 20000 in
theorem in_X1_init_X1 : ∀ w ∈ wsX10, w ∈ wsX1_init := sub_r [7, 8] rfl
set_option maxHeartbeats 4000000 in
set_option maxRecDepth 100000 in
theorem c_X1_init (l : Launch) (D : va_G) (T : Nat → ClassId) (sz : Nat) (h0 : Nat)  : Met l yX1_init wsX1_init ({ frames := 1, cells := 1, slots := 12, locals := 20 }) (pW [.ref h0] D T [(h0, .inr (0, [.int 0, .null]))] sz) (va_Qv (fun (u : Nat → Nat) => True) (bW D (va_A [(h0, .inr (0, [.int 0, .null]))] sz) (fun (u : Nat → Nat) => [(h0, .inr (0, [.int 0, .ref (u 0)])), ((u 0), .inl (T 0, 12, .inl (fun _ => 0)))])) (va_A [(h0, .inr (0, [.int 0, .null]))] sz)) 1 12 (va_A [(h0, .inr (0, [.int 0, .null]))] sz) := by
  refine Met.ofW (cc := cX1_init) (maxL := 1) (ret := none) (by decide +kernel) rfl ?_
  intro p e s m args below meth c s₁ B hml hv
  obtain ⟨rfl, hsz, hP, hE, hD0⟩ := hv
  have hx := B.exec
  have hb := B.bytes
  have hr := B.returns
  have hts := atoms_spec (ws := wsX1_init) B.pre
  have hown : s.vm.findClass RX1 = some m.cls := findClass_of_methodNamed B.named
  have hlocks := B.notSynchronized
  have hin : meth.name = "<init>" := (name_of_methodNamed B.named B.method).1
  subst hsz
  have hD := hD0.self (sz := s.heap.size)
  generalize hAe : va_A [(h0, .inr (0, [.int 0, .null]))] s.heap.size = A at hD ⊢
  have hA : ∀ q : Nat, s.heap.size ≤ q → A q := fun q h => by rw [← hAe]; exact Or.inr h
  have hS : va_S A s.heap s.heap [] := va_S.rf
  have hP : va_P D vwCl [(h0, .inr (0, [.int 0, .null]))] s.heap := hP
  have hl := lv_entry ([.ref h0]) (n := 1) (Nat.le_of_ble_eq_true rfl)
  rw [lg_entry_eq]
  generalize (lg_sl ([.ref h0]) ++ List.replicate (1 - (lg_sl ([.ref h0])).length) Slot.unset).toArray = ls at hl ⊢
  have hl : lv_has ls 1 [(0, .ref h0)] := hl
  clear hD0
  refine lv_aload_n hx hb dX1_init_0 rfl (lv_at hl 0 rfl) ?_
  refine W.objInit hx hb hown (hts (.methodLink RX1 3 objectInit) (List.mem_of_getElem? (i := 1) rfl)) (hts (.instanceMethod objectInit) (List.mem_of_getElem? (i := 2) rfl)) (hts (.code objectInit ⟨#[0xb1]⟩ 1 none) (List.mem_of_getElem? (i := 3) rfl)) rfl (by rw [hml]; exact hl.1) rfl dX1_init_1 (Nat.le_of_ble_eq_true rfl) (Nat.le_of_ble_eq_true rfl) ?_
  refine W.eq (g2 := F0 m 4 ls []) rfl ?_
  refine lv_aload_n hx hb dX1_init_4 rfl (lv_at hl 0 rfl) ?_
  refine lv_iconst (v := 0) hx hb dX1_init_5 (by decide +kernel) ?_
  refine va_put (D := D) (ci := 0) (v := .int 0) (ty := .int) (C := RX1) (T := TX1) (N := 2) hx hb hts in_X1_init_X1 tyX1 tyX1_ok nmX1 hown hE.1 hP hD hS 0 rfl rfl 0 (by decide +kernel) (hts (.fieldLink RX1 9 "ClauseBook$Bag" "size" "I") (List.mem_of_getElem? (i := 4) rfl)) (fun _ h9 => h9) rfl (by decide +kernel) rfl rfl (Nat.le_of_ble_eq_true rfl) dX1_init_6 (fun H locs hP hD hS => ?_)
  obtain ⟨hP, hD⟩ := wPD [(h0, .inr (0, [.int 0, .null]))] hP hD rfl
  refine lv_aload_n hx hb dX1_init_9 rfl (lv_at hl 0 rfl) ?_
  refine lv_bipush (v := 12) hx hb dX1_init_10 (by decide +kernel) ?_
  refine nw_newa (atype := .int) (ty := .int) (a0 := (12, .inl (fun _ => 0))) (N' := 12) hx hb (hts (.arrayClass .int) (List.mem_of_getElem? (i := 5) rfl)) rfl hE.1 hP hD hS hA 0 rfl (fun _ => by first | rfl | simp [vp_cell, arrV, defaultValue]) (by decide +kernel) (by decide +kernel) (Nat.le_of_ble_eq_true rfl) (Nat.le_of_ble_eq_true rfl) (Nat.le_of_ble_eq_true rfl) dX1_init_12 (fun q_1 H hP hD hS => ?_)
  obtain ⟨hP, hD⟩ := wPD [(h0, .inr (0, [.int 0, .null])), (q_1, .inl (T 0, 12, .inl (fun _ => 0)))] hP hD rfl
  refine W.widen (k := 1) (n := 12) (Nat.le_of_ble_eq_true rfl) (Nat.le_of_ble_eq_true rfl) ?_
  refine va_putF (D := D) (ci := 0) (v := .ref q_1) (ty := .array .int) (C := RX1) (T := TX1) (N := 2) hx hb hts in_X1_init_X1 tyX1 tyX1_ok nmX1 hown hE.1 hP hD hS 0 rfl rfl 1 (by decide +kernel) (hts (.fieldLink RX1 15 "ClauseBook$Bag" "numbers" "[I") (List.mem_of_getElem? (i := 6) rfl)) (fun _ h9 => h9) rfl hin rfl (by decide +kernel) rfl rfl (Nat.le_of_ble_eq_true rfl) dX1_init_14 (fun H locs hP hD hS => ?_)
  obtain ⟨hP, hD⟩ := wPD [(h0, .inr (0, [.int 0, .ref q_1])), (q_1, .inl (T 0, 12, .inl (fun _ => 0)))] hP hD rfl
  exact W.vret hx hb hr (fun t ht hW => ⟨⟨(fun k => [q_1].getD k 0), rfl, trivial, by rw [ht]; exact hP.sub [0, 1] rfl, hD.sub [0, 1] (by decide +kernel) rfl⟩, hS.F ht⟩) hS.2.2 dX1_init_17
theorem dX6_init_0 : decode cX6_init 0 = .ok (.aload_n 0, 1) := by decide +kernel
theorem dX6_init_1 : decode cX6_init 1 = .ok (.invokespecial 3, 3) := by decide +kernel
theorem dX6_init_12 : decode cX6_init 12 = .ok (.putfield 12, 3) := by decide +kernel
theorem dX6_init_15 : decode cX6_init 15 = .ok (.aload_n 0, 1) := by decide +kernel
theorem dX6_init_16 : decode cX6_init 16 = .ok (.new 18, 3) := by decide +kernel
theorem dX6_init_19 : decode cX6_init 19 = .ok (.dup, 1) := by decide +kernel
theorem dX6_init_20 : decode cX6_init 20 = .ok (.invokespecial 20, 3) := by decide +kernel
theorem dX6_init_23 : decode cX6_init 23 = .ok (.putfield 21, 3) := by decide +kernel
theorem dX6_init_26 : decode cX6_init 26 = .ok (.aload_n 0, 1) := by decide +kernel
theorem dX6_init_27 : decode cX6_init 27 = .ok (.iconst 3, 1) := by decide +kernel
theorem dX6_init_28 : decode cX6_init 28 = .ok (.anewarray 25, 3) := by decide +kernel
theorem dX6_init_31 : decode cX6_init 31 = .ok (.putfield 27, 3) := by decide +kernel
theorem dX6_init_34 : decode cX6_init 34 = .ok (.iconst 0, 1) := by decide +kernel
theorem dX6_init_35 : decode cX6_init 35 = .ok (.istore_n 1, 1) := by decide +kernel
theorem dX6_init_36 : decode cX6_init 36 = .ok (.iload_n 1, 1) := by decide +kernel
theorem dX6_init_37 : decode cX6_init 37 = .ok (.iconst 3, 1) := by decide +kernel
theorem dX6_init_38 : decode cX6_init 38 = .ok (.if_icmp .ge 22, 3) := by decide +kernel
theorem dX6_init_4 : decode cX6_init 4 = .ok (.aload_n 0, 1) := by decide +kernel
theorem dX6_init_41 : decode cX6_init 41 = .ok (.aload_n 0, 1) := by decide +kernel
theorem dX6_init_42 : decode cX6_init 42 = .ok (.getfield 27, 3) := by decide +kernel
theorem dX6_init_45 : decode cX6_init 45 = .ok (.iload_n 1, 1) := by decide +kernel
theorem dX6_init_46 : decode cX6_init 46 = .ok (.new 25, 3) := by decide +kernel
theorem dX6_init_49 : decode cX6_init 49 = .ok (.dup, 1) := by decide +kernel
theorem dX6_init_5 : decode cX6_init 5 = .ok (.new 9, 3) := by decide +kernel
theorem dX6_init_50 : decode cX6_init 50 = .ok (.invokespecial 31, 3) := by decide +kernel
theorem dX6_init_53 : decode cX6_init 53 = .ok (.aastore, 1) := by decide +kernel
theorem dX6_init_54 : decode cX6_init 54 = .ok (.iinc 1 1, 3) := by decide +kernel
theorem dX6_init_57 : decode cX6_init 57 = .ok (.goto (-21), 3) := by decide +kernel
theorem dX6_init_60 : decode cX6_init 60 = .ok (.return_, 1) := by decide +kernel
theorem dX6_init_8 : decode cX6_init 8 = .ok (.dup, 1) := by decide +kernel
theorem dX6_init_9 : decode cX6_init 9 = .ok (.invokespecial 11, 3) := by decide +kernel
set_option maxRecDepth 20000 in
theorem ggX6_init_X1_init : GoodIn wsX6_init wsX1_init := goodIn_r _ [39, 40, 2, 3, 41, 30, 42, 61, 62] rfl (by decide +kernel)
set_option maxRecDepth 20000 in
theorem ggX6_init_X2_init : GoodIn wsX6_init wsX2_init := goodIn_r _ [27, 28, 2, 3, 29, 30, 31, 32, 33, 34, 35, 36, 37, 53, 54, 55, 56, 57, 58, 59, 60] rfl (by decide +kernel)
set_option maxRecDepth 20000 in
theorem ggX6_init_X8_init : GoodIn wsX6_init wsX8_init := goodIn_r _ [17, 18, 2, 3, 19, 20, 21, 22, 23, 24, 25, 43, 44, 45, 46, 47, 48, 49] rfl (by decide +kernel)
set_option maxRecDepth 20000 in
theorem gX6_init_X1_init_n31 : GoodIn wsX6_init (wsX1_init) := ggX6_init_X1_init
set_option maxRecDepth 20000 in
theorem gX6_init_X2_init_n20 : GoodIn wsX6_init (wsX2_init) := ggX6_init_X2_init
set_option maxRecDepth 20000 in
theorem gX6_init_X8_init_n11 : GoodIn wsX6_init (wsX8_init) := ggX6_init_X8_init
theorem hs_X1_init : yX1_init.cls ≠ "java/lang/invoke/MethodHandle" ∧ yX1_init.cls ≠ "java/lang/invoke/VarHandle" ∧ (parseMethodDescriptor yX1_init.desc).map (fun d => d.parameters.length) = some 0 := by decide +kernel
theorem hs_X2_init : yX2_init.cls ≠ "java/lang/invoke/MethodHandle" ∧ yX2_init.cls ≠ "java/lang/invoke/VarHandle" ∧ (parseMethodDescriptor yX2_init.desc).map (fun d => d.parameters.length) = some 0 := by decide +kernel
theorem hs_X8_init : yX8_init.cls ≠ "java/lang/invoke/MethodHandle" ∧ yX8_init.cls ≠ "java/lang/invoke/VarHandle" ∧ (parseMethodDescriptor yX8_init.desc).map (fun d => d.parameters.length) = some 0 := by decide +kernel
set_option maxRecDepth 20000 in
theorem in_X6_init_X1 : ∀ w ∈ wsX10, w ∈ wsX6_init := sub_r [61, 62] rfl
set_option maxRecDepth 20000 in
theorem in_X6_init_X2 : ∀ w ∈ wsX20, w ∈ wsX6_init := sub_r [53, 54, 55, 56, 57, 58, 59, 60] rfl
set_option maxRecDepth 20000 in
theorem in_X6_init_X6 : ∀ w ∈ wsX60, w ∈ wsX6_init := sub_r [50, 51, 52] rfl
set_option maxRecDepth 20000 in
theorem in_X6_init_X8 : ∀ w ∈ wsX80, w ∈ wsX6_init := sub_r [43, 44, 45, 46, 47, 48, 49] rfl
set_option maxHeartbeats 4000000 in
set_option maxRecDepth 100000 in
theorem c_X6_init (l : Launch) (D : va_G) (T : Nat → ClassId) (sz : Nat) (h0 : Nat)  : Met l yX6_init wsX6_init ({ frames := 2, cells := 16, slots := 228, locals := 40 }) (pW [.ref h0] D T [(h0, .inr (4, [.null, .null, .null]))] sz) (va_Qv (fun (u : Nat → Nat) => True) (bW D (va_A [(h0, .inr (4, [.null, .null, .null]))] sz) (fun (u : Nat → Nat) => [(h0, .inr (4, [.ref (u 0), .ref (u 1), .ref (u 9)])), ((u 0), .inr (5, [.int 0, .int 1, .int 1, .int 1, .int 2, .int 1, .int 1])), ((u 1), .inr (1, [.int 0, .ref (u 2), .ref (u 3), .ref (u 4), .ref (u 5), .ref (u 6), .ref (u 7), .ref (u 8)])), ((u 2), .inl (T 0, 24, .inl (fun _ => 0))), ((u 3), .inl (T 0, 24, .inl (fun _ => 0))), ((u 4), .inl (T 0, 24, .inl (fun _ => 0))), ((u 5), .inl (T 0, 24, .inl (fun _ => 0))), ((u 6), .inl (T 0, 24, .inl (fun _ => 0))), ((u 7), .inl (T 0, 24, .inl (fun _ => 0))), ((u 8), .inl (T 0, 24, .inl (fun _ => 0))), ((u 9), .inl (T 5, 3, .inr (.inr (.inr (.inr (va_up (va_up (va_up (fun _ => none) 0 (some (u 10))) 1 (some (u 11))) 2 (some (u 12)))))))), ((u 10), .inr (0, [.int 0, .ref (u 13)])), ((u 11), .inr (0, [.int 0, .ref (u 14)])), ((u 12), .inr (0, [.int 0, .ref (u 15)])), ((u 13), .inl (T 0, 12, .inl (fun _ => 0))), ((u 14), .inl (T 0, 12, .inl (fun _ => 0))), ((u 15), .inl (T 0, 12, .inl (fun _ => 0)))])) (va_A [(h0, .inr (4, [.null, .null, .null]))] sz)) 16 228 (va_A [(h0, .inr (4, [.null, .null, .null]))] sz) := by
  refine Met.ofW (cc := cX6_init) (maxL := 2) (ret := none) (by decide +kernel) rfl ?_
  intro p e s m args below meth c s₁ B hml hv
  obtain ⟨rfl, hsz, hP, hE, hD0⟩ := hv
  have hx := B.exec
  have hb := B.bytes
  have hr := B.returns
  have hts := atoms_spec (ws := wsX6_init) B.pre
  have hown : s.vm.findClass RX6 = some m.cls := findClass_of_methodNamed B.named
  have hlocks := B.notSynchronized
  have hin : meth.name = "<init>" := (name_of_methodNamed B.named B.method).1
  subst hsz
  have hD := hD0.self (sz := s.heap.size)
  generalize hAe : va_A [(h0, .inr (4, [.null, .null, .null]))] s.heap.size = A at hD ⊢
  have hA : ∀ q : Nat, s.heap.size ≤ q → A q := fun q h => by rw [← hAe]; exact Or.inr h
  have hS : va_S A s.heap s.heap [] := va_S.rf
  have hP : va_P D vwCl [(h0, .inr (4, [.null, .null, .null]))] s.heap := hP
  have hl := lv_entry ([.ref h0]) (n := 2) (Nat.le_of_ble_eq_true rfl)
  rw [lg_entry_eq]
  generalize (lg_sl ([.ref h0]) ++ List.replicate (2 - (lg_sl ([.ref h0])).length) Slot.unset).toArray = ls at hl ⊢
  have hl : lv_has ls 2 [(0, .ref h0)] := hl
  clear hD0
  refine lv_aload_n hx hb dX6_init_0 rfl (lv_at hl 0 rfl) ?_
  refine W.objInit hx hb hown (hts (.methodLink RX6 3 objectInit) (List.mem_of_getElem? (i := 1) rfl)) (hts (.instanceMethod objectInit) (List.mem_of_getElem? (i := 2) rfl)) (hts (.code objectInit ⟨#[0xb1]⟩ 1 none) (List.mem_of_getElem? (i := 3) rfl)) rfl (by rw [hml]; exact hl.1) rfl dX6_init_1 (Nat.le_of_ble_eq_true rfl) (Nat.le_of_ble_eq_true rfl) ?_
  refine W.eq (g2 := F0 m 4 ls []) rfl ?_
  refine lv_aload_n hx hb dX6_init_4 rfl (lv_at hl 0 rfl) ?_
  refine va_new (ci := 5) (fs := [.int 0, .int 0, .int 0, .int 0, .int 0, .int 0, .int 0]) (C := RX8) (T := TX8) (N := 7) hx hb hts in_X6_init_X8 tyX8 tyX8_ok hown (hts (.classLink RX6 9 RX8) (List.mem_of_getElem? (i := 4) rfl)) (hts (.instantiable RX8 7) (List.mem_of_getElem? (i := 5) rfl)) (hts (.initialized RX8) (List.mem_of_getElem? (i := 6) rfl)) hE.1 hP hD hS hA rfl (fun j hj => by rcases (show j = 0 ∨ j = 1 ∨ j = 2 ∨ j = 3 ∨ j = 4 ∨ j = 5 ∨ j = 6 by omega) with rfl | rfl | rfl | rfl | rfl | rfl | rfl <;> rfl) (Nat.le_of_ble_eq_true rfl) (Nat.le_of_ble_eq_true rfl) dX6_init_5 (fun q_1 H hP hD hS => ?_)
  obtain ⟨hP, hD⟩ := wPD [(h0, .inr (4, [.null, .null, .null])), (q_1, .inr (5, [.int 0, .int 0, .int 0, .int 0, .int 0, .int 0, .int 0]))] hP hD rfl
  refine W.widen (k := 1) (n := 7) (Nat.le_of_ble_eq_true rfl) (Nat.le_of_ble_eq_true rfl) ?_
  refine lv_dup hx hb dX6_init_8 rfl ?_
  have hFc := va_free (wc := [(q_1, .inr (5, [.int 0, .int 0, .int 0, .int 0, .int 0, .int 0, .int 0]))]) hD hS hA [1] rfl
  refine va_callv (va_runIN (As := []) (rest := [.ref q_1, .ref h0]) ⟨hx, hb, hml, hown, hts⟩ (c_X8_init l D T _ q_1) ⟨(va_cnB 0 hts gX6_init_X8_init_n11 rfl rfl rfl (hE.2.1 (RX6, 11, yX8_init) (List.mem_of_getElem? (i := 0) rfl)) (hts (.initialized RX8) (List.mem_of_getElem? (i := 6) rfl)) hs_X8_init ⟨Nat.le_of_ble_eq_true rfl, Nat.le_of_ble_eq_true rfl⟩), rfl, (hts (.instanceMethod yX8_init) (List.mem_of_getElem? (i := 16) rfl))⟩ (pW_S hP hE hD [1] (by decide +kernel) rfl rfl) rfl rfl hl.1 rfl (lv_room (Nat.le_of_ble_eq_true rfl)) dX6_init_9 ⟨Nat.le_of_ble_eq_true rfl, Nat.le_of_ble_eq_true rfl⟩) hS (fun q _ h => hFc q h) hFc (fun u_3 t H1 locs ht hvm hr_2 hB hz1 hk1 hS => ?_)
  obtain ⟨hP1, hD1⟩ := hB
  rw [ht] at hP1
  obtain ⟨hP, hD⟩ := va_repl [(h0, .inr (4, [.null, .null, .null])), (q_1, .inr (5, [.int 0, .int 1, .int 1, .int 1, .int 2, .int 1, .int 1]))] hP hD [1] [1] rfl (by decide +kernel) rfl rfl rfl hk1 hP1
  clear hP1 hD1 hFc
  generalize H1 = H at hP hS ⊢
  refine va_putF (D := D) (ci := 4) (v := .ref q_1) (ty := .object "ClauseBook$Lattice") (C := RX6) (T := TX6) (N := 3) hx hb hts in_X6_init_X6 tyX6 tyX6_ok nmX6 hown hE.1 hP hD hS 0 rfl rfl 0 (by decide +kernel) (hts (.fieldLink RX6 12 "ClauseBook$Kept" "lattice" "LClauseBook$Lattice;") (List.mem_of_getElem? (i := 7) rfl)) (fun _ h9 => h9) rfl hin rfl (by decide +kernel) rfl rfl (Nat.le_of_ble_eq_true rfl) dX6_init_12 (fun H locs hP hD hS => ?_)
  obtain ⟨hP, hD⟩ := wPD [(h0, .inr (4, [.ref q_1, .null, .null])), (q_1, .inr (5, [.int 0, .int 1, .int 1, .int 1, .int 2, .int 1, .int 1]))] hP hD rfl
  refine lv_aload_n hx hb dX6_init_15 rfl (lv_at hl 0 rfl) ?_
  refine va_new (ci := 1) (fs := [.int 0, .null, .null, .null, .null, .null, .null, .null]) (C := RX2) (T := TX2) (N := 8) hx hb hts in_X6_init_X2 tyX2 tyX2_ok hown (hts (.classLink RX6 18 RX2) (List.mem_of_getElem? (i := 8) rfl)) (hts (.instantiable RX2 8) (List.mem_of_getElem? (i := 9) rfl)) (hts (.initialized RX2) (List.mem_of_getElem? (i := 10) rfl)) hE.1 hP hD hS hA rfl (fun j hj => by rcases (show j = 0 ∨ j = 1 ∨ j = 2 ∨ j = 3 ∨ j = 4 ∨ j = 5 ∨ j = 6 ∨ j = 7 by omega) with rfl | rfl | rfl | rfl | rfl | rfl | rfl | rfl <;> rfl) (Nat.le_of_ble_eq_true rfl) (Nat.le_of_ble_eq_true rfl) dX6_init_16 (fun q_4 H hP hD hS => ?_)
  obtain ⟨hP, hD⟩ := wPD [(h0, .inr (4, [.ref q_1, .null, .null])), (q_1, .inr (5, [.int 0, .int 1, .int 1, .int 1, .int 2, .int 1, .int 1])), (q_4, .inr (1, [.int 0, .null, .null, .null, .null, .null, .null, .null]))] hP hD rfl
  refine W.widen (k := 2) (n := 15) (Nat.le_of_ble_eq_true rfl) (Nat.le_of_ble_eq_true rfl) ?_
  refine lv_dup hx hb dX6_init_19 rfl ?_
  have hFc := va_free (wc := [(q_4, .inr (1, [.int 0, .null, .null, .null, .null, .null, .null, .null]))]) hD hS hA [2] rfl
  refine va_callv (va_runIN (As := []) (rest := [.ref q_4, .ref h0]) ⟨hx, hb, hml, hown, hts⟩ (c_X2_init l D T _ q_4) ⟨(va_cnB 0 hts gX6_init_X2_init_n20 rfl rfl rfl (hE.2.1 (RX6, 20, yX2_init) (List.mem_of_getElem? (i := 1) rfl)) (hts (.initialized RX2) (List.mem_of_getElem? (i := 10) rfl)) hs_X2_init ⟨Nat.le_of_ble_eq_true rfl, Nat.le_of_ble_eq_true rfl⟩), rfl, (hts (.instanceMethod yX2_init) (List.mem_of_getElem? (i := 26) rfl))⟩ (pW_S hP hE hD [2] (by decide +kernel) rfl rfl) rfl rfl hl.1 rfl (lv_room (Nat.le_of_ble_eq_true rfl)) dX6_init_20 ⟨Nat.le_of_ble_eq_true rfl, Nat.le_of_ble_eq_true rfl⟩) hS (fun q _ h => hFc q h) hFc (fun u_6 t H1 locs ht hvm hr_5 hB hz1 hk1 hS => ?_)
  obtain ⟨hP1, hD1⟩ := hB
  rw [ht] at hP1
  obtain ⟨hP, hD⟩ := va_joinN [(h0, .inr (4, [.ref q_1, .null, .null])), (q_1, .inr (5, [.int 0, .int 1, .int 1, .int 1, .int 2, .int 1, .int 1])), (q_4, .inr (1, [.int 0, .ref (u_6 0), .ref (u_6 1), .ref (u_6 2), .ref (u_6 3), .ref (u_6 4), .ref (u_6 5), .ref (u_6 6)])), ((u_6 0), .inl (T 0, 24, .inl (fun _ => 0))), ((u_6 1), .inl (T 0, 24, .inl (fun _ => 0))), ((u_6 2), .inl (T 0, 24, .inl (fun _ => 0))), ((u_6 3), .inl (T 0, 24, .inl (fun _ => 0))), ((u_6 4), .inl (T 0, 24, .inl (fun _ => 0))), ((u_6 5), .inl (T 0, 24, .inl (fun _ => 0))), ((u_6 6), .inl (T 0, 24, .inl (fun _ => 0)))] hP hD [2] [0, 1] 3 rfl rfl rfl (by decide +kernel) hk1 hFc hP1 hD1
  clear hP1 hD1 hFc
  generalize H1 = H at hP hS ⊢
  refine W.widen (k := 9) (n := 183) (Nat.le_of_ble_eq_true rfl) (Nat.le_of_ble_eq_true rfl) ?_
  refine va_putF (D := D) (ci := 4) (v := .ref q_4) (ty := .object "ClauseBook$Clauses") (C := RX6) (T := TX6) (N := 3) hx hb hts in_X6_init_X6 tyX6 tyX6_ok nmX6 hown hE.1 hP hD hS 0 rfl rfl 1 (by decide +kernel) (hts (.fieldLink RX6 21 "ClauseBook$Kept" "clauses" "LClauseBook$Clauses;") (List.mem_of_getElem? (i := 11) rfl)) (fun _ h9 => h9) rfl hin rfl (by decide +kernel) rfl rfl (Nat.le_of_ble_eq_true rfl) dX6_init_23 (fun H locs hP hD hS => ?_)
  obtain ⟨hP, hD⟩ := wPD [(h0, .inr (4, [.ref q_1, .ref q_4, .null])), (q_1, .inr (5, [.int 0, .int 1, .int 1, .int 1, .int 2, .int 1, .int 1])), (q_4, .inr (1, [.int 0, .ref (u_6 0), .ref (u_6 1), .ref (u_6 2), .ref (u_6 3), .ref (u_6 4), .ref (u_6 5), .ref (u_6 6)])), ((u_6 0), .inl (T 0, 24, .inl (fun _ => 0))), ((u_6 1), .inl (T 0, 24, .inl (fun _ => 0))), ((u_6 2), .inl (T 0, 24, .inl (fun _ => 0))), ((u_6 3), .inl (T 0, 24, .inl (fun _ => 0))), ((u_6 4), .inl (T 0, 24, .inl (fun _ => 0))), ((u_6 5), .inl (T 0, 24, .inl (fun _ => 0))), ((u_6 6), .inl (T 0, 24, .inl (fun _ => 0)))] hP hD rfl
  refine lv_aload_n hx hb dX6_init_26 rfl (lv_at hl 0 rfl) ?_
  refine lv_iconst (v := 3) hx hb dX6_init_27 (by decide +kernel) ?_
  refine nw_newq (C := "ClauseBook$Bag") (N' := 3) hx hb hown (hts (.classLink RX6 25 RX1) (List.mem_of_getElem? (i := 12) rfl)) (hE.2.2.2 "ClauseBook$Bag" (List.mem_of_getElem? (i := 0) rfl)) hE.1 hP hD hS hA 5 rfl (by decide +kernel) (by decide +kernel) (Nat.le_of_ble_eq_true rfl) (Nat.le_of_ble_eq_true rfl) (Nat.le_of_ble_eq_true rfl) dX6_init_28 (fun q_7 H hP hD hS => ?_)
  obtain ⟨hP, hD⟩ := wPD [(h0, .inr (4, [.ref q_1, .ref q_4, .null])), (q_1, .inr (5, [.int 0, .int 1, .int 1, .int 1, .int 2, .int 1, .int 1])), (q_4, .inr (1, [.int 0, .ref (u_6 0), .ref (u_6 1), .ref (u_6 2), .ref (u_6 3), .ref (u_6 4), .ref (u_6 5), .ref (u_6 6)])), ((u_6 0), .inl (T 0, 24, .inl (fun _ => 0))), ((u_6 1), .inl (T 0, 24, .inl (fun _ => 0))), ((u_6 2), .inl (T 0, 24, .inl (fun _ => 0))), ((u_6 3), .inl (T 0, 24, .inl (fun _ => 0))), ((u_6 4), .inl (T 0, 24, .inl (fun _ => 0))), ((u_6 5), .inl (T 0, 24, .inl (fun _ => 0))), ((u_6 6), .inl (T 0, 24, .inl (fun _ => 0))), (q_7, .inl (T 5, 3, .inr (.inr (.inr (.inr (fun _ => none))))))] hP hD rfl
  refine W.widen (k := 10) (n := 186) (Nat.le_of_ble_eq_true rfl) (Nat.le_of_ble_eq_true rfl) ?_
  refine va_putF (D := D) (ci := 4) (v := .ref q_7) (ty := .array (.object "ClauseBook$Bag")) (C := RX6) (T := TX6) (N := 3) hx hb hts in_X6_init_X6 tyX6 tyX6_ok nmX6 hown hE.1 hP hD hS 0 rfl rfl 2 (by decide +kernel) (hts (.fieldLink RX6 27 "ClauseBook$Kept" "bags" "[LClauseBook$Bag;") (List.mem_of_getElem? (i := 13) rfl)) (fun _ h9 => h9) rfl hin rfl (by decide +kernel) rfl rfl (Nat.le_of_ble_eq_true rfl) dX6_init_31 (fun H locs hP hD hS => ?_)
  obtain ⟨hP, hD⟩ := wPD [(h0, .inr (4, [.ref q_1, .ref q_4, .ref q_7])), (q_1, .inr (5, [.int 0, .int 1, .int 1, .int 1, .int 2, .int 1, .int 1])), (q_4, .inr (1, [.int 0, .ref (u_6 0), .ref (u_6 1), .ref (u_6 2), .ref (u_6 3), .ref (u_6 4), .ref (u_6 5), .ref (u_6 6)])), ((u_6 0), .inl (T 0, 24, .inl (fun _ => 0))), ((u_6 1), .inl (T 0, 24, .inl (fun _ => 0))), ((u_6 2), .inl (T 0, 24, .inl (fun _ => 0))), ((u_6 3), .inl (T 0, 24, .inl (fun _ => 0))), ((u_6 4), .inl (T 0, 24, .inl (fun _ => 0))), ((u_6 5), .inl (T 0, 24, .inl (fun _ => 0))), ((u_6 6), .inl (T 0, 24, .inl (fun _ => 0))), (q_7, .inl (T 5, 3, .inr (.inr (.inr (.inr (fun _ => none))))))] hP hD rfl
  refine lv_iconst (v := 0) hx hb dX6_init_34 (by decide +kernel) ?_
  refine lv_istore_n (lv' := [(1, .int 0), (0, .ref h0)]) hx hb dX6_init_35 rfl hl (by decide +kernel) rfl (fun ls hl => ?_)
  refine lv_iload_n hx hb dX6_init_36 rfl (lv_at hl 0 rfl) ?_
  refine lv_iconst (v := 3) hx hb dX6_init_37 (by decide +kernel) ?_
  refine lv_icmp_ge (tgt := 60) hx hb dX6_init_38 (by decide +kernel) (fun c9 => absurd c9 (by decide +kernel)) (fun _ => ?_)
  refine lv_aload_n hx hb dX6_init_41 rfl (lv_at hl 1 rfl) ?_
  refine va_get (D := D) (ci := 4) (v := .ref q_7) (C := RX6) (T := TX6) (N := 3) hx hb hts in_X6_init_X6 hown hE.1 hP 0 rfl rfl 2 (by decide +kernel) (hts (.fieldLink RX6 27 "ClauseBook$Kept" "bags" "[LClauseBook$Bag;") (List.mem_of_getElem? (i := 13) rfl)) (fun _ h9 => h9) rfl dX6_init_42 ?_
  refine lv_iload_n hx hb dX6_init_45 rfl (lv_at hl 0 rfl) ?_
  refine va_new (ci := 0) (fs := [.int 0, .null]) (C := RX1) (T := TX1) (N := 2) hx hb hts in_X6_init_X1 tyX1 tyX1_ok hown (hts (.classLink RX6 25 RX1) (List.mem_of_getElem? (i := 12) rfl)) (hts (.instantiable RX1 2) (List.mem_of_getElem? (i := 14) rfl)) (hts (.initialized RX1) (List.mem_of_getElem? (i := 15) rfl)) hE.1 hP hD hS hA rfl (fun j hj => by rcases (show j = 0 ∨ j = 1 by omega) with rfl | rfl <;> rfl) (Nat.le_of_ble_eq_true rfl) (Nat.le_of_ble_eq_true rfl) dX6_init_46 (fun q_8 H hP hD hS => ?_)
  obtain ⟨hP, hD⟩ := wPD [(h0, .inr (4, [.ref q_1, .ref q_4, .ref q_7])), (q_1, .inr (5, [.int 0, .int 1, .int 1, .int 1, .int 2, .int 1, .int 1])), (q_4, .inr (1, [.int 0, .ref (u_6 0), .ref (u_6 1), .ref (u_6 2), .ref (u_6 3), .ref (u_6 4), .ref (u_6 5), .ref (u_6 6)])), ((u_6 0), .inl (T 0, 24, .inl (fun _ => 0))), ((u_6 1), .inl (T 0, 24, .inl (fun _ => 0))), ((u_6 2), .inl (T 0, 24, .inl (fun _ => 0))), ((u_6 3), .inl (T 0, 24, .inl (fun _ => 0))), ((u_6 4), .inl (T 0, 24, .inl (fun _ => 0))), ((u_6 5), .inl (T 0, 24, .inl (fun _ => 0))), ((u_6 6), .inl (T 0, 24, .inl (fun _ => 0))), (q_7, .inl (T 5, 3, .inr (.inr (.inr (.inr (fun _ => none)))))), (q_8, .inr (0, [.int 0, .null]))] hP hD rfl
  refine W.widen (k := 11) (n := 188) (Nat.le_of_ble_eq_true rfl) (Nat.le_of_ble_eq_true rfl) ?_
  refine lv_dup hx hb dX6_init_49 rfl ?_
  have hFc := va_free (wc := [(q_8, .inr (0, [.int 0, .null]))]) hD hS hA [11] rfl
  refine va_callv (va_runIN (As := []) (rest := [.ref q_8, .int 0, .ref q_7]) ⟨hx, hb, hml, hown, hts⟩ (c_X1_init l D T _ q_8) ⟨(va_cnB 0 hts gX6_init_X1_init_n31 rfl rfl rfl (hE.2.1 (RX6, 31, yX1_init) (List.mem_of_getElem? (i := 2) rfl)) (hts (.initialized RX1) (List.mem_of_getElem? (i := 15) rfl)) hs_X1_init ⟨Nat.le_of_ble_eq_true rfl, Nat.le_of_ble_eq_true rfl⟩), rfl, (hts (.instanceMethod yX1_init) (List.mem_of_getElem? (i := 38) rfl))⟩ (pW_S hP hE hD [11] (by decide +kernel) rfl rfl) rfl rfl hl.1 rfl (lv_room (Nat.le_of_ble_eq_true rfl)) dX6_init_50 ⟨Nat.le_of_ble_eq_true rfl, Nat.le_of_ble_eq_true rfl⟩) hS (fun q _ h => hFc q h) hFc (fun u_10 t H1 locs ht hvm hr_9 hB hz1 hk1 hS => ?_)
  obtain ⟨hP1, hD1⟩ := hB
  rw [ht] at hP1
  obtain ⟨hP, hD⟩ := va_joinN [(h0, .inr (4, [.ref q_1, .ref q_4, .ref q_7])), (q_1, .inr (5, [.int 0, .int 1, .int 1, .int 1, .int 2, .int 1, .int 1])), (q_4, .inr (1, [.int 0, .ref (u_6 0), .ref (u_6 1), .ref (u_6 2), .ref (u_6 3), .ref (u_6 4), .ref (u_6 5), .ref (u_6 6)])), ((u_6 0), .inl (T 0, 24, .inl (fun _ => 0))), ((u_6 1), .inl (T 0, 24, .inl (fun _ => 0))), ((u_6 2), .inl (T 0, 24, .inl (fun _ => 0))), ((u_6 3), .inl (T 0, 24, .inl (fun _ => 0))), ((u_6 4), .inl (T 0, 24, .inl (fun _ => 0))), ((u_6 5), .inl (T 0, 24, .inl (fun _ => 0))), ((u_6 6), .inl (T 0, 24, .inl (fun _ => 0))), (q_7, .inl (T 5, 3, .inr (.inr (.inr (.inr (fun _ => none)))))), (q_8, .inr (0, [.int 0, .ref (u_10 0)])), ((u_10 0), .inl (T 0, 12, .inl (fun _ => 0)))] hP hD [11] [0, 1, 2, 3, 4, 5, 6, 7, 8, 9, 10] 12 rfl rfl rfl (by decide +kernel) hk1 hFc hP1 hD1
  clear hP1 hD1 hFc
  generalize H1 = H at hP hS ⊢
  refine W.widen (k := 12) (n := 200) (Nat.le_of_ble_eq_true rfl) (Nat.le_of_ble_eq_true rfl) ?_
  refine va_astq hx hb hE.1 hP hD hS 10 5 11 0 rfl rfl rfl rfl (by unfold vp_in; decide) dX6_init_53 (fun H locs hP hD hS => ?_)
  obtain ⟨hP, hD⟩ := wPD [(h0, .inr (4, [.ref q_1, .ref q_4, .ref q_7])), (q_1, .inr (5, [.int 0, .int 1, .int 1, .int 1, .int 2, .int 1, .int 1])), (q_4, .inr (1, [.int 0, .ref (u_6 0), .ref (u_6 1), .ref (u_6 2), .ref (u_6 3), .ref (u_6 4), .ref (u_6 5), .ref (u_6 6)])), ((u_6 0), .inl (T 0, 24, .inl (fun _ => 0))), ((u_6 1), .inl (T 0, 24, .inl (fun _ => 0))), ((u_6 2), .inl (T 0, 24, .inl (fun _ => 0))), ((u_6 3), .inl (T 0, 24, .inl (fun _ => 0))), ((u_6 4), .inl (T 0, 24, .inl (fun _ => 0))), ((u_6 5), .inl (T 0, 24, .inl (fun _ => 0))), ((u_6 6), .inl (T 0, 24, .inl (fun _ => 0))), (q_7, .inl (T 5, 3, .inr (.inr (.inr (.inr (va_up (fun _ => none) 0 (some q_8))))))), (q_8, .inr (0, [.int 0, .ref (u_10 0)])), ((u_10 0), .inl (T 0, 12, .inl (fun _ => 0)))] hP hD rfl
  refine lv_iinc (v := 1) (lv' := [(1, .int 1), (0, .ref h0)]) hx hb dX6_init_54 hl (k := 0) rfl (by decide +kernel) (by decide +kernel) rfl (fun ls hl => ?_)
  refine lv_goto (tgt := 36) hx hb dX6_init_57 (by decide +kernel) ?_
  refine lv_iload_n hx hb dX6_init_36 rfl (lv_at hl 0 rfl) ?_
  refine lv_iconst (v := 3) hx hb dX6_init_37 (by decide +kernel) ?_
  refine lv_icmp_ge (tgt := 60) hx hb dX6_init_38 (by decide +kernel) (fun c9 => absurd c9 (by decide +kernel)) (fun _ => ?_)
  refine lv_aload_n hx hb dX6_init_41 rfl (lv_at hl 1 rfl) ?_
  refine va_get (D := D) (ci := 4) (v := .ref q_7) (C := RX6) (T := TX6) (N := 3) hx hb hts in_X6_init_X6 hown hE.1 hP 0 rfl rfl 2 (by decide +kernel) (hts (.fieldLink RX6 27 "ClauseBook$Kept" "bags" "[LClauseBook$Bag;") (List.mem_of_getElem? (i := 13) rfl)) (fun _ h9 => h9) rfl dX6_init_42 ?_
  refine lv_iload_n hx hb dX6_init_45 rfl (lv_at hl 0 rfl) ?_
  refine va_new (ci := 0) (fs := [.int 0, .null]) (C := RX1) (T := TX1) (N := 2) hx hb hts in_X6_init_X1 tyX1 tyX1_ok hown (hts (.classLink RX6 25 RX1) (List.mem_of_getElem? (i := 12) rfl)) (hts (.instantiable RX1 2) (List.mem_of_getElem? (i := 14) rfl)) (hts (.initialized RX1) (List.mem_of_getElem? (i := 15) rfl)) hE.1 hP hD hS hA rfl (fun j hj => by rcases (show j = 0 ∨ j = 1 by omega) with rfl | rfl <;> rfl) (Nat.le_of_ble_eq_true rfl) (Nat.le_of_ble_eq_true rfl) dX6_init_46 (fun q_11 H hP hD hS => ?_)
  obtain ⟨hP, hD⟩ := wPD [(h0, .inr (4, [.ref q_1, .ref q_4, .ref q_7])), (q_1, .inr (5, [.int 0, .int 1, .int 1, .int 1, .int 2, .int 1, .int 1])), (q_4, .inr (1, [.int 0, .ref (u_6 0), .ref (u_6 1), .ref (u_6 2), .ref (u_6 3), .ref (u_6 4), .ref (u_6 5), .ref (u_6 6)])), ((u_6 0), .inl (T 0, 24, .inl (fun _ => 0))), ((u_6 1), .inl (T 0, 24, .inl (fun _ => 0))), ((u_6 2), .inl (T 0, 24, .inl (fun _ => 0))), ((u_6 3), .inl (T 0, 24, .inl (fun _ => 0))), ((u_6 4), .inl (T 0, 24, .inl (fun _ => 0))), ((u_6 5), .inl (T 0, 24, .inl (fun _ => 0))), ((u_6 6), .inl (T 0, 24, .inl (fun _ => 0))), (q_7, .inl (T 5, 3, .inr (.inr (.inr (.inr (va_up (fun _ => none) 0 (some q_8))))))), (q_8, .inr (0, [.int 0, .ref (u_10 0)])), ((u_10 0), .inl (T 0, 12, .inl (fun _ => 0))), (q_11, .inr (0, [.int 0, .null]))] hP hD rfl
  refine W.widen (k := 13) (n := 202) (Nat.le_of_ble_eq_true rfl) (Nat.le_of_ble_eq_true rfl) ?_
  refine lv_dup hx hb dX6_init_49 rfl ?_
  have hFc := va_free (wc := [(q_11, .inr (0, [.int 0, .null]))]) hD hS hA [13] rfl
  refine va_callv (va_runIN (As := []) (rest := [.ref q_11, .int 1, .ref q_7]) ⟨hx, hb, hml, hown, hts⟩ (c_X1_init l D T _ q_11) ⟨(va_cnB 0 hts gX6_init_X1_init_n31 rfl rfl rfl (hE.2.1 (RX6, 31, yX1_init) (List.mem_of_getElem? (i := 2) rfl)) (hts (.initialized RX1) (List.mem_of_getElem? (i := 15) rfl)) hs_X1_init ⟨Nat.le_of_ble_eq_true rfl, Nat.le_of_ble_eq_true rfl⟩), rfl, (hts (.instanceMethod yX1_init) (List.mem_of_getElem? (i := 38) rfl))⟩ (pW_S hP hE hD [13] (by decide +kernel) rfl rfl) rfl rfl hl.1 rfl (lv_room (Nat.le_of_ble_eq_true rfl)) dX6_init_50 ⟨Nat.le_of_ble_eq_true rfl, Nat.le_of_ble_eq_true rfl⟩) hS (fun q _ h => hFc q h) hFc (fun u_13 t H1 locs ht hvm hr_12 hB hz1 hk1 hS => ?_)
  obtain ⟨hP1, hD1⟩ := hB
  rw [ht] at hP1
  obtain ⟨hP, hD⟩ := va_joinN [(h0, .inr (4, [.ref q_1, .ref q_4, .ref q_7])), (q_1, .inr (5, [.int 0, .int 1, .int 1, .int 1, .int 2, .int 1, .int 1])), (q_4, .inr (1, [.int 0, .ref (u_6 0), .ref (u_6 1), .ref (u_6 2), .ref (u_6 3), .ref (u_6 4), .ref (u_6 5), .ref (u_6 6)])), ((u_6 0), .inl (T 0, 24, .inl (fun _ => 0))), ((u_6 1), .inl (T 0, 24, .inl (fun _ => 0))), ((u_6 2), .inl (T 0, 24, .inl (fun _ => 0))), ((u_6 3), .inl (T 0, 24, .inl (fun _ => 0))), ((u_6 4), .inl (T 0, 24, .inl (fun _ => 0))), ((u_6 5), .inl (T 0, 24, .inl (fun _ => 0))), ((u_6 6), .inl (T 0, 24, .inl (fun _ => 0))), (q_7, .inl (T 5, 3, .inr (.inr (.inr (.inr (va_up (fun _ => none) 0 (some q_8))))))), (q_8, .inr (0, [.int 0, .ref (u_10 0)])), ((u_10 0), .inl (T 0, 12, .inl (fun _ => 0))), (q_11, .inr (0, [.int 0, .ref (u_13 0)])), ((u_13 0), .inl (T 0, 12, .inl (fun _ => 0)))] hP hD [13] [0, 1, 2, 3, 4, 5, 6, 7, 8, 9, 10, 11, 12] 14 rfl rfl rfl (by decide +kernel) hk1 hFc hP1 hD1
  clear hP1 hD1 hFc
  generalize H1 = H at hP hS ⊢
  refine W.widen (k := 14) (n := 214) (Nat.le_of_ble_eq_true rfl) (Nat.le_of_ble_eq_true rfl) ?_
  refine va_astq hx hb hE.1 hP hD hS 10 5 13 0 rfl rfl rfl rfl (by unfold vp_in; decide) dX6_init_53 (fun H locs hP hD hS => ?_)
  obtain ⟨hP, hD⟩ := wPD [(h0, .inr (4, [.ref q_1, .ref q_4, .ref q_7])), (q_1, .inr (5, [.int 0, .int 1, .int 1, .int 1, .int 2, .int 1, .int 1])), (q_4, .inr (1, [.int 0, .ref (u_6 0), .ref (u_6 1), .ref (u_6 2), .ref (u_6 3), .ref (u_6 4), .ref (u_6 5), .ref (u_6 6)])), ((u_6 0), .inl (T 0, 24, .inl (fun _ => 0))), ((u_6 1), .inl (T 0, 24, .inl (fun _ => 0))), ((u_6 2), .inl (T 0, 24, .inl (fun _ => 0))), ((u_6 3), .inl (T 0, 24, .inl (fun _ => 0))), ((u_6 4), .inl (T 0, 24, .inl (fun _ => 0))), ((u_6 5), .inl (T 0, 24, .inl (fun _ => 0))), ((u_6 6), .inl (T 0, 24, .inl (fun _ => 0))), (q_7, .inl (T 5, 3, .inr (.inr (.inr (.inr (va_up (va_up (fun _ => none) 0 (some q_8)) 1 (some q_11))))))), (q_8, .inr (0, [.int 0, .ref (u_10 0)])), ((u_10 0), .inl (T 0, 12, .inl (fun _ => 0))), (q_11, .inr (0, [.int 0, .ref (u_13 0)])), ((u_13 0), .inl (T 0, 12, .inl (fun _ => 0)))] hP hD rfl
  refine lv_iinc (v := 2) (lv' := [(1, .int 2), (0, .ref h0)]) hx hb dX6_init_54 hl (k := 0) rfl (by decide +kernel) (by decide +kernel) rfl (fun ls hl => ?_)
  refine lv_goto (tgt := 36) hx hb dX6_init_57 (by decide +kernel) ?_
  refine lv_iload_n hx hb dX6_init_36 rfl (lv_at hl 0 rfl) ?_
  refine lv_iconst (v := 3) hx hb dX6_init_37 (by decide +kernel) ?_
  refine lv_icmp_ge (tgt := 60) hx hb dX6_init_38 (by decide +kernel) (fun c9 => absurd c9 (by decide +kernel)) (fun _ => ?_)
  refine lv_aload_n hx hb dX6_init_41 rfl (lv_at hl 1 rfl) ?_
  refine va_get (D := D) (ci := 4) (v := .ref q_7) (C := RX6) (T := TX6) (N := 3) hx hb hts in_X6_init_X6 hown hE.1 hP 0 rfl rfl 2 (by decide +kernel) (hts (.fieldLink RX6 27 "ClauseBook$Kept" "bags" "[LClauseBook$Bag;") (List.mem_of_getElem? (i := 13) rfl)) (fun _ h9 => h9) rfl dX6_init_42 ?_
  refine lv_iload_n hx hb dX6_init_45 rfl (lv_at hl 0 rfl) ?_
  refine va_new (ci := 0) (fs := [.int 0, .null]) (C := RX1) (T := TX1) (N := 2) hx hb hts in_X6_init_X1 tyX1 tyX1_ok hown (hts (.classLink RX6 25 RX1) (List.mem_of_getElem? (i := 12) rfl)) (hts (.instantiable RX1 2) (List.mem_of_getElem? (i := 14) rfl)) (hts (.initialized RX1) (List.mem_of_getElem? (i := 15) rfl)) hE.1 hP hD hS hA rfl (fun j hj => by rcases (show j = 0 ∨ j = 1 by omega) with rfl | rfl <;> rfl) (Nat.le_of_ble_eq_true rfl) (Nat.le_of_ble_eq_true rfl) dX6_init_46 (fun q_14 H hP hD hS => ?_)
  obtain ⟨hP, hD⟩ := wPD [(h0, .inr (4, [.ref q_1, .ref q_4, .ref q_7])), (q_1, .inr (5, [.int 0, .int 1, .int 1, .int 1, .int 2, .int 1, .int 1])), (q_4, .inr (1, [.int 0, .ref (u_6 0), .ref (u_6 1), .ref (u_6 2), .ref (u_6 3), .ref (u_6 4), .ref (u_6 5), .ref (u_6 6)])), ((u_6 0), .inl (T 0, 24, .inl (fun _ => 0))), ((u_6 1), .inl (T 0, 24, .inl (fun _ => 0))), ((u_6 2), .inl (T 0, 24, .inl (fun _ => 0))), ((u_6 3), .inl (T 0, 24, .inl (fun _ => 0))), ((u_6 4), .inl (T 0, 24, .inl (fun _ => 0))), ((u_6 5), .inl (T 0, 24, .inl (fun _ => 0))), ((u_6 6), .inl (T 0, 24, .inl (fun _ => 0))), (q_7, .inl (T 5, 3, .inr (.inr (.inr (.inr (va_up (va_up (fun _ => none) 0 (some q_8)) 1 (some q_11))))))), (q_8, .inr (0, [.int 0, .ref (u_10 0)])), ((u_10 0), .inl (T 0, 12, .inl (fun _ => 0))), (q_11, .inr (0, [.int 0, .ref (u_13 0)])), ((u_13 0), .inl (T 0, 12, .inl (fun _ => 0))), (q_14, .inr (0, [.int 0, .null]))] hP hD rfl
  refine W.widen (k := 15) (n := 216) (Nat.le_of_ble_eq_true rfl) (Nat.le_of_ble_eq_true rfl) ?_
  refine lv_dup hx hb dX6_init_49 rfl ?_
  have hFc := va_free (wc := [(q_14, .inr (0, [.int 0, .null]))]) hD hS hA [15] rfl
  refine va_callv (va_runIN (As := []) (rest := [.ref q_14, .int 2, .ref q_7]) ⟨hx, hb, hml, hown, hts⟩ (c_X1_init l D T _ q_14) ⟨(va_cnB 0 hts gX6_init_X1_init_n31 rfl rfl rfl (hE.2.1 (RX6, 31, yX1_init) (List.mem_of_getElem? (i := 2) rfl)) (hts (.initialized RX1) (List.mem_of_getElem? (i := 15) rfl)) hs_X1_init ⟨Nat.le_of_ble_eq_true rfl, Nat.le_of_ble_eq_true rfl⟩), rfl, (hts (.instanceMethod yX1_init) (List.mem_of_getElem? (i := 38) rfl))⟩ (pW_S hP hE hD [15] (by decide +kernel) rfl rfl) rfl rfl hl.1 rfl (lv_room (Nat.le_of_ble_eq_true rfl)) dX6_init_50 ⟨Nat.le_of_ble_eq_true rfl, Nat.le_of_ble_eq_true rfl⟩) hS (fun q _ h => hFc q h) hFc (fun u_16 t H1 locs ht hvm hr_15 hB hz1 hk1 hS => ?_)
  obtain ⟨hP1, hD1⟩ := hB
  rw [ht] at hP1
  obtain ⟨hP, hD⟩ := va_joinN [(h0, .inr (4, [.ref q_1, .ref q_4, .ref q_7])), (q_1, .inr (5, [.int 0, .int 1, .int 1, .int 1, .int 2, .int 1, .int 1])), (q_4, .inr (1, [.int 0, .ref (u_6 0), .ref (u_6 1), .ref (u_6 2), .ref (u_6 3), .ref (u_6 4), .ref (u_6 5), .ref (u_6 6)])), ((u_6 0), .inl (T 0, 24, .inl (fun _ => 0))), ((u_6 1), .inl (T 0, 24, .inl (fun _ => 0))), ((u_6 2), .inl (T 0, 24, .inl (fun _ => 0))), ((u_6 3), .inl (T 0, 24, .inl (fun _ => 0))), ((u_6 4), .inl (T 0, 24, .inl (fun _ => 0))), ((u_6 5), .inl (T 0, 24, .inl (fun _ => 0))), ((u_6 6), .inl (T 0, 24, .inl (fun _ => 0))), (q_7, .inl (T 5, 3, .inr (.inr (.inr (.inr (va_up (va_up (fun _ => none) 0 (some q_8)) 1 (some q_11))))))), (q_8, .inr (0, [.int 0, .ref (u_10 0)])), ((u_10 0), .inl (T 0, 12, .inl (fun _ => 0))), (q_11, .inr (0, [.int 0, .ref (u_13 0)])), ((u_13 0), .inl (T 0, 12, .inl (fun _ => 0))), (q_14, .inr (0, [.int 0, .ref (u_16 0)])), ((u_16 0), .inl (T 0, 12, .inl (fun _ => 0)))] hP hD [15] [0, 1, 2, 3, 4, 5, 6, 7, 8, 9, 10, 11, 12, 13, 14] 16 rfl rfl rfl (by decide +kernel) hk1 hFc hP1 hD1
  clear hP1 hD1 hFc
  generalize H1 = H at hP hS ⊢
  refine W.widen (k := 16) (n := 228) (Nat.le_of_ble_eq_true rfl) (Nat.le_of_ble_eq_true rfl) ?_
  refine va_astq hx hb hE.1 hP hD hS 10 5 15 0 rfl rfl rfl rfl (by unfold vp_in; decide) dX6_init_53 (fun H locs hP hD hS => ?_)
  obtain ⟨hP, hD⟩ := wPD [(h0, .inr (4, [.ref q_1, .ref q_4, .ref q_7])), (q_1, .inr (5, [.int 0, .int 1, .int 1, .int 1, .int 2, .int 1, .int 1])), (q_4, .inr (1, [.int 0, .ref (u_6 0), .ref (u_6 1), .ref (u_6 2), .ref (u_6 3), .ref (u_6 4), .ref (u_6 5), .ref (u_6 6)])), ((u_6 0), .inl (T 0, 24, .inl (fun _ => 0))), ((u_6 1), .inl (T 0, 24, .inl (fun _ => 0))), ((u_6 2), .inl (T 0, 24, .inl (fun _ => 0))), ((u_6 3), .inl (T 0, 24, .inl (fun _ => 0))), ((u_6 4), .inl (T 0, 24, .inl (fun _ => 0))), ((u_6 5), .inl (T 0, 24, .inl (fun _ => 0))), ((u_6 6), .inl (T 0, 24, .inl (fun _ => 0))), (q_7, .inl (T 5, 3, .inr (.inr (.inr (.inr (va_up (va_up (va_up (fun _ => none) 0 (some q_8)) 1 (some q_11)) 2 (some q_14))))))), (q_8, .inr (0, [.int 0, .ref (u_10 0)])), ((u_10 0), .inl (T 0, 12, .inl (fun _ => 0))), (q_11, .inr (0, [.int 0, .ref (u_13 0)])), ((u_13 0), .inl (T 0, 12, .inl (fun _ => 0))), (q_14, .inr (0, [.int 0, .ref (u_16 0)])), ((u_16 0), .inl (T 0, 12, .inl (fun _ => 0)))] hP hD rfl
  refine lv_iinc (v := 3) (lv' := [(1, .int 3), (0, .ref h0)]) hx hb dX6_init_54 hl (k := 0) rfl (by decide +kernel) (by decide +kernel) rfl (fun ls hl => ?_)
  refine lv_goto (tgt := 36) hx hb dX6_init_57 (by decide +kernel) ?_
  refine lv_iload_n hx hb dX6_init_36 rfl (lv_at hl 0 rfl) ?_
  refine lv_iconst (v := 3) hx hb dX6_init_37 (by decide +kernel) ?_
  refine lv_icmp_ge (tgt := 60) hx hb dX6_init_38 (by decide +kernel) (fun _ => ?_) (fun c9 => absurd c9 (by decide +kernel))
  exact W.vret hx hb hr (fun t ht hW => ⟨⟨(fun k => [q_1, q_4, (u_6 0), (u_6 1), (u_6 2), (u_6 3), (u_6 4), (u_6 5), (u_6 6), q_7, q_8, q_11, q_14, (u_10 0), (u_13 0), (u_16 0)].getD k 0), rfl, trivial, by rw [ht]; exact hP.sub [0, 1, 2, 3, 4, 5, 6, 7, 8, 9, 10, 11, 13, 15, 12, 14, 16] rfl, hD.sub [0, 1, 2, 3, 4, 5, 6, 7, 8, 9, 10, 11, 13, 15, 12, 14, 16] (by decide +kernel) rfl⟩, hS.F ht⟩) hS.2.2 dX6_init_60
theorem dX11_init_0 : decode cX11_init 0 = .ok (.aload_n 0, 1) := by decide +kernel
theorem dX11_init_1 : decode cX11_init 1 = .ok (.invokespecial 5, 3) := by decide +kernel
theorem dX11_init_10 : decode cX11_init 10 = .ok (.putfield 11, 3) := by decide +kernel
theorem dX11_init_13 : decode cX11_init 13 = .ok (.aload_n 0, 1) := by decide +kernel
theorem dX11_init_14 : decode cX11_init 14 = .ok (.sipush 676, 3) := by decide +kernel
theorem dX11_init_17 : decode cX11_init 17 = .ok (.newarray .long, 2) := by decide +kernel
theorem dX11_init_19 : decode cX11_init 19 = .ok (.putfield 15, 3) := by decide +kernel
theorem dX11_init_22 : decode cX11_init 22 = .ok (.aload_n 0, 1) := by decide +kernel
theorem dX11_init_23 : decode cX11_init 23 = .ok (.sipush 672, 3) := by decide +kernel
theorem dX11_init_26 : decode cX11_init 26 = .ok (.newarray .int, 2) := by decide +kernel
theorem dX11_init_28 : decode cX11_init 28 = .ok (.putfield 18, 3) := by decide +kernel
theorem dX11_init_31 : decode cX11_init 31 = .ok (.aload_n 0, 1) := by decide +kernel
theorem dX11_init_32 : decode cX11_init 32 = .ok (.iconst 1, 1) := by decide +kernel
theorem dX11_init_33 : decode cX11_init 33 = .ok (.putfield 22, 3) := by decide +kernel
theorem dX11_init_36 : decode cX11_init 36 = .ok (.aload_n 0, 1) := by decide +kernel
theorem dX11_init_37 : decode cX11_init 37 = .ok (.aload_n 1, 1) := by decide +kernel
theorem dX11_init_38 : decode cX11_init 38 = .ok (.putfield 26, 3) := by decide +kernel
theorem dX11_init_4 : decode cX11_init 4 = .ok (.aload_n 0, 1) := by decide +kernel
theorem dX11_init_41 : decode cX11_init 41 = .ok (.aload_n 0, 1) := by decide +kernel
theorem dX11_init_42 : decode cX11_init 42 = .ok (.aload_n 2, 1) := by decide +kernel
theorem dX11_init_43 : decode cX11_init 43 = .ok (.putfield 30, 3) := by decide +kernel
theorem dX11_init_46 : decode cX11_init 46 = .ok (.return_, 1) := by decide +kernel
theorem dX11_init_5 : decode cX11_init 5 = .ok (.sipush 676, 3) := by decide +kernel
theorem dX11_init_8 : decode cX11_init 8 = .ok (.newarray .long, 2) := by decide +kernel
set_option maxRecDepth 20000 in
theorem in_X11_init_X11 : ∀ w ∈ wsX110, w ∈ wsX11_init := sub_r [12, 13, 14, 15, 16, 17] rfl
set_option maxHeartbeats 4000000 in
set_option maxRecDepth 100000 in
theorem c_X11_init (l : Launch) (D : va_G) (T : Nat → ClassId) (sz : Nat) (h0 : Nat) (o1 : Nat) (o2 : Nat)  : Met l yX11_init wsX11_init ({ frames := 1, cells := 3, slots := 2024, locals := 20 }) (pW [.ref h0, .ref o1, .ref o2] D T [(h0, .inr (8, [.null, .null, .null, .null, .null, .int 0]))] sz) (va_Qv (fun (u : Nat → Nat) => True) (bW D (va_A [(h0, .inr (8, [.null, .null, .null, .null, .null, .int 0]))] sz) (fun (u : Nat → Nat) => [(h0, .inr (8, [.ref o1, .ref o2, .ref (u 0), .ref (u 1), .ref (u 2), .int 1])), ((u 0), .inl (T 1, 676, .inr (.inl (fun _ => 0)))), ((u 1), .inl (T 1, 676, .inr (.inl (fun _ => 0)))), ((u 2), .inl (T 0, 672, .inl (fun _ => 0)))])) (va_A [(h0, .inr (8, [.null, .null, .null, .null, .null, .int 0]))] sz)) 3 2024 (va_A [(h0, .inr (8, [.null, .null, .null, .null, .null, .int 0]))] sz) := by
  refine Met.ofW (cc := cX11_init) (maxL := 3) (ret := none) (by decide +kernel) rfl ?_
  intro p e s m args below meth c s₁ B hml hv
  obtain ⟨rfl, hsz, hP, hE, hD0⟩ := hv
  have hx := B.exec
  have hb := B.bytes
  have hr := B.returns
  have hts := atoms_spec (ws := wsX11_init) B.pre
  have hown : s.vm.findClass RX11 = some m.cls := findClass_of_methodNamed B.named
  have hlocks := B.notSynchronized
  have hin : meth.name = "<init>" := (name_of_methodNamed B.named B.method).1
  subst hsz
  have hD := hD0.self (sz := s.heap.size)
  generalize hAe : va_A [(h0, .inr (8, [.null, .null, .null, .null, .null, .int 0]))] s.heap.size = A at hD ⊢
  have hA : ∀ q : Nat, s.heap.size ≤ q → A q := fun q h => by rw [← hAe]; exact Or.inr h
  have hS : va_S A s.heap s.heap [] := va_S.rf
  have hP : va_P D vwCl [(h0, .inr (8, [.null, .null, .null, .null, .null, .int 0]))] s.heap := hP
  have hl := lv_entry ([.ref h0, .ref o1, .ref o2]) (n := 3) (Nat.le_of_ble_eq_true rfl)
  rw [lg_entry_eq]
  generalize (lg_sl ([.ref h0, .ref o1, .ref o2]) ++ List.replicate (3 - (lg_sl ([.ref h0, .ref o1, .ref o2])).length) Slot.unset).toArray = ls at hl ⊢
  have hl : lv_has ls 3 [(0, .ref h0), (1, .ref o1), (2, .ref o2)] := hl
  clear hD0
  refine lv_aload_n hx hb dX11_init_0 rfl (lv_at hl 0 rfl) ?_
  refine W.objInit hx hb hown (hts (.methodLink RX11 5 objectInit) (List.mem_of_getElem? (i := 1) rfl)) (hts (.instanceMethod objectInit) (List.mem_of_getElem? (i := 2) rfl)) (hts (.code objectInit ⟨#[0xb1]⟩ 1 none) (List.mem_of_getElem? (i := 3) rfl)) rfl (by rw [hml]; exact hl.1) rfl dX11_init_1 (Nat.le_of_ble_eq_true rfl) (Nat.le_of_ble_eq_true rfl) ?_
  refine W.eq (g2 := F0 m 4 ls []) rfl ?_
  refine lv_aload_n hx hb dX11_init_4 rfl (lv_at hl 0 rfl) ?_
  refine lv_sipush (v := 676) hx hb dX11_init_5 (by decide +kernel) ?_
  refine nw_newa (atype := .long) (ty := .long) (a0 := (676, .inr (.inl (fun _ => 0)))) (N' := 676) hx hb (hts (.arrayClass .long) (List.mem_of_getElem? (i := 4) rfl)) rfl hE.1 hP hD hS hA 1 rfl (fun _ => by first | rfl | simp [vp_cell, arrV, defaultValue]) (by decide +kernel) (by decide +kernel) (Nat.le_of_ble_eq_true rfl) (Nat.le_of_ble_eq_true rfl) (Nat.le_of_ble_eq_true rfl) dX11_init_8 (fun q_1 H hP hD hS => ?_)
  obtain ⟨hP, hD⟩ := wPD [(h0, .inr (8, [.null, .null, .null, .null, .null, .int 0])), (q_1, .inl (T 1, 676, .inr (.inl (fun _ => 0))))] hP hD rfl
  refine W.widen (k := 1) (n := 676) (Nat.le_of_ble_eq_true rfl) (Nat.le_of_ble_eq_true rfl) ?_
  refine va_putF (D := D) (ci := 8) (v := .ref q_1) (ty := .array .long) (C := RX11) (T := TX11) (N := 6) hx hb hts in_X11_init_X11 tyX11 tyX11_ok nmX11 hown hE.1 hP hD hS 0 rfl rfl 2 (by decide +kernel) (hts (.fieldLink RX11 11 "ClauseBook$Worth" "above" "[J") (List.mem_of_getElem? (i := 5) rfl)) (fun _ h9 => h9) rfl hin rfl (by decide +kernel) rfl rfl (Nat.le_of_ble_eq_true rfl) dX11_init_10 (fun H locs hP hD hS => ?_)
  obtain ⟨hP, hD⟩ := wPD [(h0, .inr (8, [.null, .null, .ref q_1, .null, .null, .int 0])), (q_1, .inl (T 1, 676, .inr (.inl (fun _ => 0))))] hP hD rfl
  refine lv_aload_n hx hb dX11_init_13 rfl (lv_at hl 0 rfl) ?_
  refine lv_sipush (v := 676) hx hb dX11_init_14 (by decide +kernel) ?_
  refine nw_newa (atype := .long) (ty := .long) (a0 := (676, .inr (.inl (fun _ => 0)))) (N' := 676) hx hb (hts (.arrayClass .long) (List.mem_of_getElem? (i := 4) rfl)) rfl hE.1 hP hD hS hA 1 rfl (fun _ => by first | rfl | simp [vp_cell, arrV, defaultValue]) (by decide +kernel) (by decide +kernel) (Nat.le_of_ble_eq_true rfl) (Nat.le_of_ble_eq_true rfl) (Nat.le_of_ble_eq_true rfl) dX11_init_17 (fun q_2 H hP hD hS => ?_)
  obtain ⟨hP, hD⟩ := wPD [(h0, .inr (8, [.null, .null, .ref q_1, .null, .null, .int 0])), (q_1, .inl (T 1, 676, .inr (.inl (fun _ => 0)))), (q_2, .inl (T 1, 676, .inr (.inl (fun _ => 0))))] hP hD rfl
  refine W.widen (k := 2) (n := 1352) (Nat.le_of_ble_eq_true rfl) (Nat.le_of_ble_eq_true rfl) ?_
  refine va_putF (D := D) (ci := 8) (v := .ref q_2) (ty := .array .long) (C := RX11) (T := TX11) (N := 6) hx hb hts in_X11_init_X11 tyX11 tyX11_ok nmX11 hown hE.1 hP hD hS 0 rfl rfl 3 (by decide +kernel) (hts (.fieldLink RX11 15 "ClauseBook$Worth" "below" "[J") (List.mem_of_getElem? (i := 6) rfl)) (fun _ h9 => h9) rfl hin rfl (by decide +kernel) rfl rfl (Nat.le_of_ble_eq_true rfl) dX11_init_19 (fun H locs hP hD hS => ?_)
  obtain ⟨hP, hD⟩ := wPD [(h0, .inr (8, [.null, .null, .ref q_1, .ref q_2, .null, .int 0])), (q_1, .inl (T 1, 676, .inr (.inl (fun _ => 0)))), (q_2, .inl (T 1, 676, .inr (.inl (fun _ => 0))))] hP hD rfl
  refine lv_aload_n hx hb dX11_init_22 rfl (lv_at hl 0 rfl) ?_
  refine lv_sipush (v := 672) hx hb dX11_init_23 (by decide +kernel) ?_
  refine nw_newa (atype := .int) (ty := .int) (a0 := (672, .inl (fun _ => 0))) (N' := 672) hx hb (hts (.arrayClass .int) (List.mem_of_getElem? (i := 7) rfl)) rfl hE.1 hP hD hS hA 0 rfl (fun _ => by first | rfl | simp [vp_cell, arrV, defaultValue]) (by decide +kernel) (by decide +kernel) (Nat.le_of_ble_eq_true rfl) (Nat.le_of_ble_eq_true rfl) (Nat.le_of_ble_eq_true rfl) dX11_init_26 (fun q_3 H hP hD hS => ?_)
  obtain ⟨hP, hD⟩ := wPD [(h0, .inr (8, [.null, .null, .ref q_1, .ref q_2, .null, .int 0])), (q_1, .inl (T 1, 676, .inr (.inl (fun _ => 0)))), (q_2, .inl (T 1, 676, .inr (.inl (fun _ => 0)))), (q_3, .inl (T 0, 672, .inl (fun _ => 0)))] hP hD rfl
  refine W.widen (k := 3) (n := 2024) (Nat.le_of_ble_eq_true rfl) (Nat.le_of_ble_eq_true rfl) ?_
  refine va_putF (D := D) (ci := 8) (v := .ref q_3) (ty := .array .int) (C := RX11) (T := TX11) (N := 6) hx hb hts in_X11_init_X11 tyX11 tyX11_ok nmX11 hown hE.1 hP hD hS 0 rfl rfl 4 (by decide +kernel) (hts (.fieldLink RX11 18 "ClauseBook$Worth" "foundAt" "[I") (List.mem_of_getElem? (i := 8) rfl)) (fun _ h9 => h9) rfl hin rfl (by decide +kernel) rfl rfl (Nat.le_of_ble_eq_true rfl) dX11_init_28 (fun H locs hP hD hS => ?_)
  obtain ⟨hP, hD⟩ := wPD [(h0, .inr (8, [.null, .null, .ref q_1, .ref q_2, .ref q_3, .int 0])), (q_1, .inl (T 1, 676, .inr (.inl (fun _ => 0)))), (q_2, .inl (T 1, 676, .inr (.inl (fun _ => 0)))), (q_3, .inl (T 0, 672, .inl (fun _ => 0)))] hP hD rfl
  refine lv_aload_n hx hb dX11_init_31 rfl (lv_at hl 0 rfl) ?_
  refine lv_iconst (v := 1) hx hb dX11_init_32 (by decide +kernel) ?_
  refine va_put (D := D) (ci := 8) (v := .int 1) (ty := .int) (C := RX11) (T := TX11) (N := 6) hx hb hts in_X11_init_X11 tyX11 tyX11_ok nmX11 hown hE.1 hP hD hS 0 rfl rfl 5 (by decide +kernel) (hts (.fieldLink RX11 22 "ClauseBook$Worth" "age" "I") (List.mem_of_getElem? (i := 9) rfl)) (fun _ h9 => h9) rfl (by decide +kernel) rfl rfl (Nat.le_of_ble_eq_true rfl) dX11_init_33 (fun H locs hP hD hS => ?_)
  obtain ⟨hP, hD⟩ := wPD [(h0, .inr (8, [.null, .null, .ref q_1, .ref q_2, .ref q_3, .int 1])), (q_1, .inl (T 1, 676, .inr (.inl (fun _ => 0)))), (q_2, .inl (T 1, 676, .inr (.inl (fun _ => 0)))), (q_3, .inl (T 0, 672, .inl (fun _ => 0)))] hP hD rfl
  refine lv_aload_n hx hb dX11_init_36 rfl (lv_at hl 0 rfl) ?_
  refine lv_aload_n hx hb dX11_init_37 rfl (lv_at hl 1 rfl) ?_
  refine va_putF (D := D) (ci := 8) (v := .ref o1) (ty := .object "ClauseBook$Lattice") (C := RX11) (T := TX11) (N := 6) hx hb hts in_X11_init_X11 tyX11 tyX11_ok nmX11 hown hE.1 hP hD hS 0 rfl rfl 0 (by decide +kernel) (hts (.fieldLink RX11 26 "ClauseBook$Worth" "lattice" "LClauseBook$Lattice;") (List.mem_of_getElem? (i := 10) rfl)) (fun _ h9 => h9) rfl hin rfl (by decide +kernel) rfl rfl (Nat.le_of_ble_eq_true rfl) dX11_init_38 (fun H locs hP hD hS => ?_)
  obtain ⟨hP, hD⟩ := wPD [(h0, .inr (8, [.ref o1, .null, .ref q_1, .ref q_2, .ref q_3, .int 1])), (q_1, .inl (T 1, 676, .inr (.inl (fun _ => 0)))), (q_2, .inl (T 1, 676, .inr (.inl (fun _ => 0)))), (q_3, .inl (T 0, 672, .inl (fun _ => 0)))] hP hD rfl
  refine lv_aload_n hx hb dX11_init_41 rfl (lv_at hl 0 rfl) ?_
  refine lv_aload_n hx hb dX11_init_42 rfl (lv_at hl 2 rfl) ?_
  refine va_putF (D := D) (ci := 8) (v := .ref o2) (ty := .object "ClauseBook$Clauses") (C := RX11) (T := TX11) (N := 6) hx hb hts in_X11_init_X11 tyX11 tyX11_ok nmX11 hown hE.1 hP hD hS 0 rfl rfl 1 (by decide +kernel) (hts (.fieldLink RX11 30 "ClauseBook$Worth" "clauses" "LClauseBook$Clauses;") (List.mem_of_getElem? (i := 11) rfl)) (fun _ h9 => h9) rfl hin rfl (by decide +kernel) rfl rfl (Nat.le_of_ble_eq_true rfl) dX11_init_43 (fun H locs hP hD hS => ?_)
  obtain ⟨hP, hD⟩ := wPD [(h0, .inr (8, [.ref o1, .ref o2, .ref q_1, .ref q_2, .ref q_3, .int 1])), (q_1, .inl (T 1, 676, .inr (.inl (fun _ => 0)))), (q_2, .inl (T 1, 676, .inr (.inl (fun _ => 0)))), (q_3, .inl (T 0, 672, .inl (fun _ => 0)))] hP hD rfl
  exact W.vret hx hb hr (fun t ht hW => ⟨⟨(fun k => [q_1, q_2, q_3].getD k 0), rfl, trivial, by rw [ht]; exact hP.sub [0, 1, 2, 3] rfl, hD.sub [0, 1, 2, 3] (by decide +kernel) rfl⟩, hS.F ht⟩) hS.2.2 dX11_init_46
theorem dX3_init_0 : decode cX3_init 0 = .ok (.aload_n 0, 1) := by decide +kernel
theorem dX3_init_1 : decode cX3_init 1 = .ok (.invokespecial 3, 3) := by decide +kernel
theorem dX3_init_12 : decode cX3_init 12 = .ok (.aload_n 0, 1) := by decide +kernel
theorem dX3_init_13 : decode cX3_init 13 = .ok (.iconst 0, 1) := by decide +kernel
theorem dX3_init_14 : decode cX3_init 14 = .ok (.putfield 15, 3) := by decide +kernel
theorem dX3_init_17 : decode cX3_init 17 = .ok (.aload_n 0, 1) := by decide +kernel
theorem dX3_init_18 : decode cX3_init 18 = .ok (.iconst 0, 1) := by decide +kernel
theorem dX3_init_19 : decode cX3_init 19 = .ok (.putfield 19, 3) := by decide +kernel
theorem dX3_init_22 : decode cX3_init 22 = .ok (.aload_n 0, 1) := by decide +kernel
theorem dX3_init_23 : decode cX3_init 23 = .ok (.iconst 0, 1) := by decide +kernel
theorem dX3_init_24 : decode cX3_init 24 = .ok (.putfield 23, 3) := by decide +kernel
theorem dX3_init_27 : decode cX3_init 27 = .ok (.aload_n 0, 1) := by decide +kernel
theorem dX3_init_28 : decode cX3_init 28 = .ok (.aload_n 1, 1) := by decide +kernel
theorem dX3_init_29 : decode cX3_init 29 = .ok (.putfield 26, 3) := by decide +kernel
theorem dX3_init_32 : decode cX3_init 32 = .ok (.aload_n 0, 1) := by decide +kernel
theorem dX3_init_33 : decode cX3_init 33 = .ok (.aload_n 2, 1) := by decide +kernel
theorem dX3_init_34 : decode cX3_init 34 = .ok (.putfield 30, 3) := by decide +kernel
theorem dX3_init_37 : decode cX3_init 37 = .ok (.aload_n 0, 1) := by decide +kernel
theorem dX3_init_38 : decode cX3_init 38 = .ok (.aload_n 3, 1) := by decide +kernel
theorem dX3_init_39 : decode cX3_init 39 = .ok (.putfield 34, 3) := by decide +kernel
theorem dX3_init_4 : decode cX3_init 4 = .ok (.aload_n 0, 1) := by decide +kernel
theorem dX3_init_42 : decode cX3_init 42 = .ok (.return_, 1) := by decide +kernel
theorem dX3_init_5 : decode cX3_init 5 = .ok (.bipush 7, 2) := by decide +kernel
theorem dX3_init_7 : decode cX3_init 7 = .ok (.newarray .long, 2) := by decide +kernel
theorem dX3_init_9 : decode cX3_init 9 = .ok (.putfield 9, 3) := by decide +kernel
set_option maxRecDepth 20000 in
theorem in_X3_init_X3 : ∀ w ∈ wsX30, w ∈ wsX3_init := sub_r [12, 13, 14, 15, 16, 17, 18] rfl
set_option maxHeartbeats 4000000 in
set_option maxRecDepth 100000 in
theorem c_X3_init (l : Launch) (D : va_G) (T : Nat → ClassId) (sz : Nat) (h0 : Nat) (o1 : Nat) (o2 : Nat) (o3 : Nat)  : Met l yX3_init wsX3_init ({ frames := 1, cells := 1, slots := 7, locals := 20 }) (pW [.ref h0, .ref o1, .ref o2, .ref o3] D T [(h0, .inr (2, [.null, .null, .null, .null, .int 0, .int 0, .int 0]))] sz) (va_Qv (fun (u : Nat → Nat) => True) (bW D (va_A [(h0, .inr (2, [.null, .null, .null, .null, .int 0, .int 0, .int 0]))] sz) (fun (u : Nat → Nat) => [(h0, .inr (2, [.ref o1, .ref o2, .ref o3, .ref (u 0), .int 0, .int 0, .int 0])), ((u 0), .inl (T 1, 7, .inr (.inl (fun _ => 0))))])) (va_A [(h0, .inr (2, [.null, .null, .null, .null, .int 0, .int 0, .int 0]))] sz)) 1 7 (va_A [(h0, .inr (2, [.null, .null, .null, .null, .int 0, .int 0, .int 0]))] sz) := by
  refine Met.ofW (cc := cX3_init) (maxL := 4) (ret := none) (by decide +kernel) rfl ?_
  intro p e s m args below meth c s₁ B hml hv
  obtain ⟨rfl, hsz, hP, hE, hD0⟩ := hv
  have hx := B.exec
  have hb := B.bytes
  have hr := B.returns
  have hts := atoms_spec (ws := wsX3_init) B.pre
  have hown : s.vm.findClass RX3 = some m.cls := findClass_of_methodNamed B.named
  have hlocks := B.notSynchronized
  have hin : meth.name = "<init>" := (name_of_methodNamed B.named B.method).1
  subst hsz
  have hD := hD0.self (sz := s.heap.size)
  generalize hAe : va_A [(h0, .inr (2, [.null, .null, .null, .null, .int 0, .int 0, .int 0]))] s.heap.size = A at hD ⊢
  have hA : ∀ q : Nat, s.heap.size ≤ q → A q := fun q h => by rw [← hAe]; exact Or.inr h
  have hS : va_S A s.heap s.heap [] := va_S.rf
  have hP : va_P D vwCl [(h0, .inr (2, [.null, .null, .null, .null, .int 0, .int 0, .int 0]))] s.heap := hP
  have hl := lv_entry ([.ref h0, .ref o1, .ref o2, .ref o3]) (n := 4) (Nat.le_of_ble_eq_true rfl)
  rw [lg_entry_eq]
  generalize (lg_sl ([.ref h0, .ref o1, .ref o2, .ref o3]) ++ List.replicate (4 - (lg_sl ([.ref h0, .ref o1, .ref o2, .ref o3])).length) Slot.unset).toArray = ls at hl ⊢
  have hl : lv_has ls 4 [(0, .ref h0), (1, .ref o1), (2, .ref o2), (3, .ref o3)] := hl
  clear hD0
  refine lv_aload_n hx hb dX3_init_0 rfl (lv_at hl 0 rfl) ?_
  refine W.objInit hx hb hown (hts (.methodLink RX3 3 objectInit) (List.mem_of_getElem? (i := 1) rfl)) (hts (.instanceMethod objectInit) (List.mem_of_getElem? (i := 2) rfl)) (hts (.code objectInit ⟨#[0xb1]⟩ 1 none) (List.mem_of_getElem? (i := 3) rfl)) rfl (by rw [hml]; exact hl.1) rfl dX3_init_1 (Nat.le_of_ble_eq_true rfl) (Nat.le_of_ble_eq_true rfl) ?_
  refine W.eq (g2 := F0 m 4 ls []) rfl ?_
  refine lv_aload_n hx hb dX3_init_4 rfl (lv_at hl 0 rfl) ?_
  refine lv_bipush (v := 7) hx hb dX3_init_5 (by decide +kernel) ?_
  refine nw_newa (atype := .long) (ty := .long) (a0 := (7, .inr (.inl (fun _ => 0)))) (N' := 7) hx hb (hts (.arrayClass .long) (List.mem_of_getElem? (i := 4) rfl)) rfl hE.1 hP hD hS hA 1 rfl (fun _ => by first | rfl | simp [vp_cell, arrV, defaultValue]) (by decide +kernel) (by decide +kernel) (Nat.le_of_ble_eq_true rfl) (Nat.le_of_ble_eq_true rfl) (Nat.le_of_ble_eq_true rfl) dX3_init_7 (fun q_1 H hP hD hS => ?_)
  obtain ⟨hP, hD⟩ := wPD [(h0, .inr (2, [.null, .null, .null, .null, .int 0, .int 0, .int 0])), (q_1, .inl (T 1, 7, .inr (.inl (fun _ => 0))))] hP hD rfl
  refine W.widen (k := 1) (n := 7) (Nat.le_of_ble_eq_true rfl) (Nat.le_of_ble_eq_true rfl) ?_
  refine va_putF (D := D) (ci := 2) (v := .ref q_1) (ty := .array .long) (C := RX3) (T := TX3) (N := 7) hx hb hts in_X3_init_X3 tyX3 tyX3_ok nmX3 hown hE.1 hP hD hS 0 rfl rfl 3 (by decide +kernel) (hts (.fieldLink RX3 9 "ClauseBook$Falling" "on" "[J") (List.mem_of_getElem? (i := 5) rfl)) (fun _ h9 => h9) rfl hin rfl (by decide +kernel) rfl rfl (Nat.le_of_ble_eq_true rfl) dX3_init_9 (fun H locs hP hD hS => ?_)
  obtain ⟨hP, hD⟩ := wPD [(h0, .inr (2, [.null, .null, .null, .ref q_1, .int 0, .int 0, .int 0])), (q_1, .inl (T 1, 7, .inr (.inl (fun _ => 0))))] hP hD rfl
  refine lv_aload_n hx hb dX3_init_12 rfl (lv_at hl 0 rfl) ?_
  refine lv_iconst (v := 0) hx hb dX3_init_13 (by decide +kernel) ?_
  refine va_put (D := D) (ci := 2) (v := .int 0) (ty := .int) (C := RX3) (T := TX3) (N := 7) hx hb hts in_X3_init_X3 tyX3 tyX3_ok nmX3 hown hE.1 hP hD hS 0 rfl rfl 4 (by decide +kernel) (hts (.fieldLink RX3 15 "ClauseBook$Falling" "days" "I") (List.mem_of_getElem? (i := 6) rfl)) (fun _ h9 => h9) rfl (by decide +kernel) rfl rfl (Nat.le_of_ble_eq_true rfl) dX3_init_14 (fun H locs hP hD hS => ?_)
  obtain ⟨hP, hD⟩ := wPD [(h0, .inr (2, [.null, .null, .null, .ref q_1, .int 0, .int 0, .int 0])), (q_1, .inl (T 1, 7, .inr (.inl (fun _ => 0))))] hP hD rfl
  refine lv_aload_n hx hb dX3_init_17 rfl (lv_at hl 0 rfl) ?_
  refine lv_iconst (v := 0) hx hb dX3_init_18 (by decide +kernel) ?_
  refine va_put (D := D) (ci := 2) (v := .int 0) (ty := .boolean) (C := RX3) (T := TX3) (N := 7) hx hb hts in_X3_init_X3 tyX3 tyX3_ok nmX3 hown hE.1 hP hD hS 0 rfl rfl 5 (by decide +kernel) (hts (.fieldLink RX3 19 "ClauseBook$Falling" "much" "Z") (List.mem_of_getElem? (i := 7) rfl)) (fun _ h9 => h9) rfl (by decide +kernel) rfl rfl (Nat.le_of_ble_eq_true rfl) dX3_init_19 (fun H locs hP hD hS => ?_)
  obtain ⟨hP, hD⟩ := wPD [(h0, .inr (2, [.null, .null, .null, .ref q_1, .int 0, .int 0, .int 0])), (q_1, .inl (T 1, 7, .inr (.inl (fun _ => 0))))] hP hD rfl
  refine lv_aload_n hx hb dX3_init_22 rfl (lv_at hl 0 rfl) ?_
  refine lv_iconst (v := 0) hx hb dX3_init_23 (by decide +kernel) ?_
  refine va_put (D := D) (ci := 2) (v := .int 0) (ty := .int) (C := RX3) (T := TX3) (N := 7) hx hb hts in_X3_init_X3 tyX3 tyX3_ok nmX3 hown hE.1 hP hD hS 0 rfl rfl 6 (by decide +kernel) (hts (.fieldLink RX3 23 "ClauseBook$Falling" "path" "I") (List.mem_of_getElem? (i := 8) rfl)) (fun _ h9 => h9) rfl (by decide +kernel) rfl rfl (Nat.le_of_ble_eq_true rfl) dX3_init_24 (fun H locs hP hD hS => ?_)
  obtain ⟨hP, hD⟩ := wPD [(h0, .inr (2, [.null, .null, .null, .ref q_1, .int 0, .int 0, .int 0])), (q_1, .inl (T 1, 7, .inr (.inl (fun _ => 0))))] hP hD rfl
  refine lv_aload_n hx hb dX3_init_27 rfl (lv_at hl 0 rfl) ?_
  refine lv_aload_n hx hb dX3_init_28 rfl (lv_at hl 1 rfl) ?_
  refine va_putF (D := D) (ci := 2) (v := .ref o1) (ty := .object "ClauseBook$Lattice") (C := RX3) (T := TX3) (N := 7) hx hb hts in_X3_init_X3 tyX3 tyX3_ok nmX3 hown hE.1 hP hD hS 0 rfl rfl 0 (by decide +kernel) (hts (.fieldLink RX3 26 "ClauseBook$Falling" "lattice" "LClauseBook$Lattice;") (List.mem_of_getElem? (i := 9) rfl)) (fun _ h9 => h9) rfl hin rfl (by decide +kernel) rfl rfl (Nat.le_of_ble_eq_true rfl) dX3_init_29 (fun H locs hP hD hS => ?_)
  obtain ⟨hP, hD⟩ := wPD [(h0, .inr (2, [.ref o1, .null, .null, .ref q_1, .int 0, .int 0, .int 0])), (q_1, .inl (T 1, 7, .inr (.inl (fun _ => 0))))] hP hD rfl
  refine lv_aload_n hx hb dX3_init_32 rfl (lv_at hl 0 rfl) ?_
  refine lv_aload_n hx hb dX3_init_33 rfl (lv_at hl 2 rfl) ?_
  refine va_putF (D := D) (ci := 2) (v := .ref o2) (ty := .object "ClauseBook$Clauses") (C := RX3) (T := TX3) (N := 7) hx hb hts in_X3_init_X3 tyX3 tyX3_ok nmX3 hown hE.1 hP hD hS 0 rfl rfl 1 (by decide +kernel) (hts (.fieldLink RX3 30 "ClauseBook$Falling" "clauses" "LClauseBook$Clauses;") (List.mem_of_getElem? (i := 10) rfl)) (fun _ h9 => h9) rfl hin rfl (by decide +kernel) rfl rfl (Nat.le_of_ble_eq_true rfl) dX3_init_34 (fun H locs hP hD hS => ?_)
  obtain ⟨hP, hD⟩ := wPD [(h0, .inr (2, [.ref o1, .ref o2, .null, .ref q_1, .int 0, .int 0, .int 0])), (q_1, .inl (T 1, 7, .inr (.inl (fun _ => 0))))] hP hD rfl
  refine lv_aload_n hx hb dX3_init_37 rfl (lv_at hl 0 rfl) ?_
  refine lv_aload_n hx hb dX3_init_38 rfl (lv_at hl 3 rfl) ?_
  refine va_putF (D := D) (ci := 2) (v := .ref o3) (ty := .object "ClauseBook$Worth") (C := RX3) (T := TX3) (N := 7) hx hb hts in_X3_init_X3 tyX3 tyX3_ok nmX3 hown hE.1 hP hD hS 0 rfl rfl 2 (by decide +kernel) (hts (.fieldLink RX3 34 "ClauseBook$Falling" "worth" "LClauseBook$Worth;") (List.mem_of_getElem? (i := 11) rfl)) (fun _ h9 => h9) rfl hin rfl (by decide +kernel) rfl rfl (Nat.le_of_ble_eq_true rfl) dX3_init_39 (fun H locs hP hD hS => ?_)
  obtain ⟨hP, hD⟩ := wPD [(h0, .inr (2, [.ref o1, .ref o2, .ref o3, .ref q_1, .int 0, .int 0, .int 0])), (q_1, .inl (T 1, 7, .inr (.inl (fun _ => 0))))] hP hD rfl
  exact W.vret hx hb hr (fun t ht hW => ⟨⟨(fun k => [q_1].getD k 0), rfl, trivial, by rw [ht]; exact hP.sub [0, 1] rfl, hD.sub [0, 1] (by decide +kernel) rfl⟩, hS.F ht⟩) hS.2.2 dX3_init_42
theorem dX10_init_0 : decode cX10_init 0 = .ok (.aload_n 0, 1) := by decide +kernel
theorem dX10_init_1 : decode cX10_init 1 = .ok (.invokespecial 3, 3) := by decide +kernel
theorem dX10_init_10 : decode cX10_init 10 = .ok (.bipush 120, 2) := by decide +kernel
theorem dX10_init_12 : decode cX10_init 12 = .ok (.newarray .int, 2) := by decide +kernel
theorem dX10_init_14 : decode cX10_init 14 = .ok (.putfield 15, 3) := by decide +kernel
theorem dX10_init_17 : decode cX10_init 17 = .ok (.aload_n 0, 1) := by decide +kernel
theorem dX10_init_18 : decode cX10_init 18 = .ok (.bipush 24, 2) := by decide +kernel
theorem dX10_init_20 : decode cX10_init 20 = .ok (.newarray .int, 2) := by decide +kernel
theorem dX10_init_22 : decode cX10_init 22 = .ok (.putfield 19, 3) := by decide +kernel
theorem dX10_init_25 : decode cX10_init 25 = .ok (.aload_n 0, 1) := by decide +kernel
theorem dX10_init_26 : decode cX10_init 26 = .ok (.bipush 24, 2) := by decide +kernel
theorem dX10_init_28 : decode cX10_init 28 = .ok (.newarray .int, 2) := by decide +kernel
theorem dX10_init_30 : decode cX10_init 30 = .ok (.putfield 22, 3) := by decide +kernel
theorem dX10_init_33 : decode cX10_init 33 = .ok (.aload_n 0, 1) := by decide +kernel
theorem dX10_init_34 : decode cX10_init 34 = .ok (.iconst 0, 1) := by decide +kernel
theorem dX10_init_35 : decode cX10_init 35 = .ok (.putfield 25, 3) := by decide +kernel
theorem dX10_init_38 : decode cX10_init 38 = .ok (.aload_n 0, 1) := by decide +kernel
theorem dX10_init_39 : decode cX10_init 39 = .ok (.iconst 0, 1) := by decide +kernel
theorem dX10_init_4 : decode cX10_init 4 = .ok (.aload_n 0, 1) := by decide +kernel
theorem dX10_init_40 : decode cX10_init 40 = .ok (.putfield 28, 3) := by decide +kernel
theorem dX10_init_43 : decode cX10_init 43 = .ok (.aload_n 0, 1) := by decide +kernel
theorem dX10_init_44 : decode cX10_init 44 = .ok (.iconst 0, 1) := by decide +kernel
theorem dX10_init_45 : decode cX10_init 45 = .ok (.putfield 31, 3) := by decide +kernel
theorem dX10_init_48 : decode cX10_init 48 = .ok (.return_, 1) := by decide +kernel
theorem dX10_init_5 : decode cX10_init 5 = .ok (.iconst 0, 1) := by decide +kernel
theorem dX10_init_6 : decode cX10_init 6 = .ok (.putfield 9, 3) := by decide +kernel
theorem dX10_init_9 : decode cX10_init 9 = .ok (.aload_n 0, 1) := by decide +kernel
set_option maxRecDepth 20000 in
theorem in_X10_init_X10 : ∀ w ∈ wsX100, w ∈ wsX10_init := sub_r [12, 13, 14, 15, 16, 17, 18] rfl
set_option maxHeartbeats 4000000 in
set_option maxRecDepth 100000 in
theorem c_X10_init (l : Launch) (D : va_G) (T : Nat → ClassId) (sz : Nat) (h0 : Nat)  : Met l yX10_init wsX10_init ({ frames := 1, cells := 3, slots := 168, locals := 20 }) (pW [.ref h0] D T [(h0, .inr (7, [.int 0, .null, .null, .null, .int 0, .int 0, .int 0]))] sz) (va_Qv (fun (u : Nat → Nat) => True) (bW D (va_A [(h0, .inr (7, [.int 0, .null, .null, .null, .int 0, .int 0, .int 0]))] sz) (fun (u : Nat → Nat) => [(h0, .inr (7, [.int 0, .ref (u 0), .ref (u 1), .ref (u 2), .int 0, .int 0, .int 0])), ((u 0), .inl (T 0, 120, .inl (fun _ => 0))), ((u 1), .inl (T 0, 24, .inl (fun _ => 0))), ((u 2), .inl (T 0, 24, .inl (fun _ => 0)))])) (va_A [(h0, .inr (7, [.int 0, .null, .null, .null, .int 0, .int 0, .int 0]))] sz)) 3 168 (va_A [(h0, .inr (7, [.int 0, .null, .null, .null, .int 0, .int 0, .int 0]))] sz) := by
  refine Met.ofW (cc := cX10_init) (maxL := 1) (ret := none) (by decide +kernel) rfl ?_
  intro p e s m args below meth c s₁ B hml hv
  obtain ⟨rfl, hsz, hP, hE, hD0⟩ := hv
  have hx := B.exec
  have hb := B.bytes
  have hr := B.returns
  have hts := atoms_spec (ws := wsX10_init) B.pre
  have hown : s.vm.findClass RX10 = some m.cls := findClass_of_methodNamed B.named
  have hlocks := B.notSynchronized
  have hin : meth.name = "<init>" := (name_of_methodNamed B.named B.method).1
  subst hsz
  have hD := hD0.self (sz := s.heap.size)
  generalize hAe : va_A [(h0, .inr (7, [.int 0, .null, .null, .null, .int 0, .int 0, .int 0]))] s.heap.size = A at hD ⊢
  have hA : ∀ q : Nat, s.heap.size ≤ q → A q := fun q h => by rw [← hAe]; exact Or.inr h
  have hS : va_S A s.heap s.heap [] := va_S.rf
  have hP : va_P D vwCl [(h0, .inr (7, [.int 0, .null, .null, .null, .int 0, .int 0, .int 0]))] s.heap := hP
  have hl := lv_entry ([.ref h0]) (n := 1) (Nat.le_of_ble_eq_true rfl)
  rw [lg_entry_eq]
  generalize (lg_sl ([.ref h0]) ++ List.replicate (1 - (lg_sl ([.ref h0])).length) Slot.unset).toArray = ls at hl ⊢
  have hl : lv_has ls 1 [(0, .ref h0)] := hl
  clear hD0
  refine lv_aload_n hx hb dX10_init_0 rfl (lv_at hl 0 rfl) ?_
  refine W.objInit hx hb hown (hts (.methodLink RX10 3 objectInit) (List.mem_of_getElem? (i := 1) rfl)) (hts (.instanceMethod objectInit) (List.mem_of_getElem? (i := 2) rfl)) (hts (.code objectInit ⟨#[0xb1]⟩ 1 none) (List.mem_of_getElem? (i := 3) rfl)) rfl (by rw [hml]; exact hl.1) rfl dX10_init_1 (Nat.le_of_ble_eq_true rfl) (Nat.le_of_ble_eq_true rfl) ?_
  refine W.eq (g2 := F0 m 4 ls []) rfl ?_
  refine lv_aload_n hx hb dX10_init_4 rfl (lv_at hl 0 rfl) ?_
  refine lv_iconst (v := 0) hx hb dX10_init_5 (by decide +kernel) ?_
  refine va_put (D := D) (ci := 7) (v := .int 0) (ty := .int) (C := RX10) (T := TX10) (N := 7) hx hb hts in_X10_init_X10 tyX10 tyX10_ok nmX10 hown hE.1 hP hD hS 0 rfl rfl 0 (by decide +kernel) (hts (.fieldLink RX10 9 "ClauseBook$Tape" "size" "I") (List.mem_of_getElem? (i := 4) rfl)) (fun _ h9 => h9) rfl (by decide +kernel) rfl rfl (Nat.le_of_ble_eq_true rfl) dX10_init_6 (fun H locs hP hD hS => ?_)
  obtain ⟨hP, hD⟩ := wPD [(h0, .inr (7, [.int 0, .null, .null, .null, .int 0, .int 0, .int 0]))] hP hD rfl
  refine lv_aload_n hx hb dX10_init_9 rfl (lv_at hl 0 rfl) ?_
  refine lv_bipush (v := 120) hx hb dX10_init_10 (by decide +kernel) ?_
  refine nw_newa (atype := .int) (ty := .int) (a0 := (120, .inl (fun _ => 0))) (N' := 120) hx hb (hts (.arrayClass .int) (List.mem_of_getElem? (i := 5) rfl)) rfl hE.1 hP hD hS hA 0 rfl (fun _ => by first | rfl | simp [vp_cell, arrV, defaultValue]) (by decide +kernel) (by decide +kernel) (Nat.le_of_ble_eq_true rfl) (Nat.le_of_ble_eq_true rfl) (Nat.le_of_ble_eq_true rfl) dX10_init_12 (fun q_1 H hP hD hS => ?_)
  obtain ⟨hP, hD⟩ := wPD [(h0, .inr (7, [.int 0, .null, .null, .null, .int 0, .int 0, .int 0])), (q_1, .inl (T 0, 120, .inl (fun _ => 0)))] hP hD rfl
  refine W.widen (k := 1) (n := 120) (Nat.le_of_ble_eq_true rfl) (Nat.le_of_ble_eq_true rfl) ?_
  refine va_putF (D := D) (ci := 7) (v := .ref q_1) (ty := .array .int) (C := RX10) (T := TX10) (N := 7) hx hb hts in_X10_init_X10 tyX10 tyX10_ok nmX10 hown hE.1 hP hD hS 0 rfl rfl 1 (by decide +kernel) (hts (.fieldLink RX10 15 "ClauseBook$Tape" "bytes" "[I") (List.mem_of_getElem? (i := 6) rfl)) (fun _ h9 => h9) rfl hin rfl (by decide +kernel) rfl rfl (Nat.le_of_ble_eq_true rfl) dX10_init_14 (fun H locs hP hD hS => ?_)
  obtain ⟨hP, hD⟩ := wPD [(h0, .inr (7, [.int 0, .ref q_1, .null, .null, .int 0, .int 0, .int 0])), (q_1, .inl (T 0, 120, .inl (fun _ => 0)))] hP hD rfl
  refine lv_aload_n hx hb dX10_init_17 rfl (lv_at hl 0 rfl) ?_
  refine lv_bipush (v := 24) hx hb dX10_init_18 (by decide +kernel) ?_
  refine nw_newa (atype := .int) (ty := .int) (a0 := (24, .inl (fun _ => 0))) (N' := 24) hx hb (hts (.arrayClass .int) (List.mem_of_getElem? (i := 5) rfl)) rfl hE.1 hP hD hS hA 0 rfl (fun _ => by first | rfl | simp [vp_cell, arrV, defaultValue]) (by decide +kernel) (by decide +kernel) (Nat.le_of_ble_eq_true rfl) (Nat.le_of_ble_eq_true rfl) (Nat.le_of_ble_eq_true rfl) dX10_init_20 (fun q_2 H hP hD hS => ?_)
  obtain ⟨hP, hD⟩ := wPD [(h0, .inr (7, [.int 0, .ref q_1, .null, .null, .int 0, .int 0, .int 0])), (q_1, .inl (T 0, 120, .inl (fun _ => 0))), (q_2, .inl (T 0, 24, .inl (fun _ => 0)))] hP hD rfl
  refine W.widen (k := 2) (n := 144) (Nat.le_of_ble_eq_true rfl) (Nat.le_of_ble_eq_true rfl) ?_
  refine va_putF (D := D) (ci := 7) (v := .ref q_2) (ty := .array .int) (C := RX10) (T := TX10) (N := 7) hx hb hts in_X10_init_X10 tyX10 tyX10_ok nmX10 hown hE.1 hP hD hS 0 rfl rfl 2 (by decide +kernel) (hts (.fieldLink RX10 19 "ClauseBook$Tape" "kinds" "[I") (List.mem_of_getElem? (i := 7) rfl)) (fun _ h9 => h9) rfl hin rfl (by decide +kernel) rfl rfl (Nat.le_of_ble_eq_true rfl) dX10_init_22 (fun H locs hP hD hS => ?_)
  obtain ⟨hP, hD⟩ := wPD [(h0, .inr (7, [.int 0, .ref q_1, .ref q_2, .null, .int 0, .int 0, .int 0])), (q_1, .inl (T 0, 120, .inl (fun _ => 0))), (q_2, .inl (T 0, 24, .inl (fun _ => 0)))] hP hD rfl
  refine lv_aload_n hx hb dX10_init_25 rfl (lv_at hl 0 rfl) ?_
  refine lv_bipush (v := 24) hx hb dX10_init_26 (by decide +kernel) ?_
  refine nw_newa (atype := .int) (ty := .int) (a0 := (24, .inl (fun _ => 0))) (N' := 24) hx hb (hts (.arrayClass .int) (List.mem_of_getElem? (i := 5) rfl)) rfl hE.1 hP hD hS hA 0 rfl (fun _ => by first | rfl | simp [vp_cell, arrV, defaultValue]) (by decide +kernel) (by decide +kernel) (Nat.le_of_ble_eq_true rfl) (Nat.le_of_ble_eq_true rfl) (Nat.le_of_ble_eq_true rfl) dX10_init_28 (fun q_3 H hP hD hS => ?_)
  obtain ⟨hP, hD⟩ := wPD [(h0, .inr (7, [.int 0, .ref q_1, .ref q_2, .null, .int 0, .int 0, .int 0])), (q_1, .inl (T 0, 120, .inl (fun _ => 0))), (q_2, .inl (T 0, 24, .inl (fun _ => 0))), (q_3, .inl (T 0, 24, .inl (fun _ => 0)))] hP hD rfl
  refine W.widen (k := 3) (n := 168) (Nat.le_of_ble_eq_true rfl) (Nat.le_of_ble_eq_true rfl) ?_
  refine va_putF (D := D) (ci := 7) (v := .ref q_3) (ty := .array .int) (C := RX10) (T := TX10) (N := 7) hx hb hts in_X10_init_X10 tyX10 tyX10_ok nmX10 hown hE.1 hP hD hS 0 rfl rfl 3 (by decide +kernel) (hts (.fieldLink RX10 22 "ClauseBook$Tape" "numbers" "[I") (List.mem_of_getElem? (i := 8) rfl)) (fun _ h9 => h9) rfl hin rfl (by decide +kernel) rfl rfl (Nat.le_of_ble_eq_true rfl) dX10_init_30 (fun H locs hP hD hS => ?_)
  obtain ⟨hP, hD⟩ := wPD [(h0, .inr (7, [.int 0, .ref q_1, .ref q_2, .ref q_3, .int 0, .int 0, .int 0])), (q_1, .inl (T 0, 120, .inl (fun _ => 0))), (q_2, .inl (T 0, 24, .inl (fun _ => 0))), (q_3, .inl (T 0, 24, .inl (fun _ => 0)))] hP hD rfl
  refine lv_aload_n hx hb dX10_init_33 rfl (lv_at hl 0 rfl) ?_
  refine lv_iconst (v := 0) hx hb dX10_init_34 (by decide +kernel) ?_
  refine va_put (D := D) (ci := 7) (v := .int 0) (ty := .int) (C := RX10) (T := TX10) (N := 7) hx hb hts in_X10_init_X10 tyX10 tyX10_ok nmX10 hown hE.1 hP hD hS 0 rfl rfl 4 (by decide +kernel) (hts (.fieldLink RX10 25 "ClauseBook$Tape" "words" "I") (List.mem_of_getElem? (i := 9) rfl)) (fun _ h9 => h9) rfl (by decide +kernel) rfl rfl (Nat.le_of_ble_eq_true rfl) dX10_init_35 (fun H locs hP hD hS => ?_)
  obtain ⟨hP, hD⟩ := wPD [(h0, .inr (7, [.int 0, .ref q_1, .ref q_2, .ref q_3, .int 0, .int 0, .int 0])), (q_1, .inl (T 0, 120, .inl (fun _ => 0))), (q_2, .inl (T 0, 24, .inl (fun _ => 0))), (q_3, .inl (T 0, 24, .inl (fun _ => 0)))] hP hD rfl
  refine lv_aload_n hx hb dX10_init_38 rfl (lv_at hl 0 rfl) ?_
  refine lv_iconst (v := 0) hx hb dX10_init_39 (by decide +kernel) ?_
  refine va_put (D := D) (ci := 7) (v := .int 0) (ty := .int) (C := RX10) (T := TX10) (N := 7) hx hb hts in_X10_init_X10 tyX10 tyX10_ok nmX10 hown hE.1 hP hD hS 0 rfl rfl 5 (by decide +kernel) (hts (.fieldLink RX10 28 "ClauseBook$Tape" "next" "I") (List.mem_of_getElem? (i := 10) rfl)) (fun _ h9 => h9) rfl (by decide +kernel) rfl rfl (Nat.le_of_ble_eq_true rfl) dX10_init_40 (fun H locs hP hD hS => ?_)
  obtain ⟨hP, hD⟩ := wPD [(h0, .inr (7, [.int 0, .ref q_1, .ref q_2, .ref q_3, .int 0, .int 0, .int 0])), (q_1, .inl (T 0, 120, .inl (fun _ => 0))), (q_2, .inl (T 0, 24, .inl (fun _ => 0))), (q_3, .inl (T 0, 24, .inl (fun _ => 0)))] hP hD rfl
  refine lv_aload_n hx hb dX10_init_43 rfl (lv_at hl 0 rfl) ?_
  refine lv_iconst (v := 0) hx hb dX10_init_44 (by decide +kernel) ?_
  refine va_put (D := D) (ci := 7) (v := .int 0) (ty := .int) (C := RX10) (T := TX10) (N := 7) hx hb hts in_X10_init_X10 tyX10 tyX10_ok nmX10 hown hE.1 hP hD hS 0 rfl rfl 6 (by decide +kernel) (hts (.fieldLink RX10 31 "ClauseBook$Tape" "number" "I") (List.mem_of_getElem? (i := 11) rfl)) (fun _ h9 => h9) rfl (by decide +kernel) rfl rfl (Nat.le_of_ble_eq_true rfl) dX10_init_45 (fun H locs hP hD hS => ?_)
  obtain ⟨hP, hD⟩ := wPD [(h0, .inr (7, [.int 0, .ref q_1, .ref q_2, .ref q_3, .int 0, .int 0, .int 0])), (q_1, .inl (T 0, 120, .inl (fun _ => 0))), (q_2, .inl (T 0, 24, .inl (fun _ => 0))), (q_3, .inl (T 0, 24, .inl (fun _ => 0)))] hP hD rfl
  exact W.vret hx hb hr (fun t ht hW => ⟨⟨(fun k => [q_1, q_2, q_3].getD k 0), rfl, trivial, by rw [ht]; exact hP.sub [0, 1, 2, 3] rfl, hD.sub [0, 1, 2, 3] (by decide +kernel) rfl⟩, hS.F ht⟩) hS.2.2 dX10_init_48
theorem dX9_init_0 : decode cX9_init 0 = .ok (.aload_n 0, 1) := by decide +kernel
theorem dX9_init_1 : decode cX9_init 1 = .ok (.invokespecial 3, 3) := by decide +kernel
theorem dX9_init_10 : decode cX9_init 10 = .ok (.iconst 0, 1) := by decide +kernel
theorem dX9_init_11 : decode cX9_init 11 = .ok (.putfield 15, 3) := by decide +kernel
theorem dX9_init_14 : decode cX9_init 14 = .ok (.aload_n 0, 1) := by decide +kernel
theorem dX9_init_15 : decode cX9_init 15 = .ok (.bipush 30, 2) := by decide +kernel
theorem dX9_init_17 : decode cX9_init 17 = .ok (.newarray .int, 2) := by decide +kernel
theorem dX9_init_19 : decode cX9_init 19 = .ok (.putfield 18, 3) := by decide +kernel
theorem dX9_init_22 : decode cX9_init 22 = .ok (.aload_n 0, 1) := by decide +kernel
theorem dX9_init_23 : decode cX9_init 23 = .ok (.bipush 30, 2) := by decide +kernel
theorem dX9_init_25 : decode cX9_init 25 = .ok (.newarray .long, 2) := by decide +kernel
theorem dX9_init_27 : decode cX9_init 27 = .ok (.putfield 22, 3) := by decide +kernel
theorem dX9_init_30 : decode cX9_init 30 = .ok (.aload_n 0, 1) := by decide +kernel
theorem dX9_init_31 : decode cX9_init 31 = .ok (.bipush 30, 2) := by decide +kernel
theorem dX9_init_33 : decode cX9_init 33 = .ok (.newarray .float, 2) := by decide +kernel
theorem dX9_init_35 : decode cX9_init 35 = .ok (.putfield 26, 3) := by decide +kernel
theorem dX9_init_38 : decode cX9_init 38 = .ok (.aload_n 0, 1) := by decide +kernel
theorem dX9_init_39 : decode cX9_init 39 = .ok (.bipush 30, 2) := by decide +kernel
theorem dX9_init_4 : decode cX9_init 4 = .ok (.aload_n 0, 1) := by decide +kernel
theorem dX9_init_41 : decode cX9_init 41 = .ok (.newarray .double, 2) := by decide +kernel
theorem dX9_init_43 : decode cX9_init 43 = .ok (.putfield 30, 3) := by decide +kernel
theorem dX9_init_46 : decode cX9_init 46 = .ok (.return_, 1) := by decide +kernel
theorem dX9_init_5 : decode cX9_init 5 = .ok (.iconst (-1), 1) := by decide +kernel
theorem dX9_init_6 : decode cX9_init 6 = .ok (.putfield 9, 3) := by decide +kernel
theorem dX9_init_9 : decode cX9_init 9 = .ok (.aload_n 0, 1) := by decide +kernel
set_option maxRecDepth 20000 in
theorem in_X9_init_X9 : ∀ w ∈ wsX90, w ∈ wsX9_init := sub_r [14, 15, 16, 17, 18, 19] rfl
set_option maxHeartbeats 4000000 in
set_option maxRecDepth 100000 in
theorem c_X9_init (l : Launch) (D : va_G) (T : Nat → ClassId) (sz : Nat) (h0 : Nat)  : Met l yX9_init wsX9_init ({ frames := 1, cells := 4, slots := 120, locals := 20 }) (pW [.ref h0] D T [(h0, .inr (6, [.int 0, .int 0, .null, .null, .null, .null]))] sz) (va_Qv (fun (u : Nat → Nat) => True) (bW D (va_A [(h0, .inr (6, [.int 0, .int 0, .null, .null, .null, .null]))] sz) (fun (u : Nat → Nat) => [(h0, .inr (6, [.int (-1), .int 0, .ref (u 0), .ref (u 1), .ref (u 2), .ref (u 3)])), ((u 0), .inl (T 0, 30, .inl (fun _ => 0))), ((u 1), .inl (T 1, 30, .inr (.inl (fun _ => 0)))), ((u 2), .inl (T 2, 30, .inr (.inr (.inl (fun _ => 0))))), ((u 3), .inl (T 3, 30, .inr (.inr (.inr (.inl (fun _ => 0))))))])) (va_A [(h0, .inr (6, [.int 0, .int 0, .null, .null, .null, .null]))] sz)) 4 120 (va_A [(h0, .inr (6, [.int 0, .int 0, .null, .null, .null, .null]))] sz) := by
  refine Met.ofW (cc := cX9_init) (maxL := 1) (ret := none) (by decide +kernel) rfl ?_
  intro p e s m args below meth c s₁ B hml hv
  obtain ⟨rfl, hsz, hP, hE, hD0⟩ := hv
  have hx := B.exec
  have hb := B.bytes
  have hr := B.returns
  have hts := atoms_spec (ws := wsX9_init) B.pre
  have hown : s.vm.findClass RX9 = some m.cls := findClass_of_methodNamed B.named
  have hlocks := B.notSynchronized
  have hin : meth.name = "<init>" := (name_of_methodNamed B.named B.method).1
  subst hsz
  have hD := hD0.self (sz := s.heap.size)
  generalize hAe : va_A [(h0, .inr (6, [.int 0, .int 0, .null, .null, .null, .null]))] s.heap.size = A at hD ⊢
  have hA : ∀ q : Nat, s.heap.size ≤ q → A q := fun q h => by rw [← hAe]; exact Or.inr h
  have hS : va_S A s.heap s.heap [] := va_S.rf
  have hP : va_P D vwCl [(h0, .inr (6, [.int 0, .int 0, .null, .null, .null, .null]))] s.heap := hP
  have hl := lv_entry ([.ref h0]) (n := 1) (Nat.le_of_ble_eq_true rfl)
  rw [lg_entry_eq]
  generalize (lg_sl ([.ref h0]) ++ List.replicate (1 - (lg_sl ([.ref h0])).length) Slot.unset).toArray = ls at hl ⊢
  have hl : lv_has ls 1 [(0, .ref h0)] := hl
  clear hD0
  refine lv_aload_n hx hb dX9_init_0 rfl (lv_at hl 0 rfl) ?_
  refine W.objInit hx hb hown (hts (.methodLink RX9 3 objectInit) (List.mem_of_getElem? (i := 1) rfl)) (hts (.instanceMethod objectInit) (List.mem_of_getElem? (i := 2) rfl)) (hts (.code objectInit ⟨#[0xb1]⟩ 1 none) (List.mem_of_getElem? (i := 3) rfl)) rfl (by rw [hml]; exact hl.1) rfl dX9_init_1 (Nat.le_of_ble_eq_true rfl) (Nat.le_of_ble_eq_true rfl) ?_
  refine W.eq (g2 := F0 m 4 ls []) rfl ?_
  refine lv_aload_n hx hb dX9_init_4 rfl (lv_at hl 0 rfl) ?_
  refine lv_iconst (v := (-1)) hx hb dX9_init_5 (by decide +kernel) ?_
  refine va_put (D := D) (ci := 6) (v := .int (-1)) (ty := .int) (C := RX9) (T := TX9) (N := 6) hx hb hts in_X9_init_X9 tyX9 tyX9_ok nmX9 hown hE.1 hP hD hS 0 rfl rfl 0 (by decide +kernel) (hts (.fieldLink RX9 9 "ClauseBook$Sheet" "sort" "I") (List.mem_of_getElem? (i := 4) rfl)) (fun _ h9 => h9) rfl (by decide +kernel) rfl rfl (Nat.le_of_ble_eq_true rfl) dX9_init_6 (fun H locs hP hD hS => ?_)
  obtain ⟨hP, hD⟩ := wPD [(h0, .inr (6, [.int (-1), .int 0, .null, .null, .null, .null]))] hP hD rfl
  refine lv_aload_n hx hb dX9_init_9 rfl (lv_at hl 0 rfl) ?_
  refine lv_iconst (v := 0) hx hb dX9_init_10 (by decide +kernel) ?_
  refine va_put (D := D) (ci := 6) (v := .int 0) (ty := .int) (C := RX9) (T := TX9) (N := 6) hx hb hts in_X9_init_X9 tyX9 tyX9_ok nmX9 hown hE.1 hP hD hS 0 rfl rfl 1 (by decide +kernel) (hts (.fieldLink RX9 15 "ClauseBook$Sheet" "size" "I") (List.mem_of_getElem? (i := 5) rfl)) (fun _ h9 => h9) rfl (by decide +kernel) rfl rfl (Nat.le_of_ble_eq_true rfl) dX9_init_11 (fun H locs hP hD hS => ?_)
  obtain ⟨hP, hD⟩ := wPD [(h0, .inr (6, [.int (-1), .int 0, .null, .null, .null, .null]))] hP hD rfl
  refine lv_aload_n hx hb dX9_init_14 rfl (lv_at hl 0 rfl) ?_
  refine lv_bipush (v := 30) hx hb dX9_init_15 (by decide +kernel) ?_
  refine nw_newa (atype := .int) (ty := .int) (a0 := (30, .inl (fun _ => 0))) (N' := 30) hx hb (hts (.arrayClass .int) (List.mem_of_getElem? (i := 6) rfl)) rfl hE.1 hP hD hS hA 0 rfl (fun _ => by first | rfl | simp [vp_cell, arrV, defaultValue]) (by decide +kernel) (by decide +kernel) (Nat.le_of_ble_eq_true rfl) (Nat.le_of_ble_eq_true rfl) (Nat.le_of_ble_eq_true rfl) dX9_init_17 (fun q_1 H hP hD hS => ?_)
  obtain ⟨hP, hD⟩ := wPD [(h0, .inr (6, [.int (-1), .int 0, .null, .null, .null, .null])), (q_1, .inl (T 0, 30, .inl (fun _ => 0)))] hP hD rfl
  refine W.widen (k := 1) (n := 30) (Nat.le_of_ble_eq_true rfl) (Nat.le_of_ble_eq_true rfl) ?_
  refine va_putF (D := D) (ci := 6) (v := .ref q_1) (ty := .array .int) (C := RX9) (T := TX9) (N := 6) hx hb hts in_X9_init_X9 tyX9 tyX9_ok nmX9 hown hE.1 hP hD hS 0 rfl rfl 2 (by decide +kernel) (hts (.fieldLink RX9 18 "ClauseBook$Sheet" "ints" "[I") (List.mem_of_getElem? (i := 7) rfl)) (fun _ h9 => h9) rfl hin rfl (by decide +kernel) rfl rfl (Nat.le_of_ble_eq_true rfl) dX9_init_19 (fun H locs hP hD hS => ?_)
  obtain ⟨hP, hD⟩ := wPD [(h0, .inr (6, [.int (-1), .int 0, .ref q_1, .null, .null, .null])), (q_1, .inl (T 0, 30, .inl (fun _ => 0)))] hP hD rfl
  refine lv_aload_n hx hb dX9_init_22 rfl (lv_at hl 0 rfl) ?_
  refine lv_bipush (v := 30) hx hb dX9_init_23 (by decide +kernel) ?_
  refine nw_newa (atype := .long) (ty := .long) (a0 := (30, .inr (.inl (fun _ => 0)))) (N' := 30) hx hb (hts (.arrayClass .long) (List.mem_of_getElem? (i := 8) rfl)) rfl hE.1 hP hD hS hA 1 rfl (fun _ => by first | rfl | simp [vp_cell, arrV, defaultValue]) (by decide +kernel) (by decide +kernel) (Nat.le_of_ble_eq_true rfl) (Nat.le_of_ble_eq_true rfl) (Nat.le_of_ble_eq_true rfl) dX9_init_25 (fun q_2 H hP hD hS => ?_)
  obtain ⟨hP, hD⟩ := wPD [(h0, .inr (6, [.int (-1), .int 0, .ref q_1, .null, .null, .null])), (q_1, .inl (T 0, 30, .inl (fun _ => 0))), (q_2, .inl (T 1, 30, .inr (.inl (fun _ => 0))))] hP hD rfl
  refine W.widen (k := 2) (n := 60) (Nat.le_of_ble_eq_true rfl) (Nat.le_of_ble_eq_true rfl) ?_
  refine va_putF (D := D) (ci := 6) (v := .ref q_2) (ty := .array .long) (C := RX9) (T := TX9) (N := 6) hx hb hts in_X9_init_X9 tyX9 tyX9_ok nmX9 hown hE.1 hP hD hS 0 rfl rfl 3 (by decide +kernel) (hts (.fieldLink RX9 22 "ClauseBook$Sheet" "longs" "[J") (List.mem_of_getElem? (i := 9) rfl)) (fun _ h9 => h9) rfl hin rfl (by decide +kernel) rfl rfl (Nat.le_of_ble_eq_true rfl) dX9_init_27 (fun H locs hP hD hS => ?_)
  obtain ⟨hP, hD⟩ := wPD [(h0, .inr (6, [.int (-1), .int 0, .ref q_1, .ref q_2, .null, .null])), (q_1, .inl (T 0, 30, .inl (fun _ => 0))), (q_2, .inl (T 1, 30, .inr (.inl (fun _ => 0))))] hP hD rfl
  refine lv_aload_n hx hb dX9_init_30 rfl (lv_at hl 0 rfl) ?_
  refine lv_bipush (v := 30) hx hb dX9_init_31 (by decide +kernel) ?_
  refine nw_newa (atype := .float) (ty := .float) (a0 := (30, .inr (.inr (.inl (fun _ => 0))))) (N' := 30) hx hb (hts (.arrayClass .float) (List.mem_of_getElem? (i := 10) rfl)) rfl hE.1 hP hD hS hA 2 rfl (fun _ => by first | rfl | simp [vp_cell, arrV, defaultValue]) (by decide +kernel) (by decide +kernel) (Nat.le_of_ble_eq_true rfl) (Nat.le_of_ble_eq_true rfl) (Nat.le_of_ble_eq_true rfl) dX9_init_33 (fun q_3 H hP hD hS => ?_)
  obtain ⟨hP, hD⟩ := wPD [(h0, .inr (6, [.int (-1), .int 0, .ref q_1, .ref q_2, .null, .null])), (q_1, .inl (T 0, 30, .inl (fun _ => 0))), (q_2, .inl (T 1, 30, .inr (.inl (fun _ => 0)))), (q_3, .inl (T 2, 30, .inr (.inr (.inl (fun _ => 0)))))] hP hD rfl
  refine W.widen (k := 3) (n := 90) (Nat.le_of_ble_eq_true rfl) (Nat.le_of_ble_eq_true rfl) ?_
  refine va_putF (D := D) (ci := 6) (v := .ref q_3) (ty := .array .float) (C := RX9) (T := TX9) (N := 6) hx hb hts in_X9_init_X9 tyX9 tyX9_ok nmX9 hown hE.1 hP hD hS 0 rfl rfl 4 (by decide +kernel) (hts (.fieldLink RX9 26 "ClauseBook$Sheet" "floats" "[F") (List.mem_of_getElem? (i := 11) rfl)) (fun _ h9 => h9) rfl hin rfl (by decide +kernel) rfl rfl (Nat.le_of_ble_eq_true rfl) dX9_init_35 (fun H locs hP hD hS => ?_)
  obtain ⟨hP, hD⟩ := wPD [(h0, .inr (6, [.int (-1), .int 0, .ref q_1, .ref q_2, .ref q_3, .null])), (q_1, .inl (T 0, 30, .inl (fun _ => 0))), (q_2, .inl (T 1, 30, .inr (.inl (fun _ => 0)))), (q_3, .inl (T 2, 30, .inr (.inr (.inl (fun _ => 0)))))] hP hD rfl
  refine lv_aload_n hx hb dX9_init_38 rfl (lv_at hl 0 rfl) ?_
  refine lv_bipush (v := 30) hx hb dX9_init_39 (by decide +kernel) ?_
  refine nw_newa (atype := .double) (ty := .double) (a0 := (30, .inr (.inr (.inr (.inl (fun _ => 0)))))) (N' := 30) hx hb (hts (.arrayClass .double) (List.mem_of_getElem? (i := 12) rfl)) rfl hE.1 hP hD hS hA 3 rfl (fun _ => by first | rfl | simp [vp_cell, arrV, defaultValue]) (by decide +kernel) (by decide +kernel) (Nat.le_of_ble_eq_true rfl) (Nat.le_of_ble_eq_true rfl) (Nat.le_of_ble_eq_true rfl) dX9_init_41 (fun q_4 H hP hD hS => ?_)
  obtain ⟨hP, hD⟩ := wPD [(h0, .inr (6, [.int (-1), .int 0, .ref q_1, .ref q_2, .ref q_3, .null])), (q_1, .inl (T 0, 30, .inl (fun _ => 0))), (q_2, .inl (T 1, 30, .inr (.inl (fun _ => 0)))), (q_3, .inl (T 2, 30, .inr (.inr (.inl (fun _ => 0))))), (q_4, .inl (T 3, 30, .inr (.inr (.inr (.inl (fun _ => 0))))))] hP hD rfl
  refine W.widen (k := 4) (n := 120) (Nat.le_of_ble_eq_true rfl) (Nat.le_of_ble_eq_true rfl) ?_
  refine va_putF (D := D) (ci := 6) (v := .ref q_4) (ty := .array .double) (C := RX9) (T := TX9) (N := 6) hx hb hts in_X9_init_X9 tyX9 tyX9_ok nmX9 hown hE.1 hP hD hS 0 rfl rfl 5 (by decide +kernel) (hts (.fieldLink RX9 30 "ClauseBook$Sheet" "doubles" "[D") (List.mem_of_getElem? (i := 13) rfl)) (fun _ h9 => h9) rfl hin rfl (by decide +kernel) rfl rfl (Nat.le_of_ble_eq_true rfl) dX9_init_43 (fun H locs hP hD hS => ?_)
  obtain ⟨hP, hD⟩ := wPD [(h0, .inr (6, [.int (-1), .int 0, .ref q_1, .ref q_2, .ref q_3, .ref q_4])), (q_1, .inl (T 0, 30, .inl (fun _ => 0))), (q_2, .inl (T 1, 30, .inr (.inl (fun _ => 0)))), (q_3, .inl (T 2, 30, .inr (.inr (.inl (fun _ => 0))))), (q_4, .inl (T 3, 30, .inr (.inr (.inr (.inl (fun _ => 0))))))] hP hD rfl
  exact W.vret hx hb hr (fun t ht hW => ⟨⟨(fun k => [q_1, q_2, q_3, q_4].getD k 0), rfl, trivial, by rw [ht]; exact hP.sub [0, 1, 2, 3, 4] rfl, hD.sub [0, 1, 2, 3, 4] (by decide +kernel) rfl⟩, hS.F ht⟩) hS.2.2 dX9_init_46
theorem dX4_init_0 : decode cX4_init 0 = .ok (.aload_n 0, 1) := by decide +kernel
theorem dX4_init_1 : decode cX4_init 1 = .ok (.invokespecial 3, 3) := by decide +kernel
theorem dX4_init_10 : decode cX4_init 10 = .ok (.iconst 0, 1) := by decide +kernel
theorem dX4_init_11 : decode cX4_init 11 = .ok (.putfield 15, 3) := by decide +kernel
theorem dX4_init_14 : decode cX4_init 14 = .ok (.aload_n 0, 1) := by decide +kernel
theorem dX4_init_15 : decode cX4_init 15 = .ok (.lconst 0, 1) := by decide +kernel
theorem dX4_init_16 : decode cX4_init 16 = .ok (.putfield 18, 3) := by decide +kernel
theorem dX4_init_19 : decode cX4_init 19 = .ok (.aload_n 0, 1) := by decide +kernel
theorem dX4_init_20 : decode cX4_init 20 = .ok (.lconst 1, 1) := by decide +kernel
theorem dX4_init_21 : decode cX4_init 21 = .ok (.putfield 22, 3) := by decide +kernel
theorem dX4_init_24 : decode cX4_init 24 = .ok (.return_, 1) := by decide +kernel
theorem dX4_init_4 : decode cX4_init 4 = .ok (.aload_n 0, 1) := by decide +kernel
theorem dX4_init_5 : decode cX4_init 5 = .ok (.iconst 0, 1) := by decide +kernel
theorem dX4_init_6 : decode cX4_init 6 = .ok (.putfield 9, 3) := by decide +kernel
theorem dX4_init_9 : decode cX4_init 9 = .ok (.aload_n 0, 1) := by decide +kernel
set_option maxRecDepth 20000 in
theorem in_X4_init_X4 : ∀ w ∈ wsX40, w ∈ wsX4_init := sub_r [8, 9, 10, 11] rfl
set_option maxHeartbeats 4000000 in
set_option maxRecDepth 100000 in
theorem c_X4_init (l : Launch) (D : va_G) (T : Nat → ClassId) (sz : Nat) (h0 : Nat)  : Met l yX4_init wsX4_init ({ frames := 1, cells := 0, slots := 0, locals := 20 }) (pW [.ref h0] D T [(h0, .inr (3, [.int 0, .int 0, .long 0, .long 0]))] sz) (va_Qv (fun (u : Nat → Nat) => True) (bW D (va_A [(h0, .inr (3, [.int 0, .int 0, .long 0, .long 0]))] sz) (fun (u : Nat → Nat) => [(h0, .inr (3, [.int 0, .int 0, .long 0, .long 1]))])) (va_A [(h0, .inr (3, [.int 0, .int 0, .long 0, .long 0]))] sz)) 0 0 (va_A [(h0, .inr (3, [.int 0, .int 0, .long 0, .long 0]))] sz) := by
  refine Met.ofW (cc := cX4_init) (maxL := 1) (ret := none) (by decide +kernel) rfl ?_
  intro p e s m args below meth c s₁ B hml hv
  obtain ⟨rfl, hsz, hP, hE, hD0⟩ := hv
  have hx := B.exec
  have hb := B.bytes
  have hr := B.returns
  have hts := atoms_spec (ws := wsX4_init) B.pre
  have hown : s.vm.findClass RX4 = some m.cls := findClass_of_methodNamed B.named
  have hlocks := B.notSynchronized
  have hin : meth.name = "<init>" := (name_of_methodNamed B.named B.method).1
  subst hsz
  have hD := hD0.self (sz := s.heap.size)
  generalize hAe : va_A [(h0, .inr (3, [.int 0, .int 0, .long 0, .long 0]))] s.heap.size = A at hD ⊢
  have hA : ∀ q : Nat, s.heap.size ≤ q → A q := fun q h => by rw [← hAe]; exact Or.inr h
  have hS : va_S A s.heap s.heap [] := va_S.rf
  have hP : va_P D vwCl [(h0, .inr (3, [.int 0, .int 0, .long 0, .long 0]))] s.heap := hP
  have hl := lv_entry ([.ref h0]) (n := 1) (Nat.le_of_ble_eq_true rfl)
  rw [lg_entry_eq]
  generalize (lg_sl ([.ref h0]) ++ List.replicate (1 - (lg_sl ([.ref h0])).length) Slot.unset).toArray = ls at hl ⊢
  have hl : lv_has ls 1 [(0, .ref h0)] := hl
  clear hD0
  refine lv_aload_n hx hb dX4_init_0 rfl (lv_at hl 0 rfl) ?_
  refine W.objInit hx hb hown (hts (.methodLink RX4 3 objectInit) (List.mem_of_getElem? (i := 1) rfl)) (hts (.instanceMethod objectInit) (List.mem_of_getElem? (i := 2) rfl)) (hts (.code objectInit ⟨#[0xb1]⟩ 1 none) (List.mem_of_getElem? (i := 3) rfl)) rfl (by rw [hml]; exact hl.1) rfl dX4_init_1 (Nat.le_of_ble_eq_true rfl) (Nat.le_of_ble_eq_true rfl) ?_
  refine W.eq (g2 := F0 m 4 ls []) rfl ?_
  refine lv_aload_n hx hb dX4_init_4 rfl (lv_at hl 0 rfl) ?_
  refine lv_iconst (v := 0) hx hb dX4_init_5 (by decide +kernel) ?_
  refine va_put (D := D) (ci := 3) (v := .int 0) (ty := .int) (C := RX4) (T := TX4) (N := 4) hx hb hts in_X4_init_X4 tyX4 tyX4_ok nmX4 hown hE.1 hP hD hS 0 rfl rfl 0 (by decide +kernel) (hts (.fieldLink RX4 9 "ClauseBook$Hand" "sort" "I") (List.mem_of_getElem? (i := 4) rfl)) (fun _ h9 => h9) rfl (by decide +kernel) rfl rfl (Nat.le_of_ble_eq_true rfl) dX4_init_6 (fun H locs hP hD hS => ?_)
  obtain ⟨hP, hD⟩ := wPD [(h0, .inr (3, [.int 0, .int 0, .long 0, .long 0]))] hP hD rfl
  refine lv_aload_n hx hb dX4_init_9 rfl (lv_at hl 0 rfl) ?_
  refine lv_iconst (v := 0) hx hb dX4_init_10 (by decide +kernel) ?_
  refine va_put (D := D) (ci := 3) (v := .int 0) (ty := .int) (C := RX4) (T := TX4) (N := 4) hx hb hts in_X4_init_X4 tyX4 tyX4_ok nmX4 hown hE.1 hP hD hS 0 rfl rfl 1 (by decide +kernel) (hts (.fieldLink RX4 15 "ClauseBook$Hand" "number" "I") (List.mem_of_getElem? (i := 5) rfl)) (fun _ h9 => h9) rfl (by decide +kernel) rfl rfl (Nat.le_of_ble_eq_true rfl) dX4_init_11 (fun H locs hP hD hS => ?_)
  obtain ⟨hP, hD⟩ := wPD [(h0, .inr (3, [.int 0, .int 0, .long 0, .long 0]))] hP hD rfl
  refine lv_aload_n hx hb dX4_init_14 rfl (lv_at hl 0 rfl) ?_
  refine lv_lconst (v := 0) hx hb dX4_init_15 (by decide +kernel) ?_
  refine va_put (D := D) (ci := 3) (v := .long 0) (ty := .long) (C := RX4) (T := TX4) (N := 4) hx hb hts in_X4_init_X4 tyX4 tyX4_ok nmX4 hown hE.1 hP hD hS 0 rfl rfl 2 (by decide +kernel) (hts (.fieldLink RX4 18 "ClauseBook$Hand" "above" "J") (List.mem_of_getElem? (i := 6) rfl)) (fun _ h9 => h9) rfl (by decide +kernel) rfl rfl (Nat.le_of_ble_eq_true rfl) dX4_init_16 (fun H locs hP hD hS => ?_)
  obtain ⟨hP, hD⟩ := wPD [(h0, .inr (3, [.int 0, .int 0, .long 0, .long 0]))] hP hD rfl
  refine lv_aload_n hx hb dX4_init_19 rfl (lv_at hl 0 rfl) ?_
  refine lv_lconst (v := 1) hx hb dX4_init_20 (by decide +kernel) ?_
  refine va_put (D := D) (ci := 3) (v := .long 1) (ty := .long) (C := RX4) (T := TX4) (N := 4) hx hb hts in_X4_init_X4 tyX4 tyX4_ok nmX4 hown hE.1 hP hD hS 0 rfl rfl 3 (by decide +kernel) (hts (.fieldLink RX4 22 "ClauseBook$Hand" "below" "J") (List.mem_of_getElem? (i := 7) rfl)) (fun _ h9 => h9) rfl (by decide +kernel) rfl rfl (Nat.le_of_ble_eq_true rfl) dX4_init_21 (fun H locs hP hD hS => ?_)
  obtain ⟨hP, hD⟩ := wPD [(h0, .inr (3, [.int 0, .int 0, .long 0, .long 1]))] hP hD rfl
  exact W.vret hx hb hr (fun t ht hW => ⟨⟨(fun k => 0), rfl, trivial, by rw [ht]; exact hP.sub [0] rfl, hD.sub [0] (by decide +kernel) rfl⟩, hS.F ht⟩) hS.2.2 dX4_init_24
