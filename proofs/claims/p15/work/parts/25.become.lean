theorem cpy_at {g f : Nat → Int32} {n j : Nat} (h : j < n) : va_cpy g f 0 0 n j = g j := by
  simp only [va_cpy]
  rw [if_pos (by omega)]
  congr 1
  omega
theorem okC.cpy {fk fc fd fe gk gc gd ge : Nat → Int32} (h : okC gk gc gd ge) (h0 : okC fk fc fd fe) : okC (va_cpy gk fk 0 0 24) (va_cpy gc fc 0 0 24) (va_cpy gd fd 0 0 24) fe := by
  intro j hj
  rw [cpy_at hj, cpy_at hj, cpy_at hj]
  exact ⟨(h j hj).1, (h j hj).2.1, (h j hj).2.2.1, (h0 j hj).2.2.2⟩
theorem dX8_become_0 : decode cX8_become 0 = .ok (.aload_n 0, 1) := by decide +kernel
theorem dX8_become_1 : decode cX8_become 1 = .ok (.aload_n 1, 1) := by decide +kernel
theorem dX8_become_10 : decode cX8_become 10 = .ok (.getfield 13, 3) := by decide +kernel
theorem dX8_become_13 : decode cX8_become 13 = .ok (.putfield 13, 3) := by decide +kernel
theorem dX8_become_16 : decode cX8_become 16 = .ok (.aload_n 0, 1) := by decide +kernel
theorem dX8_become_17 : decode cX8_become 17 = .ok (.aload_n 1, 1) := by decide +kernel
theorem dX8_become_18 : decode cX8_become 18 = .ok (.getfield 16, 3) := by decide +kernel
theorem dX8_become_2 : decode cX8_become 2 = .ok (.getfield 7, 3) := by decide +kernel
theorem dX8_become_21 : decode cX8_become 21 = .ok (.putfield 16, 3) := by decide +kernel
theorem dX8_become_24 : decode cX8_become 24 = .ok (.aload_n 0, 1) := by decide +kernel
theorem dX8_become_25 : decode cX8_become 25 = .ok (.aload_n 1, 1) := by decide +kernel
theorem dX8_become_26 : decode cX8_become 26 = .ok (.getfield 19, 3) := by decide +kernel
theorem dX8_become_29 : decode cX8_become 29 = .ok (.putfield 19, 3) := by decide +kernel
theorem dX8_become_32 : decode cX8_become 32 = .ok (.aload_n 0, 1) := by decide +kernel
theorem dX8_become_33 : decode cX8_become 33 = .ok (.aload_n 1, 1) := by decide +kernel
theorem dX8_become_34 : decode cX8_become 34 = .ok (.getfield 22, 3) := by decide +kernel
theorem dX8_become_37 : decode cX8_become 37 = .ok (.putfield 22, 3) := by decide +kernel
theorem dX8_become_40 : decode cX8_become 40 = .ok (.aload_n 0, 1) := by decide +kernel
theorem dX8_become_41 : decode cX8_become 41 = .ok (.aload_n 1, 1) := by decide +kernel
theorem dX8_become_42 : decode cX8_become 42 = .ok (.getfield 25, 3) := by decide +kernel
theorem dX8_become_45 : decode cX8_become 45 = .ok (.putfield 25, 3) := by decide +kernel
theorem dX8_become_48 : decode cX8_become 48 = .ok (.aload_n 0, 1) := by decide +kernel
theorem dX8_become_49 : decode cX8_become 49 = .ok (.aload_n 1, 1) := by decide +kernel
theorem dX8_become_5 : decode cX8_become 5 = .ok (.putfield 7, 3) := by decide +kernel
theorem dX8_become_50 : decode cX8_become 50 = .ok (.getfield 28, 3) := by decide +kernel
theorem dX8_become_53 : decode cX8_become 53 = .ok (.putfield 28, 3) := by decide +kernel
theorem dX8_become_56 : decode cX8_become 56 = .ok (.return_, 1) := by decide +kernel
theorem dX8_become_8 : decode cX8_become 8 = .ok (.aload_n 0, 1) := by decide +kernel
theorem dX8_become_9 : decode cX8_become 9 = .ok (.aload_n 1, 1) := by decide +kernel
set_option maxRecDepth 20000 in
theorem in_X8_become_X8 : ∀ w ∈ wsX80, w ∈ wsX8_become := sub_r [8, 9, 10, 11, 12, 13, 14] rfl
set_option maxHeartbeats 4000000 in
set_option maxRecDepth 100000 in
theorem c_X8_become (l : Launch) (D : va_G) (T : Nat → ClassId) (sz : Nat) (h0 : Nat) (o1 : Nat) (l9 : Nat → Int32) (k9 : Nat → Int32)  : Met l yX8_become wsX8_become ({ frames := 0, cells := 0, slots := 0, locals := 0 }) (pW [.ref h0, .ref o1] D T [(h0, .inr (5, [.int (l9 0), .int (l9 1), .int (l9 2), .int (l9 3), .int (l9 4), .int (l9 5), .int (l9 6)])), (o1, .inr (5, [.int (k9 0), .int (k9 1), .int (k9 2), .int (k9 3), .int (k9 4), .int (k9 5), .int (k9 6)]))] sz) (va_Qv (fun (u : Unit) => True) (bW D (va_A [(h0, .inr (5, [.int (l9 0), .int (l9 1), .int (l9 2), .int (l9 3), .int (l9 4), .int (l9 5), .int (l9 6)])), (o1, .inr (5, [.int (k9 0), .int (k9 1), .int (k9 2), .int (k9 3), .int (k9 4), .int (k9 5), .int (k9 6)]))] sz) (fun (u : Unit) => [(h0, .inr (5, [.int (k9 0), .int (k9 1), .int (k9 2), .int (k9 3), .int (k9 4), .int (k9 5), .int (k9 6)])), (o1, .inr (5, [.int (k9 0), .int (k9 1), .int (k9 2), .int (k9 3), .int (k9 4), .int (k9 5), .int (k9 6)]))])) (va_A [(h0, .inr (5, [.int (l9 0), .int (l9 1), .int (l9 2), .int (l9 3), .int (l9 4), .int (l9 5), .int (l9 6)])), (o1, .inr (5, [.int (k9 0), .int (k9 1), .int (k9 2), .int (k9 3), .int (k9 4), .int (k9 5), .int (k9 6)]))] sz)) 0 0 (va_A [(h0, .inr (5, [.int (l9 0), .int (l9 1), .int (l9 2), .int (l9 3), .int (l9 4), .int (l9 5), .int (l9 6)])), (o1, .inr (5, [.int (k9 0), .int (k9 1), .int (k9 2), .int (k9 3), .int (k9 4), .int (k9 5), .int (k9 6)]))] sz) := by
  refine Met.ofW (cc := cX8_become) (maxL := 2) (ret := none) (by decide +kernel) rfl ?_
  intro p e s m args below meth c s₁ B hml hv
  obtain ⟨rfl, hsz, hP, hE, hD0⟩ := hv
  have hx := B.exec
  have hb := B.bytes
  have hr := B.returns
  have hts := atoms_spec (ws := wsX8_become) B.pre
  have hown : s.vm.findClass RX8 = some m.cls := findClass_of_methodNamed B.named
  have hlocks := B.notSynchronized
  subst hsz
  have hD := hD0.self (sz := s.heap.size)
  generalize hAe : va_A [(h0, .inr (5, [.int (l9 0), .int (l9 1), .int (l9 2), .int (l9 3), .int (l9 4), .int (l9 5), .int (l9 6)])), (o1, .inr (5, [.int (k9 0), .int (k9 1), .int (k9 2), .int (k9 3), .int (k9 4), .int (k9 5), .int (k9 6)]))] s.heap.size = A at hD ⊢
  have hA : ∀ q : Nat, s.heap.size ≤ q → A q := fun q h => by rw [← hAe]; exact Or.inr h
  have hS : va_S A s.heap s.heap [] := va_S.rf
  have hP : va_P D vwCl [(h0, .inr (5, [.int (l9 0), .int (l9 1), .int (l9 2), .int (l9 3), .int (l9 4), .int (l9 5), .int (l9 6)])), (o1, .inr (5, [.int (k9 0), .int (k9 1), .int (k9 2), .int (k9 3), .int (k9 4), .int (k9 5), .int (k9 6)]))] s.heap := hP
  have hl := lv_entry ([.ref h0, .ref o1]) (n := 2) (Nat.le_of_ble_eq_true rfl)
  rw [lg_entry_eq]
  generalize (lg_sl ([.ref h0, .ref o1]) ++ List.replicate (2 - (lg_sl ([.ref h0, .ref o1])).length) Slot.unset).toArray = ls at hl ⊢
  have hl : lv_has ls 2 [(0, .ref h0), (1, .ref o1)] := hl
  clear hD0
  refine lv_aload_n hx hb dX8_become_0 rfl (lv_at hl 0 rfl) ?_
  refine lv_aload_n hx hb dX8_become_1 rfl (lv_at hl 1 rfl) ?_
  refine va_get (D := D) (ci := 5) (v := .int (k9 0)) (C := RX8) (T := TX8) (N := 7) hx hb hts in_X8_become_X8 hown hE.1 hP 1 rfl rfl 0 (by decide +kernel) (hts (.fieldLink RX8 7 "ClauseBook$Lattice" "start" "I") (List.mem_of_getElem? (i := 1) rfl)) (fun _ h9 => h9) rfl dX8_become_2 ?_
  refine va_put (D := D) (ci := 5) (v := .int (k9 0)) (ty := .int) (C := RX8) (T := TX8) (N := 7) hx hb hts in_X8_become_X8 tyX8 tyX8_ok nmX8 hown hE.1 hP hD hS 0 rfl rfl 0 (by decide +kernel) (hts (.fieldLink RX8 7 "ClauseBook$Lattice" "start" "I") (List.mem_of_getElem? (i := 1) rfl)) (fun _ h9 => h9) rfl (by decide +kernel) rfl rfl (Nat.le_of_ble_eq_true rfl) dX8_become_5 (fun H locs hP hD hS => ?_)
  obtain ⟨hP, hD⟩ := wPD [(h0, .inr (5, [.int (k9 0), .int (l9 1), .int (l9 2), .int (l9 3), .int (l9 4), .int (l9 5), .int (l9 6)])), (o1, .inr (5, [.int (k9 0), .int (k9 1), .int (k9 2), .int (k9 3), .int (k9 4), .int (k9 5), .int (k9 6)]))] hP hD rfl
  refine lv_aload_n hx hb dX8_become_8 rfl (lv_at hl 0 rfl) ?_
  refine lv_aload_n hx hb dX8_become_9 rfl (lv_at hl 1 rfl) ?_
  refine va_get (D := D) (ci := 5) (v := .int (k9 1)) (C := RX8) (T := TX8) (N := 7) hx hb hts in_X8_become_X8 hown hE.1 hP 1 rfl rfl 1 (by decide +kernel) (hts (.fieldLink RX8 13 "ClauseBook$Lattice" "up" "I") (List.mem_of_getElem? (i := 2) rfl)) (fun _ h9 => h9) rfl dX8_become_10 ?_
  refine va_put (D := D) (ci := 5) (v := .int (k9 1)) (ty := .int) (C := RX8) (T := TX8) (N := 7) hx hb hts in_X8_become_X8 tyX8 tyX8_ok nmX8 hown hE.1 hP hD hS 0 rfl rfl 1 (by decide +kernel) (hts (.fieldLink RX8 13 "ClauseBook$Lattice" "up" "I") (List.mem_of_getElem? (i := 2) rfl)) (fun _ h9 => h9) rfl (by decide +kernel) rfl rfl (Nat.le_of_ble_eq_true rfl) dX8_become_13 (fun H locs hP hD hS => ?_)
  obtain ⟨hP, hD⟩ := wPD [(h0, .inr (5, [.int (k9 0), .int (k9 1), .int (l9 2), .int (l9 3), .int (l9 4), .int (l9 5), .int (l9 6)])), (o1, .inr (5, [.int (k9 0), .int (k9 1), .int (k9 2), .int (k9 3), .int (k9 4), .int (k9 5), .int (k9 6)]))] hP hD rfl
  refine lv_aload_n hx hb dX8_become_16 rfl (lv_at hl 0 rfl) ?_
  refine lv_aload_n hx hb dX8_become_17 rfl (lv_at hl 1 rfl) ?_
  refine va_get (D := D) (ci := 5) (v := .int (k9 2)) (C := RX8) (T := TX8) (N := 7) hx hb hts in_X8_become_X8 hown hE.1 hP 1 rfl rfl 2 (by decide +kernel) (hts (.fieldLink RX8 16 "ClauseBook$Lattice" "down" "I") (List.mem_of_getElem? (i := 3) rfl)) (fun _ h9 => h9) rfl dX8_become_18 ?_
  refine va_put (D := D) (ci := 5) (v := .int (k9 2)) (ty := .int) (C := RX8) (T := TX8) (N := 7) hx hb hts in_X8_become_X8 tyX8 tyX8_ok nmX8 hown hE.1 hP hD hS 0 rfl rfl 2 (by decide +kernel) (hts (.fieldLink RX8 16 "ClauseBook$Lattice" "down" "I") (List.mem_of_getElem? (i := 3) rfl)) (fun _ h9 => h9) rfl (by decide +kernel) rfl rfl (Nat.le_of_ble_eq_true rfl) dX8_become_21 (fun H locs hP hD hS => ?_)
  obtain ⟨hP, hD⟩ := wPD [(h0, .inr (5, [.int (k9 0), .int (k9 1), .int (k9 2), .int (l9 3), .int (l9 4), .int (l9 5), .int (l9 6)])), (o1, .inr (5, [.int (k9 0), .int (k9 1), .int (k9 2), .int (k9 3), .int (k9 4), .int (k9 5), .int (k9 6)]))] hP hD rfl
  refine lv_aload_n hx hb dX8_become_24 rfl (lv_at hl 0 rfl) ?_
  refine lv_aload_n hx hb dX8_become_25 rfl (lv_at hl 1 rfl) ?_
  refine va_get (D := D) (ci := 5) (v := .int (k9 3)) (C := RX8) (T := TX8) (N := 7) hx hb hts in_X8_become_X8 hown hE.1 hP 1 rfl rfl 3 (by decide +kernel) (hts (.fieldLink RX8 19 "ClauseBook$Lattice" "p" "I") (List.mem_of_getElem? (i := 4) rfl)) (fun _ h9 => h9) rfl dX8_become_26 ?_
  refine va_put (D := D) (ci := 5) (v := .int (k9 3)) (ty := .int) (C := RX8) (T := TX8) (N := 7) hx hb hts in_X8_become_X8 tyX8 tyX8_ok nmX8 hown hE.1 hP hD hS 0 rfl rfl 3 (by decide +kernel) (hts (.fieldLink RX8 19 "ClauseBook$Lattice" "p" "I") (List.mem_of_getElem? (i := 4) rfl)) (fun _ h9 => h9) rfl (by decide +kernel) rfl rfl (Nat.le_of_ble_eq_true rfl) dX8_become_29 (fun H locs hP hD hS => ?_)
  obtain ⟨hP, hD⟩ := wPD [(h0, .inr (5, [.int (k9 0), .int (k9 1), .int (k9 2), .int (k9 3), .int (l9 4), .int (l9 5), .int (l9 6)])), (o1, .inr (5, [.int (k9 0), .int (k9 1), .int (k9 2), .int (k9 3), .int (k9 4), .int (k9 5), .int (k9 6)]))] hP hD rfl
  refine lv_aload_n hx hb dX8_become_32 rfl (lv_at hl 0 rfl) ?_
  refine lv_aload_n hx hb dX8_become_33 rfl (lv_at hl 1 rfl) ?_
  refine va_get (D := D) (ci := 5) (v := .int (k9 4)) (C := RX8) (T := TX8) (N := 7) hx hb hts in_X8_become_X8 hown hE.1 hP 1 rfl rfl 4 (by decide +kernel) (hts (.fieldLink RX8 22 "ClauseBook$Lattice" "q" "I") (List.mem_of_getElem? (i := 5) rfl)) (fun _ h9 => h9) rfl dX8_become_34 ?_
  refine va_put (D := D) (ci := 5) (v := .int (k9 4)) (ty := .int) (C := RX8) (T := TX8) (N := 7) hx hb hts in_X8_become_X8 tyX8 tyX8_ok nmX8 hown hE.1 hP hD hS 0 rfl rfl 4 (by decide +kernel) (hts (.fieldLink RX8 22 "ClauseBook$Lattice" "q" "I") (List.mem_of_getElem? (i := 5) rfl)) (fun _ h9 => h9) rfl (by decide +kernel) rfl rfl (Nat.le_of_ble_eq_true rfl) dX8_become_37 (fun H locs hP hD hS => ?_)
  obtain ⟨hP, hD⟩ := wPD [(h0, .inr (5, [.int (k9 0), .int (k9 1), .int (k9 2), .int (k9 3), .int (k9 4), .int (l9 5), .int (l9 6)])), (o1, .inr (5, [.int (k9 0), .int (k9 1), .int (k9 2), .int (k9 3), .int (k9 4), .int (k9 5), .int (k9 6)]))] hP hD rfl
  refine lv_aload_n hx hb dX8_become_40 rfl (lv_at hl 0 rfl) ?_
  refine lv_aload_n hx hb dX8_become_41 rfl (lv_at hl 1 rfl) ?_
  refine va_get (D := D) (ci := 5) (v := .int (k9 5)) (C := RX8) (T := TX8) (N := 7) hx hb hts in_X8_become_X8 hown hE.1 hP 1 rfl rfl 5 (by decide +kernel) (hts (.fieldLink RX8 25 "ClauseBook$Lattice" "a" "I") (List.mem_of_getElem? (i := 6) rfl)) (fun _ h9 => h9) rfl dX8_become_42 ?_
  refine va_put (D := D) (ci := 5) (v := .int (k9 5)) (ty := .int) (C := RX8) (T := TX8) (N := 7) hx hb hts in_X8_become_X8 tyX8 tyX8_ok nmX8 hown hE.1 hP hD hS 0 rfl rfl 5 (by decide +kernel) (hts (.fieldLink RX8 25 "ClauseBook$Lattice" "a" "I") (List.mem_of_getElem? (i := 6) rfl)) (fun _ h9 => h9) rfl (by decide +kernel) rfl rfl (Nat.le_of_ble_eq_true rfl) dX8_become_45 (fun H locs hP hD hS => ?_)
  obtain ⟨hP, hD⟩ := wPD [(h0, .inr (5, [.int (k9 0), .int (k9 1), .int (k9 2), .int (k9 3), .int (k9 4), .int (k9 5), .int (l9 6)])), (o1, .inr (5, [.int (k9 0), .int (k9 1), .int (k9 2), .int (k9 3), .int (k9 4), .int (k9 5), .int (k9 6)]))] hP hD rfl
  refine lv_aload_n hx hb dX8_become_48 rfl (lv_at hl 0 rfl) ?_
  refine lv_aload_n hx hb dX8_become_49 rfl (lv_at hl 1 rfl) ?_
  refine va_get (D := D) (ci := 5) (v := .int (k9 6)) (C := RX8) (T := TX8) (N := 7) hx hb hts in_X8_become_X8 hown hE.1 hP 1 rfl rfl 6 (by decide +kernel) (hts (.fieldLink RX8 28 "ClauseBook$Lattice" "b" "I") (List.mem_of_getElem? (i := 7) rfl)) (fun _ h9 => h9) rfl dX8_become_50 ?_
  refine va_put (D := D) (ci := 5) (v := .int (k9 6)) (ty := .int) (C := RX8) (T := TX8) (N := 7) hx hb hts in_X8_become_X8 tyX8 tyX8_ok nmX8 hown hE.1 hP hD hS 0 rfl rfl 6 (by decide +kernel) (hts (.fieldLink RX8 28 "ClauseBook$Lattice" "b" "I") (List.mem_of_getElem? (i := 7) rfl)) (fun _ h9 => h9) rfl (by decide +kernel) rfl rfl (Nat.le_of_ble_eq_true rfl) dX8_become_53 (fun H locs hP hD hS => ?_)
  obtain ⟨hP, hD⟩ := wPD [(h0, .inr (5, [.int (k9 0), .int (k9 1), .int (k9 2), .int (k9 3), .int (k9 4), .int (k9 5), .int (k9 6)])), (o1, .inr (5, [.int (k9 0), .int (k9 1), .int (k9 2), .int (k9 3), .int (k9 4), .int (k9 5), .int (k9 6)]))] hP hD rfl
  exact W.vret hx hb hr (fun t ht hW => ⟨⟨(), rfl, trivial, by rw [ht]; exact hP.sub [0, 1] rfl, hD.sub [0, 1] (by decide +kernel) rfl⟩, hS.F ht⟩) hS.2.2 dX8_become_56
theorem dX1_become_0 : decode cX1_become 0 = .ok (.aload_n 0, 1) := by decide +kernel
theorem dX1_become_1 : decode cX1_become 1 = .ok (.aload_n 1, 1) := by decide +kernel
theorem dX1_become_12 : decode cX1_become 12 = .ok (.iconst 0, 1) := by decide +kernel
theorem dX1_become_13 : decode cX1_become 13 = .ok (.aload_n 0, 1) := by decide +kernel
theorem dX1_become_14 : decode cX1_become 14 = .ok (.getfield 15, 3) := by decide +kernel
theorem dX1_become_17 : decode cX1_become 17 = .ok (.iconst 0, 1) := by decide +kernel
theorem dX1_become_18 : decode cX1_become 18 = .ok (.bipush 12, 2) := by decide +kernel
theorem dX1_become_2 : decode cX1_become 2 = .ok (.getfield 9, 3) := by decide +kernel
theorem dX1_become_20 : decode cX1_become 20 = .ok (.invokestatic 19, 3) := by decide +kernel
theorem dX1_become_23 : decode cX1_become 23 = .ok (.return_, 1) := by decide +kernel
theorem dX1_become_5 : decode cX1_become 5 = .ok (.putfield 9, 3) := by decide +kernel
theorem dX1_become_8 : decode cX1_become 8 = .ok (.aload_n 1, 1) := by decide +kernel
theorem dX1_become_9 : decode cX1_become 9 = .ok (.getfield 15, 3) := by decide +kernel
set_option maxRecDepth 20000 in
theorem in_X1_become_X1 : ∀ w ∈ wsX10, w ∈ wsX1_become := sub_r [7, 8] rfl
set_option maxHeartbeats 4000000 in
set_option maxRecDepth 100000 in
theorem c_X1_become (l : Launch) (D : va_G) (T : Nat → ClassId) (sz : Nat) (h0 : Nat) (o1 : Nat) (a0 : Nat) (a1 : Nat) (bm : Int32) (bk : Int32) (f : Nat → Int32) (g : Nat → Int32)  : Met l yX1_become wsX1_become ({ frames := 1, cells := 0, slots := 0, locals := 80 }) (pW [.ref h0, .ref o1] D T [(h0, .inr (0, [.int bm, .ref a0])), (o1, .inr (0, [.int bk, .ref a1])), (a0, .inl (T 0, 12, .inl f)), (a1, .inl (T 0, 12, .inl g))] sz) (va_Qv (fun (u : Unit) => True) (bW D (va_A [(h0, .inr (0, [.int bm, .ref a0])), (o1, .inr (0, [.int bk, .ref a1])), (a0, .inl (T 0, 12, .inl f)), (a1, .inl (T 0, 12, .inl g))] sz) (fun (u : Unit) => [(h0, .inr (0, [.int bk, .ref a0])), (o1, .inr (0, [.int bk, .ref a1])), (a0, .inl (T 0, 12, .inl (va_cpy g f 0 0 12))), (a1, .inl (T 0, 12, .inl g))])) (va_A [(h0, .inr (0, [.int bm, .ref a0])), (o1, .inr (0, [.int bk, .ref a1])), (a0, .inl (T 0, 12, .inl f)), (a1, .inl (T 0, 12, .inl g))] sz)) 0 0 (va_A [(h0, .inr (0, [.int bm, .ref a0])), (o1, .inr (0, [.int bk, .ref a1])), (a0, .inl (T 0, 12, .inl f)), (a1, .inl (T 0, 12, .inl g))] sz) := by
  refine Met.ofW (cc := cX1_become) (maxL := 2) (ret := none) (by decide +kernel) rfl ?_
  intro p e s m args below meth c s₁ B hml hv
  obtain ⟨rfl, hsz, hP, hE, hD0⟩ := hv
  have hx := B.exec
  have hb := B.bytes
  have hr := B.returns
  have hts := atoms_spec (ws := wsX1_become) B.pre
  have hown : s.vm.findClass RX1 = some m.cls := findClass_of_methodNamed B.named
  have hlocks := B.notSynchronized
  subst hsz
  have hD := hD0.self (sz := s.heap.size)
  generalize hAe : va_A [(h0, .inr (0, [.int bm, .ref a0])), (o1, .inr (0, [.int bk, .ref a1])), (a0, .inl (T 0, 12, .inl f)), (a1, .inl (T 0, 12, .inl g))] s.heap.size = A at hD ⊢
  have hA : ∀ q : Nat, s.heap.size ≤ q → A q := fun q h => by rw [← hAe]; exact Or.inr h
  have hS : va_S A s.heap s.heap [] := va_S.rf
  have hP : va_P D vwCl [(h0, .inr (0, [.int bm, .ref a0])), (o1, .inr (0, [.int bk, .ref a1])), (a0, .inl (T 0, 12, .inl f)), (a1, .inl (T 0, 12, .inl g))] s.heap := hP
  have hl := lv_entry ([.ref h0, .ref o1]) (n := 2) (Nat.le_of_ble_eq_true rfl)
  rw [lg_entry_eq]
  generalize (lg_sl ([.ref h0, .ref o1]) ++ List.replicate (2 - (lg_sl ([.ref h0, .ref o1])).length) Slot.unset).toArray = ls at hl ⊢
  have hl : lv_has ls 2 [(0, .ref h0), (1, .ref o1)] := hl
  clear hD0
  refine lv_aload_n hx hb dX1_become_0 rfl (lv_at hl 0 rfl) ?_
  refine lv_aload_n hx hb dX1_become_1 rfl (lv_at hl 1 rfl) ?_
  refine va_get (D := D) (ci := 0) (v := .int bk) (C := RX1) (T := TX1) (N := 2) hx hb hts in_X1_become_X1 hown hE.1 hP 1 rfl rfl 0 (by decide +kernel) (hts (.fieldLink RX1 9 "ClauseBook$Bag" "size" "I") (List.mem_of_getElem? (i := 1) rfl)) (fun _ h9 => h9) rfl dX1_become_2 ?_
  refine va_put (D := D) (ci := 0) (v := .int bk) (ty := .int) (C := RX1) (T := TX1) (N := 2) hx hb hts in_X1_become_X1 tyX1 tyX1_ok nmX1 hown hE.1 hP hD hS 0 rfl rfl 0 (by decide +kernel) (hts (.fieldLink RX1 9 "ClauseBook$Bag" "size" "I") (List.mem_of_getElem? (i := 1) rfl)) (fun _ h9 => h9) rfl (by decide +kernel) rfl rfl (Nat.le_of_ble_eq_true rfl) dX1_become_5 (fun H locs hP hD hS => ?_)
  obtain ⟨hP, hD⟩ := wPD [(h0, .inr (0, [.int bk, .ref a0])), (o1, .inr (0, [.int bk, .ref a1])), (a0, .inl (T 0, 12, .inl f)), (a1, .inl (T 0, 12, .inl g))] hP hD rfl
  refine lv_aload_n hx hb dX1_become_8 rfl (lv_at hl 1 rfl) ?_
  refine va_get (D := D) (ci := 0) (v := .ref a1) (C := RX1) (T := TX1) (N := 2) hx hb hts in_X1_become_X1 hown hE.1 hP 1 rfl rfl 1 (by decide +kernel) (hts (.fieldLink RX1 15 "ClauseBook$Bag" "numbers" "[I") (List.mem_of_getElem? (i := 2) rfl)) (fun _ h9 => h9) rfl dX1_become_9 ?_
  refine lv_iconst (v := 0) hx hb dX1_become_12 (by decide +kernel) ?_
  refine lv_aload_n hx hb dX1_become_13 rfl (lv_at hl 0 rfl) ?_
  refine va_get (D := D) (ci := 0) (v := .ref a0) (C := RX1) (T := TX1) (N := 2) hx hb hts in_X1_become_X1 hown hE.1 hP 0 rfl rfl 1 (by decide +kernel) (hts (.fieldLink RX1 15 "ClauseBook$Bag" "numbers" "[I") (List.mem_of_getElem? (i := 2) rfl)) (fun _ h9 => h9) rfl dX1_become_14 ?_
  refine lv_iconst (v := 0) hx hb dX1_become_17 (by decide +kernel) ?_
  refine lv_bipush (v := 12) hx hb dX1_become_18 (by decide +kernel) ?_
  refine va_copyi (ty := .int) hx hb (hml.trans hl.1.symm) hown (hts (.methodLink RX1 19 arraycopyName) (List.mem_of_getElem? (i := 3) rfl)) (hts (.native arraycopyName) (List.mem_of_getElem? (i := 4) rfl)) (hts (.static arraycopyName) (List.mem_of_getElem? (i := 5) rfl)) (hts (.initialized "java/lang/System") (List.mem_of_getElem? (i := 6) rfl)) hE.1 hP hD hS 3 2 0 0 rfl rfl rfl rfl rfl (by decide +kernel) (by decide +kernel) (by decide +kernel) (by decide +kernel) (by decide +kernel) (fun _ _ => rfl) (Nat.le_of_ble_eq_true rfl) (Nat.le_of_ble_eq_true rfl) dX1_become_20 (fun H locs hP hD hS => ?_)
  obtain ⟨hP, hD⟩ := wPD [(h0, .inr (0, [.int bk, .ref a0])), (o1, .inr (0, [.int bk, .ref a1])), (a0, .inl (T 0, 12, .inl (va_cpy g f 0 0 12))), (a1, .inl (T 0, 12, .inl g))] hP hD rfl
  exact W.vret hx hb hr (fun t ht hW => ⟨⟨(), rfl, trivial, by rw [ht]; exact hP.sub [0, 1, 2, 3] rfl, hD.sub [0, 1, 2, 3] (by decide +kernel) rfl⟩, hS.F ht⟩) hS.2.2 dX1_become_23
theorem dX2_become_0 : decode cX2_become 0 = .ok (.aload_n 0, 1) := by decide +kernel
theorem dX2_become_1 : decode cX2_become 1 = .ok (.aload_n 1, 1) := by decide +kernel
theorem dX2_become_12 : decode cX2_become 12 = .ok (.iconst 0, 1) := by decide +kernel
theorem dX2_become_13 : decode cX2_become 13 = .ok (.aload_n 0, 1) := by decide +kernel
theorem dX2_become_14 : decode cX2_become 14 = .ok (.getfield 15, 3) := by decide +kernel
theorem dX2_become_17 : decode cX2_become 17 = .ok (.iconst 0, 1) := by decide +kernel
theorem dX2_become_18 : decode cX2_become 18 = .ok (.bipush 24, 2) := by decide +kernel
theorem dX2_become_2 : decode cX2_become 2 = .ok (.getfield 9, 3) := by decide +kernel
theorem dX2_become_20 : decode cX2_become 20 = .ok (.invokestatic 81, 3) := by decide +kernel
theorem dX2_become_23 : decode cX2_become 23 = .ok (.aload_n 1, 1) := by decide +kernel
theorem dX2_become_24 : decode cX2_become 24 = .ok (.getfield 19, 3) := by decide +kernel
theorem dX2_become_27 : decode cX2_become 27 = .ok (.iconst 0, 1) := by decide +kernel
theorem dX2_become_28 : decode cX2_become 28 = .ok (.aload_n 0, 1) := by decide +kernel
theorem dX2_become_29 : decode cX2_become 29 = .ok (.getfield 19, 3) := by decide +kernel
theorem dX2_become_32 : decode cX2_become 32 = .ok (.iconst 0, 1) := by decide +kernel
theorem dX2_become_33 : decode cX2_become 33 = .ok (.bipush 24, 2) := by decide +kernel
theorem dX2_become_35 : decode cX2_become 35 = .ok (.invokestatic 81, 3) := by decide +kernel
theorem dX2_become_38 : decode cX2_become 38 = .ok (.aload_n 1, 1) := by decide +kernel
theorem dX2_become_39 : decode cX2_become 39 = .ok (.getfield 22, 3) := by decide +kernel
theorem dX2_become_42 : decode cX2_become 42 = .ok (.iconst 0, 1) := by decide +kernel
theorem dX2_become_43 : decode cX2_become 43 = .ok (.aload_n 0, 1) := by decide +kernel
theorem dX2_become_44 : decode cX2_become 44 = .ok (.getfield 22, 3) := by decide +kernel
theorem dX2_become_47 : decode cX2_become 47 = .ok (.iconst 0, 1) := by decide +kernel
theorem dX2_become_48 : decode cX2_become 48 = .ok (.bipush 24, 2) := by decide +kernel
theorem dX2_become_5 : decode cX2_become 5 = .ok (.putfield 9, 3) := by decide +kernel
theorem dX2_become_50 : decode cX2_become 50 = .ok (.invokestatic 81, 3) := by decide +kernel
theorem dX2_become_53 : decode cX2_become 53 = .ok (.aload_n 1, 1) := by decide +kernel
theorem dX2_become_54 : decode cX2_become 54 = .ok (.getfield 25, 3) := by decide +kernel
theorem dX2_become_57 : decode cX2_become 57 = .ok (.iconst 0, 1) := by decide +kernel
theorem dX2_become_58 : decode cX2_become 58 = .ok (.aload_n 0, 1) := by decide +kernel
theorem dX2_become_59 : decode cX2_become 59 = .ok (.getfield 25, 3) := by decide +kernel
theorem dX2_become_62 : decode cX2_become 62 = .ok (.iconst 0, 1) := by decide +kernel
theorem dX2_become_63 : decode cX2_become 63 = .ok (.bipush 24, 2) := by decide +kernel
theorem dX2_become_65 : decode cX2_become 65 = .ok (.invokestatic 81, 3) := by decide +kernel
theorem dX2_become_68 : decode cX2_become 68 = .ok (.iconst 0, 1) := by decide +kernel
theorem dX2_become_69 : decode cX2_become 69 = .ok (.istore_n 2, 1) := by decide +kernel
theorem dX2_become_70 : decode cX2_become 70 = .ok (.iload_n 2, 1) := by decide +kernel
theorem dX2_become_71 : decode cX2_become 71 = .ok (.aload_n 0, 1) := by decide +kernel
theorem dX2_become_72 : decode cX2_become 72 = .ok (.getfield 9, 3) := by decide +kernel
theorem dX2_become_75 : decode cX2_become 75 = .ok (.if_icmp .ge 14, 3) := by decide +kernel
theorem dX2_become_78 : decode cX2_become 78 = .ok (.aload_n 0, 1) := by decide +kernel
theorem dX2_become_79 : decode cX2_become 79 = .ok (.iload_n 2, 1) := by decide +kernel
theorem dX2_become_8 : decode cX2_become 8 = .ok (.aload_n 1, 1) := by decide +kernel
theorem dX2_become_80 : decode cX2_become 80 = .ok (.invokevirtual 58, 3) := by decide +kernel
theorem dX2_become_83 : decode cX2_become 83 = .ok (.iinc 2 1, 3) := by decide +kernel
theorem dX2_become_86 : decode cX2_become 86 = .ok (.goto (-16), 3) := by decide +kernel
theorem dX2_become_89 : decode cX2_become 89 = .ok (.return_, 1) := by decide +kernel
theorem dX2_become_9 : decode cX2_become 9 = .ok (.getfield 15, 3) := by decide +kernel
set_option maxRecDepth 20000 in
theorem ggX2_become_X2_measure : GoodIn wsX2_become wsX2_measure := goodIn_r _ [14, 15, 16, 8, 17, 18, 9, 19, 20, 21, 22, 23, 7, 24, 25, 26, 27, 28, 29, 13, 30, 2, 31, 32, 33, 34, 35, 36, 37, 38] rfl (by decide +kernel)
set_option maxRecDepth 20000 in
theorem gX2_become_X2_measure : GoodIn wsX2_become (wsV RX2 58 RX2 yX2_measure wsX2_measure) := goodIn_app (goodIn_r _ [10, 11, 12, 13] rfl (by decide +kernel)) ggX2_become_X2_measure
set_option maxRecDepth 20000 in
theorem in_X2_become_X2 : ∀ w ∈ wsX20, w ∈ wsX2_become := sub_r [31, 32, 33, 34, 35, 36, 37, 38] rfl
set_option maxHeartbeats 4000000 in
set_option maxRecDepth 100000 in
theorem c_X2_become (l : Launch) (D : va_G) (T : Nat → ClassId) (ad sa av : Nat → Nat) (ta : Nat) (sz : Nat) (h0 : Nat) (o1 : Nat) (n0 : Int32) (k0 : Int32) (c1 : Nat) (c2 : Nat) (c3 : Nat) (c4 : Nat) (c5 : Nat) (c6 : Nat) (c7 : Nat) (d1 : Nat) (d2 : Nat) (d3 : Nat) (d4 : Nat) (d5 : Nat) (d6 : Nat) (d7 : Nat) (f1 : Nat → Int32) (f2 : Nat → Int32) (f3 : Nat → Int32) (f4 : Nat → Int32) (f5 : Nat → Int32) (f6 : Nat → Int32) (f7 : Nat → Int32) (g1 : Nat → Int32) (g2 : Nat → Int32) (g3 : Nat → Int32) (g4 : Nat → Int32) (g5 : Nat → Int32) (g6 : Nat → Int32) (g7 : Nat → Int32) (hk0 : 0 ≤ k0.toInt ∧ k0.toInt ≤ 24) (hok : okC f1 f3 f4 f5) (hokg : okC g1 g3 g4 g5) : Met l yX2_become wsX2_become ({ frames := 2, cells := 0, slots := 0, locals := 80 }) (pWk [.ref h0, .ref o1] D T [(h0, .inr (1, [.int n0, .ref c1, .ref c2, .ref c3, .ref c4, .ref c5, .ref c6, .ref c7])), (c1, .inl (T 0, 24, .inl f1)), (c2, .inl (T 0, 24, .inl f2)), (c3, .inl (T 0, 24, .inl f3)), (c4, .inl (T 0, 24, .inl f4)), (c5, .inl (T 0, 24, .inl f5)), (c6, .inl (T 0, 24, .inl f6)), (c7, .inl (T 0, 24, .inl f7)), (o1, .inr (1, [.int k0, .ref d1, .ref d2, .ref d3, .ref d4, .ref d5, .ref d6, .ref d7])), (d1, .inl (T 0, 24, .inl g1)), (d2, .inl (T 0, 24, .inl g2)), (d3, .inl (T 0, 24, .inl g3)), (d4, .inl (T 0, 24, .inl g4)), (d5, .inl (T 0, 24, .inl g5)), (d6, .inl (T 0, 24, .inl g6)), (d7, .inl (T 0, 24, .inl g7))] sz ad sa av ta) (va_Qv (fun (u : (Nat → Int32) × (Nat → Int32) × (Nat → Int32)) => okC (va_cpy g1 f1 0 0 24) (va_cpy g3 f3 0 0 24) (va_cpy g4 f4 0 0 24) u.1 ∧ ∀ j : Nat, (j : Int) < k0.toInt → mesP (va_cpy g1 f1 0 0 24) (va_cpy g2 f2 0 0 24) (va_cpy g3 f3 0 0 24) (va_cpy g4 f4 0 0 24) u.1 u.2.1 u.2.2 j) (bW D (va_A [(h0, .inr (1, [.int n0, .ref c1, .ref c2, .ref c3, .ref c4, .ref c5, .ref c6, .ref c7])), (c1, .inl (T 0, 24, .inl f1)), (c2, .inl (T 0, 24, .inl f2)), (c3, .inl (T 0, 24, .inl f3)), (c4, .inl (T 0, 24, .inl f4)), (c5, .inl (T 0, 24, .inl f5)), (c6, .inl (T 0, 24, .inl f6)), (c7, .inl (T 0, 24, .inl f7)), (o1, .inr (1, [.int k0, .ref d1, .ref d2, .ref d3, .ref d4, .ref d5, .ref d6, .ref d7])), (d1, .inl (T 0, 24, .inl g1)), (d2, .inl (T 0, 24, .inl g2)), (d3, .inl (T 0, 24, .inl g3)), (d4, .inl (T 0, 24, .inl g4)), (d5, .inl (T 0, 24, .inl g5)), (d6, .inl (T 0, 24, .inl g6)), (d7, .inl (T 0, 24, .inl g7))] sz) (fun (u : (Nat → Int32) × (Nat → Int32) × (Nat → Int32)) => [(h0, .inr (1, [.int k0, .ref c1, .ref c2, .ref c3, .ref c4, .ref c5, .ref c6, .ref c7])), (c1, .inl (T 0, 24, .inl (va_cpy g1 f1 0 0 24))), (c2, .inl (T 0, 24, .inl (va_cpy g2 f2 0 0 24))), (c3, .inl (T 0, 24, .inl (va_cpy g3 f3 0 0 24))), (c4, .inl (T 0, 24, .inl (va_cpy g4 f4 0 0 24))), (c5, .inl (T 0, 24, .inl u.1)), (c6, .inl (T 0, 24, .inl u.2.1)), (c7, .inl (T 0, 24, .inl u.2.2)), (o1, .inr (1, [.int k0, .ref d1, .ref d2, .ref d3, .ref d4, .ref d5, .ref d6, .ref d7])), (d1, .inl (T 0, 24, .inl g1)), (d2, .inl (T 0, 24, .inl g2)), (d3, .inl (T 0, 24, .inl g3)), (d4, .inl (T 0, 24, .inl g4)), (d5, .inl (T 0, 24, .inl g5)), (d6, .inl (T 0, 24, .inl g6)), (d7, .inl (T 0, 24, .inl g7))])) (va_A [(h0, .inr (1, [.int n0, .ref c1, .ref c2, .ref c3, .ref c4, .ref c5, .ref c6, .ref c7])), (c1, .inl (T 0, 24, .inl f1)), (c2, .inl (T 0, 24, .inl f2)), (c3, .inl (T 0, 24, .inl f3)), (c4, .inl (T 0, 24, .inl f4)), (c5, .inl (T 0, 24, .inl f5)), (c6, .inl (T 0, 24, .inl f6)), (c7, .inl (T 0, 24, .inl f7)), (o1, .inr (1, [.int k0, .ref d1, .ref d2, .ref d3, .ref d4, .ref d5, .ref d6, .ref d7])), (d1, .inl (T 0, 24, .inl g1)), (d2, .inl (T 0, 24, .inl g2)), (d3, .inl (T 0, 24, .inl g3)), (d4, .inl (T 0, 24, .inl g4)), (d5, .inl (T 0, 24, .inl g5)), (d6, .inl (T 0, 24, .inl g6)), (d7, .inl (T 0, 24, .inl g7))] sz)) 0 0 (va_A [(h0, .inr (1, [.int n0, .ref c1, .ref c2, .ref c3, .ref c4, .ref c5, .ref c6, .ref c7])), (c1, .inl (T 0, 24, .inl f1)), (c2, .inl (T 0, 24, .inl f2)), (c3, .inl (T 0, 24, .inl f3)), (c4, .inl (T 0, 24, .inl f4)), (c5, .inl (T 0, 24, .inl f5)), (c6, .inl (T 0, 24, .inl f6)), (c7, .inl (T 0, 24, .inl f7)), (o1, .inr (1, [.int k0, .ref d1, .ref d2, .ref d3, .ref d4, .ref d5, .ref d6, .ref d7])), (d1, .inl (T 0, 24, .inl g1)), (d2, .inl (T 0, 24, .inl g2)), (d3, .inl (T 0, 24, .inl g3)), (d4, .inl (T 0, 24, .inl g4)), (d5, .inl (T 0, 24, .inl g5)), (d6, .inl (T 0, 24, .inl g6)), (d7, .inl (T 0, 24, .inl g7))] sz) := by
  refine Met.ofW (cc := cX2_become) (maxL := 3) (ret := none) (by decide +kernel) rfl ?_
  intro p e s m args below meth c s₁ B hml hv
  obtain ⟨rfl, hsz, hP, hE, hD0, hV⟩ := hv
  have hx := B.exec
  have hb := B.bytes
  have hr := B.returns
  have hts := atoms_spec (ws := wsX2_become) B.pre
  have hown : s.vm.findClass RX2 = some m.cls := findClass_of_methodNamed B.named
  have hlocks := B.notSynchronized
  subst hsz
  have hD := hD0.self (sz := s.heap.size)
  generalize hAe : va_A [(h0, .inr (1, [.int n0, .ref c1, .ref c2, .ref c3, .ref c4, .ref c5, .ref c6, .ref c7])), (c1, .inl (T 0, 24, .inl f1)), (c2, .inl (T 0, 24, .inl f2)), (c3, .inl (T 0, 24, .inl f3)), (c4, .inl (T 0, 24, .inl f4)), (c5, .inl (T 0, 24, .inl f5)), (c6, .inl (T 0, 24, .inl f6)), (c7, .inl (T 0, 24, .inl f7)), (o1, .inr (1, [.int k0, .ref d1, .ref d2, .ref d3, .ref d4, .ref d5, .ref d6, .ref d7])), (d1, .inl (T 0, 24, .inl g1)), (d2, .inl (T 0, 24, .inl g2)), (d3, .inl (T 0, 24, .inl g3)), (d4, .inl (T 0, 24, .inl g4)), (d5, .inl (T 0, 24, .inl g5)), (d6, .inl (T 0, 24, .inl g6)), (d7, .inl (T 0, 24, .inl g7))] s.heap.size = A at hD hV ⊢
  have hA : ∀ q : Nat, s.heap.size ≤ q → A q := fun q h => by rw [← hAe]; exact Or.inr h
  have hS : va_S A s.heap s.heap [] := va_S.rf
  have hP : va_P D vwCl [(h0, .inr (1, [.int n0, .ref c1, .ref c2, .ref c3, .ref c4, .ref c5, .ref c6, .ref c7])), (c1, .inl (T 0, 24, .inl f1)), (c2, .inl (T 0, 24, .inl f2)), (c3, .inl (T 0, 24, .inl f3)), (c4, .inl (T 0, 24, .inl f4)), (c5, .inl (T 0, 24, .inl f5)), (c6, .inl (T 0, 24, .inl f6)), (c7, .inl (T 0, 24, .inl f7)), (o1, .inr (1, [.int k0, .ref d1, .ref d2, .ref d3, .ref d4, .ref d5, .ref d6, .ref d7])), (d1, .inl (T 0, 24, .inl g1)), (d2, .inl (T 0, 24, .inl g2)), (d3, .inl (T 0, 24, .inl g3)), (d4, .inl (T 0, 24, .inl g4)), (d5, .inl (T 0, 24, .inl g5)), (d6, .inl (T 0, 24, .inl g6)), (d7, .inl (T 0, 24, .inl g7))] s.heap := hP
  have hl := lv_entry ([.ref h0, .ref o1]) (n := 3) (Nat.le_of_ble_eq_true rfl)
  rw [lg_entry_eq]
  generalize (lg_sl ([.ref h0, .ref o1]) ++ List.replicate (3 - (lg_sl ([.ref h0, .ref o1])).length) Slot.unset).toArray = ls at hl ⊢
  have hl : lv_has ls 3 [(0, .ref h0), (1, .ref o1)] := hl
  clear hD0
  refine lv_aload_n hx hb dX2_become_0 rfl (lv_at hl 0 rfl) ?_
  refine lv_aload_n hx hb dX2_become_1 rfl (lv_at hl 1 rfl) ?_
  refine va_get (D := D) (ci := 1) (v := .int k0) (C := RX2) (T := TX2) (N := 8) hx hb hts in_X2_become_X2 hown hE.1 hP 8 rfl rfl 0 (by decide +kernel) (hts (.fieldLink RX2 9 "ClauseBook$Clauses" "size" "I") (List.mem_of_getElem? (i := 1) rfl)) (fun _ h9 => h9) rfl dX2_become_2 ?_
  refine va_put (D := D) (ci := 1) (v := .int k0) (ty := .int) (C := RX2) (T := TX2) (N := 8) hx hb hts in_X2_become_X2 tyX2 tyX2_ok nmX2 hown hE.1 hP hD hS 0 rfl rfl 0 (by decide +kernel) (hts (.fieldLink RX2 9 "ClauseBook$Clauses" "size" "I") (List.mem_of_getElem? (i := 1) rfl)) (fun _ h9 => h9) rfl (by decide +kernel) rfl rfl (Nat.le_of_ble_eq_true rfl) dX2_become_5 (fun H locs hP hD hS => ?_)
  obtain ⟨hP, hD⟩ := wPD [(h0, .inr (1, [.int k0, .ref c1, .ref c2, .ref c3, .ref c4, .ref c5, .ref c6, .ref c7])), (c1, .inl (T 0, 24, .inl f1)), (c2, .inl (T 0, 24, .inl f2)), (c3, .inl (T 0, 24, .inl f3)), (c4, .inl (T 0, 24, .inl f4)), (c5, .inl (T 0, 24, .inl f5)), (c6, .inl (T 0, 24, .inl f6)), (c7, .inl (T 0, 24, .inl f7)), (o1, .inr (1, [.int k0, .ref d1, .ref d2, .ref d3, .ref d4, .ref d5, .ref d6, .ref d7])), (d1, .inl (T 0, 24, .inl g1)), (d2, .inl (T 0, 24, .inl g2)), (d3, .inl (T 0, 24, .inl g3)), (d4, .inl (T 0, 24, .inl g4)), (d5, .inl (T 0, 24, .inl g5)), (d6, .inl (T 0, 24, .inl g6)), (d7, .inl (T 0, 24, .inl g7))] hP hD rfl
  refine lv_aload_n hx hb dX2_become_8 rfl (lv_at hl 1 rfl) ?_
  refine va_get (D := D) (ci := 1) (v := .ref d1) (C := RX2) (T := TX2) (N := 8) hx hb hts in_X2_become_X2 hown hE.1 hP 8 rfl rfl 1 (by decide +kernel) (hts (.fieldLink RX2 15 "ClauseBook$Clauses" "kind" "[I") (List.mem_of_getElem? (i := 2) rfl)) (fun _ h9 => h9) rfl dX2_become_9 ?_
  refine lv_iconst (v := 0) hx hb dX2_become_12 (by decide +kernel) ?_
  refine lv_aload_n hx hb dX2_become_13 rfl (lv_at hl 0 rfl) ?_
  refine va_get (D := D) (ci := 1) (v := .ref c1) (C := RX2) (T := TX2) (N := 8) hx hb hts in_X2_become_X2 hown hE.1 hP 0 rfl rfl 1 (by decide +kernel) (hts (.fieldLink RX2 15 "ClauseBook$Clauses" "kind" "[I") (List.mem_of_getElem? (i := 2) rfl)) (fun _ h9 => h9) rfl dX2_become_14 ?_
  refine lv_iconst (v := 0) hx hb dX2_become_17 (by decide +kernel) ?_
  refine lv_bipush (v := 24) hx hb dX2_become_18 (by decide +kernel) ?_
  refine va_copyi (ty := .int) hx hb (hml.trans hl.1.symm) hown (hts (.methodLink RX2 81 arraycopyName) (List.mem_of_getElem? (i := 3) rfl)) (hts (.native arraycopyName) (List.mem_of_getElem? (i := 4) rfl)) (hts (.static arraycopyName) (List.mem_of_getElem? (i := 5) rfl)) (hts (.initialized "java/lang/System") (List.mem_of_getElem? (i := 6) rfl)) hE.1 hP hD hS 9 1 0 0 rfl rfl rfl rfl rfl (by decide +kernel) (by decide +kernel) (by decide +kernel) (by decide +kernel) (by decide +kernel) (fun _ _ => rfl) (Nat.le_of_ble_eq_true rfl) (Nat.le_of_ble_eq_true rfl) dX2_become_20 (fun H locs hP hD hS => ?_)
  obtain ⟨hP, hD⟩ := wPD [(h0, .inr (1, [.int k0, .ref c1, .ref c2, .ref c3, .ref c4, .ref c5, .ref c6, .ref c7])), (c1, .inl (T 0, 24, .inl (va_cpy g1 f1 0 0 24))), (c2, .inl (T 0, 24, .inl f2)), (c3, .inl (T 0, 24, .inl f3)), (c4, .inl (T 0, 24, .inl f4)), (c5, .inl (T 0, 24, .inl f5)), (c6, .inl (T 0, 24, .inl f6)), (c7, .inl (T 0, 24, .inl f7)), (o1, .inr (1, [.int k0, .ref d1, .ref d2, .ref d3, .ref d4, .ref d5, .ref d6, .ref d7])), (d1, .inl (T 0, 24, .inl g1)), (d2, .inl (T 0, 24, .inl g2)), (d3, .inl (T 0, 24, .inl g3)), (d4, .inl (T 0, 24, .inl g4)), (d5, .inl (T 0, 24, .inl g5)), (d6, .inl (T 0, 24, .inl g6)), (d7, .inl (T 0, 24, .inl g7))] hP hD rfl
  refine lv_aload_n hx hb dX2_become_23 rfl (lv_at hl 1 rfl) ?_
  refine va_get (D := D) (ci := 1) (v := .ref d2) (C := RX2) (T := TX2) (N := 8) hx hb hts in_X2_become_X2 hown hE.1 hP 8 rfl rfl 2 (by decide +kernel) (hts (.fieldLink RX2 19 "ClauseBook$Clauses" "n" "[I") (List.mem_of_getElem? (i := 7) rfl)) (fun _ h9 => h9) rfl dX2_become_24 ?_
  refine lv_iconst (v := 0) hx hb dX2_become_27 (by decide +kernel) ?_
  refine lv_aload_n hx hb dX2_become_28 rfl (lv_at hl 0 rfl) ?_
  refine va_get (D := D) (ci := 1) (v := .ref c2) (C := RX2) (T := TX2) (N := 8) hx hb hts in_X2_become_X2 hown hE.1 hP 0 rfl rfl 2 (by decide +kernel) (hts (.fieldLink RX2 19 "ClauseBook$Clauses" "n" "[I") (List.mem_of_getElem? (i := 7) rfl)) (fun _ h9 => h9) rfl dX2_become_29 ?_
  refine lv_iconst (v := 0) hx hb dX2_become_32 (by decide +kernel) ?_
  refine lv_bipush (v := 24) hx hb dX2_become_33 (by decide +kernel) ?_
  refine va_copyi (ty := .int) hx hb (hml.trans hl.1.symm) hown (hts (.methodLink RX2 81 arraycopyName) (List.mem_of_getElem? (i := 3) rfl)) (hts (.native arraycopyName) (List.mem_of_getElem? (i := 4) rfl)) (hts (.static arraycopyName) (List.mem_of_getElem? (i := 5) rfl)) (hts (.initialized "java/lang/System") (List.mem_of_getElem? (i := 6) rfl)) hE.1 hP hD hS 10 2 0 0 rfl rfl rfl rfl rfl (by decide +kernel) (by decide +kernel) (by decide +kernel) (by decide +kernel) (by decide +kernel) (fun _ _ => rfl) (Nat.le_of_ble_eq_true rfl) (Nat.le_of_ble_eq_true rfl) dX2_become_35 (fun H locs hP hD hS => ?_)
  obtain ⟨hP, hD⟩ := wPD [(h0, .inr (1, [.int k0, .ref c1, .ref c2, .ref c3, .ref c4, .ref c5, .ref c6, .ref c7])), (c1, .inl (T 0, 24, .inl (va_cpy g1 f1 0 0 24))), (c2, .inl (T 0, 24, .inl (va_cpy g2 f2 0 0 24))), (c3, .inl (T 0, 24, .inl f3)), (c4, .inl (T 0, 24, .inl f4)), (c5, .inl (T 0, 24, .inl f5)), (c6, .inl (T 0, 24, .inl f6)), (c7, .inl (T 0, 24, .inl f7)), (o1, .inr (1, [.int k0, .ref d1, .ref d2, .ref d3, .ref d4, .ref d5, .ref d6, .ref d7])), (d1, .inl (T 0, 24, .inl g1)), (d2, .inl (T 0, 24, .inl g2)), (d3, .inl (T 0, 24, .inl g3)), (d4, .inl (T 0, 24, .inl g4)), (d5, .inl (T 0, 24, .inl g5)), (d6, .inl (T 0, 24, .inl g6)), (d7, .inl (T 0, 24, .inl g7))] hP hD rfl
  refine lv_aload_n hx hb dX2_become_38 rfl (lv_at hl 1 rfl) ?_
  refine va_get (D := D) (ci := 1) (v := .ref d3) (C := RX2) (T := TX2) (N := 8) hx hb hts in_X2_become_X2 hown hE.1 hP 8 rfl rfl 3 (by decide +kernel) (hts (.fieldLink RX2 22 "ClauseBook$Clauses" "c" "[I") (List.mem_of_getElem? (i := 8) rfl)) (fun _ h9 => h9) rfl dX2_become_39 ?_
  refine lv_iconst (v := 0) hx hb dX2_become_42 (by decide +kernel) ?_
  refine lv_aload_n hx hb dX2_become_43 rfl (lv_at hl 0 rfl) ?_
  refine va_get (D := D) (ci := 1) (v := .ref c3) (C := RX2) (T := TX2) (N := 8) hx hb hts in_X2_become_X2 hown hE.1 hP 0 rfl rfl 3 (by decide +kernel) (hts (.fieldLink RX2 22 "ClauseBook$Clauses" "c" "[I") (List.mem_of_getElem? (i := 8) rfl)) (fun _ h9 => h9) rfl dX2_become_44 ?_
  refine lv_iconst (v := 0) hx hb dX2_become_47 (by decide +kernel) ?_
  refine lv_bipush (v := 24) hx hb dX2_become_48 (by decide +kernel) ?_
  refine va_copyi (ty := .int) hx hb (hml.trans hl.1.symm) hown (hts (.methodLink RX2 81 arraycopyName) (List.mem_of_getElem? (i := 3) rfl)) (hts (.native arraycopyName) (List.mem_of_getElem? (i := 4) rfl)) (hts (.static arraycopyName) (List.mem_of_getElem? (i := 5) rfl)) (hts (.initialized "java/lang/System") (List.mem_of_getElem? (i := 6) rfl)) hE.1 hP hD hS 11 3 0 0 rfl rfl rfl rfl rfl (by decide +kernel) (by decide +kernel) (by decide +kernel) (by decide +kernel) (by decide +kernel) (fun _ _ => rfl) (Nat.le_of_ble_eq_true rfl) (Nat.le_of_ble_eq_true rfl) dX2_become_50 (fun H locs hP hD hS => ?_)
  obtain ⟨hP, hD⟩ := wPD [(h0, .inr (1, [.int k0, .ref c1, .ref c2, .ref c3, .ref c4, .ref c5, .ref c6, .ref c7])), (c1, .inl (T 0, 24, .inl (va_cpy g1 f1 0 0 24))), (c2, .inl (T 0, 24, .inl (va_cpy g2 f2 0 0 24))), (c3, .inl (T 0, 24, .inl (va_cpy g3 f3 0 0 24))), (c4, .inl (T 0, 24, .inl f4)), (c5, .inl (T 0, 24, .inl f5)), (c6, .inl (T 0, 24, .inl f6)), (c7, .inl (T 0, 24, .inl f7)), (o1, .inr (1, [.int k0, .ref d1, .ref d2, .ref d3, .ref d4, .ref d5, .ref d6, .ref d7])), (d1, .inl (T 0, 24, .inl g1)), (d2, .inl (T 0, 24, .inl g2)), (d3, .inl (T 0, 24, .inl g3)), (d4, .inl (T 0, 24, .inl g4)), (d5, .inl (T 0, 24, .inl g5)), (d6, .inl (T 0, 24, .inl g6)), (d7, .inl (T 0, 24, .inl g7))] hP hD rfl
  refine lv_aload_n hx hb dX2_become_53 rfl (lv_at hl 1 rfl) ?_
  refine va_get (D := D) (ci := 1) (v := .ref d4) (C := RX2) (T := TX2) (N := 8) hx hb hts in_X2_become_X2 hown hE.1 hP 8 rfl rfl 4 (by decide +kernel) (hts (.fieldLink RX2 25 "ClauseBook$Clauses" "d" "[I") (List.mem_of_getElem? (i := 9) rfl)) (fun _ h9 => h9) rfl dX2_become_54 ?_
  refine lv_iconst (v := 0) hx hb dX2_become_57 (by decide +kernel) ?_
  refine lv_aload_n hx hb dX2_become_58 rfl (lv_at hl 0 rfl) ?_
  refine va_get (D := D) (ci := 1) (v := .ref c4) (C := RX2) (T := TX2) (N := 8) hx hb hts in_X2_become_X2 hown hE.1 hP 0 rfl rfl 4 (by decide +kernel) (hts (.fieldLink RX2 25 "ClauseBook$Clauses" "d" "[I") (List.mem_of_getElem? (i := 9) rfl)) (fun _ h9 => h9) rfl dX2_become_59 ?_
  refine lv_iconst (v := 0) hx hb dX2_become_62 (by decide +kernel) ?_
  refine lv_bipush (v := 24) hx hb dX2_become_63 (by decide +kernel) ?_
  refine va_copyi (ty := .int) hx hb (hml.trans hl.1.symm) hown (hts (.methodLink RX2 81 arraycopyName) (List.mem_of_getElem? (i := 3) rfl)) (hts (.native arraycopyName) (List.mem_of_getElem? (i := 4) rfl)) (hts (.static arraycopyName) (List.mem_of_getElem? (i := 5) rfl)) (hts (.initialized "java/lang/System") (List.mem_of_getElem? (i := 6) rfl)) hE.1 hP hD hS 12 4 0 0 rfl rfl rfl rfl rfl (by decide +kernel) (by decide +kernel) (by decide +kernel) (by decide +kernel) (by decide +kernel) (fun _ _ => rfl) (Nat.le_of_ble_eq_true rfl) (Nat.le_of_ble_eq_true rfl) dX2_become_65 (fun H locs hP hD hS => ?_)
  obtain ⟨hP, hD⟩ := wPD [(h0, .inr (1, [.int k0, .ref c1, .ref c2, .ref c3, .ref c4, .ref c5, .ref c6, .ref c7])), (c1, .inl (T 0, 24, .inl (va_cpy g1 f1 0 0 24))), (c2, .inl (T 0, 24, .inl (va_cpy g2 f2 0 0 24))), (c3, .inl (T 0, 24, .inl (va_cpy g3 f3 0 0 24))), (c4, .inl (T 0, 24, .inl (va_cpy g4 f4 0 0 24))), (c5, .inl (T 0, 24, .inl f5)), (c6, .inl (T 0, 24, .inl f6)), (c7, .inl (T 0, 24, .inl f7)), (o1, .inr (1, [.int k0, .ref d1, .ref d2, .ref d3, .ref d4, .ref d5, .ref d6, .ref d7])), (d1, .inl (T 0, 24, .inl g1)), (d2, .inl (T 0, 24, .inl g2)), (d3, .inl (T 0, 24, .inl g3)), (d4, .inl (T 0, 24, .inl g4)), (d5, .inl (T 0, 24, .inl g5)), (d6, .inl (T 0, 24, .inl g6)), (d7, .inl (T 0, 24, .inl g7))] hP hD rfl
  refine lv_iconst (v := 0) hx hb dX2_become_68 (by decide +kernel) ?_
  refine lv_istore_n (lv' := [(2, .int 0), (0, .ref h0), (1, .ref o1)]) hx hb dX2_become_69 rfl hl (by decide +kernel) rfl (fun ls hl => ?_)
  have hok := okC.cpy hokg hok
  refine loopW (σ := (Int32) × (Nat → Int32) × (Nat → Int32) × (Nat → Int32)) (fun x9 ls H locs => lv_has ls 3 [(2, .int x9.1), (0, .ref h0), (1, .ref o1)] ∧ va_P D vwCl [(h0, .inr (1, [.int k0, .ref c1, .ref c2, .ref c3, .ref c4, .ref c5, .ref c6, .ref c7])), (c1, .inl (T 0, 24, .inl (va_cpy g1 f1 0 0 24))), (c2, .inl (T 0, 24, .inl (va_cpy g2 f2 0 0 24))), (c3, .inl (T 0, 24, .inl (va_cpy g3 f3 0 0 24))), (c4, .inl (T 0, 24, .inl (va_cpy g4 f4 0 0 24))), (c5, .inl (T 0, 24, .inl x9.2.1)), (c6, .inl (T 0, 24, .inl x9.2.2.1)), (c7, .inl (T 0, 24, .inl x9.2.2.2)), (o1, .inr (1, [.int k0, .ref d1, .ref d2, .ref d3, .ref d4, .ref d5, .ref d6, .ref d7])), (d1, .inl (T 0, 24, .inl g1)), (d2, .inl (T 0, 24, .inl g2)), (d3, .inl (T 0, 24, .inl g3)), (d4, .inl (T 0, 24, .inl g4)), (d5, .inl (T 0, 24, .inl g5)), (d6, .inl (T 0, 24, .inl g6)), (d7, .inl (T 0, 24, .inl g7))] H ∧ va_D A [(h0, .inr (1, [.int k0, .ref c1, .ref c2, .ref c3, .ref c4, .ref c5, .ref c6, .ref c7])), (c1, .inl (T 0, 24, .inl (va_cpy g1 f1 0 0 24))), (c2, .inl (T 0, 24, .inl (va_cpy g2 f2 0 0 24))), (c3, .inl (T 0, 24, .inl (va_cpy g3 f3 0 0 24))), (c4, .inl (T 0, 24, .inl (va_cpy g4 f4 0 0 24))), (c5, .inl (T 0, 24, .inl x9.2.1)), (c6, .inl (T 0, 24, .inl x9.2.2.1)), (c7, .inl (T 0, 24, .inl x9.2.2.2)), (o1, .inr (1, [.int k0, .ref d1, .ref d2, .ref d3, .ref d4, .ref d5, .ref d6, .ref d7])), (d1, .inl (T 0, 24, .inl g1)), (d2, .inl (T 0, 24, .inl g2)), (d3, .inl (T 0, 24, .inl g3)), (d4, .inl (T 0, 24, .inl g4)), (d5, .inl (T 0, 24, .inl g5)), (d6, .inl (T 0, 24, .inl g6)), (d7, .inl (T 0, 24, .inl g7))] ∧ va_S A s.heap H locs ∧ (0 ≤ x9.1.toInt ∧ okC (va_cpy g1 f1 0 0 24) (va_cpy g3 f3 0 0 24) (va_cpy g4 f4 0 0 24) x9.2.1 ∧ ∀ j : Nat, (j : Int) < x9.1.toInt → mesP (va_cpy g1 f1 0 0 24) (va_cpy g2 f2 0 0 24) (va_cpy g3 f3 0 0 24) (va_cpy g4 f4 0 0 24) x9.2.1 x9.2.2.1 x9.2.2.2 j)) (fun x9 => (24 - x9.1.toInt).toNat) (fun x9 ls H locs hI ih => ?_) (0, f5, f6, f7) ls ⟨lv_sub hl [0, 1, 2] rfl, hP.sub [0, 1, 2, 3, 4, 5, 6, 7, 8, 9, 10, 11, 12, 13, 14, 15] rfl, hD.sub [0, 1, 2, 3, 4, 5, 6, 7, 8, 9, 10, 11, 12, 13, 14, 15] (by decide +kernel) rfl, hS, ⟨(by (try dsimp only); decide), hok, (fun j hj => absurd hj (by (try dsimp only); rw [ti_0]; omega))⟩⟩
  obtain ⟨ii, v5, v6, v7⟩ := x9
  obtain ⟨hl, hP, hD, hS, hinv⟩ := hI
  have hl : lv_has ls 3 [(2, .int ii), (0, .ref h0), (1, .ref o1)] := hl
  have hP : va_P D vwCl [(h0, .inr (1, [.int k0, .ref c1, .ref c2, .ref c3, .ref c4, .ref c5, .ref c6, .ref c7])), (c1, .inl (T 0, 24, .inl (va_cpy g1 f1 0 0 24))), (c2, .inl (T 0, 24, .inl (va_cpy g2 f2 0 0 24))), (c3, .inl (T 0, 24, .inl (va_cpy g3 f3 0 0 24))), (c4, .inl (T 0, 24, .inl (va_cpy g4 f4 0 0 24))), (c5, .inl (T 0, 24, .inl v5)), (c6, .inl (T 0, 24, .inl v6)), (c7, .inl (T 0, 24, .inl v7)), (o1, .inr (1, [.int k0, .ref d1, .ref d2, .ref d3, .ref d4, .ref d5, .ref d6, .ref d7])), (d1, .inl (T 0, 24, .inl g1)), (d2, .inl (T 0, 24, .inl g2)), (d3, .inl (T 0, 24, .inl g3)), (d4, .inl (T 0, 24, .inl g4)), (d5, .inl (T 0, 24, .inl g5)), (d6, .inl (T 0, 24, .inl g6)), (d7, .inl (T 0, 24, .inl g7))] H := hP
  have hD : va_D A [(h0, .inr (1, [.int k0, .ref c1, .ref c2, .ref c3, .ref c4, .ref c5, .ref c6, .ref c7])), (c1, .inl (T 0, 24, .inl (va_cpy g1 f1 0 0 24))), (c2, .inl (T 0, 24, .inl (va_cpy g2 f2 0 0 24))), (c3, .inl (T 0, 24, .inl (va_cpy g3 f3 0 0 24))), (c4, .inl (T 0, 24, .inl (va_cpy g4 f4 0 0 24))), (c5, .inl (T 0, 24, .inl v5)), (c6, .inl (T 0, 24, .inl v6)), (c7, .inl (T 0, 24, .inl v7)), (o1, .inr (1, [.int k0, .ref d1, .ref d2, .ref d3, .ref d4, .ref d5, .ref d6, .ref d7])), (d1, .inl (T 0, 24, .inl g1)), (d2, .inl (T 0, 24, .inl g2)), (d3, .inl (T 0, 24, .inl g3)), (d4, .inl (T 0, 24, .inl g4)), (d5, .inl (T 0, 24, .inl g5)), (d6, .inl (T 0, 24, .inl g6)), (d7, .inl (T 0, 24, .inl g7))] := hD
  have hinv : 0 ≤ ii.toInt ∧ okC (va_cpy g1 f1 0 0 24) (va_cpy g3 f3 0 0 24) (va_cpy g4 f4 0 0 24) v5 ∧ ∀ j : Nat, (j : Int) < ii.toInt → mesP (va_cpy g1 f1 0 0 24) (va_cpy g2 f2 0 0 24) (va_cpy g3 f3 0 0 24) (va_cpy g4 f4 0 0 24) v5 v6 v7 j := hinv
  obtain ⟨hii, hok, hme⟩ := hinv
  refine lv_iload_n hx hb dX2_become_70 rfl (lv_at hl 0 rfl) ?_
  refine lv_aload_n hx hb dX2_become_71 rfl (lv_at hl 1 rfl) ?_
  refine va_get (D := D) (ci := 1) (v := .int k0) (C := RX2) (T := TX2) (N := 8) hx hb hts in_X2_become_X2 hown hE.1 hP 0 rfl rfl 0 (by decide +kernel) (hts (.fieldLink RX2 9 "ClauseBook$Clauses" "size" "I") (List.mem_of_getElem? (i := 1) rfl)) (fun _ h9 => h9) rfl dX2_become_72 ?_
  refine lv_icmp_ge (tgt := 89) hx hb dX2_become_75 (by decide +kernel) (fun c_1 => ?_) (fun c_1 => ?_)
  · rw [fa_le] at c_1
    exact W.vret hx hb hr (fun t ht hW => ⟨⟨(v5, v6, v7), rfl, ⟨hok, (fun j hj => hme j (by omega))⟩, by rw [ht]; exact hP.sub [0, 1, 2, 3, 4, 5, 6, 7, 8, 9, 10, 11, 12, 13, 14, 15] rfl, hD.sub [0, 1, 2, 3, 4, 5, 6, 7, 8, 9, 10, 11, 12, 13, 14, 15] (by decide +kernel) rfl⟩, hS.F ht⟩) hS.2.2 dX2_become_89
  · rw [fa_le] at c_1
    refine lv_aload_n hx hb dX2_become_78 rfl (lv_at hl 1 rfl) ?_
    refine lv_iload_n hx hb dX2_become_79 rfl (lv_at hl 0 rfl) ?_
    have hFc := va_free (wc := [(h0, .inr (1, [.int k0, .ref c1, .ref c2, .ref c3, .ref c4, .ref c5, .ref c6, .ref c7])), (c1, .inl (T 0, 24, .inl (va_cpy g1 f1 0 0 24))), (c2, .inl (T 0, 24, .inl (va_cpy g2 f2 0 0 24))), (c3, .inl (T 0, 24, .inl (va_cpy g3 f3 0 0 24))), (c4, .inl (T 0, 24, .inl (va_cpy g4 f4 0 0 24))), (c5, .inl (T 0, 24, .inl v5)), (c6, .inl (T 0, 24, .inl v6)), (c7, .inl (T 0, 24, .inl v7))]) hD hS hA [0, 1, 2, 3, 4, 5, 6, 7] rfl
    refine va_callv (va_runV (As := [.int ii]) (rest := []) ⟨hx, hb, hml, hown, hts⟩ (c_X2_measure l D T ad sa av ta _ h0 k0 c1 c2 c3 c4 c5 c6 c7 (va_cpy g1 f1 0 0 24) (va_cpy g2 f2 0 0 24) (va_cpy g3 f3 0 0 24) (va_cpy g4 f4 0 0 24) v5 v6 v7 ii (by omega) hok) (cwV 1 hts gX2_become_X2_measure rfl rfl rfl hv_X2_measure ⟨Nat.le_of_ble_eq_true rfl, Nat.le_of_ble_eq_true rfl⟩) (pWk_V (q := (RX2, TX2, 8)) (ci := 1) (q0 := 0) hP hE hD hV hS hFc rfl rfl [0, 1, 2, 3, 4, 5, 6, 7] (by decide +kernel) rfl rfl) rfl rfl hl.1 rfl (lv_room (Nat.le_of_ble_eq_true rfl)) dX2_become_80 ⟨Nat.le_of_ble_eq_true rfl, Nat.le_of_ble_eq_true rfl⟩) hS (fun q _ h => hFc q h) hFc (fun u_3 t H1 locs ht hvm hr_2 hB hz1 hk1 hS => ?_)
    obtain ⟨f_4, f_5, f_6⟩ := u_3
    have hef_4 : ∀ j : Nat, j < 24 → (f_4 j).toInt ≤ 6 := hr_2.1
    have hmqf_4 : mesQ (va_cpy g1 f1 0 0 24) (va_cpy g2 f2 0 0 24) (va_cpy g3 f3 0 0 24) (va_cpy g4 f4 0 0 24) v5 v6 v7 ii f_4 f_5 f_6 := hr_2.2
    obtain ⟨hP1, hD1⟩ := hB
    rw [ht] at hP1
    obtain ⟨hP, hD⟩ := va_repl [(h0, .inr (1, [.int k0, .ref c1, .ref c2, .ref c3, .ref c4, .ref c5, .ref c6, .ref c7])), (c1, .inl (T 0, 24, .inl (va_cpy g1 f1 0 0 24))), (c2, .inl (T 0, 24, .inl (va_cpy g2 f2 0 0 24))), (c3, .inl (T 0, 24, .inl (va_cpy g3 f3 0 0 24))), (c4, .inl (T 0, 24, .inl (va_cpy g4 f4 0 0 24))), (c5, .inl (T 0, 24, .inl f_4)), (c6, .inl (T 0, 24, .inl f_5)), (c7, .inl (T 0, 24, .inl f_6)), (o1, .inr (1, [.int k0, .ref d1, .ref d2, .ref d3, .ref d4, .ref d5, .ref d6, .ref d7])), (d1, .inl (T 0, 24, .inl g1)), (d2, .inl (T 0, 24, .inl g2)), (d3, .inl (T 0, 24, .inl g3)), (d4, .inl (T 0, 24, .inl g4)), (d5, .inl (T 0, 24, .inl g5)), (d6, .inl (T 0, 24, .inl g6)), (d7, .inl (T 0, 24, .inl g7))] hP hD [0, 1, 2, 3, 4, 5, 6, 7] [0, 1, 2, 3, 4, 5, 6, 7] rfl (by decide +kernel) rfl rfl rfl hk1 hP1
    clear hP1 hD1 hFc
    generalize H1 = H at hP hS ⊢
    obtain ⟨z_7, ez_7⟩ : ∃ y : Int32, y = ii + 1 := ⟨_, rfl⟩
    refine lv_iinc (v := z_7) (lv' := [(2, .int z_7), (0, .ref h0), (1, .ref o1)]) hx hb dX2_become_83 hl (k := 0) rfl (by rw [ez_7]; rfl) (by decide +kernel) rfl (fun ls hl => ?_)
    refine lv_goto (tgt := 70) hx hb dX2_become_86 (by decide +kernel) ?_
    exact ih (z_7, f_4, f_5, f_6) ls _ _ ⟨lv_sub hl [0, 1, 2] rfl, hP.sub [0, 1, 2, 3, 4, 5, 6, 7, 8, 9, 10, 11, 12, 13, 14, 15] rfl, hD.sub [0, 1, 2, 3, 4, 5, 6, 7, 8, 9, 10, 11, 12, 13, 14, 15] (by decide +kernel) rfl, hS, ⟨(by subst_vars; (try dsimp only); rw [inc1 (n := 24) (by omega) (by decide +kernel)]; omega), okC.ends hok hef_4, mes_loop hok (by omega) (by rw [ez_7]; exact inc1 (n := 24) (by omega) (by decide +kernel)) hme hmqf_4⟩⟩ (by subst_vars; (try dsimp only); rw [inc1 (n := 24) (by omega) (by decide +kernel)]; omega)
