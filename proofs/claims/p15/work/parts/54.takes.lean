theorem dX13_takes_0 : decode cX13_takes 0 = .ok (.iload_n 1, 1) := by decide +kernel
theorem dX13_takes_1 : decode cX13_takes 1 = .ok (.iload_n 2, 1) := by decide +kernel
theorem dX13_takes_10 : decode cX13_takes 10 = .ok (.getfield 131, 3) := by decide +kernel
theorem dX13_takes_13 : decode cX13_takes 13 = .ok (.aload_n 0, 1) := by decide +kernel
theorem dX13_takes_14 : decode cX13_takes 14 = .ok (.getfield 63, 3) := by decide +kernel
theorem dX13_takes_17 : decode cX13_takes 17 = .ok (.iload 4, 2) := by decide +kernel
theorem dX13_takes_19 : decode cX13_takes 19 = .ok (.baload, 1) := by decide +kernel
theorem dX13_takes_2 : decode cX13_takes 2 = .ok (.iload_n 3, 1) := by decide +kernel
theorem dX13_takes_20 : decode cX13_takes 20 = .ok (.ior, 1) := by decide +kernel
theorem dX13_takes_21 : decode cX13_takes 21 = .ok (.putfield 131, 3) := by decide +kernel
theorem dX13_takes_24 : decode cX13_takes 24 = .ok (.aload_n 0, 1) := by decide +kernel
theorem dX13_takes_25 : decode cX13_takes 25 = .ok (.aload_n 0, 1) := by decide +kernel
theorem dX13_takes_26 : decode cX13_takes 26 = .ok (.getfield 56, 3) := by decide +kernel
theorem dX13_takes_29 : decode cX13_takes 29 = .ok (.iload 4, 2) := by decide +kernel
theorem dX13_takes_3 : decode cX13_takes 3 = .ok (.invokestatic 239, 3) := by decide +kernel
theorem dX13_takes_31 : decode cX13_takes 31 = .ok (.laload, 1) := by decide +kernel
theorem dX13_takes_32 : decode cX13_takes 32 = .ok (.putfield 145, 3) := by decide +kernel
theorem dX13_takes_35 : decode cX13_takes 35 = .ok (.aload_n 0, 1) := by decide +kernel
theorem dX13_takes_36 : decode cX13_takes 36 = .ok (.aload_n 0, 1) := by decide +kernel
theorem dX13_takes_37 : decode cX13_takes 37 = .ok (.getfield 60, 3) := by decide +kernel
theorem dX13_takes_40 : decode cX13_takes 40 = .ok (.iload 4, 2) := by decide +kernel
theorem dX13_takes_42 : decode cX13_takes 42 = .ok (.laload, 1) := by decide +kernel
theorem dX13_takes_43 : decode cX13_takes 43 = .ok (.putfield 149, 3) := by decide +kernel
theorem dX13_takes_46 : decode cX13_takes 46 = .ok (.return_, 1) := by decide +kernel
theorem dX13_takes_6 : decode cX13_takes 6 = .ok (.istore 4, 2) := by decide +kernel
theorem dX13_takes_8 : decode cX13_takes 8 = .ok (.aload_n 0, 1) := by decide +kernel
theorem dX13_takes_9 : decode cX13_takes 9 = .ok (.dup, 1) := by decide +kernel
set_option maxRecDepth 20000 in
theorem ggX13_takes_X13_at : GoodIn wsX13_takes wsX13_at := goodIn_r _ [10] rfl (by decide +kernel)
set_option maxRecDepth 20000 in
theorem gX13_takes_X13_at : GoodIn wsX13_takes (va_wsS RX13 239 yX13_at wsX13_at) := goodIn_app (goodIn_of _ (by decide +kernel)) ggX13_takes_X13_at
theorem hs_X13_at : yX13_at.cls ≠ "java/lang/invoke/MethodHandle" ∧ yX13_at.cls ≠ "java/lang/invoke/VarHandle" ∧ (parseMethodDescriptor yX13_at.desc).map (fun d => d.parameters.length) = some 3 := by decide +kernel
set_option maxRecDepth 20000 in
theorem in_X13_takes_X13 : ∀ w ∈ wsX130, w ∈ wsX13_takes := sub_r [11, 12, 13, 14, 15, 16, 17, 18, 19, 20, 21, 22, 23, 24, 25, 26, 27, 28, 29, 30, 31, 32, 33, 34, 35, 36, 37, 38, 39, 40, 41, 42, 43, 44, 45, 46, 47, 48, 49, 50, 51, 52, 53, 54, 55] rfl
set_option maxHeartbeats 4000000 in
set_option maxRecDepth 100000 in
theorem c_X13_takes (l : Launch) (D : va_G) (T : Nat → ClassId) (sz : Nat) (h0 : Nat) (q : Nat → Int32) (v : Int64) (w : Int64) (a : Nat → Nat) (f20 : Nat → Int64) (f21 : Nat → Int64) (f22 : Nat → Int32) (x1 : Int32) (x2 : Int32) (x3 : Int32) (hB : isB (q 14)) (hZ : ∀ j : Nat, isB (f22 j)) (hx1 : 0 ≤ x1.toInt ∧ x1.toInt < 24) (hx2 : 0 ≤ x2.toInt ∧ x2.toInt ≤ 6) (hx3 : 0 ≤ x3.toInt ∧ x3.toInt ≤ x2.toInt) (hb1 : ∀ j : Nat, (j : Int) = 28 * x1.toInt + tri x2.toInt + x3.toInt → 1 ≤ (f21 j).toInt) : Met l yX13_takes wsX13_takes ({ frames := 1, cells := 0, slots := 0, locals := 22 }) (pW [.ref h0, .int x1, .int x2, .int x3] D T [(h0, .inr (10, (Value.int (q 0) :: Value.int (q 1) :: Value.int (q 2) :: Value.int (q 3) :: Value.int (q 4) :: Value.int (q 5) :: Value.int (q 6) :: Value.int (q 7) :: Value.ref (a 8) :: Value.ref (a 9) :: Value.ref (a 10) :: Value.ref (a 11) :: Value.ref (a 12) :: Value.ref (a 13) :: Value.int (q 14) :: Value.long v :: Value.long w :: Value.ref (a 17) :: Value.ref (a 18) :: Value.ref (a 19) :: Value.ref (a 20) :: Value.ref (a 21) :: Value.ref (a 22) :: Value.ref (a 23) :: Value.int (q 24) :: Value.ref (a 25) :: Value.int (q 26) :: Value.ref (a 27) :: Value.int (q 28) :: Value.int (q 29) :: Value.int (q 30) :: Value.int (q 31) :: Value.int (q 32) :: Value.int (q 33) :: Value.ref (a 34) :: Value.ref (a 35) :: Value.ref (a 36) :: Value.ref (a 37) :: Value.ref (a 38) :: Value.ref (a 39) :: Value.ref (a 40) :: Value.int (q 41) :: Value.ref (a 42) :: Value.int (q 43) :: Value.int (q 44) :: []))), ((a 20), .inl (T 1, 672, .inr (.inl f20))), ((a 21), .inl (T 1, 672, .inr (.inl f21))), ((a 22), .inl (T 4, 672, .inl f22))] sz) (va_Qv (fun (u : (Int32) × (Int64) × (Int64)) => (isB u.1) ∧ (1 ≤ u.2.2.toInt) ∧ ((u.1 : Int32).toInt = 0 ↔ (((q 14) : Int32).toInt = 0 ∧ (f22 (slN x1 x2 x3)).toInt = 0)) ∧ (u.2.1 = f20 (slN x1 x2 x3)) ∧ (u.2.2 = f21 (slN x1 x2 x3))) (bW D (va_A [(h0, .inr (10, (Value.int (q 0) :: Value.int (q 1) :: Value.int (q 2) :: Value.int (q 3) :: Value.int (q 4) :: Value.int (q 5) :: Value.int (q 6) :: Value.int (q 7) :: Value.ref (a 8) :: Value.ref (a 9) :: Value.ref (a 10) :: Value.ref (a 11) :: Value.ref (a 12) :: Value.ref (a 13) :: Value.int (q 14) :: Value.long v :: Value.long w :: Value.ref (a 17) :: Value.ref (a 18) :: Value.ref (a 19) :: Value.ref (a 20) :: Value.ref (a 21) :: Value.ref (a 22) :: Value.ref (a 23) :: Value.int (q 24) :: Value.ref (a 25) :: Value.int (q 26) :: Value.ref (a 27) :: Value.int (q 28) :: Value.int (q 29) :: Value.int (q 30) :: Value.int (q 31) :: Value.int (q 32) :: Value.int (q 33) :: Value.ref (a 34) :: Value.ref (a 35) :: Value.ref (a 36) :: Value.ref (a 37) :: Value.ref (a 38) :: Value.ref (a 39) :: Value.ref (a 40) :: Value.int (q 41) :: Value.ref (a 42) :: Value.int (q 43) :: Value.int (q 44) :: []))), ((a 20), .inl (T 1, 672, .inr (.inl f20))), ((a 21), .inl (T 1, 672, .inr (.inl f21))), ((a 22), .inl (T 4, 672, .inl f22))] sz) (fun (u : (Int32) × (Int64) × (Int64)) => [(h0, .inr (10, (Value.int (q 0) :: Value.int (q 1) :: Value.int (q 2) :: Value.int (q 3) :: Value.int (q 4) :: Value.int (q 5) :: Value.int (q 6) :: Value.int (q 7) :: Value.ref (a 8) :: Value.ref (a 9) :: Value.ref (a 10) :: Value.ref (a 11) :: Value.ref (a 12) :: Value.ref (a 13) :: Value.int u.1 :: Value.long u.2.1 :: Value.long u.2.2 :: Value.ref (a 17) :: Value.ref (a 18) :: Value.ref (a 19) :: Value.ref (a 20) :: Value.ref (a 21) :: Value.ref (a 22) :: Value.ref (a 23) :: Value.int (q 24) :: Value.ref (a 25) :: Value.int (q 26) :: Value.ref (a 27) :: Value.int (q 28) :: Value.int (q 29) :: Value.int (q 30) :: Value.int (q 31) :: Value.int (q 32) :: Value.int (q 33) :: Value.ref (a 34) :: Value.ref (a 35) :: Value.ref (a 36) :: Value.ref (a 37) :: Value.ref (a 38) :: Value.ref (a 39) :: Value.ref (a 40) :: Value.int (q 41) :: Value.ref (a 42) :: Value.int (q 43) :: Value.int (q 44) :: []))), ((a 20), .inl (T 1, 672, .inr (.inl f20))), ((a 21), .inl (T 1, 672, .inr (.inl f21))), ((a 22), .inl (T 4, 672, .inl f22))])) (va_A [(h0, .inr (10, (Value.int (q 0) :: Value.int (q 1) :: Value.int (q 2) :: Value.int (q 3) :: Value.int (q 4) :: Value.int (q 5) :: Value.int (q 6) :: Value.int (q 7) :: Value.ref (a 8) :: Value.ref (a 9) :: Value.ref (a 10) :: Value.ref (a 11) :: Value.ref (a 12) :: Value.ref (a 13) :: Value.int (q 14) :: Value.long v :: Value.long w :: Value.ref (a 17) :: Value.ref (a 18) :: Value.ref (a 19) :: Value.ref (a 20) :: Value.ref (a 21) :: Value.ref (a 22) :: Value.ref (a 23) :: Value.int (q 24) :: Value.ref (a 25) :: Value.int (q 26) :: Value.ref (a 27) :: Value.int (q 28) :: Value.int (q 29) :: Value.int (q 30) :: Value.int (q 31) :: Value.int (q 32) :: Value.int (q 33) :: Value.ref (a 34) :: Value.ref (a 35) :: Value.ref (a 36) :: Value.ref (a 37) :: Value.ref (a 38) :: Value.ref (a 39) :: Value.ref (a 40) :: Value.int (q 41) :: Value.ref (a 42) :: Value.int (q 43) :: Value.int (q 44) :: []))), ((a 20), .inl (T 1, 672, .inr (.inl f20))), ((a 21), .inl (T 1, 672, .inr (.inl f21))), ((a 22), .inl (T 4, 672, .inl f22))] sz)) 0 0 (va_A [(h0, .inr (10, (Value.int (q 0) :: Value.int (q 1) :: Value.int (q 2) :: Value.int (q 3) :: Value.int (q 4) :: Value.int (q 5) :: Value.int (q 6) :: Value.int (q 7) :: Value.ref (a 8) :: Value.ref (a 9) :: Value.ref (a 10) :: Value.ref (a 11) :: Value.ref (a 12) :: Value.ref (a 13) :: Value.int (q 14) :: Value.long v :: Value.long w :: Value.ref (a 17) :: Value.ref (a 18) :: Value.ref (a 19) :: Value.ref (a 20) :: Value.ref (a 21) :: Value.ref (a 22) :: Value.ref (a 23) :: Value.int (q 24) :: Value.ref (a 25) :: Value.int (q 26) :: Value.ref (a 27) :: Value.int (q 28) :: Value.int (q 29) :: Value.int (q 30) :: Value.int (q 31) :: Value.int (q 32) :: Value.int (q 33) :: Value.ref (a 34) :: Value.ref (a 35) :: Value.ref (a 36) :: Value.ref (a 37) :: Value.ref (a 38) :: Value.ref (a 39) :: Value.ref (a 40) :: Value.int (q 41) :: Value.ref (a 42) :: Value.int (q 43) :: Value.int (q 44) :: []))), ((a 20), .inl (T 1, 672, .inr (.inl f20))), ((a 21), .inl (T 1, 672, .inr (.inl f21))), ((a 22), .inl (T 4, 672, .inl f22))] sz) := by
  refine Met.ofW (cc := cX13_takes) (maxL := 5) (ret := none) (by decide +kernel) rfl ?_
  intro p e s m args below meth c s₁ B hml hv
  obtain ⟨rfl, hsz, hP, hE, hD0⟩ := hv
  have hx := B.exec
  have hb := B.bytes
  have hr := B.returns
  have hts := atoms_spec (ws := wsX13_takes) B.pre
  have hown : s.vm.findClass RX13 = some m.cls := findClass_of_methodNamed B.named
  have hlocks := B.notSynchronized
  subst hsz
  have hD := hD0.self (sz := s.heap.size)
  generalize hAe : va_A [(h0, .inr (10, (Value.int (q 0) :: Value.int (q 1) :: Value.int (q 2) :: Value.int (q 3) :: Value.int (q 4) :: Value.int (q 5) :: Value.int (q 6) :: Value.int (q 7) :: Value.ref (a 8) :: Value.ref (a 9) :: Value.ref (a 10) :: Value.ref (a 11) :: Value.ref (a 12) :: Value.ref (a 13) :: Value.int (q 14) :: Value.long v :: Value.long w :: Value.ref (a 17) :: Value.ref (a 18) :: Value.ref (a 19) :: Value.ref (a 20) :: Value.ref (a 21) :: Value.ref (a 22) :: Value.ref (a 23) :: Value.int (q 24) :: Value.ref (a 25) :: Value.int (q 26) :: Value.ref (a 27) :: Value.int (q 28) :: Value.int (q 29) :: Value.int (q 30) :: Value.int (q 31) :: Value.int (q 32) :: Value.int (q 33) :: Value.ref (a 34) :: Value.ref (a 35) :: Value.ref (a 36) :: Value.ref (a 37) :: Value.ref (a 38) :: Value.ref (a 39) :: Value.ref (a 40) :: Value.int (q 41) :: Value.ref (a 42) :: Value.int (q 43) :: Value.int (q 44) :: []))), ((a 20), .inl (T 1, 672, .inr (.inl f20))), ((a 21), .inl (T 1, 672, .inr (.inl f21))), ((a 22), .inl (T 4, 672, .inl f22))] s.heap.size = A at hD ⊢
  have hA : ∀ q : Nat, s.heap.size ≤ q → A q := fun q h => by rw [← hAe]; exact Or.inr h
  have hS : va_S A s.heap s.heap [] := va_S.rf
  have hP : va_P D vwCl [(h0, .inr (10, (Value.int (q 0) :: Value.int (q 1) :: Value.int (q 2) :: Value.int (q 3) :: Value.int (q 4) :: Value.int (q 5) :: Value.int (q 6) :: Value.int (q 7) :: Value.ref (a 8) :: Value.ref (a 9) :: Value.ref (a 10) :: Value.ref (a 11) :: Value.ref (a 12) :: Value.ref (a 13) :: Value.int (q 14) :: Value.long v :: Value.long w :: Value.ref (a 17) :: Value.ref (a 18) :: Value.ref (a 19) :: Value.ref (a 20) :: Value.ref (a 21) :: Value.ref (a 22) :: Value.ref (a 23) :: Value.int (q 24) :: Value.ref (a 25) :: Value.int (q 26) :: Value.ref (a 27) :: Value.int (q 28) :: Value.int (q 29) :: Value.int (q 30) :: Value.int (q 31) :: Value.int (q 32) :: Value.int (q 33) :: Value.ref (a 34) :: Value.ref (a 35) :: Value.ref (a 36) :: Value.ref (a 37) :: Value.ref (a 38) :: Value.ref (a 39) :: Value.ref (a 40) :: Value.int (q 41) :: Value.ref (a 42) :: Value.int (q 43) :: Value.int (q 44) :: []))), ((a 20), .inl (T 1, 672, .inr (.inl f20))), ((a 21), .inl (T 1, 672, .inr (.inl f21))), ((a 22), .inl (T 4, 672, .inl f22))] s.heap := hP
  have hl := lv_entry ([.ref h0, .int x1, .int x2, .int x3]) (n := 5) (Nat.le_of_ble_eq_true rfl)
  rw [lg_entry_eq]
  generalize (lg_sl ([.ref h0, .int x1, .int x2, .int x3]) ++ List.replicate (5 - (lg_sl ([.ref h0, .int x1, .int x2, .int x3])).length) Slot.unset).toArray = ls at hl ⊢
  have hl : lv_has ls 5 [(0, .ref h0), (1, .int x1), (2, .int x2), (3, .int x3)] := hl
  clear hD0
  refine lv_iload_n hx hb dX13_takes_0 rfl (lv_at hl 1 rfl) ?_
  refine lv_iload_n hx hb dX13_takes_1 rfl (lv_at hl 2 rfl) ?_
  refine lv_iload_n hx hb dX13_takes_2 rfl (lv_at hl 3 rfl) ?_
  refine vp_callSi (W.runS (As := [.int x1, .int x2, .int x3]) (rest := []) ⟨hx, hb, hml, hown, hts⟩ (c_X13_at l D T x1 x2 x3 (by (try simp only [ti_0]); omega) (by (try simp only [ti_0]); omega) (by (try simp only [ti_0]); omega)) (va_cwS 3 hts gX13_takes_X13_at rfl rfl rfl hs_X13_at ⟨Nat.le_of_ble_eq_true rfl, Nat.le_of_ble_eq_true rfl⟩) (pR_S hP hE [] rfl) rfl rfl hl.1 rfl (lv_room (Nat.le_of_ble_eq_true rfl)) dX13_takes_3 ⟨Nat.le_of_ble_eq_true rfl, Nat.le_of_ble_eq_true rfl⟩) (fun r_1 hr_1 => ?_)
  refine lv_istore (lv' := [(4, .int r_1), (0, .ref h0), (1, .int x1), (2, .int x2), (3, .int x3)]) hx hb dX13_takes_6 hl (by decide +kernel) rfl (fun ls hl => ?_)
  refine lv_aload_n hx hb dX13_takes_8 rfl (lv_at hl 1 rfl) ?_
  refine lv_dup hx hb dX13_takes_9 rfl ?_
  refine va_get (D := D) (ci := 10) (v := .int (q 14)) (C := RX13) (T := TX13) (N := 45) hx hb hts in_X13_takes_X13 hown hE.1 hP 0 rfl rfl 14 (by decide +kernel) (hts (.fieldLink RX13 131 "ClauseBookModel" "isMuch" "Z") (List.mem_of_getElem? (i := 1) rfl)) (fun _ h9 => h9) rfl dX13_takes_10 ?_
  refine lv_aload_n hx hb dX13_takes_13 rfl (lv_at hl 1 rfl) ?_
  refine va_get (D := D) (ci := 10) (v := .ref (a 22)) (C := RX13) (T := TX13) (N := 45) hx hb hts in_X13_takes_X13 hown hE.1 hP 0 rfl rfl 22 (by decide +kernel) (hts (.fieldLink RX13 63 "ClauseBookModel" "worthMuch" "[Z") (List.mem_of_getElem? (i := 2) rfl)) (fun _ h9 => h9) rfl dX13_takes_14 ?_
  refine lv_iload hx hb dX13_takes_17 (lv_at hl 0 rfl) ?_
  refine va_zald hx hb hE.1 hP 3 4 rfl rfl (by rw [vp_in_iff]; first | omega | (subst_vars; omega)) dX13_takes_19 ?_
  refine lv_topi (fun z_2 ez_2 => ?_)
  have hBz_2 : isB z_2 := by rw [ez_2]; exact hZ _
  have hsl9 : r_1.toNatClampNeg = slN x1 x2 x3 := at_sl (by omega) (by omega) (by omega) hr_1.1
  refine lv_ior hx hb dX13_takes_20 ?_
  refine lv_topi (fun z_3 ez_3 => ?_)
  have hBz_3 : isB z_3 := by rw [ez_3]; exact isB.or hB hBz_2
  have hOz_3 : z_3.toInt = 0 → ((q 14) : Int32).toInt = 0 ∧ (z_2 : Int32).toInt = 0 := by rw [ez_3]; exact isB.or0 hB hBz_2
  refine va_put (D := D) (ci := 10) (v := .int z_3) (ty := .boolean) (C := RX13) (T := TX13) (N := 45) hx hb hts in_X13_takes_X13 tyX13 tyX13_ok nmX13 hown hE.1 hP hD hS 0 rfl rfl 14 (by decide +kernel) (hts (.fieldLink RX13 131 "ClauseBookModel" "isMuch" "Z") (List.mem_of_getElem? (i := 1) rfl)) (fun _ h9 => h9) rfl (by decide +kernel) (isB.nar hBz_3) (isB.fits hBz_3) (Nat.le_of_ble_eq_true rfl) dX13_takes_21 (fun H locs hP hD hS => ?_)
  obtain ⟨hP, hD⟩ := wPD [(h0, .inr (10, (Value.int (q 0) :: Value.int (q 1) :: Value.int (q 2) :: Value.int (q 3) :: Value.int (q 4) :: Value.int (q 5) :: Value.int (q 6) :: Value.int (q 7) :: Value.ref (a 8) :: Value.ref (a 9) :: Value.ref (a 10) :: Value.ref (a 11) :: Value.ref (a 12) :: Value.ref (a 13) :: Value.int z_3 :: Value.long v :: Value.long w :: Value.ref (a 17) :: Value.ref (a 18) :: Value.ref (a 19) :: Value.ref (a 20) :: Value.ref (a 21) :: Value.ref (a 22) :: Value.ref (a 23) :: Value.int (q 24) :: Value.ref (a 25) :: Value.int (q 26) :: Value.ref (a 27) :: Value.int (q 28) :: Value.int (q 29) :: Value.int (q 30) :: Value.int (q 31) :: Value.int (q 32) :: Value.int (q 33) :: Value.ref (a 34) :: Value.ref (a 35) :: Value.ref (a 36) :: Value.ref (a 37) :: Value.ref (a 38) :: Value.ref (a 39) :: Value.ref (a 40) :: Value.int (q 41) :: Value.ref (a 42) :: Value.int (q 43) :: Value.int (q 44) :: []))), ((a 20), .inl (T 1, 672, .inr (.inl f20))), ((a 21), .inl (T 1, 672, .inr (.inl f21))), ((a 22), .inl (T 4, 672, .inl f22))] hP hD rfl
  refine lv_aload_n hx hb dX13_takes_24 rfl (lv_at hl 1 rfl) ?_
  refine lv_aload_n hx hb dX13_takes_25 rfl (lv_at hl 1 rfl) ?_
  refine va_get (D := D) (ci := 10) (v := .ref (a 20)) (C := RX13) (T := TX13) (N := 45) hx hb hts in_X13_takes_X13 hown hE.1 hP 0 rfl rfl 20 (by decide +kernel) (hts (.fieldLink RX13 56 "ClauseBookModel" "worthAbove" "[J") (List.mem_of_getElem? (i := 3) rfl)) (fun _ h9 => h9) rfl dX13_takes_26 ?_
  refine lv_iload hx hb dX13_takes_29 (lv_at hl 0 rfl) ?_
  refine va_lald hx hb hE.1 hP 1 1 rfl rfl (by rw [vp_in_iff]; first | omega | (subst_vars; omega)) dX13_takes_31 ?_
  refine lv_topl (fun z_4 ez_4 => ?_)
  refine va_put (D := D) (ci := 10) (v := .long z_4) (ty := .long) (C := RX13) (T := TX13) (N := 45) hx hb hts in_X13_takes_X13 tyX13 tyX13_ok nmX13 hown hE.1 hP hD hS 0 rfl rfl 15 (by decide +kernel) (hts (.fieldLink RX13 145 "ClauseBookModel" "above" "J") (List.mem_of_getElem? (i := 4) rfl)) (fun _ h9 => h9) rfl (by decide +kernel) rfl rfl (Nat.le_of_ble_eq_true rfl) dX13_takes_32 (fun H locs hP hD hS => ?_)
  obtain ⟨hP, hD⟩ := wPD [(h0, .inr (10, (Value.int (q 0) :: Value.int (q 1) :: Value.int (q 2) :: Value.int (q 3) :: Value.int (q 4) :: Value.int (q 5) :: Value.int (q 6) :: Value.int (q 7) :: Value.ref (a 8) :: Value.ref (a 9) :: Value.ref (a 10) :: Value.ref (a 11) :: Value.ref (a 12) :: Value.ref (a 13) :: Value.int z_3 :: Value.long z_4 :: Value.long w :: Value.ref (a 17) :: Value.ref (a 18) :: Value.ref (a 19) :: Value.ref (a 20) :: Value.ref (a 21) :: Value.ref (a 22) :: Value.ref (a 23) :: Value.int (q 24) :: Value.ref (a 25) :: Value.int (q 26) :: Value.ref (a 27) :: Value.int (q 28) :: Value.int (q 29) :: Value.int (q 30) :: Value.int (q 31) :: Value.int (q 32) :: Value.int (q 33) :: Value.ref (a 34) :: Value.ref (a 35) :: Value.ref (a 36) :: Value.ref (a 37) :: Value.ref (a 38) :: Value.ref (a 39) :: Value.ref (a 40) :: Value.int (q 41) :: Value.ref (a 42) :: Value.int (q 43) :: Value.int (q 44) :: []))), ((a 20), .inl (T 1, 672, .inr (.inl f20))), ((a 21), .inl (T 1, 672, .inr (.inl f21))), ((a 22), .inl (T 4, 672, .inl f22))] hP hD rfl
  refine lv_aload_n hx hb dX13_takes_35 rfl (lv_at hl 1 rfl) ?_
  refine lv_aload_n hx hb dX13_takes_36 rfl (lv_at hl 1 rfl) ?_
  refine va_get (D := D) (ci := 10) (v := .ref (a 21)) (C := RX13) (T := TX13) (N := 45) hx hb hts in_X13_takes_X13 hown hE.1 hP 0 rfl rfl 21 (by decide +kernel) (hts (.fieldLink RX13 60 "ClauseBookModel" "worthBelow" "[J") (List.mem_of_getElem? (i := 5) rfl)) (fun _ h9 => h9) rfl dX13_takes_37 ?_
  refine lv_iload hx hb dX13_takes_40 (lv_at hl 0 rfl) ?_
  refine va_lald hx hb hE.1 hP 2 1 rfl rfl (by rw [vp_in_iff]; first | omega | (subst_vars; omega)) dX13_takes_42 ?_
  refine lv_topl (fun z_5 ez_5 => ?_)
  have hbz_5 : 1 ≤ z_5.toInt := by
    rw [ez_5]
    have h9 := tn (x := r_1) (by omega)
    exact hb1 _ (by omega)
  refine va_put (D := D) (ci := 10) (v := .long z_5) (ty := .long) (C := RX13) (T := TX13) (N := 45) hx hb hts in_X13_takes_X13 tyX13 tyX13_ok nmX13 hown hE.1 hP hD hS 0 rfl rfl 16 (by decide +kernel) (hts (.fieldLink RX13 149 "ClauseBookModel" "below" "J") (List.mem_of_getElem? (i := 6) rfl)) (fun _ h9 => h9) rfl (by decide +kernel) rfl rfl (Nat.le_of_ble_eq_true rfl) dX13_takes_43 (fun H locs hP hD hS => ?_)
  obtain ⟨hP, hD⟩ := wPD [(h0, .inr (10, (Value.int (q 0) :: Value.int (q 1) :: Value.int (q 2) :: Value.int (q 3) :: Value.int (q 4) :: Value.int (q 5) :: Value.int (q 6) :: Value.int (q 7) :: Value.ref (a 8) :: Value.ref (a 9) :: Value.ref (a 10) :: Value.ref (a 11) :: Value.ref (a 12) :: Value.ref (a 13) :: Value.int z_3 :: Value.long z_4 :: Value.long z_5 :: Value.ref (a 17) :: Value.ref (a 18) :: Value.ref (a 19) :: Value.ref (a 20) :: Value.ref (a 21) :: Value.ref (a 22) :: Value.ref (a 23) :: Value.int (q 24) :: Value.ref (a 25) :: Value.int (q 26) :: Value.ref (a 27) :: Value.int (q 28) :: Value.int (q 29) :: Value.int (q 30) :: Value.int (q 31) :: Value.int (q 32) :: Value.int (q 33) :: Value.ref (a 34) :: Value.ref (a 35) :: Value.ref (a 36) :: Value.ref (a 37) :: Value.ref (a 38) :: Value.ref (a 39) :: Value.ref (a 40) :: Value.int (q 41) :: Value.ref (a 42) :: Value.int (q 43) :: Value.int (q 44) :: []))), ((a 20), .inl (T 1, 672, .inr (.inl f20))), ((a 21), .inl (T 1, 672, .inr (.inl f21))), ((a 22), .inl (T 4, 672, .inl f22))] hP hD rfl
  exact W.vret hx hb hr (fun t ht hW => ⟨⟨(z_3, z_4, z_5), rfl, ⟨(show isB z_3 from hBz_3), (show 1 ≤ z_5.toInt from (by first | omega | (subst_vars; omega))), (show (z_3 : Int32).toInt = 0 ↔ (((q 14) : Int32).toInt = 0 ∧ (f22 (slN x1 x2 x3)).toInt = 0) from ⟨(fun h9 => by have h8 := hOz_3 h9; exact ⟨h8.1, by rw [← hsl9, ← ez_2]; exact h8.2⟩), (fun h9 => by rw [ez_3]; exact or_00 h9.1 (by rw [ez_2, hsl9]; exact h9.2))⟩), (show z_4 = f20 (slN x1 x2 x3) from (by rw [← hsl9]; first | assumption | rfl)), (show z_5 = f21 (slN x1 x2 x3) from (by rw [← hsl9]; first | assumption | rfl))⟩, by rw [ht]; exact hP.sub [0, 1, 2, 3] rfl, hD.sub [0, 1, 2, 3] (by decide +kernel) rfl⟩, hS.F ht⟩) hS.2.2 dX13_takes_46
theorem dX13_means_0 : decode cX13_means 0 = .ok (.aload_n 0, 1) := by decide +kernel
theorem dX13_means_1 : decode cX13_means 1 = .ok (.iload_n 1, 1) := by decide +kernel
theorem dX13_means_100 : decode cX13_means 100 = .ok (.getfield 19, 3) := by decide +kernel
theorem dX13_means_103 : decode cX13_means 103 = .ok (.i2l, 1) := by decide +kernel
theorem dX13_means_104 : decode cX13_means 104 = .ok (.lmul, 1) := by decide +kernel
theorem dX13_means_105 : decode cX13_means 105 = .ok (.invokestatic 141, 3) := by decide +kernel
theorem dX13_means_108 : decode cX13_means 108 = .ok (.lstore 8, 2) := by decide +kernel
theorem dX13_means_11 : decode cX13_means 11 = .ok (.aload_n 0, 1) := by decide +kernel
theorem dX13_means_110 : decode cX13_means 110 = .ok (.aload_n 0, 1) := by decide +kernel
theorem dX13_means_111 : decode cX13_means 111 = .ok (.aload_n 0, 1) := by decide +kernel
theorem dX13_means_112 : decode cX13_means 112 = .ok (.getfield 145, 3) := by decide +kernel
theorem dX13_means_115 : decode cX13_means 115 = .ok (.aload_n 0, 1) := by decide +kernel
theorem dX13_means_116 : decode cX13_means 116 = .ok (.getfield 149, 3) := by decide +kernel
theorem dX13_means_119 : decode cX13_means 119 = .ok (.aload_n 0, 1) := by decide +kernel
theorem dX13_means_12 : decode cX13_means 12 = .ok (.aload_n 0, 1) := by decide +kernel
theorem dX13_means_120 : decode cX13_means 120 = .ok (.getfield 22, 3) := by decide +kernel
theorem dX13_means_123 : decode cX13_means 123 = .ok (.i2l, 1) := by decide +kernel
theorem dX13_means_124 : decode cX13_means 124 = .ok (.lload 8, 2) := by decide +kernel
theorem dX13_means_126 : decode cX13_means 126 = .ok (.ldiv, 1) := by decide +kernel
theorem dX13_means_127 : decode cX13_means 127 = .ok (.aload_n 0, 1) := by decide +kernel
theorem dX13_means_128 : decode cX13_means 128 = .ok (.getfield 25, 3) := by decide +kernel
theorem dX13_means_13 : decode cX13_means 13 = .ok (.getfield 16, 3) := by decide +kernel
theorem dX13_means_131 : decode cX13_means 131 = .ok (.i2l, 1) := by decide +kernel
theorem dX13_means_132 : decode cX13_means 132 = .ok (.aload_n 0, 1) := by decide +kernel
theorem dX13_means_133 : decode cX13_means 133 = .ok (.getfield 19, 3) := by decide +kernel
theorem dX13_means_136 : decode cX13_means 136 = .ok (.i2l, 1) := by decide +kernel
theorem dX13_means_137 : decode cX13_means 137 = .ok (.lmul, 1) := by decide +kernel
theorem dX13_means_138 : decode cX13_means 138 = .ok (.lload 8, 2) := by decide +kernel
theorem dX13_means_140 : decode cX13_means 140 = .ok (.ldiv, 1) := by decide +kernel
theorem dX13_means_141 : decode cX13_means 141 = .ok (.invokevirtual 247, 3) := by decide +kernel
theorem dX13_means_144 : decode cX13_means 144 = .ok (.return_, 1) := by decide +kernel
theorem dX13_means_16 : decode cX13_means 16 = .ok (.i2l, 1) := by decide +kernel
theorem dX13_means_17 : decode cX13_means 17 = .ok (.lconst 1, 1) := by decide +kernel
theorem dX13_means_18 : decode cX13_means 18 = .ok (.aload_n 0, 1) := by decide +kernel
theorem dX13_means_19 : decode cX13_means 19 = .ok (.getfield 145, 3) := by decide +kernel
theorem dX13_means_2 : decode cX13_means 2 = .ok (.iload_n 2, 1) := by decide +kernel
theorem dX13_means_22 : decode cX13_means 22 = .ok (.aload_n 0, 1) := by decide +kernel
theorem dX13_means_23 : decode cX13_means 23 = .ok (.getfield 149, 3) := by decide +kernel
theorem dX13_means_26 : decode cX13_means 26 = .ok (.invokevirtual 247, 3) := by decide +kernel
theorem dX13_means_29 : decode cX13_means 29 = .ok (.aload_n 0, 1) := by decide +kernel
theorem dX13_means_3 : decode cX13_means 3 = .ok (.iconst 1, 1) := by decide +kernel
theorem dX13_means_30 : decode cX13_means 30 = .ok (.getfield 145, 3) := by decide +kernel
theorem dX13_means_33 : decode cX13_means 33 = .ok (.lstore 4, 2) := by decide +kernel
theorem dX13_means_35 : decode cX13_means 35 = .ok (.aload_n 0, 1) := by decide +kernel
theorem dX13_means_36 : decode cX13_means 36 = .ok (.getfield 149, 3) := by decide +kernel
theorem dX13_means_39 : decode cX13_means 39 = .ok (.lstore 6, 2) := by decide +kernel
theorem dX13_means_4 : decode cX13_means 4 = .ok (.iadd, 1) := by decide +kernel
theorem dX13_means_41 : decode cX13_means 41 = .ok (.aload_n 0, 1) := by decide +kernel
theorem dX13_means_42 : decode cX13_means 42 = .ok (.iload_n 1, 1) := by decide +kernel
theorem dX13_means_43 : decode cX13_means 43 = .ok (.iload_n 2, 1) := by decide +kernel
theorem dX13_means_44 : decode cX13_means 44 = .ok (.iconst 1, 1) := by decide +kernel
theorem dX13_means_45 : decode cX13_means 45 = .ok (.iadd, 1) := by decide +kernel
theorem dX13_means_46 : decode cX13_means 46 = .ok (.iload_n 3, 1) := by decide +kernel
theorem dX13_means_47 : decode cX13_means 47 = .ok (.invokevirtual 243, 3) := by decide +kernel
theorem dX13_means_5 : decode cX13_means 5 = .ok (.iload_n 3, 1) := by decide +kernel
theorem dX13_means_50 : decode cX13_means 50 = .ok (.aload_n 0, 1) := by decide +kernel
theorem dX13_means_51 : decode cX13_means 51 = .ok (.aload_n 0, 1) := by decide +kernel
theorem dX13_means_52 : decode cX13_means 52 = .ok (.getfield 19, 3) := by decide +kernel
theorem dX13_means_55 : decode cX13_means 55 = .ok (.aload_n 0, 1) := by decide +kernel
theorem dX13_means_56 : decode cX13_means 56 = .ok (.getfield 16, 3) := by decide +kernel
theorem dX13_means_59 : decode cX13_means 59 = .ok (.isub, 1) := by decide +kernel
theorem dX13_means_6 : decode cX13_means 6 = .ok (.iconst 1, 1) := by decide +kernel
theorem dX13_means_60 : decode cX13_means 60 = .ok (.i2l, 1) := by decide +kernel
theorem dX13_means_61 : decode cX13_means 61 = .ok (.lconst 1, 1) := by decide +kernel
theorem dX13_means_62 : decode cX13_means 62 = .ok (.aload_n 0, 1) := by decide +kernel
theorem dX13_means_63 : decode cX13_means 63 = .ok (.getfield 145, 3) := by decide +kernel
theorem dX13_means_66 : decode cX13_means 66 = .ok (.aload_n 0, 1) := by decide +kernel
theorem dX13_means_67 : decode cX13_means 67 = .ok (.getfield 149, 3) := by decide +kernel
theorem dX13_means_7 : decode cX13_means 7 = .ok (.iadd, 1) := by decide +kernel
theorem dX13_means_70 : decode cX13_means 70 = .ok (.invokevirtual 247, 3) := by decide +kernel
theorem dX13_means_73 : decode cX13_means 73 = .ok (.aload_n 0, 1) := by decide +kernel
theorem dX13_means_74 : decode cX13_means 74 = .ok (.lload 4, 2) := by decide +kernel
theorem dX13_means_76 : decode cX13_means 76 = .ok (.lload 6, 2) := by decide +kernel
theorem dX13_means_78 : decode cX13_means 78 = .ok (.aload_n 0, 1) := by decide +kernel
theorem dX13_means_79 : decode cX13_means 79 = .ok (.getfield 145, 3) := by decide +kernel
theorem dX13_means_8 : decode cX13_means 8 = .ok (.invokevirtual 243, 3) := by decide +kernel
theorem dX13_means_82 : decode cX13_means 82 = .ok (.aload_n 0, 1) := by decide +kernel
theorem dX13_means_83 : decode cX13_means 83 = .ok (.getfield 149, 3) := by decide +kernel
theorem dX13_means_86 : decode cX13_means 86 = .ok (.invokevirtual 251, 3) := by decide +kernel
theorem dX13_means_89 : decode cX13_means 89 = .ok (.aload_n 0, 1) := by decide +kernel
theorem dX13_means_90 : decode cX13_means 90 = .ok (.getfield 22, 3) := by decide +kernel
theorem dX13_means_93 : decode cX13_means 93 = .ok (.i2l, 1) := by decide +kernel
theorem dX13_means_94 : decode cX13_means 94 = .ok (.aload_n 0, 1) := by decide +kernel
theorem dX13_means_95 : decode cX13_means 95 = .ok (.getfield 25, 3) := by decide +kernel
theorem dX13_means_98 : decode cX13_means 98 = .ok (.i2l, 1) := by decide +kernel
theorem dX13_means_99 : decode cX13_means 99 = .ok (.aload_n 0, 1) := by decide +kernel
set_option maxRecDepth 40000 in
theorem ggX13_means_X13_adds_0 : GoodIn wsX13_means [.code yX13_adds cX13_adds 17 none] := goodIn_r _ [39] rfl (by decide +kernel)
set_option maxRecDepth 40000 in
theorem ggX13_means_X13_adds_1 : GoodIn wsX13_means [.fieldLink RX13 131 "ClauseBookModel" "isMuch" "Z", .methodLink RX13 152 yX13_times, .instanceMethod yX13_times, .selects RX13 yX13_times yX13_times, .initialized RX13, .code yX13_times cX13_times 7 (some .long), .constantLong RX13 135 (-1), .constantLong RX13 139 (-9223372036854775808), .methodLink RX13 159 yX13_plus, .instanceMethod yX13_plus, .selects RX13 yX13_plus yX13_plus, .code yX13_plus cX13_plus 7 (some .long), .methodLink RX13 155 yX13_becomes, .instanceMethod yX13_becomes, .selects RX13 yX13_becomes yX13_becomes, .code yX13_becomes cX13_becomes 7 none, .fieldLink RX13 145 "ClauseBookModel" "above" "J", .fieldLink RX13 149 "ClauseBookModel" "below" "J", .methodLink RX13 141 yX13_divisor, .static yX13_divisor, .code yX13_divisor cX13_divisor 10 (some .long)] := goodIn_r _ [12, 23, 24, 25, 10, 26, 27, 28, 40, 41, 42, 43, 29, 30, 31, 32, 2, 3, 33, 34, 35] rfl (by decide +kernel)
set_option maxRecDepth 40000 in
theorem ggX13_means_X13_adds_2 : GoodIn wsX13_means wsX130 := goodIn_r _ [44, 45, 46, 47, 48, 49, 50, 51, 52, 53, 54, 55, 56, 57, 58, 59, 60, 61, 62, 63, 64, 65, 66, 67, 68, 69, 70, 71, 72, 73, 74, 75, 76, 77, 78, 79, 80, 81, 82, 83, 84, 85, 86, 87, 88] rfl (by decide +kernel)
set_option maxRecDepth 40000 in
theorem ggX13_means_X13_adds : GoodIn wsX13_means wsX13_adds := (goodIn_app ggX13_means_X13_adds_0 (goodIn_app ggX13_means_X13_adds_1 ggX13_means_X13_adds_2))
set_option maxRecDepth 20000 in
theorem ggX13_means_X13_divisor : GoodIn wsX13_means wsX13_divisor := goodIn_r _ [35] rfl (by decide +kernel)
set_option maxRecDepth 40000 in
theorem ggX13_means_X13_multiplies_0 : GoodIn wsX13_means [.code yX13_multiplies cX13_multiplies 13 none] := goodIn_r _ [22] rfl (by decide +kernel)
set_option maxRecDepth 40000 in
theorem ggX13_means_X13_multiplies_1 : GoodIn wsX13_means [.methodLink RX13 152 yX13_times, .instanceMethod yX13_times, .selects RX13 yX13_times yX13_times, .initialized RX13, .code yX13_times cX13_times 7 (some .long), .fieldLink RX13 131 "ClauseBookModel" "isMuch" "Z", .constantLong RX13 135 (-1), .constantLong RX13 139 (-9223372036854775808), .methodLink RX13 155 yX13_becomes, .instanceMethod yX13_becomes, .selects RX13 yX13_becomes yX13_becomes, .code yX13_becomes cX13_becomes 7 none, .fieldLink RX13 145 "ClauseBookModel" "above" "J", .fieldLink RX13 149 "ClauseBookModel" "below" "J", .methodLink RX13 141 yX13_divisor, .static yX13_divisor, .code yX13_divisor cX13_divisor 10 (some .long)] := goodIn_r _ [23, 24, 25, 10, 26, 12, 27, 28, 29, 30, 31, 32, 2, 3, 33, 34, 35] rfl (by decide +kernel)
set_option maxRecDepth 40000 in
theorem ggX13_means_X13_multiplies_2 : GoodIn wsX13_means wsX130 := goodIn_r _ [44, 45, 46, 47, 48, 49, 50, 51, 52, 53, 54, 55, 56, 57, 58, 59, 60, 61, 62, 63, 64, 65, 66, 67, 68, 69, 70, 71, 72, 73, 74, 75, 76, 77, 78, 79, 80, 81, 82, 83, 84, 85, 86, 87, 88] rfl (by decide +kernel)
set_option maxRecDepth 40000 in
theorem ggX13_means_X13_multiplies : GoodIn wsX13_means wsX13_multiplies := (goodIn_app ggX13_means_X13_multiplies_0 (goodIn_app ggX13_means_X13_multiplies_1 ggX13_means_X13_multiplies_2))
set_option maxRecDepth 20000 in
theorem ggX13_means_X13_takes : GoodIn wsX13_means wsX13_takes := goodIn_r _ [11, 12, 13, 14, 2, 15, 3, 16, 17, 10, 18, 44, 45, 46, 47, 48, 49, 50, 51, 52, 53, 54, 55, 56, 57, 58, 59, 60, 61, 62, 63, 64, 65, 66, 67, 68, 69, 70, 71, 72, 73, 74, 75, 76, 77, 78, 79, 80, 81, 82, 83, 84, 85, 86, 87, 88] rfl (by decide +kernel)
set_option maxRecDepth 20000 in
theorem gX13_means_X13_adds : GoodIn wsX13_means (wsV RX13 251 RX13 yX13_adds wsX13_adds) := goodIn_app (goodIn_r _ [36, 37, 38, 10] rfl (by decide +kernel)) ggX13_means_X13_adds
set_option maxRecDepth 20000 in
theorem gX13_means_X13_divisor : GoodIn wsX13_means (va_wsS RX13 141 yX13_divisor wsX13_divisor) := goodIn_app (goodIn_of _ (by decide +kernel)) ggX13_means_X13_divisor
set_option maxRecDepth 20000 in
theorem gX13_means_X13_multiplies : GoodIn wsX13_means (wsV RX13 247 RX13 yX13_multiplies wsX13_multiplies) := goodIn_app (goodIn_r _ [19, 20, 21, 10] rfl (by decide +kernel)) ggX13_means_X13_multiplies
set_option maxRecDepth 20000 in
theorem gX13_means_X13_takes : GoodIn wsX13_means (wsV RX13 243 RX13 yX13_takes wsX13_takes) := goodIn_app (goodIn_r _ [7, 8, 9, 10] rfl (by decide +kernel)) ggX13_means_X13_takes
theorem hv_X13_adds : yX13_adds.cls = RX13 ∧ yX13_adds.cls ≠ "java/lang/invoke/MethodHandle" ∧ yX13_adds.cls ≠ "java/lang/invoke/VarHandle" ∧ (parseMethodDescriptor yX13_adds.desc).map (fun d => d.parameters.length) = some 4 := by decide +kernel
theorem hv_X13_multiplies : yX13_multiplies.cls = RX13 ∧ yX13_multiplies.cls ≠ "java/lang/invoke/MethodHandle" ∧ yX13_multiplies.cls ≠ "java/lang/invoke/VarHandle" ∧ (parseMethodDescriptor yX13_multiplies.desc).map (fun d => d.parameters.length) = some 4 := by decide +kernel
theorem hv_X13_takes : yX13_takes.cls = RX13 ∧ yX13_takes.cls ≠ "java/lang/invoke/MethodHandle" ∧ yX13_takes.cls ≠ "java/lang/invoke/VarHandle" ∧ (parseMethodDescriptor yX13_takes.desc).map (fun d => d.parameters.length) = some 3 := by decide +kernel
set_option maxRecDepth 20000 in
theorem in_X13_means_X13 : ∀ w ∈ wsX130, w ∈ wsX13_means := sub_r [44, 45, 46, 47, 48, 49, 50, 51, 52, 53, 54, 55, 56, 57, 58, 59, 60, 61, 62, 63, 64, 65, 66, 67, 68, 69, 70, 71, 72, 73, 74, 75, 76, 77, 78, 79, 80, 81, 82, 83, 84, 85, 86, 87, 88] rfl
set_option maxHeartbeats 4000000 in
set_option maxRecDepth 100000 in
theorem c_X13_means (l : Launch) (D : va_G) (T : Nat → ClassId) (sz : Nat) (h0 : Nat) (q : Nat → Int32) (v : Int64) (w : Int64) (a : Nat → Nat) (f20 : Nat → Int64) (f21 : Nat → Int64) (f22 : Nat → Int32) (x1 : Int32) (x2 : Int32) (x3 : Int32) (hB : isB (q 14)) (hZ : ∀ j : Nat, isB (f22 j)) (hL : (1 ≤ (q 4).toInt ∧ (q 4).toInt ≤ 9) ∧ 1 ≤ (q 6).toInt ∧ (q 6).toInt ≤ 9) (hx1 : 0 ≤ x1.toInt ∧ x1.toInt < 24) (hx2 : 0 ≤ x2.toInt ∧ x2.toInt ≤ 5) (hx3 : 0 ≤ x3.toInt ∧ x3.toInt ≤ x2.toInt) (hWB2 : ∀ j : Nat, 28 * x1.toInt + tri (x2.toInt + 1) ≤ j → (j : Int) < 28 * x1.toInt + 28 → 1 ≤ (f21 j).toInt) : Met l yX13_means wsX13_means ({ frames := 3, cells := 0, slots := 0, locals := 91 }) (pW [.ref h0, .int x1, .int x2, .int x3] D T [(h0, .inr (10, (Value.int (q 0) :: Value.int (q 1) :: Value.int (q 2) :: Value.int (q 3) :: Value.int (q 4) :: Value.int (q 5) :: Value.int (q 6) :: Value.int (q 7) :: Value.ref (a 8) :: Value.ref (a 9) :: Value.ref (a 10) :: Value.ref (a 11) :: Value.ref (a 12) :: Value.ref (a 13) :: Value.int (q 14) :: Value.long v :: Value.long w :: Value.ref (a 17) :: Value.ref (a 18) :: Value.ref (a 19) :: Value.ref (a 20) :: Value.ref (a 21) :: Value.ref (a 22) :: Value.ref (a 23) :: Value.int (q 24) :: Value.ref (a 25) :: Value.int (q 26) :: Value.ref (a 27) :: Value.int (q 28) :: Value.int (q 29) :: Value.int (q 30) :: Value.int (q 31) :: Value.int (q 32) :: Value.int (q 33) :: Value.ref (a 34) :: Value.ref (a 35) :: Value.ref (a 36) :: Value.ref (a 37) :: Value.ref (a 38) :: Value.ref (a 39) :: Value.ref (a 40) :: Value.int (q 41) :: Value.ref (a 42) :: Value.int (q 43) :: Value.int (q 44) :: []))), ((a 20), .inl (T 1, 672, .inr (.inl f20))), ((a 21), .inl (T 1, 672, .inr (.inl f21))), ((a 22), .inl (T 4, 672, .inl f22))] sz) (va_Qv (fun (u : (Int32) × (Int64) × (Int64)) => (isB u.1) ∧ (1 ≤ u.2.2.toInt) ∧ (((q 14) : Int32).toInt = 0 → mpW u.1 u.2.1 u.2.2 = avgW (lqW (q 0) (q 1) (q 2) (q 3) (q 4) (q 5) (q 6)) (tabW f20 f21 f22) x1 x2 x3) ∧ ((u.1 : Int32).toInt = 0 → ((q 14) : Int32).toInt = 0)) (bW D (va_A [(h0, .inr (10, (Value.int (q 0) :: Value.int (q 1) :: Value.int (q 2) :: Value.int (q 3) :: Value.int (q 4) :: Value.int (q 5) :: Value.int (q 6) :: Value.int (q 7) :: Value.ref (a 8) :: Value.ref (a 9) :: Value.ref (a 10) :: Value.ref (a 11) :: Value.ref (a 12) :: Value.ref (a 13) :: Value.int (q 14) :: Value.long v :: Value.long w :: Value.ref (a 17) :: Value.ref (a 18) :: Value.ref (a 19) :: Value.ref (a 20) :: Value.ref (a 21) :: Value.ref (a 22) :: Value.ref (a 23) :: Value.int (q 24) :: Value.ref (a 25) :: Value.int (q 26) :: Value.ref (a 27) :: Value.int (q 28) :: Value.int (q 29) :: Value.int (q 30) :: Value.int (q 31) :: Value.int (q 32) :: Value.int (q 33) :: Value.ref (a 34) :: Value.ref (a 35) :: Value.ref (a 36) :: Value.ref (a 37) :: Value.ref (a 38) :: Value.ref (a 39) :: Value.ref (a 40) :: Value.int (q 41) :: Value.ref (a 42) :: Value.int (q 43) :: Value.int (q 44) :: []))), ((a 20), .inl (T 1, 672, .inr (.inl f20))), ((a 21), .inl (T 1, 672, .inr (.inl f21))), ((a 22), .inl (T 4, 672, .inl f22))] sz) (fun (u : (Int32) × (Int64) × (Int64)) => [(h0, .inr (10, (Value.int (q 0) :: Value.int (q 1) :: Value.int (q 2) :: Value.int (q 3) :: Value.int (q 4) :: Value.int (q 5) :: Value.int (q 6) :: Value.int (q 7) :: Value.ref (a 8) :: Value.ref (a 9) :: Value.ref (a 10) :: Value.ref (a 11) :: Value.ref (a 12) :: Value.ref (a 13) :: Value.int u.1 :: Value.long u.2.1 :: Value.long u.2.2 :: Value.ref (a 17) :: Value.ref (a 18) :: Value.ref (a 19) :: Value.ref (a 20) :: Value.ref (a 21) :: Value.ref (a 22) :: Value.ref (a 23) :: Value.int (q 24) :: Value.ref (a 25) :: Value.int (q 26) :: Value.ref (a 27) :: Value.int (q 28) :: Value.int (q 29) :: Value.int (q 30) :: Value.int (q 31) :: Value.int (q 32) :: Value.int (q 33) :: Value.ref (a 34) :: Value.ref (a 35) :: Value.ref (a 36) :: Value.ref (a 37) :: Value.ref (a 38) :: Value.ref (a 39) :: Value.ref (a 40) :: Value.int (q 41) :: Value.ref (a 42) :: Value.int (q 43) :: Value.int (q 44) :: []))), ((a 20), .inl (T 1, 672, .inr (.inl f20))), ((a 21), .inl (T 1, 672, .inr (.inl f21))), ((a 22), .inl (T 4, 672, .inl f22))])) (va_A [(h0, .inr (10, (Value.int (q 0) :: Value.int (q 1) :: Value.int (q 2) :: Value.int (q 3) :: Value.int (q 4) :: Value.int (q 5) :: Value.int (q 6) :: Value.int (q 7) :: Value.ref (a 8) :: Value.ref (a 9) :: Value.ref (a 10) :: Value.ref (a 11) :: Value.ref (a 12) :: Value.ref (a 13) :: Value.int (q 14) :: Value.long v :: Value.long w :: Value.ref (a 17) :: Value.ref (a 18) :: Value.ref (a 19) :: Value.ref (a 20) :: Value.ref (a 21) :: Value.ref (a 22) :: Value.ref (a 23) :: Value.int (q 24) :: Value.ref (a 25) :: Value.int (q 26) :: Value.ref (a 27) :: Value.int (q 28) :: Value.int (q 29) :: Value.int (q 30) :: Value.int (q 31) :: Value.int (q 32) :: Value.int (q 33) :: Value.ref (a 34) :: Value.ref (a 35) :: Value.ref (a 36) :: Value.ref (a 37) :: Value.ref (a 38) :: Value.ref (a 39) :: Value.ref (a 40) :: Value.int (q 41) :: Value.ref (a 42) :: Value.int (q 43) :: Value.int (q 44) :: []))), ((a 20), .inl (T 1, 672, .inr (.inl f20))), ((a 21), .inl (T 1, 672, .inr (.inl f21))), ((a 22), .inl (T 4, 672, .inl f22))] sz)) 0 0 (va_A [(h0, .inr (10, (Value.int (q 0) :: Value.int (q 1) :: Value.int (q 2) :: Value.int (q 3) :: Value.int (q 4) :: Value.int (q 5) :: Value.int (q 6) :: Value.int (q 7) :: Value.ref (a 8) :: Value.ref (a 9) :: Value.ref (a 10) :: Value.ref (a 11) :: Value.ref (a 12) :: Value.ref (a 13) :: Value.int (q 14) :: Value.long v :: Value.long w :: Value.ref (a 17) :: Value.ref (a 18) :: Value.ref (a 19) :: Value.ref (a 20) :: Value.ref (a 21) :: Value.ref (a 22) :: Value.ref (a 23) :: Value.int (q 24) :: Value.ref (a 25) :: Value.int (q 26) :: Value.ref (a 27) :: Value.int (q 28) :: Value.int (q 29) :: Value.int (q 30) :: Value.int (q 31) :: Value.int (q 32) :: Value.int (q 33) :: Value.ref (a 34) :: Value.ref (a 35) :: Value.ref (a 36) :: Value.ref (a 37) :: Value.ref (a 38) :: Value.ref (a 39) :: Value.ref (a 40) :: Value.int (q 41) :: Value.ref (a 42) :: Value.int (q 43) :: Value.int (q 44) :: []))), ((a 20), .inl (T 1, 672, .inr (.inl f20))), ((a 21), .inl (T 1, 672, .inr (.inl f21))), ((a 22), .inl (T 4, 672, .inl f22))] sz) := by
  refine Met.ofW (cc := cX13_means) (maxL := 10) (ret := none) (by decide +kernel) rfl ?_
  intro p e s m args below meth c s₁ B hml hv
  obtain ⟨rfl, hsz, hP, hE, hD0⟩ := hv
  have hx := B.exec
  have hb := B.bytes
  have hr := B.returns
  have hts := atoms_spec (ws := wsX13_means) B.pre
  have hown : s.vm.findClass RX13 = some m.cls := findClass_of_methodNamed B.named
  have hlocks := B.notSynchronized
  subst hsz
  have hD := hD0.self (sz := s.heap.size)
  generalize hAe : va_A [(h0, .inr (10, (Value.int (q 0) :: Value.int (q 1) :: Value.int (q 2) :: Value.int (q 3) :: Value.int (q 4) :: Value.int (q 5) :: Value.int (q 6) :: Value.int (q 7) :: Value.ref (a 8) :: Value.ref (a 9) :: Value.ref (a 10) :: Value.ref (a 11) :: Value.ref (a 12) :: Value.ref (a 13) :: Value.int (q 14) :: Value.long v :: Value.long w :: Value.ref (a 17) :: Value.ref (a 18) :: Value.ref (a 19) :: Value.ref (a 20) :: Value.ref (a 21) :: Value.ref (a 22) :: Value.ref (a 23) :: Value.int (q 24) :: Value.ref (a 25) :: Value.int (q 26) :: Value.ref (a 27) :: Value.int (q 28) :: Value.int (q 29) :: Value.int (q 30) :: Value.int (q 31) :: Value.int (q 32) :: Value.int (q 33) :: Value.ref (a 34) :: Value.ref (a 35) :: Value.ref (a 36) :: Value.ref (a 37) :: Value.ref (a 38) :: Value.ref (a 39) :: Value.ref (a 40) :: Value.int (q 41) :: Value.ref (a 42) :: Value.int (q 43) :: Value.int (q 44) :: []))), ((a 20), .inl (T 1, 672, .inr (.inl f20))), ((a 21), .inl (T 1, 672, .inr (.inl f21))), ((a 22), .inl (T 4, 672, .inl f22))] s.heap.size = A at hD ⊢
  have hA : ∀ q : Nat, s.heap.size ≤ q → A q := fun q h => by rw [← hAe]; exact Or.inr h
  have hS : va_S A s.heap s.heap [] := va_S.rf
  have hP : va_P D vwCl [(h0, .inr (10, (Value.int (q 0) :: Value.int (q 1) :: Value.int (q 2) :: Value.int (q 3) :: Value.int (q 4) :: Value.int (q 5) :: Value.int (q 6) :: Value.int (q 7) :: Value.ref (a 8) :: Value.ref (a 9) :: Value.ref (a 10) :: Value.ref (a 11) :: Value.ref (a 12) :: Value.ref (a 13) :: Value.int (q 14) :: Value.long v :: Value.long w :: Value.ref (a 17) :: Value.ref (a 18) :: Value.ref (a 19) :: Value.ref (a 20) :: Value.ref (a 21) :: Value.ref (a 22) :: Value.ref (a 23) :: Value.int (q 24) :: Value.ref (a 25) :: Value.int (q 26) :: Value.ref (a 27) :: Value.int (q 28) :: Value.int (q 29) :: Value.int (q 30) :: Value.int (q 31) :: Value.int (q 32) :: Value.int (q 33) :: Value.ref (a 34) :: Value.ref (a 35) :: Value.ref (a 36) :: Value.ref (a 37) :: Value.ref (a 38) :: Value.ref (a 39) :: Value.ref (a 40) :: Value.int (q 41) :: Value.ref (a 42) :: Value.int (q 43) :: Value.int (q 44) :: []))), ((a 20), .inl (T 1, 672, .inr (.inl f20))), ((a 21), .inl (T 1, 672, .inr (.inl f21))), ((a 22), .inl (T 4, 672, .inl f22))] s.heap := hP
  have hl := lv_entry ([.ref h0, .int x1, .int x2, .int x3]) (n := 10) (Nat.le_of_ble_eq_true rfl)
  rw [lg_entry_eq]
  generalize (lg_sl ([.ref h0, .int x1, .int x2, .int x3]) ++ List.replicate (10 - (lg_sl ([.ref h0, .int x1, .int x2, .int x3])).length) Slot.unset).toArray = ls at hl ⊢
  have hl : lv_has ls 10 [(0, .ref h0), (1, .int x1), (2, .int x2), (3, .int x3)] := hl
  clear hD0
  have hi1 := inc1 (i := x2) (n := 6) (by omega) (by decide +kernel)
  have hi2 := inc1 (i := x3) (n := 6) (by omega) (by decide +kernel)
  have ht := tri_in (d := x2.toInt + 1) (by omega)
  refine lv_aload_n hx hb dX13_means_0 rfl (lv_at hl 0 rfl) ?_
  refine lv_iload_n hx hb dX13_means_1 rfl (lv_at hl 1 rfl) ?_
  refine lv_iload_n hx hb dX13_means_2 rfl (lv_at hl 2 rfl) ?_
  refine lv_iconst (v := 1) hx hb dX13_means_3 (by decide +kernel) ?_
  refine lv_iadd hx hb dX13_means_4 ?_
  refine lv_iload_n hx hb dX13_means_5 rfl (lv_at hl 3 rfl) ?_
  refine lv_iconst (v := 1) hx hb dX13_means_6 (by decide +kernel) ?_
  refine lv_iadd hx hb dX13_means_7 ?_
  have hFc := va_free (wc := [(h0, .inr (10, (Value.int (q 0) :: Value.int (q 1) :: Value.int (q 2) :: Value.int (q 3) :: Value.int (q 4) :: Value.int (q 5) :: Value.int (q 6) :: Value.int (q 7) :: Value.ref (a 8) :: Value.ref (a 9) :: Value.ref (a 10) :: Value.ref (a 11) :: Value.ref (a 12) :: Value.ref (a 13) :: Value.int (q 14) :: Value.long v :: Value.long w :: Value.ref (a 17) :: Value.ref (a 18) :: Value.ref (a 19) :: Value.ref (a 20) :: Value.ref (a 21) :: Value.ref (a 22) :: Value.ref (a 23) :: Value.int (q 24) :: Value.ref (a 25) :: Value.int (q 26) :: Value.ref (a 27) :: Value.int (q 28) :: Value.int (q 29) :: Value.int (q 30) :: Value.int (q 31) :: Value.int (q 32) :: Value.int (q 33) :: Value.ref (a 34) :: Value.ref (a 35) :: Value.ref (a 36) :: Value.ref (a 37) :: Value.ref (a 38) :: Value.ref (a 39) :: Value.ref (a 40) :: Value.int (q 41) :: Value.ref (a 42) :: Value.int (q 43) :: Value.int (q 44) :: []))), ((a 20), .inl (T 1, 672, .inr (.inl f20))), ((a 21), .inl (T 1, 672, .inr (.inl f21))), ((a 22), .inl (T 4, 672, .inl f22))]) hD hS hA [0, 1, 2, 3] rfl
  refine va_callv (va_runV (As := [.int x1, .int (x2 + 1), .int (x3 + 1)]) (rest := []) ⟨hx, hb, hml, hown, hts⟩ (c_X13_takes l D T _ h0 q v w a f20 f21 f22 x1 (x2 + 1) (x3 + 1) (show isB (q 14) from hB) (show ∀ j : Nat, isB (f22 j) from hZ) (show 0 ≤ x1.toInt ∧ x1.toInt < 24 from (by omega)) (show 0 ≤ (x2 + 1).toInt ∧ (x2 + 1).toInt ≤ 6 from (by omega)) (show 0 ≤ (x3 + 1).toInt ∧ (x3 + 1).toInt ≤ (x2 + 1).toInt from (by omega)) (show ∀ j : Nat, (j : Int) = 28 * x1.toInt + tri (x2 + 1).toInt + (x3 + 1).toInt → 1 ≤ (f21 j).toInt from (fun j hj => hWB2 j (by rw [hi1] at hj; omega) (by rw [hi1] at hj; omega)))) (cwV 3 hts gX13_means_X13_takes rfl rfl rfl hv_X13_takes ⟨Nat.le_of_ble_eq_true rfl, Nat.le_of_ble_eq_true rfl⟩) (pW_V (q := (RX13, TX13, 45)) (ci := 10) (q0 := 0) hP hE hD rfl rfl [0, 1, 2, 3] (by decide +kernel) rfl rfl) rfl rfl hl.1 rfl (lv_room (Nat.le_of_ble_eq_true rfl)) dX13_means_8 ⟨Nat.le_of_ble_eq_true rfl, Nat.le_of_ble_eq_true rfl⟩) hS (fun q _ h => hFc q h) hFc (fun u_2 t H1 locs ht hvm hr_1 hB hz1 hk1 hS => ?_)
  obtain ⟨n_3, l_4, l_5⟩ := u_2
  obtain ⟨hi0_r_1, hi1_r_1, hi2_r_1, hi3_r_1, hi4_r_1⟩ := hr_1
  have hB14_r_1 : isB n_3 := hi0_r_1
  have hj1_r_1 : 1 ≤ l_5.toInt := hi1_r_1
  have hj2_r_1 : (n_3 : Int32).toInt = 0 ↔ (((q 14) : Int32).toInt = 0 ∧ (f22 (slN x1 (x2 + 1) (x3 + 1))).toInt = 0) := hi2_r_1
  have hj3_r_1 : l_4 = f20 (slN x1 (x2 + 1) (x3 + 1)) := hi3_r_1
  have hj4_r_1 : l_5 = f21 (slN x1 (x2 + 1) (x3 + 1)) := hi4_r_1
  obtain ⟨hP1, hD1⟩ := hB
  rw [ht] at hP1
  obtain ⟨hP, hD⟩ := va_repl [(h0, .inr (10, (Value.int (q 0) :: Value.int (q 1) :: Value.int (q 2) :: Value.int (q 3) :: Value.int (q 4) :: Value.int (q 5) :: Value.int (q 6) :: Value.int (q 7) :: Value.ref (a 8) :: Value.ref (a 9) :: Value.ref (a 10) :: Value.ref (a 11) :: Value.ref (a 12) :: Value.ref (a 13) :: Value.int n_3 :: Value.long l_4 :: Value.long l_5 :: Value.ref (a 17) :: Value.ref (a 18) :: Value.ref (a 19) :: Value.ref (a 20) :: Value.ref (a 21) :: Value.ref (a 22) :: Value.ref (a 23) :: Value.int (q 24) :: Value.ref (a 25) :: Value.int (q 26) :: Value.ref (a 27) :: Value.int (q 28) :: Value.int (q 29) :: Value.int (q 30) :: Value.int (q 31) :: Value.int (q 32) :: Value.int (q 33) :: Value.ref (a 34) :: Value.ref (a 35) :: Value.ref (a 36) :: Value.ref (a 37) :: Value.ref (a 38) :: Value.ref (a 39) :: Value.ref (a 40) :: Value.int (q 41) :: Value.ref (a 42) :: Value.int (q 43) :: Value.int (q 44) :: []))), ((a 20), .inl (T 1, 672, .inr (.inl f20))), ((a 21), .inl (T 1, 672, .inr (.inl f21))), ((a 22), .inl (T 4, 672, .inl f22))] hP hD [0, 1, 2, 3] [0, 1, 2, 3] rfl (by decide +kernel) rfl rfl rfl hk1 hP1
  clear hP1 hD1 hFc
  generalize H1 = H at hP hS ⊢
  refine lv_aload_n hx hb dX13_means_11 rfl (lv_at hl 0 rfl) ?_
  refine lv_aload_n hx hb dX13_means_12 rfl (lv_at hl 0 rfl) ?_
  refine va_get (D := D) (ci := 10) (v := .int (q 3)) (C := RX13) (T := TX13) (N := 45) hx hb hts in_X13_means_X13 hown hE.1 hP 0 rfl rfl 3 (by decide +kernel) (hts (.fieldLink RX13 16 "ClauseBookModel" "oddsP" "I") (List.mem_of_getElem? (i := 1) rfl)) (fun _ h9 => h9) rfl dX13_means_13 ?_
  refine lv_i2l hx hb dX13_means_16 rfl ?_
  refine lv_lconst (v := 1) hx hb dX13_means_17 (by decide +kernel) ?_
  refine lv_aload_n hx hb dX13_means_18 rfl (lv_at hl 0 rfl) ?_
  refine va_get (D := D) (ci := 10) (v := .long l_4) (C := RX13) (T := TX13) (N := 45) hx hb hts in_X13_means_X13 hown hE.1 hP 0 rfl rfl 15 (by decide +kernel) (hts (.fieldLink RX13 145 "ClauseBookModel" "above" "J") (List.mem_of_getElem? (i := 2) rfl)) (fun _ h9 => h9) rfl dX13_means_19 ?_
  refine lv_aload_n hx hb dX13_means_22 rfl (lv_at hl 0 rfl) ?_
  refine va_get (D := D) (ci := 10) (v := .long l_5) (C := RX13) (T := TX13) (N := 45) hx hb hts in_X13_means_X13 hown hE.1 hP 0 rfl rfl 16 (by decide +kernel) (hts (.fieldLink RX13 149 "ClauseBookModel" "below" "J") (List.mem_of_getElem? (i := 3) rfl)) (fun _ h9 => h9) rfl dX13_means_23 ?_
  have hFc := va_free (wc := [(h0, .inr (10, (Value.int (q 0) :: Value.int (q 1) :: Value.int (q 2) :: Value.int (q 3) :: Value.int (q 4) :: Value.int (q 5) :: Value.int (q 6) :: Value.int (q 7) :: Value.ref (a 8) :: Value.ref (a 9) :: Value.ref (a 10) :: Value.ref (a 11) :: Value.ref (a 12) :: Value.ref (a 13) :: Value.int n_3 :: Value.long l_4 :: Value.long l_5 :: Value.ref (a 17) :: Value.ref (a 18) :: Value.ref (a 19) :: Value.ref (a 20) :: Value.ref (a 21) :: Value.ref (a 22) :: Value.ref (a 23) :: Value.int (q 24) :: Value.ref (a 25) :: Value.int (q 26) :: Value.ref (a 27) :: Value.int (q 28) :: Value.int (q 29) :: Value.int (q 30) :: Value.int (q 31) :: Value.int (q 32) :: Value.int (q 33) :: Value.ref (a 34) :: Value.ref (a 35) :: Value.ref (a 36) :: Value.ref (a 37) :: Value.ref (a 38) :: Value.ref (a 39) :: Value.ref (a 40) :: Value.int (q 41) :: Value.ref (a 42) :: Value.int (q 43) :: Value.int (q 44) :: [])))]) hD hS hA [0] rfl
  refine va_callv (va_runV (As := [.long ((q 3).toInt64), .long 1, .long l_4, .long l_5]) (rest := []) ⟨hx, hb, hml, hown, hts⟩ (c_X13_multiplies l D T _ h0 (fun k => cond (Nat.beq k 14) n_3 (q k)) l_4 l_5 a ((q 3).toInt64) 1 l_4 l_5 (show isB n_3 from hB14_r_1) (show 1 ≤ (1 : Int64).toInt from (by decide +kernel)) (show 1 ≤ l_5.toInt from (by omega)) (show 1 ≤ l_5.toInt from (by omega))) (cwV 4 hts gX13_means_X13_multiplies rfl rfl rfl hv_X13_multiplies ⟨Nat.le_of_ble_eq_true rfl, Nat.le_of_ble_eq_true rfl⟩) (pW_V (q := (RX13, TX13, 45)) (ci := 10) (q0 := 0) hP hE hD rfl rfl [0] (by decide +kernel) rfl rfl) rfl rfl hl.1 rfl (lv_room (Nat.le_of_ble_eq_true rfl)) dX13_means_26 ⟨Nat.le_of_ble_eq_true rfl, Nat.le_of_ble_eq_true rfl⟩) hS (fun q _ h => hFc q h) hFc (fun u_7 t H1 locs ht hvm hr_6 hB hz1 hk1 hS => ?_)
  obtain ⟨n_8, l_9, l_10⟩ := u_7
  obtain ⟨hi0_r_6, hi1_r_6, hi2_r_6, hi3_r_6⟩ := hr_6
  have hB14_r_6 : isB n_8 := hi0_r_6
  have hj1_r_6 : 1 ≤ l_10.toInt := hi1_r_6
  have hj2_r_6 : (n_8 : Int32).toInt = 0 ↔ ((n_3 : Int32).toInt = 0 ∧ fitM ((q 3).toInt64) l_4 ∧ fitM (1 : Int64) l_5) := hi2_r_6
  have hj3_r_6 : (n_8 : Int32).toInt = 0 → ((l_9, l_10) : Int64 × Int64) = redW (((q 3).toInt64) * l_4) ((1 : Int64) * l_5) := hi3_r_6
  obtain ⟨hP1, hD1⟩ := hB
  rw [ht] at hP1
  obtain ⟨hP, hD⟩ := va_repl [(h0, .inr (10, (Value.int (q 0) :: Value.int (q 1) :: Value.int (q 2) :: Value.int (q 3) :: Value.int (q 4) :: Value.int (q 5) :: Value.int (q 6) :: Value.int (q 7) :: Value.ref (a 8) :: Value.ref (a 9) :: Value.ref (a 10) :: Value.ref (a 11) :: Value.ref (a 12) :: Value.ref (a 13) :: Value.int n_8 :: Value.long l_9 :: Value.long l_10 :: Value.ref (a 17) :: Value.ref (a 18) :: Value.ref (a 19) :: Value.ref (a 20) :: Value.ref (a 21) :: Value.ref (a 22) :: Value.ref (a 23) :: Value.int (q 24) :: Value.ref (a 25) :: Value.int (q 26) :: Value.ref (a 27) :: Value.int (q 28) :: Value.int (q 29) :: Value.int (q 30) :: Value.int (q 31) :: Value.int (q 32) :: Value.int (q 33) :: Value.ref (a 34) :: Value.ref (a 35) :: Value.ref (a 36) :: Value.ref (a 37) :: Value.ref (a 38) :: Value.ref (a 39) :: Value.ref (a 40) :: Value.int (q 41) :: Value.ref (a 42) :: Value.int (q 43) :: Value.int (q 44) :: []))), ((a 20), .inl (T 1, 672, .inr (.inl f20))), ((a 21), .inl (T 1, 672, .inr (.inl f21))), ((a 22), .inl (T 4, 672, .inl f22))] hP hD [0] [0] rfl (by decide +kernel) rfl rfl rfl hk1 hP1
  clear hP1 hD1 hFc
  generalize H1 = H at hP hS ⊢
  refine lv_aload_n hx hb dX13_means_29 rfl (lv_at hl 0 rfl) ?_
  refine va_get (D := D) (ci := 10) (v := .long l_9) (C := RX13) (T := TX13) (N := 45) hx hb hts in_X13_means_X13 hown hE.1 hP 0 rfl rfl 15 (by decide +kernel) (hts (.fieldLink RX13 145 "ClauseBookModel" "above" "J") (List.mem_of_getElem? (i := 2) rfl)) (fun _ h9 => h9) rfl dX13_means_30 ?_
  refine lv_lstore (lv' := [(4, .long l_9), (0, .ref h0), (1, .int x1), (2, .int x2), (3, .int x3)]) hx hb dX13_means_33 hl (by decide +kernel) rfl (fun ls hl => ?_)
  refine lv_aload_n hx hb dX13_means_35 rfl (lv_at hl 1 rfl) ?_
  refine va_get (D := D) (ci := 10) (v := .long l_10) (C := RX13) (T := TX13) (N := 45) hx hb hts in_X13_means_X13 hown hE.1 hP 0 rfl rfl 16 (by decide +kernel) (hts (.fieldLink RX13 149 "ClauseBookModel" "below" "J") (List.mem_of_getElem? (i := 3) rfl)) (fun _ h9 => h9) rfl dX13_means_36 ?_
  refine lv_lstore (lv' := [(6, .long l_10), (4, .long l_9), (0, .ref h0), (1, .int x1), (2, .int x2), (3, .int x3)]) hx hb dX13_means_39 hl (by decide +kernel) rfl (fun ls hl => ?_)
  refine lv_aload_n hx hb dX13_means_41 rfl (lv_at hl 2 rfl) ?_
  refine lv_iload_n hx hb dX13_means_42 rfl (lv_at hl 3 rfl) ?_
  refine lv_iload_n hx hb dX13_means_43 rfl (lv_at hl 4 rfl) ?_
  refine lv_iconst (v := 1) hx hb dX13_means_44 (by decide +kernel) ?_
  refine lv_iadd hx hb dX13_means_45 ?_
  refine lv_iload_n hx hb dX13_means_46 rfl (lv_at hl 5 rfl) ?_
  have hFc := va_free (wc := [(h0, .inr (10, (Value.int (q 0) :: Value.int (q 1) :: Value.int (q 2) :: Value.int (q 3) :: Value.int (q 4) :: Value.int (q 5) :: Value.int (q 6) :: Value.int (q 7) :: Value.ref (a 8) :: Value.ref (a 9) :: Value.ref (a 10) :: Value.ref (a 11) :: Value.ref (a 12) :: Value.ref (a 13) :: Value.int n_8 :: Value.long l_9 :: Value.long l_10 :: Value.ref (a 17) :: Value.ref (a 18) :: Value.ref (a 19) :: Value.ref (a 20) :: Value.ref (a 21) :: Value.ref (a 22) :: Value.ref (a 23) :: Value.int (q 24) :: Value.ref (a 25) :: Value.int (q 26) :: Value.ref (a 27) :: Value.int (q 28) :: Value.int (q 29) :: Value.int (q 30) :: Value.int (q 31) :: Value.int (q 32) :: Value.int (q 33) :: Value.ref (a 34) :: Value.ref (a 35) :: Value.ref (a 36) :: Value.ref (a 37) :: Value.ref (a 38) :: Value.ref (a 39) :: Value.ref (a 40) :: Value.int (q 41) :: Value.ref (a 42) :: Value.int (q 43) :: Value.int (q 44) :: []))), ((a 20), .inl (T 1, 672, .inr (.inl f20))), ((a 21), .inl (T 1, 672, .inr (.inl f21))), ((a 22), .inl (T 4, 672, .inl f22))]) hD hS hA [0, 1, 2, 3] rfl
  refine va_callv (va_runV (As := [.int x1, .int (x2 + 1), .int x3]) (rest := []) ⟨hx, hb, hml, hown, hts⟩ (c_X13_takes l D T _ h0 (fun k => cond (Nat.beq k 14) n_8 (q k)) l_9 l_10 a f20 f21 f22 x1 (x2 + 1) x3 (show isB n_8 from hB14_r_6) (show ∀ j : Nat, isB (f22 j) from hZ) (show 0 ≤ x1.toInt ∧ x1.toInt < 24 from (by omega)) (show 0 ≤ (x2 + 1).toInt ∧ (x2 + 1).toInt ≤ 6 from (by omega)) (show 0 ≤ x3.toInt ∧ x3.toInt ≤ (x2 + 1).toInt from (by omega)) (show ∀ j : Nat, (j : Int) = 28 * x1.toInt + tri (x2 + 1).toInt + x3.toInt → 1 ≤ (f21 j).toInt from (fun j hj => hWB2 j (by rw [hi1] at hj; omega) (by rw [hi1] at hj; omega)))) (cwV 3 hts gX13_means_X13_takes rfl rfl rfl hv_X13_takes ⟨Nat.le_of_ble_eq_true rfl, Nat.le_of_ble_eq_true rfl⟩) (pW_V (q := (RX13, TX13, 45)) (ci := 10) (q0 := 0) hP hE hD rfl rfl [0, 1, 2, 3] (by decide +kernel) rfl rfl) rfl rfl hl.1 rfl (lv_room (Nat.le_of_ble_eq_true rfl)) dX13_means_47 ⟨Nat.le_of_ble_eq_true rfl, Nat.le_of_ble_eq_true rfl⟩) hS (fun q _ h => hFc q h) hFc (fun u_12 t H1 locs ht hvm hr_11 hB hz1 hk1 hS => ?_)
  obtain ⟨n_13, l_14, l_15⟩ := u_12
  obtain ⟨hi0_r_11, hi1_r_11, hi2_r_11, hi3_r_11, hi4_r_11⟩ := hr_11
  have hB14_r_11 : isB n_13 := hi0_r_11
  have hj1_r_11 : 1 ≤ l_15.toInt := hi1_r_11
  have hj2_r_11 : (n_13 : Int32).toInt = 0 ↔ ((n_8 : Int32).toInt = 0 ∧ (f22 (slN x1 (x2 + 1) x3)).toInt = 0) := hi2_r_11
  have hj3_r_11 : l_14 = f20 (slN x1 (x2 + 1) x3) := hi3_r_11
  have hj4_r_11 : l_15 = f21 (slN x1 (x2 + 1) x3) := hi4_r_11
  obtain ⟨hP1, hD1⟩ := hB
  rw [ht] at hP1
  obtain ⟨hP, hD⟩ := va_repl [(h0, .inr (10, (Value.int (q 0) :: Value.int (q 1) :: Value.int (q 2) :: Value.int (q 3) :: Value.int (q 4) :: Value.int (q 5) :: Value.int (q 6) :: Value.int (q 7) :: Value.ref (a 8) :: Value.ref (a 9) :: Value.ref (a 10) :: Value.ref (a 11) :: Value.ref (a 12) :: Value.ref (a 13) :: Value.int n_13 :: Value.long l_14 :: Value.long l_15 :: Value.ref (a 17) :: Value.ref (a 18) :: Value.ref (a 19) :: Value.ref (a 20) :: Value.ref (a 21) :: Value.ref (a 22) :: Value.ref (a 23) :: Value.int (q 24) :: Value.ref (a 25) :: Value.int (q 26) :: Value.ref (a 27) :: Value.int (q 28) :: Value.int (q 29) :: Value.int (q 30) :: Value.int (q 31) :: Value.int (q 32) :: Value.int (q 33) :: Value.ref (a 34) :: Value.ref (a 35) :: Value.ref (a 36) :: Value.ref (a 37) :: Value.ref (a 38) :: Value.ref (a 39) :: Value.ref (a 40) :: Value.int (q 41) :: Value.ref (a 42) :: Value.int (q 43) :: Value.int (q 44) :: []))), ((a 20), .inl (T 1, 672, .inr (.inl f20))), ((a 21), .inl (T 1, 672, .inr (.inl f21))), ((a 22), .inl (T 4, 672, .inl f22))] hP hD [0, 1, 2, 3] [0, 1, 2, 3] rfl (by decide +kernel) rfl rfl rfl hk1 hP1
  clear hP1 hD1 hFc
  generalize H1 = H at hP hS ⊢
  refine lv_aload_n hx hb dX13_means_50 rfl (lv_at hl 2 rfl) ?_
  refine lv_aload_n hx hb dX13_means_51 rfl (lv_at hl 2 rfl) ?_
  refine va_get (D := D) (ci := 10) (v := .int (q 4)) (C := RX13) (T := TX13) (N := 45) hx hb hts in_X13_means_X13 hown hE.1 hP 0 rfl rfl 4 (by decide +kernel) (hts (.fieldLink RX13 19 "ClauseBookModel" "oddsQ" "I") (List.mem_of_getElem? (i := 4) rfl)) (fun _ h9 => h9) rfl dX13_means_52 ?_
  refine lv_aload_n hx hb dX13_means_55 rfl (lv_at hl 2 rfl) ?_
  refine va_get (D := D) (ci := 10) (v := .int (q 3)) (C := RX13) (T := TX13) (N := 45) hx hb hts in_X13_means_X13 hown hE.1 hP 0 rfl rfl 3 (by decide +kernel) (hts (.fieldLink RX13 16 "ClauseBookModel" "oddsP" "I") (List.mem_of_getElem? (i := 1) rfl)) (fun _ h9 => h9) rfl dX13_means_56 ?_
  refine lv_isub hx hb dX13_means_59 ?_
  refine lv_i2l hx hb dX13_means_60 rfl ?_
  refine lv_lconst (v := 1) hx hb dX13_means_61 (by decide +kernel) ?_
  refine lv_aload_n hx hb dX13_means_62 rfl (lv_at hl 2 rfl) ?_
  refine va_get (D := D) (ci := 10) (v := .long l_14) (C := RX13) (T := TX13) (N := 45) hx hb hts in_X13_means_X13 hown hE.1 hP 0 rfl rfl 15 (by decide +kernel) (hts (.fieldLink RX13 145 "ClauseBookModel" "above" "J") (List.mem_of_getElem? (i := 2) rfl)) (fun _ h9 => h9) rfl dX13_means_63 ?_
  refine lv_aload_n hx hb dX13_means_66 rfl (lv_at hl 2 rfl) ?_
  refine va_get (D := D) (ci := 10) (v := .long l_15) (C := RX13) (T := TX13) (N := 45) hx hb hts in_X13_means_X13 hown hE.1 hP 0 rfl rfl 16 (by decide +kernel) (hts (.fieldLink RX13 149 "ClauseBookModel" "below" "J") (List.mem_of_getElem? (i := 3) rfl)) (fun _ h9 => h9) rfl dX13_means_67 ?_
  have hFc := va_free (wc := [(h0, .inr (10, (Value.int (q 0) :: Value.int (q 1) :: Value.int (q 2) :: Value.int (q 3) :: Value.int (q 4) :: Value.int (q 5) :: Value.int (q 6) :: Value.int (q 7) :: Value.ref (a 8) :: Value.ref (a 9) :: Value.ref (a 10) :: Value.ref (a 11) :: Value.ref (a 12) :: Value.ref (a 13) :: Value.int n_13 :: Value.long l_14 :: Value.long l_15 :: Value.ref (a 17) :: Value.ref (a 18) :: Value.ref (a 19) :: Value.ref (a 20) :: Value.ref (a 21) :: Value.ref (a 22) :: Value.ref (a 23) :: Value.int (q 24) :: Value.ref (a 25) :: Value.int (q 26) :: Value.ref (a 27) :: Value.int (q 28) :: Value.int (q 29) :: Value.int (q 30) :: Value.int (q 31) :: Value.int (q 32) :: Value.int (q 33) :: Value.ref (a 34) :: Value.ref (a 35) :: Value.ref (a 36) :: Value.ref (a 37) :: Value.ref (a 38) :: Value.ref (a 39) :: Value.ref (a 40) :: Value.int (q 41) :: Value.ref (a 42) :: Value.int (q 43) :: Value.int (q 44) :: [])))]) hD hS hA [0] rfl
  refine va_callv (va_runV (As := [.long (((q 4) - (q 3)).toInt64), .long 1, .long l_14, .long l_15]) (rest := []) ⟨hx, hb, hml, hown, hts⟩ (c_X13_multiplies l D T _ h0 (fun k => cond (Nat.beq k 14) n_13 (q k)) l_14 l_15 a (((q 4) - (q 3)).toInt64) 1 l_14 l_15 (show isB n_13 from hB14_r_11) (show 1 ≤ (1 : Int64).toInt from (by decide +kernel)) (show 1 ≤ l_15.toInt from (by omega)) (show 1 ≤ l_15.toInt from (by omega))) (cwV 4 hts gX13_means_X13_multiplies rfl rfl rfl hv_X13_multiplies ⟨Nat.le_of_ble_eq_true rfl, Nat.le_of_ble_eq_true rfl⟩) (pW_V (q := (RX13, TX13, 45)) (ci := 10) (q0 := 0) hP hE hD rfl rfl [0] (by decide +kernel) rfl rfl) rfl rfl hl.1 rfl (lv_room (Nat.le_of_ble_eq_true rfl)) dX13_means_70 ⟨Nat.le_of_ble_eq_true rfl, Nat.le_of_ble_eq_true rfl⟩) hS (fun q _ h => hFc q h) hFc (fun u_17 t H1 locs ht hvm hr_16 hB hz1 hk1 hS => ?_)
  obtain ⟨n_18, l_19, l_20⟩ := u_17
  obtain ⟨hi0_r_16, hi1_r_16, hi2_r_16, hi3_r_16⟩ := hr_16
  have hB14_r_16 : isB n_18 := hi0_r_16
  have hj1_r_16 : 1 ≤ l_20.toInt := hi1_r_16
  have hj2_r_16 : (n_18 : Int32).toInt = 0 ↔ ((n_13 : Int32).toInt = 0 ∧ fitM (((q 4) - (q 3)).toInt64) l_14 ∧ fitM (1 : Int64) l_15) := hi2_r_16
  have hj3_r_16 : (n_18 : Int32).toInt = 0 → ((l_19, l_20) : Int64 × Int64) = redW ((((q 4) - (q 3)).toInt64) * l_14) ((1 : Int64) * l_15) := hi3_r_16
  obtain ⟨hP1, hD1⟩ := hB
  rw [ht] at hP1
  obtain ⟨hP, hD⟩ := va_repl [(h0, .inr (10, (Value.int (q 0) :: Value.int (q 1) :: Value.int (q 2) :: Value.int (q 3) :: Value.int (q 4) :: Value.int (q 5) :: Value.int (q 6) :: Value.int (q 7) :: Value.ref (a 8) :: Value.ref (a 9) :: Value.ref (a 10) :: Value.ref (a 11) :: Value.ref (a 12) :: Value.ref (a 13) :: Value.int n_18 :: Value.long l_19 :: Value.long l_20 :: Value.ref (a 17) :: Value.ref (a 18) :: Value.ref (a 19) :: Value.ref (a 20) :: Value.ref (a 21) :: Value.ref (a 22) :: Value.ref (a 23) :: Value.int (q 24) :: Value.ref (a 25) :: Value.int (q 26) :: Value.ref (a 27) :: Value.int (q 28) :: Value.int (q 29) :: Value.int (q 30) :: Value.int (q 31) :: Value.int (q 32) :: Value.int (q 33) :: Value.ref (a 34) :: Value.ref (a 35) :: Value.ref (a 36) :: Value.ref (a 37) :: Value.ref (a 38) :: Value.ref (a 39) :: Value.ref (a 40) :: Value.int (q 41) :: Value.ref (a 42) :: Value.int (q 43) :: Value.int (q 44) :: []))), ((a 20), .inl (T 1, 672, .inr (.inl f20))), ((a 21), .inl (T 1, 672, .inr (.inl f21))), ((a 22), .inl (T 4, 672, .inl f22))] hP hD [0] [0] rfl (by decide +kernel) rfl rfl rfl hk1 hP1
  clear hP1 hD1 hFc
  generalize H1 = H at hP hS ⊢
  refine lv_aload_n hx hb dX13_means_73 rfl (lv_at hl 2 rfl) ?_
  refine lv_lload hx hb dX13_means_74 (lv_at hl 1 rfl) ?_
  refine lv_lload hx hb dX13_means_76 (lv_at hl 0 rfl) ?_
  refine lv_aload_n hx hb dX13_means_78 rfl (lv_at hl 2 rfl) ?_
  refine va_get (D := D) (ci := 10) (v := .long l_19) (C := RX13) (T := TX13) (N := 45) hx hb hts in_X13_means_X13 hown hE.1 hP 0 rfl rfl 15 (by decide +kernel) (hts (.fieldLink RX13 145 "ClauseBookModel" "above" "J") (List.mem_of_getElem? (i := 2) rfl)) (fun _ h9 => h9) rfl dX13_means_79 ?_
  refine lv_aload_n hx hb dX13_means_82 rfl (lv_at hl 2 rfl) ?_
  refine va_get (D := D) (ci := 10) (v := .long l_20) (C := RX13) (T := TX13) (N := 45) hx hb hts in_X13_means_X13 hown hE.1 hP 0 rfl rfl 16 (by decide +kernel) (hts (.fieldLink RX13 149 "ClauseBookModel" "below" "J") (List.mem_of_getElem? (i := 3) rfl)) (fun _ h9 => h9) rfl dX13_means_83 ?_
  have hFc := va_free (wc := [(h0, .inr (10, (Value.int (q 0) :: Value.int (q 1) :: Value.int (q 2) :: Value.int (q 3) :: Value.int (q 4) :: Value.int (q 5) :: Value.int (q 6) :: Value.int (q 7) :: Value.ref (a 8) :: Value.ref (a 9) :: Value.ref (a 10) :: Value.ref (a 11) :: Value.ref (a 12) :: Value.ref (a 13) :: Value.int n_18 :: Value.long l_19 :: Value.long l_20 :: Value.ref (a 17) :: Value.ref (a 18) :: Value.ref (a 19) :: Value.ref (a 20) :: Value.ref (a 21) :: Value.ref (a 22) :: Value.ref (a 23) :: Value.int (q 24) :: Value.ref (a 25) :: Value.int (q 26) :: Value.ref (a 27) :: Value.int (q 28) :: Value.int (q 29) :: Value.int (q 30) :: Value.int (q 31) :: Value.int (q 32) :: Value.int (q 33) :: Value.ref (a 34) :: Value.ref (a 35) :: Value.ref (a 36) :: Value.ref (a 37) :: Value.ref (a 38) :: Value.ref (a 39) :: Value.ref (a 40) :: Value.int (q 41) :: Value.ref (a 42) :: Value.int (q 43) :: Value.int (q 44) :: [])))]) hD hS hA [0] rfl
  refine va_callv (va_runV (As := [.long l_9, .long l_10, .long l_19, .long l_20]) (rest := []) ⟨hx, hb, hml, hown, hts⟩ (c_X13_adds l D T _ h0 (fun k => cond (Nat.beq k 14) n_18 (q k)) l_19 l_20 a l_9 l_10 l_19 l_20 (show isB n_18 from hB14_r_16) (show 1 ≤ l_10.toInt from (by omega)) (show 1 ≤ l_20.toInt from (by omega)) (show 1 ≤ l_20.toInt from (by omega))) (cwV 4 hts gX13_means_X13_adds rfl rfl rfl hv_X13_adds ⟨Nat.le_of_ble_eq_true rfl, Nat.le_of_ble_eq_true rfl⟩) (pW_V (q := (RX13, TX13, 45)) (ci := 10) (q0 := 0) hP hE hD rfl rfl [0] (by decide +kernel) rfl rfl) rfl rfl hl.1 rfl (lv_room (Nat.le_of_ble_eq_true rfl)) dX13_means_86 ⟨Nat.le_of_ble_eq_true rfl, Nat.le_of_ble_eq_true rfl⟩) hS (fun q _ h => hFc q h) hFc (fun u_22 t H1 locs ht hvm hr_21 hB hz1 hk1 hS => ?_)
  obtain ⟨n_23, l_24, l_25⟩ := u_22
  obtain ⟨hi0_r_21, hi1_r_21, hi2_r_21, hi3_r_21⟩ := hr_21
  have hB14_r_21 : isB n_23 := hi0_r_21
  have hj1_r_21 : 1 ≤ l_25.toInt := hi1_r_21
  have hj2_r_21 : (n_23 : Int32).toInt = 0 ↔ ((n_18 : Int32).toInt = 0 ∧ fitM l_9 l_20 ∧ fitM l_19 l_10 ∧ fitM l_10 l_20 ∧ fitA (l_9 * l_20) (l_19 * l_10)) := hi2_r_21
  have hj3_r_21 : (n_23 : Int32).toInt = 0 → ((l_24, l_25) : Int64 × Int64) = redW ((l_9 * l_20) + (l_19 * l_10)) (l_10 * l_20) := hi3_r_21
  obtain ⟨hP1, hD1⟩ := hB
  rw [ht] at hP1
  obtain ⟨hP, hD⟩ := va_repl [(h0, .inr (10, (Value.int (q 0) :: Value.int (q 1) :: Value.int (q 2) :: Value.int (q 3) :: Value.int (q 4) :: Value.int (q 5) :: Value.int (q 6) :: Value.int (q 7) :: Value.ref (a 8) :: Value.ref (a 9) :: Value.ref (a 10) :: Value.ref (a 11) :: Value.ref (a 12) :: Value.ref (a 13) :: Value.int n_23 :: Value.long l_24 :: Value.long l_25 :: Value.ref (a 17) :: Value.ref (a 18) :: Value.ref (a 19) :: Value.ref (a 20) :: Value.ref (a 21) :: Value.ref (a 22) :: Value.ref (a 23) :: Value.int (q 24) :: Value.ref (a 25) :: Value.int (q 26) :: Value.ref (a 27) :: Value.int (q 28) :: Value.int (q 29) :: Value.int (q 30) :: Value.int (q 31) :: Value.int (q 32) :: Value.int (q 33) :: Value.ref (a 34) :: Value.ref (a 35) :: Value.ref (a 36) :: Value.ref (a 37) :: Value.ref (a 38) :: Value.ref (a 39) :: Value.ref (a 40) :: Value.int (q 41) :: Value.ref (a 42) :: Value.int (q 43) :: Value.int (q 44) :: []))), ((a 20), .inl (T 1, 672, .inr (.inl f20))), ((a 21), .inl (T 1, 672, .inr (.inl f21))), ((a 22), .inl (T 4, 672, .inl f22))] hP hD [0] [0] rfl (by decide +kernel) rfl rfl rfl hk1 hP1
  clear hP1 hD1 hFc
  generalize H1 = H at hP hS ⊢
  refine lv_aload_n hx hb dX13_means_89 rfl (lv_at hl 2 rfl) ?_
  refine va_get (D := D) (ci := 10) (v := .int (q 5)) (C := RX13) (T := TX13) (N := 45) hx hb hts in_X13_means_X13 hown hE.1 hP 0 rfl rfl 5 (by decide +kernel) (hts (.fieldLink RX13 22 "ClauseBookModel" "waitA" "I") (List.mem_of_getElem? (i := 5) rfl)) (fun _ h9 => h9) rfl dX13_means_90 ?_
  refine lv_i2l hx hb dX13_means_93 rfl ?_
  refine lv_aload_n hx hb dX13_means_94 rfl (lv_at hl 2 rfl) ?_
  refine va_get (D := D) (ci := 10) (v := .int (q 6)) (C := RX13) (T := TX13) (N := 45) hx hb hts in_X13_means_X13 hown hE.1 hP 0 rfl rfl 6 (by decide +kernel) (hts (.fieldLink RX13 25 "ClauseBookModel" "waitB" "I") (List.mem_of_getElem? (i := 6) rfl)) (fun _ h9 => h9) rfl dX13_means_95 ?_
  refine lv_i2l hx hb dX13_means_98 rfl ?_
  refine lv_aload_n hx hb dX13_means_99 rfl (lv_at hl 2 rfl) ?_
  refine va_get (D := D) (ci := 10) (v := .int (q 4)) (C := RX13) (T := TX13) (N := 45) hx hb hts in_X13_means_X13 hown hE.1 hP 0 rfl rfl 4 (by decide +kernel) (hts (.fieldLink RX13 19 "ClauseBookModel" "oddsQ" "I") (List.mem_of_getElem? (i := 4) rfl)) (fun _ h9 => h9) rfl dX13_means_100 ?_
  refine lv_i2l hx hb dX13_means_103 rfl ?_
  refine lv_lmul hx hb dX13_means_104 ?_
  refine vp_callSl (W.runS (As := [.long ((q 5).toInt64), .long (((q 6).toInt64) * ((q 4).toInt64))]) (rest := []) ⟨hx, hb, hml, hown, hts⟩ (c_X13_divisor l D T ((q 5).toInt64) (((q 6).toInt64) * ((q 4).toInt64)) (l_small (by omega) (by omega))) (va_cwS 2 hts gX13_means_X13_divisor rfl rfl rfl hs_X13_divisor ⟨Nat.le_of_ble_eq_true rfl, Nat.le_of_ble_eq_true rfl⟩) (pR_S hP hE [] rfl) rfl rfl hl.1 rfl (lv_room (Nat.le_of_ble_eq_true rfl)) dX13_means_105 ⟨Nat.le_of_ble_eq_true rfl, Nat.le_of_ble_eq_true rfl⟩) (fun r_26 hr_26 => ?_)
  refine lv_lstore (lv' := [(8, .long r_26), (6, .long l_10), (4, .long l_9), (0, .ref h0), (1, .int x1), (2, .int x2), (3, .int x3)]) hx hb dX13_means_108 hl (by decide +kernel) rfl (fun ls hl => ?_)
  refine lv_aload_n hx hb dX13_means_110 rfl (lv_at hl 3 rfl) ?_
  refine lv_aload_n hx hb dX13_means_111 rfl (lv_at hl 3 rfl) ?_
  refine va_get (D := D) (ci := 10) (v := .long l_24) (C := RX13) (T := TX13) (N := 45) hx hb hts in_X13_means_X13 hown hE.1 hP 0 rfl rfl 15 (by decide +kernel) (hts (.fieldLink RX13 145 "ClauseBookModel" "above" "J") (List.mem_of_getElem? (i := 2) rfl)) (fun _ h9 => h9) rfl dX13_means_112 ?_
  refine lv_aload_n hx hb dX13_means_115 rfl (lv_at hl 3 rfl) ?_
  refine va_get (D := D) (ci := 10) (v := .long l_25) (C := RX13) (T := TX13) (N := 45) hx hb hts in_X13_means_X13 hown hE.1 hP 0 rfl rfl 16 (by decide +kernel) (hts (.fieldLink RX13 149 "ClauseBookModel" "below" "J") (List.mem_of_getElem? (i := 3) rfl)) (fun _ h9 => h9) rfl dX13_means_116 ?_
  refine lv_aload_n hx hb dX13_means_119 rfl (lv_at hl 3 rfl) ?_
  refine va_get (D := D) (ci := 10) (v := .int (q 5)) (C := RX13) (T := TX13) (N := 45) hx hb hts in_X13_means_X13 hown hE.1 hP 0 rfl rfl 5 (by decide +kernel) (hts (.fieldLink RX13 22 "ClauseBookModel" "waitA" "I") (List.mem_of_getElem? (i := 5) rfl)) (fun _ h9 => h9) rfl dX13_means_120 ?_
  refine lv_i2l hx hb dX13_means_123 rfl ?_
  refine lv_lload hx hb dX13_means_124 (lv_at hl 0 rfl) ?_
  refine lv_ldiv hx hb dX13_means_126 (nz64 (by omega)) ?_
  refine lv_aload_n hx hb dX13_means_127 rfl (lv_at hl 3 rfl) ?_
  refine va_get (D := D) (ci := 10) (v := .int (q 6)) (C := RX13) (T := TX13) (N := 45) hx hb hts in_X13_means_X13 hown hE.1 hP 0 rfl rfl 6 (by decide +kernel) (hts (.fieldLink RX13 25 "ClauseBookModel" "waitB" "I") (List.mem_of_getElem? (i := 6) rfl)) (fun _ h9 => h9) rfl dX13_means_128 ?_
  refine lv_i2l hx hb dX13_means_131 rfl ?_
  refine lv_aload_n hx hb dX13_means_132 rfl (lv_at hl 3 rfl) ?_
  refine va_get (D := D) (ci := 10) (v := .int (q 4)) (C := RX13) (T := TX13) (N := 45) hx hb hts in_X13_means_X13 hown hE.1 hP 0 rfl rfl 4 (by decide +kernel) (hts (.fieldLink RX13 19 "ClauseBookModel" "oddsQ" "I") (List.mem_of_getElem? (i := 4) rfl)) (fun _ h9 => h9) rfl dX13_means_133 ?_
  refine lv_i2l hx hb dX13_means_136 rfl ?_
  refine lv_lmul hx hb dX13_means_137 ?_
  refine lv_lload hx hb dX13_means_138 (lv_at hl 0 rfl) ?_
  refine lv_ldiv hx hb dX13_means_140 (nz64 (by omega)) ?_
  have hFc := va_free (wc := [(h0, .inr (10, (Value.int (q 0) :: Value.int (q 1) :: Value.int (q 2) :: Value.int (q 3) :: Value.int (q 4) :: Value.int (q 5) :: Value.int (q 6) :: Value.int (q 7) :: Value.ref (a 8) :: Value.ref (a 9) :: Value.ref (a 10) :: Value.ref (a 11) :: Value.ref (a 12) :: Value.ref (a 13) :: Value.int n_23 :: Value.long l_24 :: Value.long l_25 :: Value.ref (a 17) :: Value.ref (a 18) :: Value.ref (a 19) :: Value.ref (a 20) :: Value.ref (a 21) :: Value.ref (a 22) :: Value.ref (a 23) :: Value.int (q 24) :: Value.ref (a 25) :: Value.int (q 26) :: Value.ref (a 27) :: Value.int (q 28) :: Value.int (q 29) :: Value.int (q 30) :: Value.int (q 31) :: Value.int (q 32) :: Value.int (q 33) :: Value.ref (a 34) :: Value.ref (a 35) :: Value.ref (a 36) :: Value.ref (a 37) :: Value.ref (a 38) :: Value.ref (a 39) :: Value.ref (a 40) :: Value.int (q 41) :: Value.ref (a 42) :: Value.int (q 43) :: Value.int (q 44) :: [])))]) hD hS hA [0] rfl
  refine va_callv (va_runV (As := [.long l_24, .long l_25, .long (((q 5).toInt64) / r_26), .long ((((q 6).toInt64) * ((q 4).toInt64)) / r_26)]) (rest := []) ⟨hx, hb, hml, hown, hts⟩ (c_X13_multiplies l D T _ h0 (fun k => cond (Nat.beq k 14) n_23 (q k)) l_24 l_25 a l_24 l_25 (((q 5).toInt64) / r_26) ((((q 6).toInt64) * ((q 4).toInt64)) / r_26) (show isB n_23 from hB14_r_21) (show 1 ≤ l_25.toInt from (by omega)) (show 1 ≤ ((((q 6).toInt64) * ((q 4).toInt64)) / r_26).toInt from (div_pos64 (by omega) (by omega))) (show 1 ≤ l_25.toInt from (by omega))) (cwV 4 hts gX13_means_X13_multiplies rfl rfl rfl hv_X13_multiplies ⟨Nat.le_of_ble_eq_true rfl, Nat.le_of_ble_eq_true rfl⟩) (pW_V (q := (RX13, TX13, 45)) (ci := 10) (q0 := 0) hP hE hD rfl rfl [0] (by decide +kernel) rfl rfl) rfl rfl hl.1 rfl (lv_room (Nat.le_of_ble_eq_true rfl)) dX13_means_141 ⟨Nat.le_of_ble_eq_true rfl, Nat.le_of_ble_eq_true rfl⟩) hS (fun q _ h => hFc q h) hFc (fun u_28 t H1 locs ht hvm hr_27 hB hz1 hk1 hS => ?_)
  obtain ⟨n_29, l_30, l_31⟩ := u_28
  obtain ⟨hi0_r_27, hi1_r_27, hi2_r_27, hi3_r_27⟩ := hr_27
  have hB14_r_27 : isB n_29 := hi0_r_27
  have hj1_r_27 : 1 ≤ l_31.toInt := hi1_r_27
  have hj2_r_27 : (n_29 : Int32).toInt = 0 ↔ ((n_23 : Int32).toInt = 0 ∧ fitM l_24 (((q 5).toInt64) / r_26) ∧ fitM l_25 ((((q 6).toInt64) * ((q 4).toInt64)) / r_26)) := hi2_r_27
  have hj3_r_27 : (n_29 : Int32).toInt = 0 → ((l_30, l_31) : Int64 × Int64) = redW (l_24 * (((q 5).toInt64) / r_26)) (l_25 * ((((q 6).toInt64) * ((q 4).toInt64)) / r_26)) := hi3_r_27
  obtain ⟨hP1, hD1⟩ := hB
  rw [ht] at hP1
  obtain ⟨hP, hD⟩ := va_repl [(h0, .inr (10, (Value.int (q 0) :: Value.int (q 1) :: Value.int (q 2) :: Value.int (q 3) :: Value.int (q 4) :: Value.int (q 5) :: Value.int (q 6) :: Value.int (q 7) :: Value.ref (a 8) :: Value.ref (a 9) :: Value.ref (a 10) :: Value.ref (a 11) :: Value.ref (a 12) :: Value.ref (a 13) :: Value.int n_29 :: Value.long l_30 :: Value.long l_31 :: Value.ref (a 17) :: Value.ref (a 18) :: Value.ref (a 19) :: Value.ref (a 20) :: Value.ref (a 21) :: Value.ref (a 22) :: Value.ref (a 23) :: Value.int (q 24) :: Value.ref (a 25) :: Value.int (q 26) :: Value.ref (a 27) :: Value.int (q 28) :: Value.int (q 29) :: Value.int (q 30) :: Value.int (q 31) :: Value.int (q 32) :: Value.int (q 33) :: Value.ref (a 34) :: Value.ref (a 35) :: Value.ref (a 36) :: Value.ref (a 37) :: Value.ref (a 38) :: Value.ref (a 39) :: Value.ref (a 40) :: Value.int (q 41) :: Value.ref (a 42) :: Value.int (q 43) :: Value.int (q 44) :: []))), ((a 20), .inl (T 1, 672, .inr (.inl f20))), ((a 21), .inl (T 1, 672, .inr (.inl f21))), ((a 22), .inl (T 4, 672, .inl f22))] hP hD [0] [0] rfl (by decide +kernel) rfl rfl rfl hk1 hP1
  clear hP1 hD1 hFc
  generalize H1 = H at hP hS ⊢
  exact W.vret hx hb hr (fun t ht hW => ⟨⟨(n_29, l_30, l_31), rfl, ⟨(show isB n_29 from hB14_r_27), (show 1 ≤ l_31.toInt from (by first | omega | (subst_vars; omega))), (show ((q 14) : Int32).toInt = 0 → mpW n_29 l_30 l_31 = avgW (lqW (q 0) (q 1) (q 2) (q 3) (q 4) (q 5) (q 6)) (tabW f20 f21 f22) x1 x2 x3 from (fun h9 => by
                                                            have k1 := tk_mp h9 hj2_r_1 hj3_r_1 hj4_r_1
                                                            have k2 := ref_mul k1 hj1_r_1 hj2_r_6 hj3_r_6
                                                            have k4 := fun q9 => ref_mul (tk_mp q9 hj2_r_11 hj3_r_11 hj4_r_11) hj1_r_11 hj2_r_16 hj3_r_16
                                                            have k5 := ref_add k2 k4 (fun q9 => (hj2_r_11.1 (hj2_r_16.1 q9).1).1) hj1_r_6 hj1_r_16 hj2_r_21 hj3_r_21
                                                            have k6 := ref_mul2 k5 hj1_r_21 hj2_r_27 hj3_r_27
                                                            exact k6.trans (avg_ref (l := (lqW (q 0) (q 1) (q 2) (q 3) (q 4) (q 5) (q 6))) (V := (tabW f20 f21 f22)) (wt_ref (a := q 5) (b := q 6) (q := q 4) (by omega) (by omega) hr_26.1)))), (show (n_29 : Int32).toInt = 0 → ((q 14) : Int32).toInt = 0 from (fun h9 => (hj2_r_1.1 (hj2_r_6.1 (hj2_r_11.1 (hj2_r_16.1 (hj2_r_21.1 (hj2_r_27.1 h9).1).1).1).1).1).1))⟩, by rw [ht]; exact hP.sub [0, 1, 2, 3] rfl, hD.sub [0, 1, 2, 3] (by decide +kernel) rfl⟩, hS.F ht⟩) hS.2.2 dX13_means_144
theorem dX13_takesBest_0 : decode cX13_takesBest 0 = .ok (.aload_n 0, 1) := by decide +kernel
theorem dX13_takesBest_1 : decode cX13_takesBest 1 = .ok (.iload_n 1, 1) := by decide +kernel
theorem dX13_takesBest_12 : decode cX13_takesBest 12 = .ok (.lstore 6, 2) := by decide +kernel
theorem dX13_takesBest_14 : decode cX13_takesBest 14 = .ok (.aload_n 0, 1) := by decide +kernel
theorem dX13_takesBest_15 : decode cX13_takesBest 15 = .ok (.getfield 149, 3) := by decide +kernel
theorem dX13_takesBest_18 : decode cX13_takesBest 18 = .ok (.lstore 8, 2) := by decide +kernel
theorem dX13_takesBest_2 : decode cX13_takesBest 2 = .ok (.iload_n 3, 1) := by decide +kernel
theorem dX13_takesBest_20 : decode cX13_takesBest 20 = .ok (.aload_n 0, 1) := by decide +kernel
theorem dX13_takesBest_21 : decode cX13_takesBest 21 = .ok (.iload_n 2, 1) := by decide +kernel
theorem dX13_takesBest_22 : decode cX13_takesBest 22 = .ok (.iload_n 3, 1) := by decide +kernel
theorem dX13_takesBest_23 : decode cX13_takesBest 23 = .ok (.iload 4, 2) := by decide +kernel
theorem dX13_takesBest_25 : decode cX13_takesBest 25 = .ok (.invokevirtual 243, 3) := by decide +kernel
theorem dX13_takesBest_28 : decode cX13_takesBest 28 = .ok (.aload_n 0, 1) := by decide +kernel
theorem dX13_takesBest_29 : decode cX13_takesBest 29 = .ok (.getfield 131, 3) := by decide +kernel
theorem dX13_takesBest_3 : decode cX13_takesBest 3 = .ok (.iload 4, 2) := by decide +kernel
theorem dX13_takesBest_32 : decode cX13_takesBest 32 = .ok (.ifCond .ne 36, 3) := by decide +kernel
theorem dX13_takesBest_35 : decode cX13_takesBest 35 = .ok (.lload 6, 2) := by decide +kernel
theorem dX13_takesBest_37 : decode cX13_takesBest 37 = .ok (.lload 8, 2) := by decide +kernel
theorem dX13_takesBest_39 : decode cX13_takesBest 39 = .ok (.aload_n 0, 1) := by decide +kernel
theorem dX13_takesBest_40 : decode cX13_takesBest 40 = .ok (.getfield 145, 3) := by decide +kernel
theorem dX13_takesBest_43 : decode cX13_takesBest 43 = .ok (.aload_n 0, 1) := by decide +kernel
theorem dX13_takesBest_44 : decode cX13_takesBest 44 = .ok (.getfield 149, 3) := by decide +kernel
theorem dX13_takesBest_47 : decode cX13_takesBest 47 = .ok (.invokestatic 167, 3) := by decide +kernel
theorem dX13_takesBest_5 : decode cX13_takesBest 5 = .ok (.invokevirtual 243, 3) := by decide +kernel
theorem dX13_takesBest_50 : decode cX13_takesBest 50 = .ok (.iload 5, 2) := by decide +kernel
theorem dX13_takesBest_52 : decode cX13_takesBest 52 = .ok (.imul, 1) := by decide +kernel
theorem dX13_takesBest_53 : decode cX13_takesBest 53 = .ok (.ifCond .le 15, 3) := by decide +kernel
theorem dX13_takesBest_56 : decode cX13_takesBest 56 = .ok (.aload_n 0, 1) := by decide +kernel
theorem dX13_takesBest_57 : decode cX13_takesBest 57 = .ok (.lload 6, 2) := by decide +kernel
theorem dX13_takesBest_59 : decode cX13_takesBest 59 = .ok (.putfield 145, 3) := by decide +kernel
theorem dX13_takesBest_62 : decode cX13_takesBest 62 = .ok (.aload_n 0, 1) := by decide +kernel
theorem dX13_takesBest_63 : decode cX13_takesBest 63 = .ok (.lload 8, 2) := by decide +kernel
theorem dX13_takesBest_65 : decode cX13_takesBest 65 = .ok (.putfield 149, 3) := by decide +kernel
theorem dX13_takesBest_68 : decode cX13_takesBest 68 = .ok (.return_, 1) := by decide +kernel
theorem dX13_takesBest_8 : decode cX13_takesBest 8 = .ok (.aload_n 0, 1) := by decide +kernel
theorem dX13_takesBest_9 : decode cX13_takesBest 9 = .ok (.getfield 145, 3) := by decide +kernel
set_option maxRecDepth 20000 in
theorem ggX13_takesBest_X13_compared : GoodIn wsX13_takesBest wsX13_compared := goodIn_r _ [17, 18, 19, 20, 21, 15, 16, 7] rfl (by decide +kernel)
set_option maxRecDepth 20000 in
theorem ggX13_takesBest_X13_takes : GoodIn wsX13_takesBest wsX13_takes := goodIn_r _ [8, 3, 9, 10, 1, 11, 2, 12, 13, 7, 14, 22, 23, 24, 25, 26, 27, 28, 29, 30, 31, 32, 33, 34, 35, 36, 37, 38, 39, 40, 41, 42, 43, 44, 45, 46, 47, 48, 49, 50, 51, 52, 53, 54, 55, 56, 57, 58, 59, 60, 61, 62, 63, 64, 65, 66] rfl (by decide +kernel)
set_option maxRecDepth 20000 in
theorem gX13_takesBest_X13_compared : GoodIn wsX13_takesBest (va_wsS RX13 167 yX13_compared wsX13_compared) := goodIn_app (goodIn_of _ (by decide +kernel)) ggX13_takesBest_X13_compared
set_option maxRecDepth 20000 in
theorem gX13_takesBest_X13_takes : GoodIn wsX13_takesBest (wsV RX13 243 RX13 yX13_takes wsX13_takes) := goodIn_app (goodIn_r _ [4, 5, 6, 7] rfl (by decide +kernel)) ggX13_takesBest_X13_takes
set_option maxRecDepth 20000 in
theorem in_X13_takesBest_X13 : ∀ w ∈ wsX130, w ∈ wsX13_takesBest := sub_r [22, 23, 24, 25, 26, 27, 28, 29, 30, 31, 32, 33, 34, 35, 36, 37, 38, 39, 40, 41, 42, 43, 44, 45, 46, 47, 48, 49, 50, 51, 52, 53, 54, 55, 56, 57, 58, 59, 60, 61, 62, 63, 64, 65, 66] rfl
set_option maxHeartbeats 4000000 in
set_option maxRecDepth 100000 in
theorem c_X13_takesBest (l : Launch) (D : va_G) (T : Nat → ClassId) (sz : Nat) (h0 : Nat) (q : Nat → Int32) (v : Int64) (w : Int64) (a : Nat → Nat) (f20 : Nat → Int64) (f21 : Nat → Int64) (f22 : Nat → Int32) (x1 : Int32) (x2 : Int32) (x3 : Int32) (x4 : Int32) (x5 : Int32) (hB : isB (q 14)) (hZ : ∀ j : Nat, isB (f22 j)) (hx1 : 0 ≤ x1.toInt ∧ x1.toInt < 24) (hx2 : 0 ≤ x2.toInt ∧ x2.toInt < 24) (hx3 : 0 ≤ x3.toInt ∧ x3.toInt ≤ 6) (hx4 : 0 ≤ x4.toInt ∧ x4.toInt ≤ x3.toInt) (hbx : ∀ j : Nat, (j : Int) = 28 * x1.toInt + tri x3.toInt + x4.toInt → 1 ≤ (f21 j).toInt) (hby : ∀ j : Nat, (j : Int) = 28 * x2.toInt + tri x3.toInt + x4.toInt → 1 ≤ (f21 j).toInt) (hx5 : x5.toInt = 1 ∨ x5.toInt = -1) : Met l yX13_takesBest wsX13_takesBest ({ frames := 130, cells := 0, slots := 0, locals := 5175 }) (pW [.ref h0, .int x1, .int x2, .int x3, .int x4, .int x5] D T [(h0, .inr (10, (Value.int (q 0) :: Value.int (q 1) :: Value.int (q 2) :: Value.int (q 3) :: Value.int (q 4) :: Value.int (q 5) :: Value.int (q 6) :: Value.int (q 7) :: Value.ref (a 8) :: Value.ref (a 9) :: Value.ref (a 10) :: Value.ref (a 11) :: Value.ref (a 12) :: Value.ref (a 13) :: Value.int (q 14) :: Value.long v :: Value.long w :: Value.ref (a 17) :: Value.ref (a 18) :: Value.ref (a 19) :: Value.ref (a 20) :: Value.ref (a 21) :: Value.ref (a 22) :: Value.ref (a 23) :: Value.int (q 24) :: Value.ref (a 25) :: Value.int (q 26) :: Value.ref (a 27) :: Value.int (q 28) :: Value.int (q 29) :: Value.int (q 30) :: Value.int (q 31) :: Value.int (q 32) :: Value.int (q 33) :: Value.ref (a 34) :: Value.ref (a 35) :: Value.ref (a 36) :: Value.ref (a 37) :: Value.ref (a 38) :: Value.ref (a 39) :: Value.ref (a 40) :: Value.int (q 41) :: Value.ref (a 42) :: Value.int (q 43) :: Value.int (q 44) :: []))), ((a 20), .inl (T 1, 672, .inr (.inl f20))), ((a 21), .inl (T 1, 672, .inr (.inl f21))), ((a 22), .inl (T 4, 672, .inl f22))] sz) (va_Qv (fun (u : (Int32) × (Int64) × (Int64)) => (isB u.1) ∧ (1 ≤ u.2.2.toInt) ∧ (((q 14) : Int32).toInt = 0 → mpW u.1 u.2.1 u.2.2 = bestW ((tabW f20 f21 f22) x1 x3 x4) ((tabW f20 f21 f22) x2 x3 x4) x5.toInt)) (bW D (va_A [(h0, .inr (10, (Value.int (q 0) :: Value.int (q 1) :: Value.int (q 2) :: Value.int (q 3) :: Value.int (q 4) :: Value.int (q 5) :: Value.int (q 6) :: Value.int (q 7) :: Value.ref (a 8) :: Value.ref (a 9) :: Value.ref (a 10) :: Value.ref (a 11) :: Value.ref (a 12) :: Value.ref (a 13) :: Value.int (q 14) :: Value.long v :: Value.long w :: Value.ref (a 17) :: Value.ref (a 18) :: Value.ref (a 19) :: Value.ref (a 20) :: Value.ref (a 21) :: Value.ref (a 22) :: Value.ref (a 23) :: Value.int (q 24) :: Value.ref (a 25) :: Value.int (q 26) :: Value.ref (a 27) :: Value.int (q 28) :: Value.int (q 29) :: Value.int (q 30) :: Value.int (q 31) :: Value.int (q 32) :: Value.int (q 33) :: Value.ref (a 34) :: Value.ref (a 35) :: Value.ref (a 36) :: Value.ref (a 37) :: Value.ref (a 38) :: Value.ref (a 39) :: Value.ref (a 40) :: Value.int (q 41) :: Value.ref (a 42) :: Value.int (q 43) :: Value.int (q 44) :: []))), ((a 20), .inl (T 1, 672, .inr (.inl f20))), ((a 21), .inl (T 1, 672, .inr (.inl f21))), ((a 22), .inl (T 4, 672, .inl f22))] sz) (fun (u : (Int32) × (Int64) × (Int64)) => [(h0, .inr (10, (Value.int (q 0) :: Value.int (q 1) :: Value.int (q 2) :: Value.int (q 3) :: Value.int (q 4) :: Value.int (q 5) :: Value.int (q 6) :: Value.int (q 7) :: Value.ref (a 8) :: Value.ref (a 9) :: Value.ref (a 10) :: Value.ref (a 11) :: Value.ref (a 12) :: Value.ref (a 13) :: Value.int u.1 :: Value.long u.2.1 :: Value.long u.2.2 :: Value.ref (a 17) :: Value.ref (a 18) :: Value.ref (a 19) :: Value.ref (a 20) :: Value.ref (a 21) :: Value.ref (a 22) :: Value.ref (a 23) :: Value.int (q 24) :: Value.ref (a 25) :: Value.int (q 26) :: Value.ref (a 27) :: Value.int (q 28) :: Value.int (q 29) :: Value.int (q 30) :: Value.int (q 31) :: Value.int (q 32) :: Value.int (q 33) :: Value.ref (a 34) :: Value.ref (a 35) :: Value.ref (a 36) :: Value.ref (a 37) :: Value.ref (a 38) :: Value.ref (a 39) :: Value.ref (a 40) :: Value.int (q 41) :: Value.ref (a 42) :: Value.int (q 43) :: Value.int (q 44) :: []))), ((a 20), .inl (T 1, 672, .inr (.inl f20))), ((a 21), .inl (T 1, 672, .inr (.inl f21))), ((a 22), .inl (T 4, 672, .inl f22))])) (va_A [(h0, .inr (10, (Value.int (q 0) :: Value.int (q 1) :: Value.int (q 2) :: Value.int (q 3) :: Value.int (q 4) :: Value.int (q 5) :: Value.int (q 6) :: Value.int (q 7) :: Value.ref (a 8) :: Value.ref (a 9) :: Value.ref (a 10) :: Value.ref (a 11) :: Value.ref (a 12) :: Value.ref (a 13) :: Value.int (q 14) :: Value.long v :: Value.long w :: Value.ref (a 17) :: Value.ref (a 18) :: Value.ref (a 19) :: Value.ref (a 20) :: Value.ref (a 21) :: Value.ref (a 22) :: Value.ref (a 23) :: Value.int (q 24) :: Value.ref (a 25) :: Value.int (q 26) :: Value.ref (a 27) :: Value.int (q 28) :: Value.int (q 29) :: Value.int (q 30) :: Value.int (q 31) :: Value.int (q 32) :: Value.int (q 33) :: Value.ref (a 34) :: Value.ref (a 35) :: Value.ref (a 36) :: Value.ref (a 37) :: Value.ref (a 38) :: Value.ref (a 39) :: Value.ref (a 40) :: Value.int (q 41) :: Value.ref (a 42) :: Value.int (q 43) :: Value.int (q 44) :: []))), ((a 20), .inl (T 1, 672, .inr (.inl f20))), ((a 21), .inl (T 1, 672, .inr (.inl f21))), ((a 22), .inl (T 4, 672, .inl f22))] sz)) 0 0 (va_A [(h0, .inr (10, (Value.int (q 0) :: Value.int (q 1) :: Value.int (q 2) :: Value.int (q 3) :: Value.int (q 4) :: Value.int (q 5) :: Value.int (q 6) :: Value.int (q 7) :: Value.ref (a 8) :: Value.ref (a 9) :: Value.ref (a 10) :: Value.ref (a 11) :: Value.ref (a 12) :: Value.ref (a 13) :: Value.int (q 14) :: Value.long v :: Value.long w :: Value.ref (a 17) :: Value.ref (a 18) :: Value.ref (a 19) :: Value.ref (a 20) :: Value.ref (a 21) :: Value.ref (a 22) :: Value.ref (a 23) :: Value.int (q 24) :: Value.ref (a 25) :: Value.int (q 26) :: Value.ref (a 27) :: Value.int (q 28) :: Value.int (q 29) :: Value.int (q 30) :: Value.int (q 31) :: Value.int (q 32) :: Value.int (q 33) :: Value.ref (a 34) :: Value.ref (a 35) :: Value.ref (a 36) :: Value.ref (a 37) :: Value.ref (a 38) :: Value.ref (a 39) :: Value.ref (a 40) :: Value.int (q 41) :: Value.ref (a 42) :: Value.int (q 43) :: Value.int (q 44) :: []))), ((a 20), .inl (T 1, 672, .inr (.inl f20))), ((a 21), .inl (T 1, 672, .inr (.inl f21))), ((a 22), .inl (T 4, 672, .inl f22))] sz) := by
  refine Met.ofW (cc := cX13_takesBest) (maxL := 10) (ret := none) (by decide +kernel) rfl ?_
  intro p e s m args below meth c s₁ B hml hv
  obtain ⟨rfl, hsz, hP, hE, hD0⟩ := hv
  have hx := B.exec
  have hb := B.bytes
  have hr := B.returns
  have hts := atoms_spec (ws := wsX13_takesBest) B.pre
  have hown : s.vm.findClass RX13 = some m.cls := findClass_of_methodNamed B.named
  have hlocks := B.notSynchronized
  subst hsz
  have hD := hD0.self (sz := s.heap.size)
  generalize hAe : va_A [(h0, .inr (10, (Value.int (q 0) :: Value.int (q 1) :: Value.int (q 2) :: Value.int (q 3) :: Value.int (q 4) :: Value.int (q 5) :: Value.int (q 6) :: Value.int (q 7) :: Value.ref (a 8) :: Value.ref (a 9) :: Value.ref (a 10) :: Value.ref (a 11) :: Value.ref (a 12) :: Value.ref (a 13) :: Value.int (q 14) :: Value.long v :: Value.long w :: Value.ref (a 17) :: Value.ref (a 18) :: Value.ref (a 19) :: Value.ref (a 20) :: Value.ref (a 21) :: Value.ref (a 22) :: Value.ref (a 23) :: Value.int (q 24) :: Value.ref (a 25) :: Value.int (q 26) :: Value.ref (a 27) :: Value.int (q 28) :: Value.int (q 29) :: Value.int (q 30) :: Value.int (q 31) :: Value.int (q 32) :: Value.int (q 33) :: Value.ref (a 34) :: Value.ref (a 35) :: Value.ref (a 36) :: Value.ref (a 37) :: Value.ref (a 38) :: Value.ref (a 39) :: Value.ref (a 40) :: Value.int (q 41) :: Value.ref (a 42) :: Value.int (q 43) :: Value.int (q 44) :: []))), ((a 20), .inl (T 1, 672, .inr (.inl f20))), ((a 21), .inl (T 1, 672, .inr (.inl f21))), ((a 22), .inl (T 4, 672, .inl f22))] s.heap.size = A at hD ⊢
  have hA : ∀ q : Nat, s.heap.size ≤ q → A q := fun q h => by rw [← hAe]; exact Or.inr h
  have hS : va_S A s.heap s.heap [] := va_S.rf
  have hP : va_P D vwCl [(h0, .inr (10, (Value.int (q 0) :: Value.int (q 1) :: Value.int (q 2) :: Value.int (q 3) :: Value.int (q 4) :: Value.int (q 5) :: Value.int (q 6) :: Value.int (q 7) :: Value.ref (a 8) :: Value.ref (a 9) :: Value.ref (a 10) :: Value.ref (a 11) :: Value.ref (a 12) :: Value.ref (a 13) :: Value.int (q 14) :: Value.long v :: Value.long w :: Value.ref (a 17) :: Value.ref (a 18) :: Value.ref (a 19) :: Value.ref (a 20) :: Value.ref (a 21) :: Value.ref (a 22) :: Value.ref (a 23) :: Value.int (q 24) :: Value.ref (a 25) :: Value.int (q 26) :: Value.ref (a 27) :: Value.int (q 28) :: Value.int (q 29) :: Value.int (q 30) :: Value.int (q 31) :: Value.int (q 32) :: Value.int (q 33) :: Value.ref (a 34) :: Value.ref (a 35) :: Value.ref (a 36) :: Value.ref (a 37) :: Value.ref (a 38) :: Value.ref (a 39) :: Value.ref (a 40) :: Value.int (q 41) :: Value.ref (a 42) :: Value.int (q 43) :: Value.int (q 44) :: []))), ((a 20), .inl (T 1, 672, .inr (.inl f20))), ((a 21), .inl (T 1, 672, .inr (.inl f21))), ((a 22), .inl (T 4, 672, .inl f22))] s.heap := hP
  have hl := lv_entry ([.ref h0, .int x1, .int x2, .int x3, .int x4, .int x5]) (n := 10) (Nat.le_of_ble_eq_true rfl)
  rw [lg_entry_eq]
  generalize (lg_sl ([.ref h0, .int x1, .int x2, .int x3, .int x4, .int x5]) ++ List.replicate (10 - (lg_sl ([.ref h0, .int x1, .int x2, .int x3, .int x4, .int x5])).length) Slot.unset).toArray = ls at hl ⊢
  have hl : lv_has ls 10 [(0, .ref h0), (1, .int x1), (2, .int x2), (3, .int x3), (4, .int x4), (5, .int x5)] := hl
  clear hD0
  refine lv_aload_n hx hb dX13_takesBest_0 rfl (lv_at hl 0 rfl) ?_
  refine lv_iload_n hx hb dX13_takesBest_1 rfl (lv_at hl 1 rfl) ?_
  refine lv_iload_n hx hb dX13_takesBest_2 rfl (lv_at hl 3 rfl) ?_
  refine lv_iload hx hb dX13_takesBest_3 (lv_at hl 4 rfl) ?_
  have hFc := va_free (wc := [(h0, .inr (10, (Value.int (q 0) :: Value.int (q 1) :: Value.int (q 2) :: Value.int (q 3) :: Value.int (q 4) :: Value.int (q 5) :: Value.int (q 6) :: Value.int (q 7) :: Value.ref (a 8) :: Value.ref (a 9) :: Value.ref (a 10) :: Value.ref (a 11) :: Value.ref (a 12) :: Value.ref (a 13) :: Value.int (q 14) :: Value.long v :: Value.long w :: Value.ref (a 17) :: Value.ref (a 18) :: Value.ref (a 19) :: Value.ref (a 20) :: Value.ref (a 21) :: Value.ref (a 22) :: Value.ref (a 23) :: Value.int (q 24) :: Value.ref (a 25) :: Value.int (q 26) :: Value.ref (a 27) :: Value.int (q 28) :: Value.int (q 29) :: Value.int (q 30) :: Value.int (q 31) :: Value.int (q 32) :: Value.int (q 33) :: Value.ref (a 34) :: Value.ref (a 35) :: Value.ref (a 36) :: Value.ref (a 37) :: Value.ref (a 38) :: Value.ref (a 39) :: Value.ref (a 40) :: Value.int (q 41) :: Value.ref (a 42) :: Value.int (q 43) :: Value.int (q 44) :: []))), ((a 20), .inl (T 1, 672, .inr (.inl f20))), ((a 21), .inl (T 1, 672, .inr (.inl f21))), ((a 22), .inl (T 4, 672, .inl f22))]) hD hS hA [0, 1, 2, 3] rfl
  refine va_callv (va_runV (As := [.int x1, .int x3, .int x4]) (rest := []) ⟨hx, hb, hml, hown, hts⟩ (c_X13_takes l D T _ h0 q v w a f20 f21 f22 x1 x3 x4 (show isB (q 14) from hB) (show ∀ j : Nat, isB (f22 j) from hZ) (show 0 ≤ x1.toInt ∧ x1.toInt < 24 from (by omega)) (show 0 ≤ x3.toInt ∧ x3.toInt ≤ 6 from (by omega)) (show 0 ≤ x4.toInt ∧ x4.toInt ≤ x3.toInt from (by omega)) (show ∀ j : Nat, (j : Int) = 28 * x1.toInt + tri x3.toInt + x4.toInt → 1 ≤ (f21 j).toInt from hbx)) (cwV 3 hts gX13_takesBest_X13_takes rfl rfl rfl hv_X13_takes ⟨Nat.le_of_ble_eq_true rfl, Nat.le_of_ble_eq_true rfl⟩) (pW_V (q := (RX13, TX13, 45)) (ci := 10) (q0 := 0) hP hE hD rfl rfl [0, 1, 2, 3] (by decide +kernel) rfl rfl) rfl rfl hl.1 rfl (lv_room (Nat.le_of_ble_eq_true rfl)) dX13_takesBest_5 ⟨Nat.le_of_ble_eq_true rfl, Nat.le_of_ble_eq_true rfl⟩) hS (fun q _ h => hFc q h) hFc (fun u_2 t H1 locs ht hvm hr_1 hB hz1 hk1 hS => ?_)
  obtain ⟨n_3, l_4, l_5⟩ := u_2
  obtain ⟨hi0_r_1, hi1_r_1, hi2_r_1, hi3_r_1, hi4_r_1⟩ := hr_1
  have hB14_r_1 : isB n_3 := hi0_r_1
  have hj1_r_1 : 1 ≤ l_5.toInt := hi1_r_1
  have hj2_r_1 : (n_3 : Int32).toInt = 0 ↔ (((q 14) : Int32).toInt = 0 ∧ (f22 (slN x1 x3 x4)).toInt = 0) := hi2_r_1
  have hj3_r_1 : l_4 = f20 (slN x1 x3 x4) := hi3_r_1
  have hj4_r_1 : l_5 = f21 (slN x1 x3 x4) := hi4_r_1
  obtain ⟨hP1, hD1⟩ := hB
  rw [ht] at hP1
  obtain ⟨hP, hD⟩ := va_repl [(h0, .inr (10, (Value.int (q 0) :: Value.int (q 1) :: Value.int (q 2) :: Value.int (q 3) :: Value.int (q 4) :: Value.int (q 5) :: Value.int (q 6) :: Value.int (q 7) :: Value.ref (a 8) :: Value.ref (a 9) :: Value.ref (a 10) :: Value.ref (a 11) :: Value.ref (a 12) :: Value.ref (a 13) :: Value.int n_3 :: Value.long l_4 :: Value.long l_5 :: Value.ref (a 17) :: Value.ref (a 18) :: Value.ref (a 19) :: Value.ref (a 20) :: Value.ref (a 21) :: Value.ref (a 22) :: Value.ref (a 23) :: Value.int (q 24) :: Value.ref (a 25) :: Value.int (q 26) :: Value.ref (a 27) :: Value.int (q 28) :: Value.int (q 29) :: Value.int (q 30) :: Value.int (q 31) :: Value.int (q 32) :: Value.int (q 33) :: Value.ref (a 34) :: Value.ref (a 35) :: Value.ref (a 36) :: Value.ref (a 37) :: Value.ref (a 38) :: Value.ref (a 39) :: Value.ref (a 40) :: Value.int (q 41) :: Value.ref (a 42) :: Value.int (q 43) :: Value.int (q 44) :: []))), ((a 20), .inl (T 1, 672, .inr (.inl f20))), ((a 21), .inl (T 1, 672, .inr (.inl f21))), ((a 22), .inl (T 4, 672, .inl f22))] hP hD [0, 1, 2, 3] [0, 1, 2, 3] rfl (by decide +kernel) rfl rfl rfl hk1 hP1
  clear hP1 hD1 hFc
  generalize H1 = H at hP hS ⊢
  refine lv_aload_n hx hb dX13_takesBest_8 rfl (lv_at hl 0 rfl) ?_
  refine va_get (D := D) (ci := 10) (v := .long l_4) (C := RX13) (T := TX13) (N := 45) hx hb hts in_X13_takesBest_X13 hown hE.1 hP 0 rfl rfl 15 (by decide +kernel) (hts (.fieldLink RX13 145 "ClauseBookModel" "above" "J") (List.mem_of_getElem? (i := 1) rfl)) (fun _ h9 => h9) rfl dX13_takesBest_9 ?_
  refine lv_lstore (lv' := [(6, .long l_4), (0, .ref h0), (1, .int x1), (2, .int x2), (3, .int x3), (4, .int x4), (5, .int x5)]) hx hb dX13_takesBest_12 hl (by decide +kernel) rfl (fun ls hl => ?_)
  refine lv_aload_n hx hb dX13_takesBest_14 rfl (lv_at hl 1 rfl) ?_
  refine va_get (D := D) (ci := 10) (v := .long l_5) (C := RX13) (T := TX13) (N := 45) hx hb hts in_X13_takesBest_X13 hown hE.1 hP 0 rfl rfl 16 (by decide +kernel) (hts (.fieldLink RX13 149 "ClauseBookModel" "below" "J") (List.mem_of_getElem? (i := 2) rfl)) (fun _ h9 => h9) rfl dX13_takesBest_15 ?_
  refine lv_lstore (lv' := [(8, .long l_5), (6, .long l_4), (0, .ref h0), (1, .int x1), (2, .int x2), (3, .int x3), (4, .int x4), (5, .int x5)]) hx hb dX13_takesBest_18 hl (by decide +kernel) rfl (fun ls hl => ?_)
  refine lv_aload_n hx hb dX13_takesBest_20 rfl (lv_at hl 2 rfl) ?_
  refine lv_iload_n hx hb dX13_takesBest_21 rfl (lv_at hl 4 rfl) ?_
  refine lv_iload_n hx hb dX13_takesBest_22 rfl (lv_at hl 5 rfl) ?_
  refine lv_iload hx hb dX13_takesBest_23 (lv_at hl 6 rfl) ?_
  have hFc := va_free (wc := [(h0, .inr (10, (Value.int (q 0) :: Value.int (q 1) :: Value.int (q 2) :: Value.int (q 3) :: Value.int (q 4) :: Value.int (q 5) :: Value.int (q 6) :: Value.int (q 7) :: Value.ref (a 8) :: Value.ref (a 9) :: Value.ref (a 10) :: Value.ref (a 11) :: Value.ref (a 12) :: Value.ref (a 13) :: Value.int n_3 :: Value.long l_4 :: Value.long l_5 :: Value.ref (a 17) :: Value.ref (a 18) :: Value.ref (a 19) :: Value.ref (a 20) :: Value.ref (a 21) :: Value.ref (a 22) :: Value.ref (a 23) :: Value.int (q 24) :: Value.ref (a 25) :: Value.int (q 26) :: Value.ref (a 27) :: Value.int (q 28) :: Value.int (q 29) :: Value.int (q 30) :: Value.int (q 31) :: Value.int (q 32) :: Value.int (q 33) :: Value.ref (a 34) :: Value.ref (a 35) :: Value.ref (a 36) :: Value.ref (a 37) :: Value.ref (a 38) :: Value.ref (a 39) :: Value.ref (a 40) :: Value.int (q 41) :: Value.ref (a 42) :: Value.int (q 43) :: Value.int (q 44) :: []))), ((a 20), .inl (T 1, 672, .inr (.inl f20))), ((a 21), .inl (T 1, 672, .inr (.inl f21))), ((a 22), .inl (T 4, 672, .inl f22))]) hD hS hA [0, 1, 2, 3] rfl
  refine va_callv (va_runV (As := [.int x2, .int x3, .int x4]) (rest := []) ⟨hx, hb, hml, hown, hts⟩ (c_X13_takes l D T _ h0 (fun k => cond (Nat.beq k 14) n_3 (q k)) l_4 l_5 a f20 f21 f22 x2 x3 x4 (show isB n_3 from hB14_r_1) (show ∀ j : Nat, isB (f22 j) from hZ) (show 0 ≤ x2.toInt ∧ x2.toInt < 24 from (by omega)) (show 0 ≤ x3.toInt ∧ x3.toInt ≤ 6 from (by omega)) (show 0 ≤ x4.toInt ∧ x4.toInt ≤ x3.toInt from (by omega)) (show ∀ j : Nat, (j : Int) = 28 * x2.toInt + tri x3.toInt + x4.toInt → 1 ≤ (f21 j).toInt from hby)) (cwV 3 hts gX13_takesBest_X13_takes rfl rfl rfl hv_X13_takes ⟨Nat.le_of_ble_eq_true rfl, Nat.le_of_ble_eq_true rfl⟩) (pW_V (q := (RX13, TX13, 45)) (ci := 10) (q0 := 0) hP hE hD rfl rfl [0, 1, 2, 3] (by decide +kernel) rfl rfl) rfl rfl hl.1 rfl (lv_room (Nat.le_of_ble_eq_true rfl)) dX13_takesBest_25 ⟨Nat.le_of_ble_eq_true rfl, Nat.le_of_ble_eq_true rfl⟩) hS (fun q _ h => hFc q h) hFc (fun u_7 t H1 locs ht hvm hr_6 hB hz1 hk1 hS => ?_)
  obtain ⟨n_8, l_9, l_10⟩ := u_7
  obtain ⟨hi0_r_6, hi1_r_6, hi2_r_6, hi3_r_6, hi4_r_6⟩ := hr_6
  have hB14_r_6 : isB n_8 := hi0_r_6
  have hj1_r_6 : 1 ≤ l_10.toInt := hi1_r_6
  have hj2_r_6 : (n_8 : Int32).toInt = 0 ↔ ((n_3 : Int32).toInt = 0 ∧ (f22 (slN x2 x3 x4)).toInt = 0) := hi2_r_6
  have hj3_r_6 : l_9 = f20 (slN x2 x3 x4) := hi3_r_6
  have hj4_r_6 : l_10 = f21 (slN x2 x3 x4) := hi4_r_6
  obtain ⟨hP1, hD1⟩ := hB
  rw [ht] at hP1
  obtain ⟨hP, hD⟩ := va_repl [(h0, .inr (10, (Value.int (q 0) :: Value.int (q 1) :: Value.int (q 2) :: Value.int (q 3) :: Value.int (q 4) :: Value.int (q 5) :: Value.int (q 6) :: Value.int (q 7) :: Value.ref (a 8) :: Value.ref (a 9) :: Value.ref (a 10) :: Value.ref (a 11) :: Value.ref (a 12) :: Value.ref (a 13) :: Value.int n_8 :: Value.long l_9 :: Value.long l_10 :: Value.ref (a 17) :: Value.ref (a 18) :: Value.ref (a 19) :: Value.ref (a 20) :: Value.ref (a 21) :: Value.ref (a 22) :: Value.ref (a 23) :: Value.int (q 24) :: Value.ref (a 25) :: Value.int (q 26) :: Value.ref (a 27) :: Value.int (q 28) :: Value.int (q 29) :: Value.int (q 30) :: Value.int (q 31) :: Value.int (q 32) :: Value.int (q 33) :: Value.ref (a 34) :: Value.ref (a 35) :: Value.ref (a 36) :: Value.ref (a 37) :: Value.ref (a 38) :: Value.ref (a 39) :: Value.ref (a 40) :: Value.int (q 41) :: Value.ref (a 42) :: Value.int (q 43) :: Value.int (q 44) :: []))), ((a 20), .inl (T 1, 672, .inr (.inl f20))), ((a 21), .inl (T 1, 672, .inr (.inl f21))), ((a 22), .inl (T 4, 672, .inl f22))] hP hD [0, 1, 2, 3] [0, 1, 2, 3] rfl (by decide +kernel) rfl rfl rfl hk1 hP1
  clear hP1 hD1 hFc
  generalize H1 = H at hP hS ⊢
  refine lv_aload_n hx hb dX13_takesBest_28 rfl (lv_at hl 2 rfl) ?_
  refine va_get (D := D) (ci := 10) (v := .int n_8) (C := RX13) (T := TX13) (N := 45) hx hb hts in_X13_takesBest_X13 hown hE.1 hP 0 rfl rfl 14 (by decide +kernel) (hts (.fieldLink RX13 131 "ClauseBookModel" "isMuch" "Z") (List.mem_of_getElem? (i := 3) rfl)) (fun _ h9 => h9) rfl dX13_takesBest_29 ?_
  refine lv_if_ne (tgt := 68) hx hb dX13_takesBest_32 (by decide +kernel) (fun c_11 => ?_) (fun c_11 => ?_)
  · rw [fa_eq] at c_11
    try rw [ti_0] at c_11
    exact W.vret hx hb hr (fun t ht hW => ⟨⟨(n_8, l_9, l_10), rfl, ⟨(show isB n_8 from hB14_r_6), (show 1 ≤ l_10.toInt from (by first | omega | (subst_vars; omega))), (show ((q 14) : Int32).toInt = 0 → mpW n_8 l_9 l_10 = bestW ((tabW f20 f21 f22) x1 x3 x4) ((tabW f20 f21 f22) x2 x3 x4) x5.toInt from (fun h9 => tb_ref (tk_mp h9 hj2_r_1 hj3_r_1 hj4_r_1) (fun q9 => tk_mp q9 hj2_r_6 hj3_r_6 hj4_r_6) (fun q9 => (hj2_r_6.1 q9).1) hj1_r_1 hj1_r_6 (fun h8 => absurd h8 (by omega))))⟩, by rw [ht]; exact hP.sub [0, 1, 2, 3] rfl, hD.sub [0, 1, 2, 3] (by decide +kernel) rfl⟩, hS.F ht⟩) hS.2.2 dX13_takesBest_68
  · rw [fa_eq] at c_11
    try rw [ti_0] at c_11
    refine lv_lload hx hb dX13_takesBest_35 (lv_at hl 1 rfl) ?_
    refine lv_lload hx hb dX13_takesBest_37 (lv_at hl 0 rfl) ?_
    refine lv_aload_n hx hb dX13_takesBest_39 rfl (lv_at hl 2 rfl) ?_
    refine va_get (D := D) (ci := 10) (v := .long l_9) (C := RX13) (T := TX13) (N := 45) hx hb hts in_X13_takesBest_X13 hown hE.1 hP 0 rfl rfl 15 (by decide +kernel) (hts (.fieldLink RX13 145 "ClauseBookModel" "above" "J") (List.mem_of_getElem? (i := 1) rfl)) (fun _ h9 => h9) rfl dX13_takesBest_40 ?_
    refine lv_aload_n hx hb dX13_takesBest_43 rfl (lv_at hl 2 rfl) ?_
    refine va_get (D := D) (ci := 10) (v := .long l_10) (C := RX13) (T := TX13) (N := 45) hx hb hts in_X13_takesBest_X13 hown hE.1 hP 0 rfl rfl 16 (by decide +kernel) (hts (.fieldLink RX13 149 "ClauseBookModel" "below" "J") (List.mem_of_getElem? (i := 2) rfl)) (fun _ h9 => h9) rfl dX13_takesBest_44 ?_
    refine vp_callSi (W.runS (As := [.long l_4, .long l_5, .long l_9, .long l_10]) (rest := []) ⟨hx, hb, hml, hown, hts⟩ (cC_all l D T 127 l_4 l_5 l_9 l_10 (by omega) (by omega) (cmpT (by omega) (by omega))) (va_cwS 4 hts gX13_takesBest_X13_compared rfl rfl rfl hs_X13_compared ⟨Nat.le_of_ble_eq_true rfl, Nat.le_of_ble_eq_true rfl⟩) (pR_S hP hE [] rfl) rfl rfl hl.1 rfl (lv_room (Nat.le_of_ble_eq_true rfl)) dX13_takesBest_47 ⟨Nat.le_of_ble_eq_true rfl, Nat.le_of_ble_eq_true rfl⟩) (fun r_12 hr_12 => ?_)
    refine lv_iload hx hb dX13_takesBest_50 (lv_at hl 7 rfl) ?_
    refine lv_imul hx hb dX13_takesBest_52 ?_
    refine lv_topi (fun z_13 ez_13 => ?_)
    have hco9 : z_13.toInt = r_12.toInt * x5.toInt := by rw [ez_13]; exact mul_s (by rw [hr_12]; exact cmpW_in _ _ _ _) hx5
    rw [hr_12] at hco9
    refine lv_if_le (tgt := 68) hx hb dX13_takesBest_53 (by decide +kernel) (fun c_14 => ?_) (fun c_14 => ?_)
    · rw [fa_le] at c_14
      try rw [ti_0] at c_14
      exact W.vret hx hb hr (fun t ht hW => ⟨⟨(n_8, l_9, l_10), rfl, ⟨(show isB n_8 from hB14_r_6), (show 1 ≤ l_10.toInt from (by first | omega | (subst_vars; omega))), (show ((q 14) : Int32).toInt = 0 → mpW n_8 l_9 l_10 = bestW ((tabW f20 f21 f22) x1 x3 x4) ((tabW f20 f21 f22) x2 x3 x4) x5.toInt from (fun h9 => tb_ref (tk_mp h9 hj2_r_1 hj3_r_1 hj4_r_1) (fun q9 => tk_mp q9 hj2_r_6 hj3_r_6 hj4_r_6) (fun q9 => (hj2_r_6.1 q9).1) hj1_r_1 hj1_r_6 (fun _ => Or.inr ⟨(by omega), rfl, rfl⟩)))⟩, by rw [ht]; exact hP.sub [0, 1, 2, 3] rfl, hD.sub [0, 1, 2, 3] (by decide +kernel) rfl⟩, hS.F ht⟩) hS.2.2 dX13_takesBest_68
    · rw [fa_le] at c_14
      try rw [ti_0] at c_14
      refine lv_aload_n hx hb dX13_takesBest_56 rfl (lv_at hl 2 rfl) ?_
      refine lv_lload hx hb dX13_takesBest_57 (lv_at hl 1 rfl) ?_
      refine va_put (D := D) (ci := 10) (v := .long l_4) (ty := .long) (C := RX13) (T := TX13) (N := 45) hx hb hts in_X13_takesBest_X13 tyX13 tyX13_ok nmX13 hown hE.1 hP hD hS 0 rfl rfl 15 (by decide +kernel) (hts (.fieldLink RX13 145 "ClauseBookModel" "above" "J") (List.mem_of_getElem? (i := 1) rfl)) (fun _ h9 => h9) rfl (by decide +kernel) rfl rfl (Nat.le_of_ble_eq_true rfl) dX13_takesBest_59 (fun H locs hP hD hS => ?_)
      obtain ⟨hP, hD⟩ := wPD [(h0, .inr (10, (Value.int (q 0) :: Value.int (q 1) :: Value.int (q 2) :: Value.int (q 3) :: Value.int (q 4) :: Value.int (q 5) :: Value.int (q 6) :: Value.int (q 7) :: Value.ref (a 8) :: Value.ref (a 9) :: Value.ref (a 10) :: Value.ref (a 11) :: Value.ref (a 12) :: Value.ref (a 13) :: Value.int n_8 :: Value.long l_4 :: Value.long l_10 :: Value.ref (a 17) :: Value.ref (a 18) :: Value.ref (a 19) :: Value.ref (a 20) :: Value.ref (a 21) :: Value.ref (a 22) :: Value.ref (a 23) :: Value.int (q 24) :: Value.ref (a 25) :: Value.int (q 26) :: Value.ref (a 27) :: Value.int (q 28) :: Value.int (q 29) :: Value.int (q 30) :: Value.int (q 31) :: Value.int (q 32) :: Value.int (q 33) :: Value.ref (a 34) :: Value.ref (a 35) :: Value.ref (a 36) :: Value.ref (a 37) :: Value.ref (a 38) :: Value.ref (a 39) :: Value.ref (a 40) :: Value.int (q 41) :: Value.ref (a 42) :: Value.int (q 43) :: Value.int (q 44) :: []))), ((a 20), .inl (T 1, 672, .inr (.inl f20))), ((a 21), .inl (T 1, 672, .inr (.inl f21))), ((a 22), .inl (T 4, 672, .inl f22))] hP hD rfl
      refine lv_aload_n hx hb dX13_takesBest_62 rfl (lv_at hl 2 rfl) ?_
      refine lv_lload hx hb dX13_takesBest_63 (lv_at hl 0 rfl) ?_
      refine va_put (D := D) (ci := 10) (v := .long l_5) (ty := .long) (C := RX13) (T := TX13) (N := 45) hx hb hts in_X13_takesBest_X13 tyX13 tyX13_ok nmX13 hown hE.1 hP hD hS 0 rfl rfl 16 (by decide +kernel) (hts (.fieldLink RX13 149 "ClauseBookModel" "below" "J") (List.mem_of_getElem? (i := 2) rfl)) (fun _ h9 => h9) rfl (by decide +kernel) rfl rfl (Nat.le_of_ble_eq_true rfl) dX13_takesBest_65 (fun H locs hP hD hS => ?_)
      obtain ⟨hP, hD⟩ := wPD [(h0, .inr (10, (Value.int (q 0) :: Value.int (q 1) :: Value.int (q 2) :: Value.int (q 3) :: Value.int (q 4) :: Value.int (q 5) :: Value.int (q 6) :: Value.int (q 7) :: Value.ref (a 8) :: Value.ref (a 9) :: Value.ref (a 10) :: Value.ref (a 11) :: Value.ref (a 12) :: Value.ref (a 13) :: Value.int n_8 :: Value.long l_4 :: Value.long l_5 :: Value.ref (a 17) :: Value.ref (a 18) :: Value.ref (a 19) :: Value.ref (a 20) :: Value.ref (a 21) :: Value.ref (a 22) :: Value.ref (a 23) :: Value.int (q 24) :: Value.ref (a 25) :: Value.int (q 26) :: Value.ref (a 27) :: Value.int (q 28) :: Value.int (q 29) :: Value.int (q 30) :: Value.int (q 31) :: Value.int (q 32) :: Value.int (q 33) :: Value.ref (a 34) :: Value.ref (a 35) :: Value.ref (a 36) :: Value.ref (a 37) :: Value.ref (a 38) :: Value.ref (a 39) :: Value.ref (a 40) :: Value.int (q 41) :: Value.ref (a 42) :: Value.int (q 43) :: Value.int (q 44) :: []))), ((a 20), .inl (T 1, 672, .inr (.inl f20))), ((a 21), .inl (T 1, 672, .inr (.inl f21))), ((a 22), .inl (T 4, 672, .inl f22))] hP hD rfl
      exact W.vret hx hb hr (fun t ht hW => ⟨⟨(n_8, l_4, l_5), rfl, ⟨(show isB n_8 from hB14_r_6), (show 1 ≤ l_5.toInt from (by first | omega | (subst_vars; omega))), (show ((q 14) : Int32).toInt = 0 → mpW n_8 l_4 l_5 = bestW ((tabW f20 f21 f22) x1 x3 x4) ((tabW f20 f21 f22) x2 x3 x4) x5.toInt from (fun h9 => tb_ref (tk_mp h9 hj2_r_1 hj3_r_1 hj4_r_1) (fun q9 => tk_mp q9 hj2_r_6 hj3_r_6 hj4_r_6) (fun q9 => (hj2_r_6.1 q9).1) hj1_r_1 hj1_r_6 (fun _ => Or.inl ⟨(by omega), rfl, rfl⟩)))⟩, by rw [ht]; exact hP.sub [0, 1, 2, 3] rfl, hD.sub [0, 1, 2, 3] (by decide +kernel) rfl⟩, hS.F ht⟩) hS.2.2 dX13_takesBest_68
theorem dX13_isMuchAt_0 : decode cX13_isMuchAt 0 = .ok (.aload_n 0, 1) := by decide +kernel
theorem dX13_isMuchAt_1 : decode cX13_isMuchAt 1 = .ok (.getfield 63, 3) := by decide +kernel
theorem dX13_isMuchAt_10 : decode cX13_isMuchAt 10 = .ok (.baload, 1) := by decide +kernel
theorem dX13_isMuchAt_11 : decode cX13_isMuchAt 11 = .ok (.ireturn, 1) := by decide +kernel
theorem dX13_isMuchAt_4 : decode cX13_isMuchAt 4 = .ok (.iload_n 1, 1) := by decide +kernel
theorem dX13_isMuchAt_5 : decode cX13_isMuchAt 5 = .ok (.iload_n 2, 1) := by decide +kernel
theorem dX13_isMuchAt_6 : decode cX13_isMuchAt 6 = .ok (.iload_n 3, 1) := by decide +kernel
theorem dX13_isMuchAt_7 : decode cX13_isMuchAt 7 = .ok (.invokestatic 239, 3) := by decide +kernel
set_option maxRecDepth 20000 in
theorem ggX13_isMuchAt_X13_at : GoodIn wsX13_isMuchAt wsX13_at := goodIn_r _ [5] rfl (by decide +kernel)
set_option maxRecDepth 20000 in
theorem gX13_isMuchAt_X13_at : GoodIn wsX13_isMuchAt (va_wsS RX13 239 yX13_at wsX13_at) := goodIn_app (goodIn_of _ (by decide +kernel)) ggX13_isMuchAt_X13_at
set_option maxRecDepth 20000 in
theorem in_X13_isMuchAt_X13 : ∀ w ∈ wsX130, w ∈ wsX13_isMuchAt := sub_r [6, 7, 8, 9, 10, 11, 12, 13, 14, 15, 16, 17, 18, 19, 20, 21, 22, 23, 24, 25, 26, 27, 28, 29, 30, 31, 32, 33, 34, 35, 36, 37, 38, 39, 40, 41, 42, 43, 44, 45, 46, 47, 48, 49, 50] rfl
set_option maxHeartbeats 4000000 in
set_option maxRecDepth 100000 in
theorem c_X13_isMuchAt (l : Launch) (D : va_G) (T : Nat → ClassId) (h0 : Nat) (fs0 : List Value) (h1 : Nat) (f1 : Nat → Int32) (x1 : Int32) (x2 : Int32) (x3 : Int32) (e0_22 : fs0[22]? = some (.ref h1)) (hZ : ∀ j : Nat, isB (f1 j)) (hx1 : 0 ≤ x1.toInt ∧ x1.toInt < 24) (hx2 : 0 ≤ x2.toInt ∧ x2.toInt ≤ 6) (hx3 : 0 ≤ x3.toInt ∧ x3.toInt ≤ x2.toInt) : Met l yX13_isMuchAt wsX13_isMuchAt ({ frames := 1, cells := 0, slots := 0, locals := 22 }) (pR [.ref h0, .int x1, .int x2, .int x3] D T [(h0, .inr (10, fs0)), (h1, .inl (T 4, 672, .inl f1))]) (vp_Si (fun r => isB r ∧ r = f1 (slN x1 x2 x3))) 0 0 (fun _ => False) := by
  refine Met.ofW (cc := cX13_isMuchAt) (maxL := 4) (ret := (some .boolean)) (by decide +kernel) rfl ?_
  intro p e s m args below meth c s₁ B hml hv
  obtain ⟨rfl, hP, hE⟩ := hv
  have hx := B.exec
  have hb := B.bytes
  have hr := B.returns
  have hts := atoms_spec (ws := wsX13_isMuchAt) B.pre
  have hown : s.vm.findClass RX13 = some m.cls := findClass_of_methodNamed B.named
  have hlocks := B.notSynchronized
  have hP : va_P D vwCl [(h0, .inr (10, fs0)), (h1, .inl (T 4, 672, .inl f1))] s.heap := hP
  have hl := lv_entry ([.ref h0, .int x1, .int x2, .int x3]) (n := 4) (Nat.le_of_ble_eq_true rfl)
  rw [lg_entry_eq]
  generalize (lg_sl ([.ref h0, .int x1, .int x2, .int x3]) ++ List.replicate (4 - (lg_sl ([.ref h0, .int x1, .int x2, .int x3])).length) Slot.unset).toArray = ls at hl ⊢
  have hl : lv_has ls 4 [(0, .ref h0), (1, .int x1), (2, .int x2), (3, .int x3)] := hl
  refine lv_aload_n hx hb dX13_isMuchAt_0 rfl (lv_at hl 0 rfl) ?_
  refine va_get (D := D) (ci := 10) (v := .ref h1) (C := RX13) (T := TX13) (N := 45) hx hb hts in_X13_isMuchAt_X13 hown hE.1 hP 0 rfl rfl 22 (by decide +kernel) (hts (.fieldLink RX13 63 "ClauseBookModel" "worthMuch" "[Z") (List.mem_of_getElem? (i := 1) rfl)) (fun _ h9 => h9) e0_22 dX13_isMuchAt_1 ?_
  refine lv_iload_n hx hb dX13_isMuchAt_4 rfl (lv_at hl 1 rfl) ?_
  refine lv_iload_n hx hb dX13_isMuchAt_5 rfl (lv_at hl 2 rfl) ?_
  refine lv_iload_n hx hb dX13_isMuchAt_6 rfl (lv_at hl 3 rfl) ?_
  refine vp_callSi (W.runS (As := [.int x1, .int x2, .int x3]) (rest := [.ref h1]) ⟨hx, hb, hml, hown, hts⟩ (c_X13_at l D T x1 x2 x3 (by (try simp only [ti_0]); omega) (by (try simp only [ti_0]); omega) (by (try simp only [ti_0]); omega)) (va_cwS 3 hts gX13_isMuchAt_X13_at rfl rfl rfl hs_X13_at ⟨Nat.le_of_ble_eq_true rfl, Nat.le_of_ble_eq_true rfl⟩) (pR_S hP hE [] rfl) rfl rfl hl.1 rfl (lv_room (Nat.le_of_ble_eq_true rfl)) dX13_isMuchAt_7 ⟨Nat.le_of_ble_eq_true rfl, Nat.le_of_ble_eq_true rfl⟩) (fun r_1 hr_1 => ?_)
  refine va_zald hx hb hE.1 hP 1 4 rfl rfl (by rw [vp_in_iff]; first | omega | (subst_vars; omega)) dX13_isMuchAt_10 ?_
  refine lv_topi (fun z_2 ez_2 => ?_)
  have hBz_2 : isB z_2 := by rw [ez_2]; exact hZ _
  exact W.zret hx hb hr (isB.nar hBz_2) (fun t ht hW => ⟨_, rfl, ⟨hBz_2, (by rw [ez_2, at_sl (by omega) (by omega) (by omega) hr_1.1])⟩, ht⟩) (fun _ h => by cases h) dX13_isMuchAt_11
theorem dX13_comparedAt_0 : decode cX13_comparedAt 0 = .ok (.iload_n 1, 1) := by decide +kernel
theorem dX13_comparedAt_1 : decode cX13_comparedAt 1 = .ok (.iload_n 3, 1) := by decide +kernel
theorem dX13_comparedAt_10 : decode cX13_comparedAt 10 = .ok (.iload_n 3, 1) := by decide +kernel
theorem dX13_comparedAt_11 : decode cX13_comparedAt 11 = .ok (.iload 4, 2) := by decide +kernel
theorem dX13_comparedAt_13 : decode cX13_comparedAt 13 = .ok (.invokestatic 239, 3) := by decide +kernel
theorem dX13_comparedAt_16 : decode cX13_comparedAt 16 = .ok (.istore 6, 2) := by decide +kernel
theorem dX13_comparedAt_18 : decode cX13_comparedAt 18 = .ok (.aload_n 0, 1) := by decide +kernel
theorem dX13_comparedAt_19 : decode cX13_comparedAt 19 = .ok (.getfield 56, 3) := by decide +kernel
theorem dX13_comparedAt_2 : decode cX13_comparedAt 2 = .ok (.iload 4, 2) := by decide +kernel
theorem dX13_comparedAt_22 : decode cX13_comparedAt 22 = .ok (.iload 5, 2) := by decide +kernel
theorem dX13_comparedAt_24 : decode cX13_comparedAt 24 = .ok (.laload, 1) := by decide +kernel
theorem dX13_comparedAt_25 : decode cX13_comparedAt 25 = .ok (.aload_n 0, 1) := by decide +kernel
theorem dX13_comparedAt_26 : decode cX13_comparedAt 26 = .ok (.getfield 60, 3) := by decide +kernel
theorem dX13_comparedAt_29 : decode cX13_comparedAt 29 = .ok (.iload 5, 2) := by decide +kernel
theorem dX13_comparedAt_31 : decode cX13_comparedAt 31 = .ok (.laload, 1) := by decide +kernel
theorem dX13_comparedAt_32 : decode cX13_comparedAt 32 = .ok (.aload_n 0, 1) := by decide +kernel
theorem dX13_comparedAt_33 : decode cX13_comparedAt 33 = .ok (.getfield 56, 3) := by decide +kernel
theorem dX13_comparedAt_36 : decode cX13_comparedAt 36 = .ok (.iload 6, 2) := by decide +kernel
theorem dX13_comparedAt_38 : decode cX13_comparedAt 38 = .ok (.laload, 1) := by decide +kernel
theorem dX13_comparedAt_39 : decode cX13_comparedAt 39 = .ok (.aload_n 0, 1) := by decide +kernel
theorem dX13_comparedAt_4 : decode cX13_comparedAt 4 = .ok (.invokestatic 239, 3) := by decide +kernel
theorem dX13_comparedAt_40 : decode cX13_comparedAt 40 = .ok (.getfield 60, 3) := by decide +kernel
theorem dX13_comparedAt_43 : decode cX13_comparedAt 43 = .ok (.iload 6, 2) := by decide +kernel
theorem dX13_comparedAt_45 : decode cX13_comparedAt 45 = .ok (.laload, 1) := by decide +kernel
theorem dX13_comparedAt_46 : decode cX13_comparedAt 46 = .ok (.invokestatic 167, 3) := by decide +kernel
theorem dX13_comparedAt_49 : decode cX13_comparedAt 49 = .ok (.ireturn, 1) := by decide +kernel
theorem dX13_comparedAt_7 : decode cX13_comparedAt 7 = .ok (.istore 5, 2) := by decide +kernel
theorem dX13_comparedAt_9 : decode cX13_comparedAt 9 = .ok (.iload_n 2, 1) := by decide +kernel
set_option maxRecDepth 20000 in
theorem ggX13_comparedAt_X13_at : GoodIn wsX13_comparedAt wsX13_at := goodIn_r _ [6] rfl (by decide +kernel)
set_option maxRecDepth 20000 in
theorem ggX13_comparedAt_X13_compared : GoodIn wsX13_comparedAt wsX13_compared := goodIn_r _ [9, 10, 11, 12, 13, 7, 8, 5] rfl (by decide +kernel)
set_option maxRecDepth 20000 in
theorem gX13_comparedAt_X13_at : GoodIn wsX13_comparedAt (va_wsS RX13 239 yX13_at wsX13_at) := goodIn_app (goodIn_of _ (by decide +kernel)) ggX13_comparedAt_X13_at
set_option maxRecDepth 20000 in
theorem gX13_comparedAt_X13_compared : GoodIn wsX13_comparedAt (va_wsS RX13 167 yX13_compared wsX13_compared) := goodIn_app (goodIn_of _ (by decide +kernel)) ggX13_comparedAt_X13_compared
set_option maxRecDepth 20000 in
theorem in_X13_comparedAt_X13 : ∀ w ∈ wsX130, w ∈ wsX13_comparedAt := sub_r [14, 15, 16, 17, 18, 19, 20, 21, 22, 23, 24, 25, 26, 27, 28, 29, 30, 31, 32, 33, 34, 35, 36, 37, 38, 39, 40, 41, 42, 43, 44, 45, 46, 47, 48, 49, 50, 51, 52, 53, 54, 55, 56, 57, 58] rfl
set_option maxHeartbeats 4000000 in
set_option maxRecDepth 100000 in
theorem c_X13_comparedAt (l : Launch) (D : va_G) (T : Nat → ClassId) (h0 : Nat) (fs0 : List Value) (h1 : Nat) (f1 : Nat → Int64) (h2 : Nat) (f2 : Nat → Int64) (x1 : Int32) (x2 : Int32) (x3 : Int32) (x4 : Int32) (e0_20 : fs0[20]? = some (.ref h1)) (e0_21 : fs0[21]? = some (.ref h2)) (hx1 : 0 ≤ x1.toInt ∧ x1.toInt < 24) (hx2 : 0 ≤ x2.toInt ∧ x2.toInt < 24) (hx3 : 0 ≤ x3.toInt ∧ x3.toInt ≤ 6) (hx4 : 0 ≤ x4.toInt ∧ x4.toInt ≤ x3.toInt) (hbx : ∀ j : Nat, (j : Int) = 28 * x1.toInt + tri x3.toInt + x4.toInt → 1 ≤ (f2 j).toInt) (hby : ∀ j : Nat, (j : Int) = 28 * x2.toInt + tri x3.toInt + x4.toInt → 1 ≤ (f2 j).toInt) : Met l yX13_comparedAt wsX13_comparedAt ({ frames := 130, cells := 0, slots := 0, locals := 5175 }) (pR [.ref h0, .int x1, .int x2, .int x3, .int x4] D T [(h0, .inr (10, fs0)), (h1, .inl (T 1, 672, .inr (.inl f1))), (h2, .inl (T 1, 672, .inr (.inl f2)))]) (vp_Si (fun r => r.toInt = cmpW (f1 (slN x1 x3 x4)).toInt (f2 (slN x1 x3 x4)).toInt (f1 (slN x2 x3 x4)).toInt (f2 (slN x2 x3 x4)).toInt)) 0 0 (fun _ => False) := by
  refine Met.ofW (cc := cX13_comparedAt) (maxL := 7) (ret := (some .int)) (by decide +kernel) rfl ?_
  intro p e s m args below meth c s₁ B hml hv
  obtain ⟨rfl, hP, hE⟩ := hv
  have hx := B.exec
  have hb := B.bytes
  have hr := B.returns
  have hts := atoms_spec (ws := wsX13_comparedAt) B.pre
  have hown : s.vm.findClass RX13 = some m.cls := findClass_of_methodNamed B.named
  have hlocks := B.notSynchronized
  have hP : va_P D vwCl [(h0, .inr (10, fs0)), (h1, .inl (T 1, 672, .inr (.inl f1))), (h2, .inl (T 1, 672, .inr (.inl f2)))] s.heap := hP
  have hl := lv_entry ([.ref h0, .int x1, .int x2, .int x3, .int x4]) (n := 7) (Nat.le_of_ble_eq_true rfl)
  rw [lg_entry_eq]
  generalize (lg_sl ([.ref h0, .int x1, .int x2, .int x3, .int x4]) ++ List.replicate (7 - (lg_sl ([.ref h0, .int x1, .int x2, .int x3, .int x4])).length) Slot.unset).toArray = ls at hl ⊢
  have hl : lv_has ls 7 [(0, .ref h0), (1, .int x1), (2, .int x2), (3, .int x3), (4, .int x4)] := hl
  refine lv_iload_n hx hb dX13_comparedAt_0 rfl (lv_at hl 1 rfl) ?_
  refine lv_iload_n hx hb dX13_comparedAt_1 rfl (lv_at hl 3 rfl) ?_
  refine lv_iload hx hb dX13_comparedAt_2 (lv_at hl 4 rfl) ?_
  refine vp_callSi (W.runS (As := [.int x1, .int x3, .int x4]) (rest := []) ⟨hx, hb, hml, hown, hts⟩ (c_X13_at l D T x1 x3 x4 (by (try simp only [ti_0]); omega) (by (try simp only [ti_0]); omega) (by (try simp only [ti_0]); omega)) (va_cwS 3 hts gX13_comparedAt_X13_at rfl rfl rfl hs_X13_at ⟨Nat.le_of_ble_eq_true rfl, Nat.le_of_ble_eq_true rfl⟩) (pR_S hP hE [] rfl) rfl rfl hl.1 rfl (lv_room (Nat.le_of_ble_eq_true rfl)) dX13_comparedAt_4 ⟨Nat.le_of_ble_eq_true rfl, Nat.le_of_ble_eq_true rfl⟩) (fun r_1 hr_1 => ?_)
  refine lv_istore (lv' := [(5, .int r_1), (0, .ref h0), (1, .int x1), (2, .int x2), (3, .int x3), (4, .int x4)]) hx hb dX13_comparedAt_7 hl (by decide +kernel) rfl (fun ls hl => ?_)
  refine lv_iload_n hx hb dX13_comparedAt_9 rfl (lv_at hl 3 rfl) ?_
  refine lv_iload_n hx hb dX13_comparedAt_10 rfl (lv_at hl 4 rfl) ?_
  refine lv_iload hx hb dX13_comparedAt_11 (lv_at hl 5 rfl) ?_
  refine vp_callSi (W.runS (As := [.int x2, .int x3, .int x4]) (rest := []) ⟨hx, hb, hml, hown, hts⟩ (c_X13_at l D T x2 x3 x4 (by (try simp only [ti_0]); omega) (by (try simp only [ti_0]); omega) (by (try simp only [ti_0]); omega)) (va_cwS 3 hts gX13_comparedAt_X13_at rfl rfl rfl hs_X13_at ⟨Nat.le_of_ble_eq_true rfl, Nat.le_of_ble_eq_true rfl⟩) (pR_S hP hE [] rfl) rfl rfl hl.1 rfl (lv_room (Nat.le_of_ble_eq_true rfl)) dX13_comparedAt_13 ⟨Nat.le_of_ble_eq_true rfl, Nat.le_of_ble_eq_true rfl⟩) (fun r_2 hr_2 => ?_)
  refine lv_istore (lv' := [(6, .int r_2), (5, .int r_1), (0, .ref h0), (1, .int x1), (2, .int x2), (3, .int x3), (4, .int x4)]) hx hb dX13_comparedAt_16 hl (by decide +kernel) rfl (fun ls hl => ?_)
  have hsl5 : r_1.toNatClampNeg = slN x1 x3 x4 := at_sl (by omega) (by omega) (by omega) hr_1.1
  have hsl6 : r_2.toNatClampNeg = slN x2 x3 x4 := at_sl (by omega) (by omega) (by omega) hr_2.1
  refine lv_aload_n hx hb dX13_comparedAt_18 rfl (lv_at hl 2 rfl) ?_
  refine va_get (D := D) (ci := 10) (v := .ref h1) (C := RX13) (T := TX13) (N := 45) hx hb hts in_X13_comparedAt_X13 hown hE.1 hP 0 rfl rfl 20 (by decide +kernel) (hts (.fieldLink RX13 56 "ClauseBookModel" "worthAbove" "[J") (List.mem_of_getElem? (i := 1) rfl)) (fun _ h9 => h9) e0_20 dX13_comparedAt_19 ?_
  refine lv_iload hx hb dX13_comparedAt_22 (lv_at hl 1 rfl) ?_
  refine va_lald hx hb hE.1 hP 1 1 rfl rfl (by rw [vp_in_iff]; first | omega | (subst_vars; omega)) dX13_comparedAt_24 ?_
  refine lv_topl (fun z_3 ez_3 => ?_)
  refine lv_aload_n hx hb dX13_comparedAt_25 rfl (lv_at hl 2 rfl) ?_
  refine va_get (D := D) (ci := 10) (v := .ref h2) (C := RX13) (T := TX13) (N := 45) hx hb hts in_X13_comparedAt_X13 hown hE.1 hP 0 rfl rfl 21 (by decide +kernel) (hts (.fieldLink RX13 60 "ClauseBookModel" "worthBelow" "[J") (List.mem_of_getElem? (i := 2) rfl)) (fun _ h9 => h9) e0_21 dX13_comparedAt_26 ?_
  refine lv_iload hx hb dX13_comparedAt_29 (lv_at hl 1 rfl) ?_
  refine va_lald hx hb hE.1 hP 2 1 rfl rfl (by rw [vp_in_iff]; first | omega | (subst_vars; omega)) dX13_comparedAt_31 ?_
  refine lv_topl (fun z_4 ez_4 => ?_)
  have hbz_4 : 1 ≤ z_4.toInt := by
    rw [ez_4]
    have h9 := tn (x := r_1) (by omega)
    exact hbx _ (by omega)
  refine lv_aload_n hx hb dX13_comparedAt_32 rfl (lv_at hl 2 rfl) ?_
  refine va_get (D := D) (ci := 10) (v := .ref h1) (C := RX13) (T := TX13) (N := 45) hx hb hts in_X13_comparedAt_X13 hown hE.1 hP 0 rfl rfl 20 (by decide +kernel) (hts (.fieldLink RX13 56 "ClauseBookModel" "worthAbove" "[J") (List.mem_of_getElem? (i := 1) rfl)) (fun _ h9 => h9) e0_20 dX13_comparedAt_33 ?_
  refine lv_iload hx hb dX13_comparedAt_36 (lv_at hl 0 rfl) ?_
  refine va_lald hx hb hE.1 hP 1 1 rfl rfl (by rw [vp_in_iff]; first | omega | (subst_vars; omega)) dX13_comparedAt_38 ?_
  refine lv_topl (fun z_5 ez_5 => ?_)
  refine lv_aload_n hx hb dX13_comparedAt_39 rfl (lv_at hl 2 rfl) ?_
  refine va_get (D := D) (ci := 10) (v := .ref h2) (C := RX13) (T := TX13) (N := 45) hx hb hts in_X13_comparedAt_X13 hown hE.1 hP 0 rfl rfl 21 (by decide +kernel) (hts (.fieldLink RX13 60 "ClauseBookModel" "worthBelow" "[J") (List.mem_of_getElem? (i := 2) rfl)) (fun _ h9 => h9) e0_21 dX13_comparedAt_40 ?_
  refine lv_iload hx hb dX13_comparedAt_43 (lv_at hl 0 rfl) ?_
  refine va_lald hx hb hE.1 hP 2 1 rfl rfl (by rw [vp_in_iff]; first | omega | (subst_vars; omega)) dX13_comparedAt_45 ?_
  refine lv_topl (fun z_6 ez_6 => ?_)
  have hbz_6 : 1 ≤ z_6.toInt := by
    rw [ez_6]
    have h9 := tn (x := r_2) (by omega)
    exact hby _ (by omega)
  refine vp_callSi (W.runS (As := [.long z_3, .long z_4, .long z_5, .long z_6]) (rest := []) ⟨hx, hb, hml, hown, hts⟩ (cC_all l D T 127 z_3 z_4 z_5 z_6 (by omega) (by omega) (cmpT (by omega) (by omega))) (va_cwS 4 hts gX13_comparedAt_X13_compared rfl rfl rfl hs_X13_compared ⟨Nat.le_of_ble_eq_true rfl, Nat.le_of_ble_eq_true rfl⟩) (pR_S hP hE [] rfl) rfl rfl hl.1 rfl (lv_room (Nat.le_of_ble_eq_true rfl)) dX13_comparedAt_46 ⟨Nat.le_of_ble_eq_true rfl, Nat.le_of_ble_eq_true rfl⟩) (fun r_7 hr_7 => ?_)
  exact W.iret hx hb hr (fun t ht hW => ⟨_, rfl, (by show r_7.toInt = _; rw [hr_7, ez_3, ez_4, ez_5, ez_6, hsl5, hsl6]), ht⟩) (fun _ h => by cases h) dX13_comparedAt_49
