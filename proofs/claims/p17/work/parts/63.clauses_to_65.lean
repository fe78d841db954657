section
theorem okR_up {fk fc fd : Nat → Int32} {x k c' d' : Int32} (h : okR fk fc fd) (hx : 0 ≤ x.toInt ∧ x.toInt < 24) (hk : 0 ≤ k.toInt ∧ k.toInt ≤ 12) (hc : 1 ≤ (nmT (k.toNatClampNeg)).toInt → 0 ≤ c'.toInt ∧ c'.toInt < x.toInt) (hd : (nmT (k.toNatClampNeg)).toInt = 2 → 0 ≤ d'.toInt ∧ d'.toInt < x.toInt) : okR (upd fk x.toNatClampNeg k) (upd fc x.toNatClampNeg c') (upd fd x.toNatClampNeg d') := by
  intro j hj
  have h2 := (in24 hx).2
  by_cases e : j = x.toNatClampNeg
  · simp only [upd, if_pos e]
    exact ⟨hk, fun h3 => by have := hc h3; omega, fun h3 => by have := hd h3; omega⟩
  · simp only [upd, if_neg e]
    exact h j hj
theorem okR_nm {fk fc fd : Nat → Int32} {x c' d' : Int32} (h : okR fk fc fd) (hx : 0 ≤ x.toInt ∧ x.toInt < 24) (hc : 1 ≤ (nmT ((fk x.toNatClampNeg).toNatClampNeg)).toInt → 0 ≤ c'.toInt ∧ c'.toInt < x.toInt) (hd : (nmT ((fk x.toNatClampNeg).toNatClampNeg)).toInt = 2 → 0 ≤ d'.toInt ∧ d'.toInt < x.toInt) : okR fk (upd fc x.toNatClampNeg c') (upd fd x.toNatClampNeg d') := by
  intro j hj
  have h2 := (in24 hx).2
  by_cases e : j = x.toNatClampNeg
  · subst e
    simp only [upd, if_pos]
    exact ⟨(h _ hj).1, fun h3 => by have := hc h3; omega, fun h3 => by have := hd h3; omega⟩
  · simp only [upd, if_neg e]
    exact h j hj
theorem dX13_comes_0 : decode cX13_comes 0 = .ok (.aload_n 0, 1) := by decide +kernel
theorem dX13_comes_1 : decode cX13_comes 1 = .ok (.getfield 28, 3) := by decide +kernel
theorem dX13_comes_10 : decode cX13_comes 10 = .ok (.aload_n 0, 1) := by decide +kernel
theorem dX13_comes_11 : decode cX13_comes 11 = .ok (.getfield 32, 3) := by decide +kernel
theorem dX13_comes_14 : decode cX13_comes 14 = .ok (.aload_n 0, 1) := by decide +kernel
theorem dX13_comes_15 : decode cX13_comes 15 = .ok (.getfield 205, 3) := by decide +kernel
theorem dX13_comes_18 : decode cX13_comes 18 = .ok (.iload_n 2, 1) := by decide +kernel
theorem dX13_comes_19 : decode cX13_comes 19 = .ok (.iastore, 1) := by decide +kernel
theorem dX13_comes_20 : decode cX13_comes 20 = .ok (.aload_n 0, 1) := by decide +kernel
theorem dX13_comes_21 : decode cX13_comes 21 = .ok (.getfield 35, 3) := by decide +kernel
theorem dX13_comes_24 : decode cX13_comes 24 = .ok (.aload_n 0, 1) := by decide +kernel
theorem dX13_comes_25 : decode cX13_comes 25 = .ok (.getfield 205, 3) := by decide +kernel
theorem dX13_comes_28 : decode cX13_comes 28 = .ok (.iload_n 3, 1) := by decide +kernel
theorem dX13_comes_29 : decode cX13_comes 29 = .ok (.iastore, 1) := by decide +kernel
theorem dX13_comes_30 : decode cX13_comes 30 = .ok (.aload_n 0, 1) := by decide +kernel
theorem dX13_comes_31 : decode cX13_comes 31 = .ok (.getfield 38, 3) := by decide +kernel
theorem dX13_comes_34 : decode cX13_comes 34 = .ok (.aload_n 0, 1) := by decide +kernel
theorem dX13_comes_35 : decode cX13_comes 35 = .ok (.getfield 205, 3) := by decide +kernel
theorem dX13_comes_38 : decode cX13_comes 38 = .ok (.iload 4, 2) := by decide +kernel
theorem dX13_comes_4 : decode cX13_comes 4 = .ok (.aload_n 0, 1) := by decide +kernel
theorem dX13_comes_40 : decode cX13_comes 40 = .ok (.iastore, 1) := by decide +kernel
theorem dX13_comes_41 : decode cX13_comes 41 = .ok (.aload_n 0, 1) := by decide +kernel
theorem dX13_comes_42 : decode cX13_comes 42 = .ok (.dup, 1) := by decide +kernel
theorem dX13_comes_43 : decode cX13_comes 43 = .ok (.getfield 205, 3) := by decide +kernel
theorem dX13_comes_46 : decode cX13_comes 46 = .ok (.iconst 1, 1) := by decide +kernel
theorem dX13_comes_47 : decode cX13_comes 47 = .ok (.iadd, 1) := by decide +kernel
theorem dX13_comes_48 : decode cX13_comes 48 = .ok (.putfield 205, 3) := by decide +kernel
theorem dX13_comes_5 : decode cX13_comes 5 = .ok (.getfield 205, 3) := by decide +kernel
theorem dX13_comes_51 : decode cX13_comes 51 = .ok (.aload_n 0, 1) := by decide +kernel
theorem dX13_comes_52 : decode cX13_comes 52 = .ok (.getfield 205, 3) := by decide +kernel
theorem dX13_comes_55 : decode cX13_comes 55 = .ok (.iconst 1, 1) := by decide +kernel
theorem dX13_comes_56 : decode cX13_comes 56 = .ok (.isub, 1) := by decide +kernel
theorem dX13_comes_57 : decode cX13_comes 57 = .ok (.ireturn, 1) := by decide +kernel
theorem dX13_comes_8 : decode cX13_comes 8 = .ok (.iload_n 1, 1) := by decide +kernel
theorem dX13_comes_9 : decode cX13_comes 9 = .ok (.iastore, 1) := by decide +kernel
set_option maxRecDepth 20000 in
theorem in_X13_comes_X13 : ∀ w ∈ wsX130, w ∈ wsX13_comes := sub_r [6, 7, 8, 9, 10, 11, 12, 13, 14, 15, 16, 17, 18, 19, 20, 21, 22, 23, 24, 25, 26, 27, 28, 29, 30, 31, 32, 33, 34, 35, 36, 37, 38, 39, 40, 41, 42, 43, 44, 45, 46, 47, 48, 49, 50] rfl
set_option maxHeartbeats 4000000 in
set_option maxRecDepth 100000 in
theorem c_X13_comes (l : Launch) (D : va_G) (T : Nat → ClassId) (sz : Nat) (h0 : Nat) (q : Nat → Int32) (v : Int64) (w : Int64) (a : Nat → Nat) (f8 : Nat → Int32) (f9 : Nat → Int32) (f10 : Nat → Int32) (f11 : Nat → Int32) (x1 : Int32) (x2 : Int32) (x3 : Int32) (x4 : Int32) (hm : 0 ≤ (q 7).toInt ∧ (q 7).toInt < 24) (hokR : okR f8 f10 f11) (hk : 0 ≤ x1.toInt ∧ x1.toInt ≤ 12) (hc9 : 1 ≤ (nmT (x1.toNatClampNeg)).toInt → 0 ≤ x3.toInt ∧ x3.toInt < (q 7).toInt) (hd9 : (nmT (x1.toNatClampNeg)).toInt = 2 → 0 ≤ x4.toInt ∧ x4.toInt < (q 7).toInt) : Met l yX13_comes wsX13_comes ({ frames := 0, cells := 0, slots := 0, locals := 0 }) (pW [.ref h0, .int x1, .int x2, .int x3, .int x4] D T [(h0, .inr (10, (Value.int (q 0) :: Value.int (q 1) :: Value.int (q 2) :: Value.int (q 3) :: Value.int (q 4) :: Value.int (q 5) :: Value.int (q 6) :: Value.int (q 7) :: Value.ref (a 8) :: Value.ref (a 9) :: Value.ref (a 10) :: Value.ref (a 11) :: Value.ref (a 12) :: Value.ref (a 13) :: Value.int (q 14) :: Value.long v :: Value.long w :: Value.ref (a 17) :: Value.ref (a 18) :: Value.ref (a 19) :: Value.ref (a 20) :: Value.ref (a 21) :: Value.ref (a 22) :: Value.ref (a 23) :: Value.int (q 24) :: Value.ref (a 25) :: Value.int (q 26) :: Value.ref (a 27) :: Value.int (q 28) :: Value.int (q 29) :: Value.int (q 30) :: Value.int (q 31) :: Value.int (q 32) :: Value.int (q 33) :: Value.ref (a 34) :: Value.ref (a 35) :: Value.ref (a 36) :: Value.ref (a 37) :: Value.ref (a 38) :: Value.ref (a 39) :: Value.ref (a 40) :: Value.int (q 41) :: Value.ref (a 42) :: Value.int (q 43) :: Value.int (q 44) :: []))), ((a 8), .inl (T 0, 24, .inl f8)), ((a 9), .inl (T 0, 24, .inl f9)), ((a 10), .inl (T 0, 24, .inl f10)), ((a 11), .inl (T 0, 24, .inl f11))] sz) (va_Qi (fun (r : Int32) (u : (Int32) × (Nat → Int32) × (Nat → Int32) × (Nat → Int32) × (Nat → Int32)) => (okR u.2.1 u.2.2.2.1 u.2.2.2.2) ∧ (r.toInt = (q 7).toInt ∧ u.1.toInt = (q 7).toInt + 1) ∧ (u.2.1 = upd f8 ((q 7).toNatClampNeg) x1 ∧ u.2.2.1 = upd f9 ((q 7).toNatClampNeg) x2 ∧ u.2.2.2.1 = upd f10 ((q 7).toNatClampNeg) x3 ∧ u.2.2.2.2 = upd f11 ((q 7).toNatClampNeg) x4)) (bW D (va_A [(h0, .inr (10, (Value.int (q 0) :: Value.int (q 1) :: Value.int (q 2) :: Value.int (q 3) :: Value.int (q 4) :: Value.int (q 5) :: Value.int (q 6) :: Value.int (q 7) :: Value.ref (a 8) :: Value.ref (a 9) :: Value.ref (a 10) :: Value.ref (a 11) :: Value.ref (a 12) :: Value.ref (a 13) :: Value.int (q 14) :: Value.long v :: Value.long w :: Value.ref (a 17) :: Value.ref (a 18) :: Value.ref (a 19) :: Value.ref (a 20) :: Value.ref (a 21) :: Value.ref (a 22) :: Value.ref (a 23) :: Value.int (q 24) :: Value.ref (a 25) :: Value.int (q 26) :: Value.ref (a 27) :: Value.int (q 28) :: Value.int (q 29) :: Value.int (q 30) :: Value.int (q 31) :: Value.int (q 32) :: Value.int (q 33) :: Value.ref (a 34) :: Value.ref (a 35) :: Value.ref (a 36) :: Value.ref (a 37) :: Value.ref (a 38) :: Value.ref (a 39) :: Value.ref (a 40) :: Value.int (q 41) :: Value.ref (a 42) :: Value.int (q 43) :: Value.int (q 44) :: []))), ((a 8), .inl (T 0, 24, .inl f8)), ((a 9), .inl (T 0, 24, .inl f9)), ((a 10), .inl (T 0, 24, .inl f10)), ((a 11), .inl (T 0, 24, .inl f11))] sz) (fun (u : (Int32) × (Nat → Int32) × (Nat → Int32) × (Nat → Int32) × (Nat → Int32)) => [(h0, .inr (10, (Value.int (q 0) :: Value.int (q 1) :: Value.int (q 2) :: Value.int (q 3) :: Value.int (q 4) :: Value.int (q 5) :: Value.int (q 6) :: Value.int u.1 :: Value.ref (a 8) :: Value.ref (a 9) :: Value.ref (a 10) :: Value.ref (a 11) :: Value.ref (a 12) :: Value.ref (a 13) :: Value.int (q 14) :: Value.long v :: Value.long w :: Value.ref (a 17) :: Value.ref (a 18) :: Value.ref (a 19) :: Value.ref (a 20) :: Value.ref (a 21) :: Value.ref (a 22) :: Value.ref (a 23) :: Value.int (q 24) :: Value.ref (a 25) :: Value.int (q 26) :: Value.ref (a 27) :: Value.int (q 28) :: Value.int (q 29) :: Value.int (q 30) :: Value.int (q 31) :: Value.int (q 32) :: Value.int (q 33) :: Value.ref (a 34) :: Value.ref (a 35) :: Value.ref (a 36) :: Value.ref (a 37) :: Value.ref (a 38) :: Value.ref (a 39) :: Value.ref (a 40) :: Value.int (q 41) :: Value.ref (a 42) :: Value.int (q 43) :: Value.int (q 44) :: []))), ((a 8), .inl (T 0, 24, .inl u.2.1)), ((a 9), .inl (T 0, 24, .inl u.2.2.1)), ((a 10), .inl (T 0, 24, .inl u.2.2.2.1)), ((a 11), .inl (T 0, 24, .inl u.2.2.2.2))])) (va_A [(h0, .inr (10, (Value.int (q 0) :: Value.int (q 1) :: Value.int (q 2) :: Value.int (q 3) :: Value.int (q 4) :: Value.int (q 5) :: Value.int (q 6) :: Value.int (q 7) :: Value.ref (a 8) :: Value.ref (a 9) :: Value.ref (a 10) :: Value.ref (a 11) :: Value.ref (a 12) :: Value.ref (a 13) :: Value.int (q 14) :: Value.long v :: Value.long w :: Value.ref (a 17) :: Value.ref (a 18) :: Value.ref (a 19) :: Value.ref (a 20) :: Value.ref (a 21) :: Value.ref (a 22) :: Value.ref (a 23) :: Value.int (q 24) :: Value.ref (a 25) :: Value.int (q 26) :: Value.ref (a 27) :: Value.int (q 28) :: Value.int (q 29) :: Value.int (q 30) :: Value.int (q 31) :: Value.int (q 32) :: Value.int (q 33) :: Value.ref (a 34) :: Value.ref (a 35) :: Value.ref (a 36) :: Value.ref (a 37) :: Value.ref (a 38) :: Value.ref (a 39) :: Value.ref (a 40) :: Value.int (q 41) :: Value.ref (a 42) :: Value.int (q 43) :: Value.int (q 44) :: []))), ((a 8), .inl (T 0, 24, .inl f8)), ((a 9), .inl (T 0, 24, .inl f9)), ((a 10), .inl (T 0, 24, .inl f10)), ((a 11), .inl (T 0, 24, .inl f11))] sz)) 0 0 (va_A [(h0, .inr (10, (Value.int (q 0) :: Value.int (q 1) :: Value.int (q 2) :: Value.int (q 3) :: Value.int (q 4) :: Value.int (q 5) :: Value.int (q 6) :: Value.int (q 7) :: Value.ref (a 8) :: Value.ref (a 9) :: Value.ref (a 10) :: Value.ref (a 11) :: Value.ref (a 12) :: Value.ref (a 13) :: Value.int (q 14) :: Value.long v :: Value.long w :: Value.ref (a 17) :: Value.ref (a 18) :: Value.ref (a 19) :: Value.ref (a 20) :: Value.ref (a 21) :: Value.ref (a 22) :: Value.ref (a 23) :: Value.int (q 24) :: Value.ref (a 25) :: Value.int (q 26) :: Value.ref (a 27) :: Value.int (q 28) :: Value.int (q 29) :: Value.int (q 30) :: Value.int (q 31) :: Value.int (q 32) :: Value.int (q 33) :: Value.ref (a 34) :: Value.ref (a 35) :: Value.ref (a 36) :: Value.ref (a 37) :: Value.ref (a 38) :: Value.ref (a 39) :: Value.ref (a 40) :: Value.int (q 41) :: Value.ref (a 42) :: Value.int (q 43) :: Value.int (q 44) :: []))), ((a 8), .inl (T 0, 24, .inl f8)), ((a 9), .inl (T 0, 24, .inl f9)), ((a 10), .inl (T 0, 24, .inl f10)), ((a 11), .inl (T 0, 24, .inl f11))] sz) := by
  refine Met.ofW (cc := cX13_comes) (maxL := 5) (ret := (some .int)) (by decide +kernel) rfl ?_
  intro p e s m args below meth c s₁ B hml hv
  obtain ⟨rfl, hsz, hP, hE, hD0⟩ := hv
  have hx := B.exec
  have hb := B.bytes
  have hr := B.returns
  have hts := atoms_spec (ws := wsX13_comes) B.pre
  have hown : s.vm.findClass RX13 = some m.cls := findClass_of_methodNamed B.named
  have hlocks := B.notSynchronized
  subst hsz
  have hD := hD0.self (sz := s.heap.size)
  generalize hAe : va_A [(h0, .inr (10, (Value.int (q 0) :: Value.int (q 1) :: Value.int (q 2) :: Value.int (q 3) :: Value.int (q 4) :: Value.int (q 5) :: Value.int (q 6) :: Value.int (q 7) :: Value.ref (a 8) :: Value.ref (a 9) :: Value.ref (a 10) :: Value.ref (a 11) :: Value.ref (a 12) :: Value.ref (a 13) :: Value.int (q 14) :: Value.long v :: Value.long w :: Value.ref (a 17) :: Value.ref (a 18) :: Value.ref (a 19) :: Value.ref (a 20) :: Value.ref (a 21) :: Value.ref (a 22) :: Value.ref (a 23) :: Value.int (q 24) :: Value.ref (a 25) :: Value.int (q 26) :: Value.ref (a 27) :: Value.int (q 28) :: Value.int (q 29) :: Value.int (q 30) :: Value.int (q 31) :: Value.int (q 32) :: Value.int (q 33) :: Value.ref (a 34) :: Value.ref (a 35) :: Value.ref (a 36) :: Value.ref (a 37) :: Value.ref (a 38) :: Value.ref (a 39) :: Value.ref (a 40) :: Value.int (q 41) :: Value.ref (a 42) :: Value.int (q 43) :: Value.int (q 44) :: []))), ((a 8), .inl (T 0, 24, .inl f8)), ((a 9), .inl (T 0, 24, .inl f9)), ((a 10), .inl (T 0, 24, .inl f10)), ((a 11), .inl (T 0, 24, .inl f11))] s.heap.size = A at hD ⊢
  have hA : ∀ q : Nat, s.heap.size ≤ q → A q := fun q h => by rw [← hAe]; exact Or.inr h
  have hS : va_S A s.heap s.heap [] := va_S.rf
  have hP : va_P D vwCl [(h0, .inr (10, (Value.int (q 0) :: Value.int (q 1) :: Value.int (q 2) :: Value.int (q 3) :: Value.int (q 4) :: Value.int (q 5) :: Value.int (q 6) :: Value.int (q 7) :: Value.ref (a 8) :: Value.ref (a 9) :: Value.ref (a 10) :: Value.ref (a 11) :: Value.ref (a 12) :: Value.ref (a 13) :: Value.int (q 14) :: Value.long v :: Value.long w :: Value.ref (a 17) :: Value.ref (a 18) :: Value.ref (a 19) :: Value.ref (a 20) :: Value.ref (a 21) :: Value.ref (a 22) :: Value.ref (a 23) :: Value.int (q 24) :: Value.ref (a 25) :: Value.int (q 26) :: Value.ref (a 27) :: Value.int (q 28) :: Value.int (q 29) :: Value.int (q 30) :: Value.int (q 31) :: Value.int (q 32) :: Value.int (q 33) :: Value.ref (a 34) :: Value.ref (a 35) :: Value.ref (a 36) :: Value.ref (a 37) :: Value.ref (a 38) :: Value.ref (a 39) :: Value.ref (a 40) :: Value.int (q 41) :: Value.ref (a 42) :: Value.int (q 43) :: Value.int (q 44) :: []))), ((a 8), .inl (T 0, 24, .inl f8)), ((a 9), .inl (T 0, 24, .inl f9)), ((a 10), .inl (T 0, 24, .inl f10)), ((a 11), .inl (T 0, 24, .inl f11))] s.heap := hP
  have hl := lv_entry ([.ref h0, .int x1, .int x2, .int x3, .int x4]) (n := 5) (Nat.le_of_ble_eq_true rfl)
  rw [lg_entry_eq]
  generalize (lg_sl ([.ref h0, .int x1, .int x2, .int x3, .int x4]) ++ List.replicate (5 - (lg_sl ([.ref h0, .int x1, .int x2, .int x3, .int x4])).length) Slot.unset).toArray = ls at hl ⊢
  have hl : lv_has ls 5 [(0, .ref h0), (1, .int x1), (2, .int x2), (3, .int x3), (4, .int x4)] := hl
  clear hD0
  refine lv_aload_n hx hb dX13_comes_0 rfl (lv_at hl 0 rfl) ?_
  refine va_get (D := D) (ci := 10) (v := .ref (a 8)) (C := RX13) (T := TX13) (N := 45) hx hb hts in_X13_comes_X13 hown hE.1 hP 0 rfl rfl 8 (by decide +kernel) (hts (.fieldLink RX13 28 "ClauseBookModel" "kind" "[I") (List.mem_of_getElem? (i := 1) rfl)) (fun _ h9 => h9) rfl dX13_comes_1 ?_
  refine lv_aload_n hx hb dX13_comes_4 rfl (lv_at hl 0 rfl) ?_
  refine va_get (D := D) (ci := 10) (v := .int (q 7)) (C := RX13) (T := TX13) (N := 45) hx hb hts in_X13_comes_X13 hown hE.1 hP 0 rfl rfl 7 (by decide +kernel) (hts (.fieldLink RX13 205 "ClauseBookModel" "many" "I") (List.mem_of_getElem? (i := 2) rfl)) (fun _ h9 => h9) rfl dX13_comes_5 ?_
  refine lv_iload_n hx hb dX13_comes_8 rfl (lv_at hl 1 rfl) ?_
  refine va_iast hx hb hE.1 hP hD hS 1 0 rfl rfl (by rw [vp_in_iff]; first | omega | (subst_vars; omega)) dX13_comes_9 (fun H locs hP hD hS => ?_)
  obtain ⟨hP, hD⟩ := wPD [(h0, .inr (10, (Value.int (q 0) :: Value.int (q 1) :: Value.int (q 2) :: Value.int (q 3) :: Value.int (q 4) :: Value.int (q 5) :: Value.int (q 6) :: Value.int (q 7) :: Value.ref (a 8) :: Value.ref (a 9) :: Value.ref (a 10) :: Value.ref (a 11) :: Value.ref (a 12) :: Value.ref (a 13) :: Value.int (q 14) :: Value.long v :: Value.long w :: Value.ref (a 17) :: Value.ref (a 18) :: Value.ref (a 19) :: Value.ref (a 20) :: Value.ref (a 21) :: Value.ref (a 22) :: Value.ref (a 23) :: Value.int (q 24) :: Value.ref (a 25) :: Value.int (q 26) :: Value.ref (a 27) :: Value.int (q 28) :: Value.int (q 29) :: Value.int (q 30) :: Value.int (q 31) :: Value.int (q 32) :: Value.int (q 33) :: Value.ref (a 34) :: Value.ref (a 35) :: Value.ref (a 36) :: Value.ref (a 37) :: Value.ref (a 38) :: Value.ref (a 39) :: Value.ref (a 40) :: Value.int (q 41) :: Value.ref (a 42) :: Value.int (q 43) :: Value.int (q 44) :: []))), ((a 8), .inl (T 0, 24, .inl (upd f8 ((q 7).toNatClampNeg) x1))), ((a 9), .inl (T 0, 24, .inl f9)), ((a 10), .inl (T 0, 24, .inl f10)), ((a 11), .inl (T 0, 24, .inl f11))] hP hD rfl
  refine lv_aload_n hx hb dX13_comes_10 rfl (lv_at hl 0 rfl) ?_
  refine va_get (D := D) (ci := 10) (v := .ref (a 9)) (C := RX13) (T := TX13) (N := 45) hx hb hts in_X13_comes_X13 hown hE.1 hP 0 rfl rfl 9 (by decide +kernel) (hts (.fieldLink RX13 32 "ClauseBookModel" "number" "[I") (List.mem_of_getElem? (i := 3) rfl)) (fun _ h9 => h9) rfl dX13_comes_11 ?_
  refine lv_aload_n hx hb dX13_comes_14 rfl (lv_at hl 0 rfl) ?_
  refine va_get (D := D) (ci := 10) (v := .int (q 7)) (C := RX13) (T := TX13) (N := 45) hx hb hts in_X13_comes_X13 hown hE.1 hP 0 rfl rfl 7 (by decide +kernel) (hts (.fieldLink RX13 205 "ClauseBookModel" "many" "I") (List.mem_of_getElem? (i := 2) rfl)) (fun _ h9 => h9) rfl dX13_comes_15 ?_
  refine lv_iload_n hx hb dX13_comes_18 rfl (lv_at hl 2 rfl) ?_
  refine va_iast hx hb hE.1 hP hD hS 2 0 rfl rfl (by rw [vp_in_iff]; first | omega | (subst_vars; omega)) dX13_comes_19 (fun H locs hP hD hS => ?_)
  obtain ⟨hP, hD⟩ := wPD [(h0, .inr (10, (Value.int (q 0) :: Value.int (q 1) :: Value.int (q 2) :: Value.int (q 3) :: Value.int (q 4) :: Value.int (q 5) :: Value.int (q 6) :: Value.int (q 7) :: Value.ref (a 8) :: Value.ref (a 9) :: Value.ref (a 10) :: Value.ref (a 11) :: Value.ref (a 12) :: Value.ref (a 13) :: Value.int (q 14) :: Value.long v :: Value.long w :: Value.ref (a 17) :: Value.ref (a 18) :: Value.ref (a 19) :: Value.ref (a 20) :: Value.ref (a 21) :: Value.ref (a 22) :: Value.ref (a 23) :: Value.int (q 24) :: Value.ref (a 25) :: Value.int (q 26) :: Value.ref (a 27) :: Value.int (q 28) :: Value.int (q 29) :: Value.int (q 30) :: Value.int (q 31) :: Value.int (q 32) :: Value.int (q 33) :: Value.ref (a 34) :: Value.ref (a 35) :: Value.ref (a 36) :: Value.ref (a 37) :: Value.ref (a 38) :: Value.ref (a 39) :: Value.ref (a 40) :: Value.int (q 41) :: Value.ref (a 42) :: Value.int (q 43) :: Value.int (q 44) :: []))), ((a 8), .inl (T 0, 24, .inl (upd f8 ((q 7).toNatClampNeg) x1))), ((a 9), .inl (T 0, 24, .inl (upd f9 ((q 7).toNatClampNeg) x2))), ((a 10), .inl (T 0, 24, .inl f10)), ((a 11), .inl (T 0, 24, .inl f11))] hP hD rfl
  refine lv_aload_n hx hb dX13_comes_20 rfl (lv_at hl 0 rfl) ?_
  refine va_get (D := D) (ci := 10) (v := .ref (a 10)) (C := RX13) (T := TX13) (N := 45) hx hb hts in_X13_comes_X13 hown hE.1 hP 0 rfl rfl 10 (by decide +kernel) (hts (.fieldLink RX13 35 "ClauseBookModel" "one" "[I") (List.mem_of_getElem? (i := 4) rfl)) (fun _ h9 => h9) rfl dX13_comes_21 ?_
  refine lv_aload_n hx hb dX13_comes_24 rfl (lv_at hl 0 rfl) ?_
  refine va_get (D := D) (ci := 10) (v := .int (q 7)) (C := RX13) (T := TX13) (N := 45) hx hb hts in_X13_comes_X13 hown hE.1 hP 0 rfl rfl 7 (by decide +kernel) (hts (.fieldLink RX13 205 "ClauseBookModel" "many" "I") (List.mem_of_getElem? (i := 2) rfl)) (fun _ h9 => h9) rfl dX13_comes_25 ?_
  refine lv_iload_n hx hb dX13_comes_28 rfl (lv_at hl 3 rfl) ?_
  refine va_iast hx hb hE.1 hP hD hS 3 0 rfl rfl (by rw [vp_in_iff]; first | omega | (subst_vars; omega)) dX13_comes_29 (fun H locs hP hD hS => ?_)
  obtain ⟨hP, hD⟩ := wPD [(h0, .inr (10, (Value.int (q 0) :: Value.int (q 1) :: Value.int (q 2) :: Value.int (q 3) :: Value.int (q 4) :: Value.int (q 5) :: Value.int (q 6) :: Value.int (q 7) :: Value.ref (a 8) :: Value.ref (a 9) :: Value.ref (a 10) :: Value.ref (a 11) :: Value.ref (a 12) :: Value.ref (a 13) :: Value.int (q 14) :: Value.long v :: Value.long w :: Value.ref (a 17) :: Value.ref (a 18) :: Value.ref (a 19) :: Value.ref (a 20) :: Value.ref (a 21) :: Value.ref (a 22) :: Value.ref (a 23) :: Value.int (q 24) :: Value.ref (a 25) :: Value.int (q 26) :: Value.ref (a 27) :: Value.int (q 28) :: Value.int (q 29) :: Value.int (q 30) :: Value.int (q 31) :: Value.int (q 32) :: Value.int (q 33) :: Value.ref (a 34) :: Value.ref (a 35) :: Value.ref (a 36) :: Value.ref (a 37) :: Value.ref (a 38) :: Value.ref (a 39) :: Value.ref (a 40) :: Value.int (q 41) :: Value.ref (a 42) :: Value.int (q 43) :: Value.int (q 44) :: []))), ((a 8), .inl (T 0, 24, .inl (upd f8 ((q 7).toNatClampNeg) x1))), ((a 9), .inl (T 0, 24, .inl (upd f9 ((q 7).toNatClampNeg) x2))), ((a 10), .inl (T 0, 24, .inl (upd f10 ((q 7).toNatClampNeg) x3))), ((a 11), .inl (T 0, 24, .inl f11))] hP hD rfl
  refine lv_aload_n hx hb dX13_comes_30 rfl (lv_at hl 0 rfl) ?_
  refine va_get (D := D) (ci := 10) (v := .ref (a 11)) (C := RX13) (T := TX13) (N := 45) hx hb hts in_X13_comes_X13 hown hE.1 hP 0 rfl rfl 11 (by decide +kernel) (hts (.fieldLink RX13 38 "ClauseBookModel" "two" "[I") (List.mem_of_getElem? (i := 5) rfl)) (fun _ h9 => h9) rfl dX13_comes_31 ?_
  refine lv_aload_n hx hb dX13_comes_34 rfl (lv_at hl 0 rfl) ?_
  refine va_get (D := D) (ci := 10) (v := .int (q 7)) (C := RX13) (T := TX13) (N := 45) hx hb hts in_X13_comes_X13 hown hE.1 hP 0 rfl rfl 7 (by decide +kernel) (hts (.fieldLink RX13 205 "ClauseBookModel" "many" "I") (List.mem_of_getElem? (i := 2) rfl)) (fun _ h9 => h9) rfl dX13_comes_35 ?_
  refine lv_iload hx hb dX13_comes_38 (lv_at hl 4 rfl) ?_
  refine va_iast hx hb hE.1 hP hD hS 4 0 rfl rfl (by rw [vp_in_iff]; first | omega | (subst_vars; omega)) dX13_comes_40 (fun H locs hP hD hS => ?_)
  obtain ⟨hP, hD⟩ := wPD [(h0, .inr (10, (Value.int (q 0) :: Value.int (q 1) :: Value.int (q 2) :: Value.int (q 3) :: Value.int (q 4) :: Value.int (q 5) :: Value.int (q 6) :: Value.int (q 7) :: Value.ref (a 8) :: Value.ref (a 9) :: Value.ref (a 10) :: Value.ref (a 11) :: Value.ref (a 12) :: Value.ref (a 13) :: Value.int (q 14) :: Value.long v :: Value.long w :: Value.ref (a 17) :: Value.ref (a 18) :: Value.ref (a 19) :: Value.ref (a 20) :: Value.ref (a 21) :: Value.ref (a 22) :: Value.ref (a 23) :: Value.int (q 24) :: Value.ref (a 25) :: Value.int (q 26) :: Value.ref (a 27) :: Value.int (q 28) :: Value.int (q 29) :: Value.int (q 30) :: Value.int (q 31) :: Value.int (q 32) :: Value.int (q 33) :: Value.ref (a 34) :: Value.ref (a 35) :: Value.ref (a 36) :: Value.ref (a 37) :: Value.ref (a 38) :: Value.ref (a 39) :: Value.ref (a 40) :: Value.int (q 41) :: Value.ref (a 42) :: Value.int (q 43) :: Value.int (q 44) :: []))), ((a 8), .inl (T 0, 24, .inl (upd f8 ((q 7).toNatClampNeg) x1))), ((a 9), .inl (T 0, 24, .inl (upd f9 ((q 7).toNatClampNeg) x2))), ((a 10), .inl (T 0, 24, .inl (upd f10 ((q 7).toNatClampNeg) x3))), ((a 11), .inl (T 0, 24, .inl (upd f11 ((q 7).toNatClampNeg) x4)))] hP hD rfl
  refine lv_aload_n hx hb dX13_comes_41 rfl (lv_at hl 0 rfl) ?_
  refine lv_dup hx hb dX13_comes_42 rfl ?_
  refine va_get (D := D) (ci := 10) (v := .int (q 7)) (C := RX13) (T := TX13) (N := 45) hx hb hts in_X13_comes_X13 hown hE.1 hP 0 rfl rfl 7 (by decide +kernel) (hts (.fieldLink RX13 205 "ClauseBookModel" "many" "I") (List.mem_of_getElem? (i := 2) rfl)) (fun _ h9 => h9) rfl dX13_comes_43 ?_
  refine lv_iconst (v := 1) hx hb dX13_comes_46 (by decide +kernel) ?_
  refine lv_iadd hx hb dX13_comes_47 ?_
  refine lv_topi (fun z_1 ez_1 => ?_)
  refine va_put (D := D) (ci := 10) (v := .int z_1) (ty := .int) (C := RX13) (T := TX13) (N := 45) hx hb hts in_X13_comes_X13 tyX13 tyX13_ok nmX13 hown hE.1 hP hD hS 0 rfl rfl 7 (by decide +kernel) (hts (.fieldLink RX13 205 "ClauseBookModel" "many" "I") (List.mem_of_getElem? (i := 2) rfl)) (fun _ h9 => h9) rfl (by decide +kernel) rfl rfl (Nat.le_of_ble_eq_true rfl) dX13_comes_48 (fun H locs hP hD hS => ?_)
  obtain ⟨hP, hD⟩ := wPD [(h0, .inr (10, (Value.int (q 0) :: Value.int (q 1) :: Value.int (q 2) :: Value.int (q 3) :: Value.int (q 4) :: Value.int (q 5) :: Value.int (q 6) :: Value.int z_1 :: Value.ref (a 8) :: Value.ref (a 9) :: Value.ref (a 10) :: Value.ref (a 11) :: Value.ref (a 12) :: Value.ref (a 13) :: Value.int (q 14) :: Value.long v :: Value.long w :: Value.ref (a 17) :: Value.ref (a 18) :: Value.ref (a 19) :: Value.ref (a 20) :: Value.ref (a 21) :: Value.ref (a 22) :: Value.ref (a 23) :: Value.int (q 24) :: Value.ref (a 25) :: Value.int (q 26) :: Value.ref (a 27) :: Value.int (q 28) :: Value.int (q 29) :: Value.int (q 30) :: Value.int (q 31) :: Value.int (q 32) :: Value.int (q 33) :: Value.ref (a 34) :: Value.ref (a 35) :: Value.ref (a 36) :: Value.ref (a 37) :: Value.ref (a 38) :: Value.ref (a 39) :: Value.ref (a 40) :: Value.int (q 41) :: Value.ref (a 42) :: Value.int (q 43) :: Value.int (q 44) :: []))), ((a 8), .inl (T 0, 24, .inl (upd f8 ((q 7).toNatClampNeg) x1))), ((a 9), .inl (T 0, 24, .inl (upd f9 ((q 7).toNatClampNeg) x2))), ((a 10), .inl (T 0, 24, .inl (upd f10 ((q 7).toNatClampNeg) x3))), ((a 11), .inl (T 0, 24, .inl (upd f11 ((q 7).toNatClampNeg) x4)))] hP hD rfl
  have hz9 : z_1.toInt = (q 7).toInt + 1 := by rw [ez_1]; exact inc1 (n := 1000) (by omega) (by decide +kernel)
  have hz8 := dec1 (i := z_1) (by omega)
  have hokR := okR_up hokR (by omega) hk hc9 hd9
  refine lv_aload_n hx hb dX13_comes_51 rfl (lv_at hl 0 rfl) ?_
  refine va_get (D := D) (ci := 10) (v := .int z_1) (C := RX13) (T := TX13) (N := 45) hx hb hts in_X13_comes_X13 hown hE.1 hP 0 rfl rfl 7 (by decide +kernel) (hts (.fieldLink RX13 205 "ClauseBookModel" "many" "I") (List.mem_of_getElem? (i := 2) rfl)) (fun _ h9 => h9) rfl dX13_comes_52 ?_
  refine lv_iconst (v := 1) hx hb dX13_comes_55 (by decide +kernel) ?_
  refine lv_isub hx hb dX13_comes_56 ?_
  exact W.iret hx hb hr (fun t ht hW => ⟨⟨_, (z_1, (upd f8 ((q 7).toNatClampNeg) x1), (upd f9 ((q 7).toNatClampNeg) x2), (upd f10 ((q 7).toNatClampNeg) x3), (upd f11 ((q 7).toNatClampNeg) x4)), rfl, ⟨(show okR (upd f8 ((q 7).toNatClampNeg) x1) (upd f10 ((q 7).toNatClampNeg) x3) (upd f11 ((q 7).toNatClampNeg) x4) from hokR), (show (z_1 - 1).toInt = (q 7).toInt ∧ z_1.toInt = (q 7).toInt + 1 from (by first | omega | (subst_vars; omega))), (show (upd f8 ((q 7).toNatClampNeg) x1) = upd f8 ((q 7).toNatClampNeg) x1 ∧ (upd f9 ((q 7).toNatClampNeg) x2) = upd f9 ((q 7).toNatClampNeg) x2 ∧ (upd f10 ((q 7).toNatClampNeg) x3) = upd f10 ((q 7).toNatClampNeg) x3 ∧ (upd f11 ((q 7).toNatClampNeg) x4) = upd f11 ((q 7).toNatClampNeg) x4 from ⟨rfl, rfl, rfl, rfl⟩)⟩, by rw [ht]; exact hP.sub [0, 1, 2, 3, 4] rfl, hD.sub [0, 1, 2, 3, 4] (by decide +kernel) rfl⟩, hS.F ht⟩) hS.2.2 dX13_comes_57
theorem dX13_clause_0 : decode cX13_clause 0 = .ok (.iload_n 1, 1) := by decide +kernel
theorem dX13_clause_1 : decode cX13_clause 1 = .ok (.i2l, 1) := by decide +kernel
theorem dX13_clause_12 : decode cX13_clause 12 = .ok (.iload_n 1, 1) := by decide +kernel
theorem dX13_clause_13 : decode cX13_clause 13 = .ok (.iload_n 2, 1) := by decide +kernel
theorem dX13_clause_14 : decode cX13_clause 14 = .ok (.invokestatic 216, 3) := by decide +kernel
theorem dX13_clause_17 : decode cX13_clause 17 = .ok (.ifCond .eq 17, 3) := by decide +kernel
theorem dX13_clause_2 : decode cX13_clause 2 = .ok (.lconst 0, 1) := by decide +kernel
theorem dX13_clause_20 : decode cX13_clause 20 = .ok (.iload_n 1, 1) := by decide +kernel
theorem dX13_clause_21 : decode cX13_clause 21 = .ok (.iload_n 3, 1) := by decide +kernel
theorem dX13_clause_22 : decode cX13_clause 22 = .ok (.iload 4, 2) := by decide +kernel
theorem dX13_clause_24 : decode cX13_clause 24 = .ok (.aload_n 0, 1) := by decide +kernel
theorem dX13_clause_25 : decode cX13_clause 25 = .ok (.getfield 205, 3) := by decide +kernel
theorem dX13_clause_28 : decode cX13_clause 28 = .ok (.invokestatic 219, 3) := by decide +kernel
theorem dX13_clause_3 : decode cX13_clause 3 = .ok (.ldc2_w 214, 3) := by decide +kernel
theorem dX13_clause_31 : decode cX13_clause 31 = .ok (.ifCond .ne 6, 3) := by decide +kernel
theorem dX13_clause_34 : decode cX13_clause 34 = .ok (.bipush (-2), 2) := by decide +kernel
theorem dX13_clause_36 : decode cX13_clause 36 = .ok (.ireturn, 1) := by decide +kernel
theorem dX13_clause_37 : decode cX13_clause 37 = .ok (.aload_n 0, 1) := by decide +kernel
theorem dX13_clause_38 : decode cX13_clause 38 = .ok (.getfield 205, 3) := by decide +kernel
theorem dX13_clause_41 : decode cX13_clause 41 = .ok (.bipush 24, 2) := by decide +kernel
theorem dX13_clause_43 : decode cX13_clause 43 = .ok (.if_icmp .ne 8, 3) := by decide +kernel
theorem dX13_clause_46 : decode cX13_clause 46 = .ok (.bipush (-4), 2) := by decide +kernel
theorem dX13_clause_48 : decode cX13_clause 48 = .ok (.goto 12, 3) := by decide +kernel
theorem dX13_clause_51 : decode cX13_clause 51 = .ok (.aload_n 0, 1) := by decide +kernel
theorem dX13_clause_52 : decode cX13_clause 52 = .ok (.iload_n 1, 1) := by decide +kernel
theorem dX13_clause_53 : decode cX13_clause 53 = .ok (.iload_n 2, 1) := by decide +kernel
theorem dX13_clause_54 : decode cX13_clause 54 = .ok (.iload_n 3, 1) := by decide +kernel
theorem dX13_clause_55 : decode cX13_clause 55 = .ok (.iload 4, 2) := by decide +kernel
theorem dX13_clause_57 : decode cX13_clause 57 = .ok (.invokevirtual 223, 3) := by decide +kernel
theorem dX13_clause_6 : decode cX13_clause 6 = .ok (.invokestatic 175, 3) := by decide +kernel
theorem dX13_clause_60 : decode cX13_clause 60 = .ok (.ireturn, 1) := by decide +kernel
theorem dX13_clause_9 : decode cX13_clause 9 = .ok (.ifCond .eq 25, 3) := by decide +kernel
set_option maxRecDepth 20000 in
theorem ggX13_clause_X13_areNamed : GoodIn wsX13_clause wsX13_areNamed := goodIn_r _ [17, 18, 19, 5, 20, 3, 4, 6] rfl (by decide +kernel)
set_option maxRecDepth 20000 in
theorem ggX13_clause_X13_comes : GoodIn wsX13_clause wsX13_comes := goodIn_r _ [24, 25, 2, 26, 27, 28, 29, 30, 31, 32, 33, 34, 35, 36, 37, 38, 39, 40, 41, 42, 43, 44, 45, 46, 47, 48, 49, 50, 51, 52, 53, 54, 55, 56, 57, 58, 59, 60, 61, 62, 63, 64, 65, 66, 67, 68, 69, 70, 71, 72, 73] rfl (by decide +kernel)
set_option maxRecDepth 20000 in
theorem ggX13_clause_X13_in : GoodIn wsX13_clause wsX13_in := goodIn_r _ [6] rfl (by decide +kernel)
set_option maxRecDepth 20000 in
theorem ggX13_clause_X13_isNumber : GoodIn wsX13_clause wsX13_isNumber := goodIn_r _ [9, 10, 11, 12, 13, 14, 3, 4, 5, 6] rfl (by decide +kernel)
set_option maxRecDepth 20000 in
theorem gX13_clause_X13_areNamed : GoodIn wsX13_clause (va_wsS RX13 219 yX13_areNamed wsX13_areNamed) := goodIn_app (goodIn_of _ (by decide +kernel)) ggX13_clause_X13_areNamed
set_option maxRecDepth 20000 in
theorem gX13_clause_X13_comes : GoodIn wsX13_clause (wsV RX13 223 RX13 yX13_comes wsX13_comes) := goodIn_app (goodIn_r _ [21, 22, 23, 5] rfl (by decide +kernel)) ggX13_clause_X13_comes
set_option maxRecDepth 20000 in
theorem gX13_clause_X13_in : GoodIn wsX13_clause (va_wsS RX13 175 yX13_in wsX13_in) := goodIn_app (goodIn_of _ (by decide +kernel)) ggX13_clause_X13_in
set_option maxRecDepth 20000 in
theorem gX13_clause_X13_isNumber : GoodIn wsX13_clause (va_wsS RX13 216 yX13_isNumber wsX13_isNumber) := goodIn_app (goodIn_of _ (by decide +kernel)) ggX13_clause_X13_isNumber
theorem hs_X13_areNamed : yX13_areNamed.cls ≠ "java/lang/invoke/MethodHandle" ∧ yX13_areNamed.cls ≠ "java/lang/invoke/VarHandle" ∧ (parseMethodDescriptor yX13_areNamed.desc).map (fun d => d.parameters.length) = some 4 := by decide +kernel
theorem hs_X13_isNumber : yX13_isNumber.cls ≠ "java/lang/invoke/MethodHandle" ∧ yX13_isNumber.cls ≠ "java/lang/invoke/VarHandle" ∧ (parseMethodDescriptor yX13_isNumber.desc).map (fun d => d.parameters.length) = some 2 := by decide +kernel
theorem hv_X13_comes : yX13_comes.cls = RX13 ∧ yX13_comes.cls ≠ "java/lang/invoke/MethodHandle" ∧ yX13_comes.cls ≠ "java/lang/invoke/VarHandle" ∧ (parseMethodDescriptor yX13_comes.desc).map (fun d => d.parameters.length) = some 4 := by decide +kernel
set_option maxRecDepth 20000 in
theorem in_X13_clause_X13 : ∀ w ∈ wsX130, w ∈ wsX13_clause := sub_r [29, 30, 31, 32, 33, 34, 35, 36, 37, 38, 39, 40, 41, 42, 43, 44, 45, 46, 47, 48, 49, 50, 51, 52, 53, 54, 55, 56, 57, 58, 59, 60, 61, 62, 63, 64, 65, 66, 67, 68, 69, 70, 71, 72, 73] rfl
set_option maxHeartbeats 4000000 in
set_option maxRecDepth 100000 in
theorem c_X13_clause (l : Launch) (D : va_G) (T : Nat → ClassId) (sz : Nat) (h0 : Nat) (q : Nat → Int32) (v : Int64) (w : Int64) (a : Nat → Nat) (f8 : Nat → Int32) (f9 : Nat → Int32) (f10 : Nat → Int32) (f11 : Nat → Int32) (x1 : Int32) (x2 : Int32) (x3 : Int32) (x4 : Int32) (hm : 0 ≤ (q 7).toInt ∧ (q 7).toInt ≤ 24) (hokR : okR f8 f10 f11) : Met l yX13_clause wsX13_clause ({ frames := 2, cells := 0, slots := 0, locals := 48 }) (pW [.ref h0, .int x1, .int x2, .int x3, .int x4] D T [(h0, .inr (10, (Value.int (q 0) :: Value.int (q 1) :: Value.int (q 2) :: Value.int (q 3) :: Value.int (q 4) :: Value.int (q 5) :: Value.int (q 6) :: Value.int (q 7) :: Value.ref (a 8) :: Value.ref (a 9) :: Value.ref (a 10) :: Value.ref (a 11) :: Value.ref (a 12) :: Value.ref (a 13) :: Value.int (q 14) :: Value.long v :: Value.long w :: Value.ref (a 17) :: Value.ref (a 18) :: Value.ref (a 19) :: Value.ref (a 20) :: Value.ref (a 21) :: Value.ref (a 22) :: Value.ref (a 23) :: Value.int (q 24) :: Value.ref (a 25) :: Value.int (q 26) :: Value.ref (a 27) :: Value.int (q 28) :: Value.int (q 29) :: Value.int (q 30) :: Value.int (q 31) :: Value.int (q 32) :: Value.int (q 33) :: Value.ref (a 34) :: Value.ref (a 35) :: Value.ref (a 36) :: Value.ref (a 37) :: Value.ref (a 38) :: Value.ref (a 39) :: Value.ref (a 40) :: Value.int (q 41) :: Value.ref (a 42) :: Value.int (q 43) :: Value.int (q 44) :: []))), ((a 8), .inl (T 0, 24, .inl f8)), ((a 9), .inl (T 0, 24, .inl f9)), ((a 10), .inl (T 0, 24, .inl f10)), ((a 11), .inl (T 0, 24, .inl f11))] sz) (va_Qi (fun (r : Int32) (u : (Int32) × (Nat → Int32) × (Nat → Int32) × (Nat → Int32) × (Nat → Int32)) => (okR u.2.1 u.2.2.2.1 u.2.2.2.2) ∧ (0 ≤ u.1.toInt ∧ u.1.toInt ≤ 24) ∧ (clauseR (q 7) x1 x2 x3 x4 r u.1 f8 f9 f10 f11 u.2.1 u.2.2.1 u.2.2.2.1 u.2.2.2.2 )) (bW D (va_A [(h0, .inr (10, (Value.int (q 0) :: Value.int (q 1) :: Value.int (q 2) :: Value.int (q 3) :: Value.int (q 4) :: Value.int (q 5) :: Value.int (q 6) :: Value.int (q 7) :: Value.ref (a 8) :: Value.ref (a 9) :: Value.ref (a 10) :: Value.ref (a 11) :: Value.ref (a 12) :: Value.ref (a 13) :: Value.int (q 14) :: Value.long v :: Value.long w :: Value.ref (a 17) :: Value.ref (a 18) :: Value.ref (a 19) :: Value.ref (a 20) :: Value.ref (a 21) :: Value.ref (a 22) :: Value.ref (a 23) :: Value.int (q 24) :: Value.ref (a 25) :: Value.int (q 26) :: Value.ref (a 27) :: Value.int (q 28) :: Value.int (q 29) :: Value.int (q 30) :: Value.int (q 31) :: Value.int (q 32) :: Value.int (q 33) :: Value.ref (a 34) :: Value.ref (a 35) :: Value.ref (a 36) :: Value.ref (a 37) :: Value.ref (a 38) :: Value.ref (a 39) :: Value.ref (a 40) :: Value.int (q 41) :: Value.ref (a 42) :: Value.int (q 43) :: Value.int (q 44) :: []))), ((a 8), .inl (T 0, 24, .inl f8)), ((a 9), .inl (T 0, 24, .inl f9)), ((a 10), .inl (T 0, 24, .inl f10)), ((a 11), .inl (T 0, 24, .inl f11))] sz) (fun (u : (Int32) × (Nat → Int32) × (Nat → Int32) × (Nat → Int32) × (Nat → Int32)) => [(h0, .inr (10, (Value.int (q 0) :: Value.int (q 1) :: Value.int (q 2) :: Value.int (q 3) :: Value.int (q 4) :: Value.int (q 5) :: Value.int (q 6) :: Value.int u.1 :: Value.ref (a 8) :: Value.ref (a 9) :: Value.ref (a 10) :: Value.ref (a 11) :: Value.ref (a 12) :: Value.ref (a 13) :: Value.int (q 14) :: Value.long v :: Value.long w :: Value.ref (a 17) :: Value.ref (a 18) :: Value.ref (a 19) :: Value.ref (a 20) :: Value.ref (a 21) :: Value.ref (a 22) :: Value.ref (a 23) :: Value.int (q 24) :: Value.ref (a 25) :: Value.int (q 26) :: Value.ref (a 27) :: Value.int (q 28) :: Value.int (q 29) :: Value.int (q 30) :: Value.int (q 31) :: Value.int (q 32) :: Value.int (q 33) :: Value.ref (a 34) :: Value.ref (a 35) :: Value.ref (a 36) :: Value.ref (a 37) :: Value.ref (a 38) :: Value.ref (a 39) :: Value.ref (a 40) :: Value.int (q 41) :: Value.ref (a 42) :: Value.int (q 43) :: Value.int (q 44) :: []))), ((a 8), .inl (T 0, 24, .inl u.2.1)), ((a 9), .inl (T 0, 24, .inl u.2.2.1)), ((a 10), .inl (T 0, 24, .inl u.2.2.2.1)), ((a 11), .inl (T 0, 24, .inl u.2.2.2.2))])) (va_A [(h0, .inr (10, (Value.int (q 0) :: Value.int (q 1) :: Value.int (q 2) :: Value.int (q 3) :: Value.int (q 4) :: Value.int (q 5) :: Value.int (q 6) :: Value.int (q 7) :: Value.ref (a 8) :: Value.ref (a 9) :: Value.ref (a 10) :: Value.ref (a 11) :: Value.ref (a 12) :: Value.ref (a 13) :: Value.int (q 14) :: Value.long v :: Value.long w :: Value.ref (a 17) :: Value.ref (a 18) :: Value.ref (a 19) :: Value.ref (a 20) :: Value.ref (a 21) :: Value.ref (a 22) :: Value.ref (a 23) :: Value.int (q 24) :: Value.ref (a 25) :: Value.int (q 26) :: Value.ref (a 27) :: Value.int (q 28) :: Value.int (q 29) :: Value.int (q 30) :: Value.int (q 31) :: Value.int (q 32) :: Value.int (q 33) :: Value.ref (a 34) :: Value.ref (a 35) :: Value.ref (a 36) :: Value.ref (a 37) :: Value.ref (a 38) :: Value.ref (a 39) :: Value.ref (a 40) :: Value.int (q 41) :: Value.ref (a 42) :: Value.int (q 43) :: Value.int (q 44) :: []))), ((a 8), .inl (T 0, 24, .inl f8)), ((a 9), .inl (T 0, 24, .inl f9)), ((a 10), .inl (T 0, 24, .inl f10)), ((a 11), .inl (T 0, 24, .inl f11))] sz)) 0 0 (va_A [(h0, .inr (10, (Value.int (q 0) :: Value.int (q 1) :: Value.int (q 2) :: Value.int (q 3) :: Value.int (q 4) :: Value.int (q 5) :: Value.int (q 6) :: Value.int (q 7) :: Value.ref (a 8) :: Value.ref (a 9) :: Value.ref (a 10) :: Value.ref (a 11) :: Value.ref (a 12) :: Value.ref (a 13) :: Value.int (q 14) :: Value.long v :: Value.long w :: Value.ref (a 17) :: Value.ref (a 18) :: Value.ref (a 19) :: Value.ref (a 20) :: Value.ref (a 21) :: Value.ref (a 22) :: Value.ref (a 23) :: Value.int (q 24) :: Value.ref (a 25) :: Value.int (q 26) :: Value.ref (a 27) :: Value.int (q 28) :: Value.int (q 29) :: Value.int (q 30) :: Value.int (q 31) :: Value.int (q 32) :: Value.int (q 33) :: Value.ref (a 34) :: Value.ref (a 35) :: Value.ref (a 36) :: Value.ref (a 37) :: Value.ref (a 38) :: Value.ref (a 39) :: Value.ref (a 40) :: Value.int (q 41) :: Value.ref (a 42) :: Value.int (q 43) :: Value.int (q 44) :: []))), ((a 8), .inl (T 0, 24, .inl f8)), ((a 9), .inl (T 0, 24, .inl f9)), ((a 10), .inl (T 0, 24, .inl f10)), ((a 11), .inl (T 0, 24, .inl f11))] sz) := by
  refine Met.ofW (cc := cX13_clause) (maxL := 5) (ret := (some .int)) (by decide +kernel) rfl ?_
  intro p e s m args below meth c s₁ B hml hv
  obtain ⟨rfl, hsz, hP, hE, hD0⟩ := hv
  have hx := B.exec
  have hb := B.bytes
  have hr := B.returns
  have hts := atoms_spec (ws := wsX13_clause) B.pre
  have hown : s.vm.findClass RX13 = some m.cls := findClass_of_methodNamed B.named
  have hlocks := B.notSynchronized
  subst hsz
  have hD := hD0.self (sz := s.heap.size)
  generalize hAe : va_A [(h0, .inr (10, (Value.int (q 0) :: Value.int (q 1) :: Value.int (q 2) :: Value.int (q 3) :: Value.int (q 4) :: Value.int (q 5) :: Value.int (q 6) :: Value.int (q 7) :: Value.ref (a 8) :: Value.ref (a 9) :: Value.ref (a 10) :: Value.ref (a 11) :: Value.ref (a 12) :: Value.ref (a 13) :: Value.int (q 14) :: Value.long v :: Value.long w :: Value.ref (a 17) :: Value.ref (a 18) :: Value.ref (a 19) :: Value.ref (a 20) :: Value.ref (a 21) :: Value.ref (a 22) :: Value.ref (a 23) :: Value.int (q 24) :: Value.ref (a 25) :: Value.int (q 26) :: Value.ref (a 27) :: Value.int (q 28) :: Value.int (q 29) :: Value.int (q 30) :: Value.int (q 31) :: Value.int (q 32) :: Value.int (q 33) :: Value.ref (a 34) :: Value.ref (a 35) :: Value.ref (a 36) :: Value.ref (a 37) :: Value.ref (a 38) :: Value.ref (a 39) :: Value.ref (a 40) :: Value.int (q 41) :: Value.ref (a 42) :: Value.int (q 43) :: Value.int (q 44) :: []))), ((a 8), .inl (T 0, 24, .inl f8)), ((a 9), .inl (T 0, 24, .inl f9)), ((a 10), .inl (T 0, 24, .inl f10)), ((a 11), .inl (T 0, 24, .inl f11))] s.heap.size = A at hD ⊢
  have hA : ∀ q : Nat, s.heap.size ≤ q → A q := fun q h => by rw [← hAe]; exact Or.inr h
  have hS : va_S A s.heap s.heap [] := va_S.rf
  have hP : va_P D vwCl [(h0, .inr (10, (Value.int (q 0) :: Value.int (q 1) :: Value.int (q 2) :: Value.int (q 3) :: Value.int (q 4) :: Value.int (q 5) :: Value.int (q 6) :: Value.int (q 7) :: Value.ref (a 8) :: Value.ref (a 9) :: Value.ref (a 10) :: Value.ref (a 11) :: Value.ref (a 12) :: Value.ref (a 13) :: Value.int (q 14) :: Value.long v :: Value.long w :: Value.ref (a 17) :: Value.ref (a 18) :: Value.ref (a 19) :: Value.ref (a 20) :: Value.ref (a 21) :: Value.ref (a 22) :: Value.ref (a 23) :: Value.int (q 24) :: Value.ref (a 25) :: Value.int (q 26) :: Value.ref (a 27) :: Value.int (q 28) :: Value.int (q 29) :: Value.int (q 30) :: Value.int (q 31) :: Value.int (q 32) :: Value.int (q 33) :: Value.ref (a 34) :: Value.ref (a 35) :: Value.ref (a 36) :: Value.ref (a 37) :: Value.ref (a 38) :: Value.ref (a 39) :: Value.ref (a 40) :: Value.int (q 41) :: Value.ref (a 42) :: Value.int (q 43) :: Value.int (q 44) :: []))), ((a 8), .inl (T 0, 24, .inl f8)), ((a 9), .inl (T 0, 24, .inl f9)), ((a 10), .inl (T 0, 24, .inl f10)), ((a 11), .inl (T 0, 24, .inl f11))] s.heap := hP
  have hl := lv_entry ([.ref h0, .int x1, .int x2, .int x3, .int x4]) (n := 5) (Nat.le_of_ble_eq_true rfl)
  rw [lg_entry_eq]
  generalize (lg_sl ([.ref h0, .int x1, .int x2, .int x3, .int x4]) ++ List.replicate (5 - (lg_sl ([.ref h0, .int x1, .int x2, .int x3, .int x4])).length) Slot.unset).toArray = ls at hl ⊢
  have hl : lv_has ls 5 [(0, .ref h0), (1, .int x1), (2, .int x2), (3, .int x3), (4, .int x4)] := hl
  clear hD0
  refine lv_iload_n hx hb dX13_clause_0 rfl (lv_at hl 1 rfl) ?_
  refine lv_i2l hx hb dX13_clause_1 rfl ?_
  refine lv_lconst (v := 0) hx hb dX13_clause_2 (by decide +kernel) ?_
  refine lv_ldc2 (v := 12) hx hb hown (hts (.constantLong RX13 214 (12)) (List.mem_of_getElem? (i := 1) rfl)) dX13_clause_3 ?_
  refine vp_callSi (W.runS (As := [.long (x1.toInt64), .long 0, .long 12]) (rest := []) ⟨hx, hb, hml, hown, hts⟩ (c_X13_in l D T (x1.toInt64) 0 12 x1.toInt 0 12 ((Int32.toInt_toInt64 _).trans rfl) (by decide +kernel) (by decide +kernel)) (va_cwS 3 hts gX13_clause_X13_in rfl rfl rfl hs_X13_in ⟨Nat.le_of_ble_eq_true rfl, Nat.le_of_ble_eq_true rfl⟩) (pR_S hP hE [] rfl) rfl rfl hl.1 rfl (lv_room (Nat.le_of_ble_eq_true rfl)) dX13_clause_6 ⟨Nat.le_of_ble_eq_true rfl, Nat.le_of_ble_eq_true rfl⟩) (fun r_1 hr_1 => ?_)
  rcases bool_post hr_1 with ⟨c_2, rfl⟩ | ⟨c_2, rfl⟩
  · refine lv_if_eq (tgt := 34) hx hb dX13_clause_9 (by decide +kernel) (fun c9 => absurd c9 (by decide +kernel)) (fun _ => ?_)
    refine lv_iload_n hx hb dX13_clause_12 rfl (lv_at hl 1 rfl) ?_
    refine lv_iload_n hx hb dX13_clause_13 rfl (lv_at hl 2 rfl) ?_
    refine vp_callSi (W.runS (As := [.int x1, .int x2]) (rest := []) ⟨hx, hb, hml, hown, hts⟩ (c_X13_isNumber l D T x1 x2 (by omega)) (va_cwS 2 hts gX13_clause_X13_isNumber rfl rfl rfl hs_X13_isNumber ⟨Nat.le_of_ble_eq_true rfl, Nat.le_of_ble_eq_true rfl⟩) (pR_S hP hE [] rfl) rfl rfl hl.1 rfl (lv_room (Nat.le_of_ble_eq_true rfl)) dX13_clause_14 ⟨Nat.le_of_ble_eq_true rfl, Nat.le_of_ble_eq_true rfl⟩) (fun r_3 hr_3 => ?_)
    rcases bool_post hr_3 with ⟨c_4, rfl⟩ | ⟨c_4, rfl⟩
    · refine lv_if_eq (tgt := 34) hx hb dX13_clause_17 (by decide +kernel) (fun c9 => absurd c9 (by decide +kernel)) (fun _ => ?_)
      refine lv_iload_n hx hb dX13_clause_20 rfl (lv_at hl 1 rfl) ?_
      refine lv_iload_n hx hb dX13_clause_21 rfl (lv_at hl 3 rfl) ?_
      refine lv_iload hx hb dX13_clause_22 (lv_at hl 4 rfl) ?_
      refine lv_aload_n hx hb dX13_clause_24 rfl (lv_at hl 0 rfl) ?_
      refine va_get (D := D) (ci := 10) (v := .int (q 7)) (C := RX13) (T := TX13) (N := 45) hx hb hts in_X13_clause_X13 hown hE.1 hP 0 rfl rfl 7 (by decide +kernel) (hts (.fieldLink RX13 205 "ClauseBookModel" "many" "I") (List.mem_of_getElem? (i := 2) rfl)) (fun _ h9 => h9) rfl dX13_clause_25 ?_
      refine vp_callSi (W.runS (As := [.int x1, .int x3, .int x4, .int (q 7)]) (rest := []) ⟨hx, hb, hml, hown, hts⟩ (c_X13_areNamed l D T x1 x3 x4 (q 7) (by omega) (by omega)) (va_cwS 4 hts gX13_clause_X13_areNamed rfl rfl rfl hs_X13_areNamed ⟨Nat.le_of_ble_eq_true rfl, Nat.le_of_ble_eq_true rfl⟩) (pR_S hP hE [] rfl) rfl rfl hl.1 rfl (lv_room (Nat.le_of_ble_eq_true rfl)) dX13_clause_28 ⟨Nat.le_of_ble_eq_true rfl, Nat.le_of_ble_eq_true rfl⟩) (fun r_5 hr_5 => ?_)
      rcases bool_post hr_5 with ⟨c_6, rfl⟩ | ⟨c_6, rfl⟩
      · refine lv_if_ne (tgt := 37) hx hb dX13_clause_31 (by decide +kernel) (fun _ => ?_) (fun c9 => absurd c9 (by decide +kernel))
        have ha9 : mayP (x1.toNatClampNeg) x3 x4 (q 7) := by assumption
        refine lv_aload_n hx hb dX13_clause_37 rfl (lv_at hl 0 rfl) ?_
        refine va_get (D := D) (ci := 10) (v := .int (q 7)) (C := RX13) (T := TX13) (N := 45) hx hb hts in_X13_clause_X13 hown hE.1 hP 0 rfl rfl 7 (by decide +kernel) (hts (.fieldLink RX13 205 "ClauseBookModel" "many" "I") (List.mem_of_getElem? (i := 2) rfl)) (fun _ h9 => h9) rfl dX13_clause_38 ?_
        refine lv_bipush (v := 24) hx hb dX13_clause_41 (by decide +kernel) ?_
        refine lv_icmp_ne (tgt := 51) hx hb dX13_clause_43 (by decide +kernel) (fun c_7 => ?_) (fun c_7 => ?_)
        · rw [fa_eq] at c_7
          try rw [ti_24] at c_7
          refine lv_aload_n hx hb dX13_clause_51 rfl (lv_at hl 0 rfl) ?_
          refine lv_iload_n hx hb dX13_clause_52 rfl (lv_at hl 1 rfl) ?_
          refine lv_iload_n hx hb dX13_clause_53 rfl (lv_at hl 2 rfl) ?_
          refine lv_iload_n hx hb dX13_clause_54 rfl (lv_at hl 3 rfl) ?_
          refine lv_iload hx hb dX13_clause_55 (lv_at hl 4 rfl) ?_
          have hFc := va_free (wc := [(h0, .inr (10, (Value.int (q 0) :: Value.int (q 1) :: Value.int (q 2) :: Value.int (q 3) :: Value.int (q 4) :: Value.int (q 5) :: Value.int (q 6) :: Value.int (q 7) :: Value.ref (a 8) :: Value.ref (a 9) :: Value.ref (a 10) :: Value.ref (a 11) :: Value.ref (a 12) :: Value.ref (a 13) :: Value.int (q 14) :: Value.long v :: Value.long w :: Value.ref (a 17) :: Value.ref (a 18) :: Value.ref (a 19) :: Value.ref (a 20) :: Value.ref (a 21) :: Value.ref (a 22) :: Value.ref (a 23) :: Value.int (q 24) :: Value.ref (a 25) :: Value.int (q 26) :: Value.ref (a 27) :: Value.int (q 28) :: Value.int (q 29) :: Value.int (q 30) :: Value.int (q 31) :: Value.int (q 32) :: Value.int (q 33) :: Value.ref (a 34) :: Value.ref (a 35) :: Value.ref (a 36) :: Value.ref (a 37) :: Value.ref (a 38) :: Value.ref (a 39) :: Value.ref (a 40) :: Value.int (q 41) :: Value.ref (a 42) :: Value.int (q 43) :: Value.int (q 44) :: []))), ((a 8), .inl (T 0, 24, .inl f8)), ((a 9), .inl (T 0, 24, .inl f9)), ((a 10), .inl (T 0, 24, .inl f10)), ((a 11), .inl (T 0, 24, .inl f11))]) hD hS hA [0, 1, 2, 3, 4] rfl
          refine va_calli (va_runV (As := [.int x1, .int x2, .int x3, .int x4]) (rest := []) ⟨hx, hb, hml, hown, hts⟩ (c_X13_comes l D T _ h0 q v w a f8 f9 f10 f11 x1 x2 x3 x4 (show 0 ≤ (q 7).toInt ∧ (q 7).toInt < 24 from (by omega)) (show okR f8 f10 f11 from hokR) (show 0 ≤ x1.toInt ∧ x1.toInt ≤ 12 from (by omega)) (show 1 ≤ (nmT (x1.toNatClampNeg)).toInt → 0 ≤ x3.toInt ∧ x3.toInt < (q 7).toInt from ha9.1.1) (show (nmT (x1.toNatClampNeg)).toInt = 2 → 0 ≤ x4.toInt ∧ x4.toInt < (q 7).toInt from ha9.2.1)) (cwV 4 hts gX13_clause_X13_comes rfl rfl rfl hv_X13_comes ⟨Nat.le_of_ble_eq_true rfl, Nat.le_of_ble_eq_true rfl⟩) (pW_V (q := (RX13, TX13, 45)) (ci := 10) (q0 := 0) hP hE hD rfl rfl [0, 1, 2, 3, 4] (by decide +kernel) rfl rfl) rfl rfl hl.1 rfl (lv_room (Nat.le_of_ble_eq_true rfl)) dX13_clause_57 ⟨Nat.le_of_ble_eq_true rfl, Nat.le_of_ble_eq_true rfl⟩) hS (fun q _ h => hFc q h) hFc (fun r_8 u_9 t H1 locs ht hvm hr_8 hB hz1 hk1 hS => ?_)
          obtain ⟨n_10, f_11, f_12, f_13, f_14⟩ := u_9
          obtain ⟨hi0_r_8, hi1_r_8, hi2_r_8⟩ := hr_8
          have hokR : okR f_11 f_13 f_14 := hi0_r_8
          have hcr : r_8.toInt = (q 7).toInt ∧ n_10.toInt = (q 7).toInt + 1 := hi1_r_8
          have hcm : f_11 = upd f8 ((q 7).toNatClampNeg) x1 ∧ f_12 = upd f9 ((q 7).toNatClampNeg) x2 ∧ f_13 = upd f10 ((q 7).toNatClampNeg) x3 ∧ f_14 = upd f11 ((q 7).toNatClampNeg) x4 := hi2_r_8
          obtain ⟨hP1, hD1⟩ := hB
          rw [ht] at hP1
          obtain ⟨hP, hD⟩ := va_repl [(h0, .inr (10, (Value.int (q 0) :: Value.int (q 1) :: Value.int (q 2) :: Value.int (q 3) :: Value.int (q 4) :: Value.int (q 5) :: Value.int (q 6) :: Value.int n_10 :: Value.ref (a 8) :: Value.ref (a 9) :: Value.ref (a 10) :: Value.ref (a 11) :: Value.ref (a 12) :: Value.ref (a 13) :: Value.int (q 14) :: Value.long v :: Value.long w :: Value.ref (a 17) :: Value.ref (a 18) :: Value.ref (a 19) :: Value.ref (a 20) :: Value.ref (a 21) :: Value.ref (a 22) :: Value.ref (a 23) :: Value.int (q 24) :: Value.ref (a 25) :: Value.int (q 26) :: Value.ref (a 27) :: Value.int (q 28) :: Value.int (q 29) :: Value.int (q 30) :: Value.int (q 31) :: Value.int (q 32) :: Value.int (q 33) :: Value.ref (a 34) :: Value.ref (a 35) :: Value.ref (a 36) :: Value.ref (a 37) :: Value.ref (a 38) :: Value.ref (a 39) :: Value.ref (a 40) :: Value.int (q 41) :: Value.ref (a 42) :: Value.int (q 43) :: Value.int (q 44) :: []))), ((a 8), .inl (T 0, 24, .inl f_11)), ((a 9), .inl (T 0, 24, .inl f_12)), ((a 10), .inl (T 0, 24, .inl f_13)), ((a 11), .inl (T 0, 24, .inl f_14))] hP hD [0, 1, 2, 3, 4] [0, 1, 2, 3, 4] rfl (by decide +kernel) rfl rfl rfl hk1 hP1
          clear hP1 hD1 hFc
          generalize H1 = H at hP hS ⊢
          exact W.iret hx hb hr (fun t ht hW => ⟨⟨_, (n_10, f_11, f_12, f_13, f_14), rfl, ⟨(show okR f_11 f_13 f_14 from hokR), (show 0 ≤ n_10.toInt ∧ n_10.toInt ≤ 24 from (by first | omega | (subst_vars; omega))), (show clauseR (q 7) x1 x2 x3 x4 r_8 n_10 f8 f9 f10 f11 f_11 f_12 f_13 f_14  from (Or.inr (Or.inr ⟨⟨by omega, by omega, ha9⟩, (by omega), hcr.1, hcr.2, hcm.1, hcm.2.1, hcm.2.2.1, hcm.2.2.2⟩)))⟩, by rw [ht]; exact hP.sub [0, 1, 2, 3, 4] rfl, hD.sub [0, 1, 2, 3, 4] (by decide +kernel) rfl⟩, hS.F ht⟩) hS.2.2 dX13_clause_60
        · rw [fa_eq] at c_7
          try rw [ti_24] at c_7
          refine lv_bipush (v := (-4)) hx hb dX13_clause_46 (by decide +kernel) ?_
          refine lv_goto (tgt := 60) hx hb dX13_clause_48 (by decide +kernel) ?_
          exact W.iret hx hb hr (fun t ht hW => ⟨⟨_, ((q 7), f8, f9, f10, f11), rfl, ⟨(show okR f8 f10 f11 from hokR), (show 0 ≤ (q 7).toInt ∧ (q 7).toInt ≤ 24 from (by first | omega | (subst_vars; omega))), (show clauseR (q 7) x1 x2 x3 x4 ((-4) : Int32) (q 7) f8 f9 f10 f11 f8 f9 f10 f11  from (Or.inr (Or.inl ⟨⟨by omega, by omega, ha9⟩, (by omega), (by decide +kernel), ⟨rfl, rfl, rfl, rfl, rfl⟩⟩)))⟩, by rw [ht]; exact hP.sub [0, 1, 2, 3, 4] rfl, hD.sub [0, 1, 2, 3, 4] (by decide +kernel) rfl⟩, hS.F ht⟩) hS.2.2 dX13_clause_60
      · refine lv_if_ne (tgt := 37) hx hb dX13_clause_31 (by decide +kernel) (fun c9 => absurd c9 (by decide +kernel)) (fun _ => ?_)
        refine lv_bipush (v := (-2)) hx hb dX13_clause_34 (by decide +kernel) ?_
        exact W.iret hx hb hr (fun t ht hW => ⟨⟨_, ((q 7), f8, f9, f10, f11), rfl, ⟨(show okR f8 f10 f11 from hokR), (show 0 ≤ (q 7).toInt ∧ (q 7).toInt ≤ 24 from (by first | omega | (subst_vars; omega))), (show clauseR (q 7) x1 x2 x3 x4 ((-2) : Int32) (q 7) f8 f9 f10 f11 f8 f9 f10 f11  from (Or.inl ⟨(fun h9 => by have h8 := h9.1; have h7 := h9.2.1; have h6 := h9.2.2; first | exact absurd h6 (by assumption) | omega), (by decide +kernel), ⟨rfl, rfl, rfl, rfl, rfl⟩⟩))⟩, by rw [ht]; exact hP.sub [0, 1, 2, 3, 4] rfl, hD.sub [0, 1, 2, 3, 4] (by decide +kernel) rfl⟩, hS.F ht⟩) hS.2.2 dX13_clause_36
    · refine lv_if_eq (tgt := 34) hx hb dX13_clause_17 (by decide +kernel) (fun _ => ?_) (fun c9 => absurd c9 (by decide +kernel))
      refine lv_bipush (v := (-2)) hx hb dX13_clause_34 (by decide +kernel) ?_
      exact W.iret hx hb hr (fun t ht hW => ⟨⟨_, ((q 7), f8, f9, f10, f11), rfl, ⟨(show okR f8 f10 f11 from hokR), (show 0 ≤ (q 7).toInt ∧ (q 7).toInt ≤ 24 from (by first | omega | (subst_vars; omega))), (show clauseR (q 7) x1 x2 x3 x4 ((-2) : Int32) (q 7) f8 f9 f10 f11 f8 f9 f10 f11  from (Or.inl ⟨(fun h9 => by have h8 := h9.1; have h7 := h9.2.1; have h6 := h9.2.2; first | exact absurd h6 (by assumption) | omega), (by decide +kernel), ⟨rfl, rfl, rfl, rfl, rfl⟩⟩))⟩, by rw [ht]; exact hP.sub [0, 1, 2, 3, 4] rfl, hD.sub [0, 1, 2, 3, 4] (by decide +kernel) rfl⟩, hS.F ht⟩) hS.2.2 dX13_clause_36
  · refine lv_if_eq (tgt := 34) hx hb dX13_clause_9 (by decide +kernel) (fun _ => ?_) (fun c9 => absurd c9 (by decide +kernel))
    refine lv_bipush (v := (-2)) hx hb dX13_clause_34 (by decide +kernel) ?_
    exact W.iret hx hb hr (fun t ht hW => ⟨⟨_, ((q 7), f8, f9, f10, f11), rfl, ⟨(show okR f8 f10 f11 from hokR), (show 0 ≤ (q 7).toInt ∧ (q 7).toInt ≤ 24 from (by first | omega | (subst_vars; omega))), (show clauseR (q 7) x1 x2 x3 x4 ((-2) : Int32) (q 7) f8 f9 f10 f11 f8 f9 f10 f11  from (Or.inl ⟨(fun h9 => by have h8 := h9.1; have h7 := h9.2.1; have h6 := h9.2.2; first | exact absurd h6 (by assumption) | omega), (by decide +kernel), ⟨rfl, rfl, rfl, rfl, rfl⟩⟩))⟩, by rw [ht]; exact hP.sub [0, 1, 2, 3, 4] rfl, hD.sub [0, 1, 2, 3, 4] (by decide +kernel) rfl⟩, hS.F ht⟩) hS.2.2 dX13_clause_36
theorem dX13_swap_0 : decode cX13_swap 0 = .ok (.aload_n 0, 1) := by decide +kernel
theorem dX13_swap_1 : decode cX13_swap 1 = .ok (.iload_n 1, 1) := by decide +kernel
theorem dX13_swap_12 : decode cX13_swap 12 = .ok (.iload_n 1, 1) := by decide +kernel
theorem dX13_swap_13 : decode cX13_swap 13 = .ok (.iaload, 1) := by decide +kernel
theorem dX13_swap_14 : decode cX13_swap 14 = .ok (.iload_n 2, 1) := by decide +kernel
theorem dX13_swap_15 : decode cX13_swap 15 = .ok (.iload_n 3, 1) := by decide +kernel
theorem dX13_swap_16 : decode cX13_swap 16 = .ok (.iload_n 1, 1) := by decide +kernel
theorem dX13_swap_17 : decode cX13_swap 17 = .ok (.invokestatic 219, 3) := by decide +kernel
theorem dX13_swap_2 : decode cX13_swap 2 = .ok (.invokevirtual 233, 3) := by decide +kernel
theorem dX13_swap_20 : decode cX13_swap 20 = .ok (.ifCond .ne 6, 3) := by decide +kernel
theorem dX13_swap_23 : decode cX13_swap 23 = .ok (.bipush (-2), 2) := by decide +kernel
theorem dX13_swap_25 : decode cX13_swap 25 = .ok (.ireturn, 1) := by decide +kernel
theorem dX13_swap_26 : decode cX13_swap 26 = .ok (.aload_n 0, 1) := by decide +kernel
theorem dX13_swap_27 : decode cX13_swap 27 = .ok (.getfield 35, 3) := by decide +kernel
theorem dX13_swap_30 : decode cX13_swap 30 = .ok (.iload_n 1, 1) := by decide +kernel
theorem dX13_swap_31 : decode cX13_swap 31 = .ok (.iload_n 2, 1) := by decide +kernel
theorem dX13_swap_32 : decode cX13_swap 32 = .ok (.iastore, 1) := by decide +kernel
theorem dX13_swap_33 : decode cX13_swap 33 = .ok (.aload_n 0, 1) := by decide +kernel
theorem dX13_swap_34 : decode cX13_swap 34 = .ok (.getfield 38, 3) := by decide +kernel
theorem dX13_swap_37 : decode cX13_swap 37 = .ok (.iload_n 1, 1) := by decide +kernel
theorem dX13_swap_38 : decode cX13_swap 38 = .ok (.iload_n 3, 1) := by decide +kernel
theorem dX13_swap_39 : decode cX13_swap 39 = .ok (.iastore, 1) := by decide +kernel
theorem dX13_swap_40 : decode cX13_swap 40 = .ok (.iconst 1, 1) := by decide +kernel
theorem dX13_swap_41 : decode cX13_swap 41 = .ok (.ireturn, 1) := by decide +kernel
theorem dX13_swap_5 : decode cX13_swap 5 = .ok (.ifCond .eq 18, 3) := by decide +kernel
theorem dX13_swap_8 : decode cX13_swap 8 = .ok (.aload_n 0, 1) := by decide +kernel
theorem dX13_swap_9 : decode cX13_swap 9 = .ok (.getfield 28, 3) := by decide +kernel
set_option maxRecDepth 20000 in
theorem ggX13_swap_X13_areNamed : GoodIn wsX13_swap wsX13_areNamed := goodIn_r _ [15, 16, 17, 7, 18, 10, 11, 12] rfl (by decide +kernel)
set_option maxRecDepth 20000 in
theorem ggX13_swap_X13_isClause : GoodIn wsX13_swap wsX13_isClause := goodIn_r _ [8, 9, 10, 11, 7, 12, 19, 20, 21, 22, 23, 24, 25, 26, 27, 28, 29, 30, 31, 32, 33, 34, 35, 36, 37, 38, 39, 40, 41, 42, 43, 44, 45, 46, 47, 48, 49, 50, 51, 52, 53, 54, 55, 56, 57, 58, 59, 60, 61, 62, 63] rfl (by decide +kernel)
set_option maxRecDepth 20000 in
theorem gX13_swap_X13_areNamed : GoodIn wsX13_swap (va_wsS RX13 219 yX13_areNamed wsX13_areNamed) := goodIn_app (goodIn_of _ (by decide +kernel)) ggX13_swap_X13_areNamed
set_option maxRecDepth 20000 in
theorem gX13_swap_X13_isClause : GoodIn wsX13_swap (wsV RX13 233 RX13 yX13_isClause wsX13_isClause) := goodIn_app (goodIn_r _ [4, 5, 6, 7] rfl (by decide +kernel)) ggX13_swap_X13_isClause
set_option maxRecDepth 20000 in
theorem in_X13_swap_X13 : ∀ w ∈ wsX130, w ∈ wsX13_swap := sub_r [19, 20, 21, 22, 23, 24, 25, 26, 27, 28, 29, 30, 31, 32, 33, 34, 35, 36, 37, 38, 39, 40, 41, 42, 43, 44, 45, 46, 47, 48, 49, 50, 51, 52, 53, 54, 55, 56, 57, 58, 59, 60, 61, 62, 63] rfl
set_option maxHeartbeats 4000000 in
set_option maxRecDepth 100000 in
theorem c_X13_swap (l : Launch) (D : va_G) (T : Nat → ClassId) (sz : Nat) (h0 : Nat) (q : Nat → Int32) (v : Int64) (w : Int64) (a : Nat → Nat) (f8 : Nat → Int32) (f10 : Nat → Int32) (f11 : Nat → Int32) (x1 : Int32) (x2 : Int32) (x3 : Int32) (hm : 0 ≤ (q 7).toInt ∧ (q 7).toInt ≤ 24) (hokR : okR f8 f10 f11) : Met l yX13_swap wsX13_swap ({ frames := 2, cells := 0, slots := 0, locals := 48 }) (pW [.ref h0, .int x1, .int x2, .int x3] D T [(h0, .inr (10, (Value.int (q 0) :: Value.int (q 1) :: Value.int (q 2) :: Value.int (q 3) :: Value.int (q 4) :: Value.int (q 5) :: Value.int (q 6) :: Value.int (q 7) :: Value.ref (a 8) :: Value.ref (a 9) :: Value.ref (a 10) :: Value.ref (a 11) :: Value.ref (a 12) :: Value.ref (a 13) :: Value.int (q 14) :: Value.long v :: Value.long w :: Value.ref (a 17) :: Value.ref (a 18) :: Value.ref (a 19) :: Value.ref (a 20) :: Value.ref (a 21) :: Value.ref (a 22) :: Value.ref (a 23) :: Value.int (q 24) :: Value.ref (a 25) :: Value.int (q 26) :: Value.ref (a 27) :: Value.int (q 28) :: Value.int (q 29) :: Value.int (q 30) :: Value.int (q 31) :: Value.int (q 32) :: Value.int (q 33) :: Value.ref (a 34) :: Value.ref (a 35) :: Value.ref (a 36) :: Value.ref (a 37) :: Value.ref (a 38) :: Value.ref (a 39) :: Value.ref (a 40) :: Value.int (q 41) :: Value.ref (a 42) :: Value.int (q 43) :: Value.int (q 44) :: []))), ((a 8), .inl (T 0, 24, .inl f8)), ((a 10), .inl (T 0, 24, .inl f10)), ((a 11), .inl (T 0, 24, .inl f11))] sz) (va_Qi (fun (r : Int32) (u : (Nat → Int32) × (Nat → Int32)) => (okR f8 u.1 u.2) ∧ (swapR (q 7) x1 x2 x3 r f8 f10 f11 u.1 u.2)) (bW D (va_A [(h0, .inr (10, (Value.int (q 0) :: Value.int (q 1) :: Value.int (q 2) :: Value.int (q 3) :: Value.int (q 4) :: Value.int (q 5) :: Value.int (q 6) :: Value.int (q 7) :: Value.ref (a 8) :: Value.ref (a 9) :: Value.ref (a 10) :: Value.ref (a 11) :: Value.ref (a 12) :: Value.ref (a 13) :: Value.int (q 14) :: Value.long v :: Value.long w :: Value.ref (a 17) :: Value.ref (a 18) :: Value.ref (a 19) :: Value.ref (a 20) :: Value.ref (a 21) :: Value.ref (a 22) :: Value.ref (a 23) :: Value.int (q 24) :: Value.ref (a 25) :: Value.int (q 26) :: Value.ref (a 27) :: Value.int (q 28) :: Value.int (q 29) :: Value.int (q 30) :: Value.int (q 31) :: Value.int (q 32) :: Value.int (q 33) :: Value.ref (a 34) :: Value.ref (a 35) :: Value.ref (a 36) :: Value.ref (a 37) :: Value.ref (a 38) :: Value.ref (a 39) :: Value.ref (a 40) :: Value.int (q 41) :: Value.ref (a 42) :: Value.int (q 43) :: Value.int (q 44) :: []))), ((a 8), .inl (T 0, 24, .inl f8)), ((a 10), .inl (T 0, 24, .inl f10)), ((a 11), .inl (T 0, 24, .inl f11))] sz) (fun (u : (Nat → Int32) × (Nat → Int32)) => [(h0, .inr (10, (Value.int (q 0) :: Value.int (q 1) :: Value.int (q 2) :: Value.int (q 3) :: Value.int (q 4) :: Value.int (q 5) :: Value.int (q 6) :: Value.int (q 7) :: Value.ref (a 8) :: Value.ref (a 9) :: Value.ref (a 10) :: Value.ref (a 11) :: Value.ref (a 12) :: Value.ref (a 13) :: Value.int (q 14) :: Value.long v :: Value.long w :: Value.ref (a 17) :: Value.ref (a 18) :: Value.ref (a 19) :: Value.ref (a 20) :: Value.ref (a 21) :: Value.ref (a 22) :: Value.ref (a 23) :: Value.int (q 24) :: Value.ref (a 25) :: Value.int (q 26) :: Value.ref (a 27) :: Value.int (q 28) :: Value.int (q 29) :: Value.int (q 30) :: Value.int (q 31) :: Value.int (q 32) :: Value.int (q 33) :: Value.ref (a 34) :: Value.ref (a 35) :: Value.ref (a 36) :: Value.ref (a 37) :: Value.ref (a 38) :: Value.ref (a 39) :: Value.ref (a 40) :: Value.int (q 41) :: Value.ref (a 42) :: Value.int (q 43) :: Value.int (q 44) :: []))), ((a 8), .inl (T 0, 24, .inl f8)), ((a 10), .inl (T 0, 24, .inl u.1)), ((a 11), .inl (T 0, 24, .inl u.2))])) (va_A [(h0, .inr (10, (Value.int (q 0) :: Value.int (q 1) :: Value.int (q 2) :: Value.int (q 3) :: Value.int (q 4) :: Value.int (q 5) :: Value.int (q 6) :: Value.int (q 7) :: Value.ref (a 8) :: Value.ref (a 9) :: Value.ref (a 10) :: Value.ref (a 11) :: Value.ref (a 12) :: Value.ref (a 13) :: Value.int (q 14) :: Value.long v :: Value.long w :: Value.ref (a 17) :: Value.ref (a 18) :: Value.ref (a 19) :: Value.ref (a 20) :: Value.ref (a 21) :: Value.ref (a 22) :: Value.ref (a 23) :: Value.int (q 24) :: Value.ref (a 25) :: Value.int (q 26) :: Value.ref (a 27) :: Value.int (q 28) :: Value.int (q 29) :: Value.int (q 30) :: Value.int (q 31) :: Value.int (q 32) :: Value.int (q 33) :: Value.ref (a 34) :: Value.ref (a 35) :: Value.ref (a 36) :: Value.ref (a 37) :: Value.ref (a 38) :: Value.ref (a 39) :: Value.ref (a 40) :: Value.int (q 41) :: Value.ref (a 42) :: Value.int (q 43) :: Value.int (q 44) :: []))), ((a 8), .inl (T 0, 24, .inl f8)), ((a 10), .inl (T 0, 24, .inl f10)), ((a 11), .inl (T 0, 24, .inl f11))] sz)) 0 0 (va_A [(h0, .inr (10, (Value.int (q 0) :: Value.int (q 1) :: Value.int (q 2) :: Value.int (q 3) :: Value.int (q 4) :: Value.int (q 5) :: Value.int (q 6) :: Value.int (q 7) :: Value.ref (a 8) :: Value.ref (a 9) :: Value.ref (a 10) :: Value.ref (a 11) :: Value.ref (a 12) :: Value.ref (a 13) :: Value.int (q 14) :: Value.long v :: Value.long w :: Value.ref (a 17) :: Value.ref (a 18) :: Value.ref (a 19) :: Value.ref (a 20) :: Value.ref (a 21) :: Value.ref (a 22) :: Value.ref (a 23) :: Value.int (q 24) :: Value.ref (a 25) :: Value.int (q 26) :: Value.ref (a 27) :: Value.int (q 28) :: Value.int (q 29) :: Value.int (q 30) :: Value.int (q 31) :: Value.int (q 32) :: Value.int (q 33) :: Value.ref (a 34) :: Value.ref (a 35) :: Value.ref (a 36) :: Value.ref (a 37) :: Value.ref (a 38) :: Value.ref (a 39) :: Value.ref (a 40) :: Value.int (q 41) :: Value.ref (a 42) :: Value.int (q 43) :: Value.int (q 44) :: []))), ((a 8), .inl (T 0, 24, .inl f8)), ((a 10), .inl (T 0, 24, .inl f10)), ((a 11), .inl (T 0, 24, .inl f11))] sz) := by
  refine Met.ofW (cc := cX13_swap) (maxL := 4) (ret := (some .int)) (by decide +kernel) rfl ?_
  intro p e s m args below meth c s₁ B hml hv
  obtain ⟨rfl, hsz, hP, hE, hD0⟩ := hv
  have hx := B.exec
  have hb := B.bytes
  have hr := B.returns
  have hts := atoms_spec (ws := wsX13_swap) B.pre
  have hown : s.vm.findClass RX13 = some m.cls := findClass_of_methodNamed B.named
  have hlocks := B.notSynchronized
  subst hsz
  have hD := hD0.self (sz := s.heap.size)
  generalize hAe : va_A [(h0, .inr (10, (Value.int (q 0) :: Value.int (q 1) :: Value.int (q 2) :: Value.int (q 3) :: Value.int (q 4) :: Value.int (q 5) :: Value.int (q 6) :: Value.int (q 7) :: Value.ref (a 8) :: Value.ref (a 9) :: Value.ref (a 10) :: Value.ref (a 11) :: Value.ref (a 12) :: Value.ref (a 13) :: Value.int (q 14) :: Value.long v :: Value.long w :: Value.ref (a 17) :: Value.ref (a 18) :: Value.ref (a 19) :: Value.ref (a 20) :: Value.ref (a 21) :: Value.ref (a 22) :: Value.ref (a 23) :: Value.int (q 24) :: Value.ref (a 25) :: Value.int (q 26) :: Value.ref (a 27) :: Value.int (q 28) :: Value.int (q 29) :: Value.int (q 30) :: Value.int (q 31) :: Value.int (q 32) :: Value.int (q 33) :: Value.ref (a 34) :: Value.ref (a 35) :: Value.ref (a 36) :: Value.ref (a 37) :: Value.ref (a 38) :: Value.ref (a 39) :: Value.ref (a 40) :: Value.int (q 41) :: Value.ref (a 42) :: Value.int (q 43) :: Value.int (q 44) :: []))), ((a 8), .inl (T 0, 24, .inl f8)), ((a 10), .inl (T 0, 24, .inl f10)), ((a 11), .inl (T 0, 24, .inl f11))] s.heap.size = A at hD ⊢
  have hA : ∀ q : Nat, s.heap.size ≤ q → A q := fun q h => by rw [← hAe]; exact Or.inr h
  have hS : va_S A s.heap s.heap [] := va_S.rf
  have hP : va_P D vwCl [(h0, .inr (10, (Value.int (q 0) :: Value.int (q 1) :: Value.int (q 2) :: Value.int (q 3) :: Value.int (q 4) :: Value.int (q 5) :: Value.int (q 6) :: Value.int (q 7) :: Value.ref (a 8) :: Value.ref (a 9) :: Value.ref (a 10) :: Value.ref (a 11) :: Value.ref (a 12) :: Value.ref (a 13) :: Value.int (q 14) :: Value.long v :: Value.long w :: Value.ref (a 17) :: Value.ref (a 18) :: Value.ref (a 19) :: Value.ref (a 20) :: Value.ref (a 21) :: Value.ref (a 22) :: Value.ref (a 23) :: Value.int (q 24) :: Value.ref (a 25) :: Value.int (q 26) :: Value.ref (a 27) :: Value.int (q 28) :: Value.int (q 29) :: Value.int (q 30) :: Value.int (q 31) :: Value.int (q 32) :: Value.int (q 33) :: Value.ref (a 34) :: Value.ref (a 35) :: Value.ref (a 36) :: Value.ref (a 37) :: Value.ref (a 38) :: Value.ref (a 39) :: Value.ref (a 40) :: Value.int (q 41) :: Value.ref (a 42) :: Value.int (q 43) :: Value.int (q 44) :: []))), ((a 8), .inl (T 0, 24, .inl f8)), ((a 10), .inl (T 0, 24, .inl f10)), ((a 11), .inl (T 0, 24, .inl f11))] s.heap := hP
  have hl := lv_entry ([.ref h0, .int x1, .int x2, .int x3]) (n := 4) (Nat.le_of_ble_eq_true rfl)
  rw [lg_entry_eq]
  generalize (lg_sl ([.ref h0, .int x1, .int x2, .int x3]) ++ List.replicate (4 - (lg_sl ([.ref h0, .int x1, .int x2, .int x3])).length) Slot.unset).toArray = ls at hl ⊢
  have hl : lv_has ls 4 [(0, .ref h0), (1, .int x1), (2, .int x2), (3, .int x3)] := hl
  clear hD0
  refine lv_aload_n hx hb dX13_swap_0 rfl (lv_at hl 0 rfl) ?_
  refine lv_iload_n hx hb dX13_swap_1 rfl (lv_at hl 1 rfl) ?_
  refine vp_callSi (W.runV (As := [.int x1]) (rest := []) ⟨hx, hb, hml, hown, hts⟩ (c_X13_isClause l D T h0 [.int (q 0), .int (q 1), .int (q 2), .int (q 3), .int (q 4), .int (q 5), .int (q 6), .int (q 7), .ref (a 8), .ref (a 9), .ref (a 10), .ref (a 11), .ref (a 12), .ref (a 13), .int (q 14), .long v, .long w, .ref (a 17), .ref (a 18), .ref (a 19), .ref (a 20), .ref (a 21), .ref (a 22), .ref (a 23), .int (q 24), .ref (a 25), .int (q 26), .ref (a 27), .int (q 28), .int (q 29), .int (q 30), .int (q 31), .int (q 32), .int (q 33), .ref (a 34), .ref (a 35), .ref (a 36), .ref (a 37), .ref (a 38), .ref (a 39), .ref (a 40), .int (q 41), .ref (a 42), .int (q 43), .int (q 44)] x1 (q 7) rfl (by omega)) (cwV 1 hts gX13_swap_X13_isClause rfl rfl rfl hv_X13_isClause ⟨Nat.le_of_ble_eq_true rfl, Nat.le_of_ble_eq_true rfl⟩) (pR_V (q := (RX13, TX13, 45)) (ci := 10) (q0 := 0) hP hE rfl rfl [0] rfl) rfl rfl hl.1 rfl (lv_room (Nat.le_of_ble_eq_true rfl)) dX13_swap_2 ⟨Nat.le_of_ble_eq_true rfl, Nat.le_of_ble_eq_true rfl⟩) (fun r_1 hr_1 => ?_)
  rcases bool_post hr_1 with ⟨c_2, rfl⟩ | ⟨c_2, rfl⟩
  · refine lv_if_eq (tgt := 23) hx hb dX13_swap_5 (by decide +kernel) (fun c9 => absurd c9 (by decide +kernel)) (fun _ => ?_)
    refine lv_aload_n hx hb dX13_swap_8 rfl (lv_at hl 0 rfl) ?_
    refine va_get (D := D) (ci := 10) (v := .ref (a 8)) (C := RX13) (T := TX13) (N := 45) hx hb hts in_X13_swap_X13 hown hE.1 hP 0 rfl rfl 8 (by decide +kernel) (hts (.fieldLink RX13 28 "ClauseBookModel" "kind" "[I") (List.mem_of_getElem? (i := 1) rfl)) (fun _ h9 => h9) rfl dX13_swap_9 ?_
    refine lv_iload_n hx hb dX13_swap_12 rfl (lv_at hl 1 rfl) ?_
    refine va_iald hx hb hE.1 hP 1 0 rfl rfl (by rw [vp_in_iff]; first | omega | (subst_vars; omega)) dX13_swap_13 ?_
    refine lv_topi (fun z_3 ez_3 => ?_)
    have hkz_3 : 0 ≤ z_3.toInt ∧ z_3.toInt ≤ 12 := by rw [ez_3]; exact (hokR _ (in24 (x := x1) (by omega)).1).1
    have hcz_3 : 1 ≤ (nmT (z_3.toNatClampNeg)).toInt → 0 ≤ (f10 (x1.toNatClampNeg)).toInt ∧ (f10 (x1.toNatClampNeg)).toInt < x1.toInt := by
      rw [ez_3]
      intro h1
      have h := (hokR _ (in24 (x := x1) (by omega)).1).2.1 h1
      have h2 := (in24 (x := x1) (by omega)).2
      omega
    have hdz_3 : (nmT (z_3.toNatClampNeg)).toInt = 2 → 0 ≤ (f11 (x1.toNatClampNeg)).toInt ∧ (f11 (x1.toNatClampNeg)).toInt < x1.toInt := by
      rw [ez_3]
      intro h1
      have h := (hokR _ (in24 (x := x1) (by omega)).1).2.2 h1
      have h2 := (in24 (x := x1) (by omega)).2
      omega
    refine lv_iload_n hx hb dX13_swap_14 rfl (lv_at hl 2 rfl) ?_
    refine lv_iload_n hx hb dX13_swap_15 rfl (lv_at hl 3 rfl) ?_
    refine lv_iload_n hx hb dX13_swap_16 rfl (lv_at hl 1 rfl) ?_
    refine vp_callSi (W.runS (As := [.int z_3, .int x2, .int x3, .int x1]) (rest := []) ⟨hx, hb, hml, hown, hts⟩ (c_X13_areNamed l D T z_3 x2 x3 x1 (by omega) (by omega)) (va_cwS 4 hts gX13_swap_X13_areNamed rfl rfl rfl hs_X13_areNamed ⟨Nat.le_of_ble_eq_true rfl, Nat.le_of_ble_eq_true rfl⟩) (pR_S hP hE [] rfl) rfl rfl hl.1 rfl (lv_room (Nat.le_of_ble_eq_true rfl)) dX13_swap_17 ⟨Nat.le_of_ble_eq_true rfl, Nat.le_of_ble_eq_true rfl⟩) (fun r_4 hr_4 => ?_)
    rcases bool_post hr_4 with ⟨c_5, rfl⟩ | ⟨c_5, rfl⟩
    · refine lv_if_ne (tgt := 26) hx hb dX13_swap_20 (by decide +kernel) (fun _ => ?_) (fun c9 => absurd c9 (by decide +kernel))
      have ha9 : mayP (z_3.toNatClampNeg) x2 x3 x1 := by assumption
      rw [ez_3] at ha9
      have hokR := okR_nm (c' := x2) (d' := x3) hokR (by omega) ha9.1.1 ha9.2.1
      refine lv_aload_n hx hb dX13_swap_26 rfl (lv_at hl 0 rfl) ?_
      refine va_get (D := D) (ci := 10) (v := .ref (a 10)) (C := RX13) (T := TX13) (N := 45) hx hb hts in_X13_swap_X13 hown hE.1 hP 0 rfl rfl 10 (by decide +kernel) (hts (.fieldLink RX13 35 "ClauseBookModel" "one" "[I") (List.mem_of_getElem? (i := 2) rfl)) (fun _ h9 => h9) rfl dX13_swap_27 ?_
      refine lv_iload_n hx hb dX13_swap_30 rfl (lv_at hl 1 rfl) ?_
      refine lv_iload_n hx hb dX13_swap_31 rfl (lv_at hl 2 rfl) ?_
      refine va_iast hx hb hE.1 hP hD hS 2 0 rfl rfl (by rw [vp_in_iff]; first | omega | (subst_vars; omega)) dX13_swap_32 (fun H locs hP hD hS => ?_)
      obtain ⟨hP, hD⟩ := wPD [(h0, .inr (10, (Value.int (q 0) :: Value.int (q 1) :: Value.int (q 2) :: Value.int (q 3) :: Value.int (q 4) :: Value.int (q 5) :: Value.int (q 6) :: Value.int (q 7) :: Value.ref (a 8) :: Value.ref (a 9) :: Value.ref (a 10) :: Value.ref (a 11) :: Value.ref (a 12) :: Value.ref (a 13) :: Value.int (q 14) :: Value.long v :: Value.long w :: Value.ref (a 17) :: Value.ref (a 18) :: Value.ref (a 19) :: Value.ref (a 20) :: Value.ref (a 21) :: Value.ref (a 22) :: Value.ref (a 23) :: Value.int (q 24) :: Value.ref (a 25) :: Value.int (q 26) :: Value.ref (a 27) :: Value.int (q 28) :: Value.int (q 29) :: Value.int (q 30) :: Value.int (q 31) :: Value.int (q 32) :: Value.int (q 33) :: Value.ref (a 34) :: Value.ref (a 35) :: Value.ref (a 36) :: Value.ref (a 37) :: Value.ref (a 38) :: Value.ref (a 39) :: Value.ref (a 40) :: Value.int (q 41) :: Value.ref (a 42) :: Value.int (q 43) :: Value.int (q 44) :: []))), ((a 8), .inl (T 0, 24, .inl f8)), ((a 10), .inl (T 0, 24, .inl (upd f10 (x1.toNatClampNeg) x2))), ((a 11), .inl (T 0, 24, .inl f11))] hP hD rfl
      refine lv_aload_n hx hb dX13_swap_33 rfl (lv_at hl 0 rfl) ?_
      refine va_get (D := D) (ci := 10) (v := .ref (a 11)) (C := RX13) (T := TX13) (N := 45) hx hb hts in_X13_swap_X13 hown hE.1 hP 0 rfl rfl 11 (by decide +kernel) (hts (.fieldLink RX13 38 "ClauseBookModel" "two" "[I") (List.mem_of_getElem? (i := 3) rfl)) (fun _ h9 => h9) rfl dX13_swap_34 ?_
      refine lv_iload_n hx hb dX13_swap_37 rfl (lv_at hl 1 rfl) ?_
      refine lv_iload_n hx hb dX13_swap_38 rfl (lv_at hl 3 rfl) ?_
      refine va_iast hx hb hE.1 hP hD hS 3 0 rfl rfl (by rw [vp_in_iff]; first | omega | (subst_vars; omega)) dX13_swap_39 (fun H locs hP hD hS => ?_)
      obtain ⟨hP, hD⟩ := wPD [(h0, .inr (10, (Value.int (q 0) :: Value.int (q 1) :: Value.int (q 2) :: Value.int (q 3) :: Value.int (q 4) :: Value.int (q 5) :: Value.int (q 6) :: Value.int (q 7) :: Value.ref (a 8) :: Value.ref (a 9) :: Value.ref (a 10) :: Value.ref (a 11) :: Value.ref (a 12) :: Value.ref (a 13) :: Value.int (q 14) :: Value.long v :: Value.long w :: Value.ref (a 17) :: Value.ref (a 18) :: Value.ref (a 19) :: Value.ref (a 20) :: Value.ref (a 21) :: Value.ref (a 22) :: Value.ref (a 23) :: Value.int (q 24) :: Value.ref (a 25) :: Value.int (q 26) :: Value.ref (a 27) :: Value.int (q 28) :: Value.int (q 29) :: Value.int (q 30) :: Value.int (q 31) :: Value.int (q 32) :: Value.int (q 33) :: Value.ref (a 34) :: Value.ref (a 35) :: Value.ref (a 36) :: Value.ref (a 37) :: Value.ref (a 38) :: Value.ref (a 39) :: Value.ref (a 40) :: Value.int (q 41) :: Value.ref (a 42) :: Value.int (q 43) :: Value.int (q 44) :: []))), ((a 8), .inl (T 0, 24, .inl f8)), ((a 10), .inl (T 0, 24, .inl (upd f10 (x1.toNatClampNeg) x2))), ((a 11), .inl (T 0, 24, .inl (upd f11 (x1.toNatClampNeg) x3)))] hP hD rfl
      refine lv_iconst (v := 1) hx hb dX13_swap_40 (by decide +kernel) ?_
      exact W.iret hx hb hr (fun t ht hW => ⟨⟨_, ((upd f10 (x1.toNatClampNeg) x2), (upd f11 (x1.toNatClampNeg) x3)), rfl, ⟨(show okR f8 (upd f10 (x1.toNatClampNeg) x2) (upd f11 (x1.toNatClampNeg) x3) from hokR), (show swapR (q 7) x1 x2 x3 (1 : Int32) f8 f10 f11 (upd f10 (x1.toNatClampNeg) x2) (upd f11 (x1.toNatClampNeg) x3) from (Or.inr ⟨⟨by omega, ha9⟩, (by decide +kernel), rfl, rfl⟩))⟩, by rw [ht]; exact hP.sub [0, 1, 2, 3] rfl, hD.sub [0, 1, 2, 3] (by decide +kernel) rfl⟩, hS.F ht⟩) hS.2.2 dX13_swap_41
    · refine lv_if_ne (tgt := 26) hx hb dX13_swap_20 (by decide +kernel) (fun c9 => absurd c9 (by decide +kernel)) (fun _ => ?_)
      refine lv_bipush (v := (-2)) hx hb dX13_swap_23 (by decide +kernel) ?_
      exact W.iret hx hb hr (fun t ht hW => ⟨⟨_, (f10, f11), rfl, ⟨(show okR f8 f10 f11 from hokR), (show swapR (q 7) x1 x2 x3 ((-2) : Int32) f8 f10 f11 f10 f11 from (Or.inl ⟨(fun h9 => by have h8 := h9.1; have h6 := h9.2; first | (rw [← ez_3] at h6; exact absurd h6 (by assumption)) | omega), (by decide +kernel), rfl, rfl⟩))⟩, by rw [ht]; exact hP.sub [0, 1, 2, 3] rfl, hD.sub [0, 1, 2, 3] (by decide +kernel) rfl⟩, hS.F ht⟩) hS.2.2 dX13_swap_25
  · refine lv_if_eq (tgt := 23) hx hb dX13_swap_5 (by decide +kernel) (fun _ => ?_) (fun c9 => absurd c9 (by decide +kernel))
    refine lv_bipush (v := (-2)) hx hb dX13_swap_23 (by decide +kernel) ?_
    exact W.iret hx hb hr (fun t ht hW => ⟨⟨_, (f10, f11), rfl, ⟨(show okR f8 f10 f11 from hokR), (show swapR (q 7) x1 x2 x3 ((-2) : Int32) f8 f10 f11 f10 f11 from (Or.inl ⟨(fun h9 => by have h8 := h9.1; have h6 := h9.2; first | (rw [← ez_3] at h6; exact absurd h6 (by assumption)) | omega), (by decide +kernel), rfl, rfl⟩))⟩, by rw [ht]; exact hP.sub [0, 1, 2, 3] rfl, hD.sub [0, 1, 2, 3] (by decide +kernel) rfl⟩, hS.F ht⟩) hS.2.2 dX13_swap_25
theorem dX13_drop_0 : decode cX13_drop 0 = .ok (.aload_n 0, 1) := by decide +kernel
theorem dX13_drop_1 : decode cX13_drop 1 = .ok (.getfield 205, 3) := by decide +kernel
theorem dX13_drop_10 : decode cX13_drop 10 = .ok (.aload_n 0, 1) := by decide +kernel
theorem dX13_drop_11 : decode cX13_drop 11 = .ok (.dup, 1) := by decide +kernel
theorem dX13_drop_12 : decode cX13_drop 12 = .ok (.getfield 205, 3) := by decide +kernel
theorem dX13_drop_15 : decode cX13_drop 15 = .ok (.iconst 1, 1) := by decide +kernel
theorem dX13_drop_16 : decode cX13_drop 16 = .ok (.isub, 1) := by decide +kernel
theorem dX13_drop_17 : decode cX13_drop 17 = .ok (.putfield 205, 3) := by decide +kernel
theorem dX13_drop_20 : decode cX13_drop 20 = .ok (.aload_n 0, 1) := by decide +kernel
theorem dX13_drop_21 : decode cX13_drop 21 = .ok (.getfield 205, 3) := by decide +kernel
theorem dX13_drop_24 : decode cX13_drop 24 = .ok (.ireturn, 1) := by decide +kernel
theorem dX13_drop_4 : decode cX13_drop 4 = .ok (.ifCond .ne 6, 3) := by decide +kernel
theorem dX13_drop_7 : decode cX13_drop 7 = .ok (.bipush (-3), 2) := by decide +kernel
theorem dX13_drop_9 : decode cX13_drop 9 = .ok (.ireturn, 1) := by decide +kernel
set_option maxRecDepth 20000 in
theorem in_X13_drop_X13 : ∀ w ∈ wsX130, w ∈ wsX13_drop := sub_r [2, 3, 4, 5, 6, 7, 8, 9, 10, 11, 12, 13, 14, 15, 16, 17, 18, 19, 20, 21, 22, 23, 24, 25, 26, 27, 28, 29, 30, 31, 32, 33, 34, 35, 36, 37, 38, 39, 40, 41, 42, 43, 44, 45, 46] rfl
set_option maxHeartbeats 4000000 in
set_option maxRecDepth 100000 in
theorem c_X13_drop (l : Launch) (D : va_G) (T : Nat → ClassId) (sz : Nat) (h0 : Nat) (q : Nat → Int32) (v : Int64) (w : Int64) (a : Nat → Nat) (hm : 0 ≤ (q 7).toInt ∧ (q 7).toInt ≤ 24) : Met l yX13_drop wsX13_drop ({ frames := 0, cells := 0, slots := 0, locals := 0 }) (pW [.ref h0] D T [(h0, .inr (10, (Value.int (q 0) :: Value.int (q 1) :: Value.int (q 2) :: Value.int (q 3) :: Value.int (q 4) :: Value.int (q 5) :: Value.int (q 6) :: Value.int (q 7) :: Value.ref (a 8) :: Value.ref (a 9) :: Value.ref (a 10) :: Value.ref (a 11) :: Value.ref (a 12) :: Value.ref (a 13) :: Value.int (q 14) :: Value.long v :: Value.long w :: Value.ref (a 17) :: Value.ref (a 18) :: Value.ref (a 19) :: Value.ref (a 20) :: Value.ref (a 21) :: Value.ref (a 22) :: Value.ref (a 23) :: Value.int (q 24) :: Value.ref (a 25) :: Value.int (q 26) :: Value.ref (a 27) :: Value.int (q 28) :: Value.int (q 29) :: Value.int (q 30) :: Value.int (q 31) :: Value.int (q 32) :: Value.int (q 33) :: Value.ref (a 34) :: Value.ref (a 35) :: Value.ref (a 36) :: Value.ref (a 37) :: Value.ref (a 38) :: Value.ref (a 39) :: Value.ref (a 40) :: Value.int (q 41) :: Value.ref (a 42) :: Value.int (q 43) :: Value.int (q 44) :: [])))] sz) (va_Qi (fun (r : Int32) (u : (Int32)) => (0 ≤ u.toInt ∧ u.toInt ≤ 24) ∧ (dropC (q 7) r u)) (bW D (va_A [(h0, .inr (10, (Value.int (q 0) :: Value.int (q 1) :: Value.int (q 2) :: Value.int (q 3) :: Value.int (q 4) :: Value.int (q 5) :: Value.int (q 6) :: Value.int (q 7) :: Value.ref (a 8) :: Value.ref (a 9) :: Value.ref (a 10) :: Value.ref (a 11) :: Value.ref (a 12) :: Value.ref (a 13) :: Value.int (q 14) :: Value.long v :: Value.long w :: Value.ref (a 17) :: Value.ref (a 18) :: Value.ref (a 19) :: Value.ref (a 20) :: Value.ref (a 21) :: Value.ref (a 22) :: Value.ref (a 23) :: Value.int (q 24) :: Value.ref (a 25) :: Value.int (q 26) :: Value.ref (a 27) :: Value.int (q 28) :: Value.int (q 29) :: Value.int (q 30) :: Value.int (q 31) :: Value.int (q 32) :: Value.int (q 33) :: Value.ref (a 34) :: Value.ref (a 35) :: Value.ref (a 36) :: Value.ref (a 37) :: Value.ref (a 38) :: Value.ref (a 39) :: Value.ref (a 40) :: Value.int (q 41) :: Value.ref (a 42) :: Value.int (q 43) :: Value.int (q 44) :: [])))] sz) (fun (u : (Int32)) => [(h0, .inr (10, (Value.int (q 0) :: Value.int (q 1) :: Value.int (q 2) :: Value.int (q 3) :: Value.int (q 4) :: Value.int (q 5) :: Value.int (q 6) :: Value.int u :: Value.ref (a 8) :: Value.ref (a 9) :: Value.ref (a 10) :: Value.ref (a 11) :: Value.ref (a 12) :: Value.ref (a 13) :: Value.int (q 14) :: Value.long v :: Value.long w :: Value.ref (a 17) :: Value.ref (a 18) :: Value.ref (a 19) :: Value.ref (a 20) :: Value.ref (a 21) :: Value.ref (a 22) :: Value.ref (a 23) :: Value.int (q 24) :: Value.ref (a 25) :: Value.int (q 26) :: Value.ref (a 27) :: Value.int (q 28) :: Value.int (q 29) :: Value.int (q 30) :: Value.int (q 31) :: Value.int (q 32) :: Value.int (q 33) :: Value.ref (a 34) :: Value.ref (a 35) :: Value.ref (a 36) :: Value.ref (a 37) :: Value.ref (a 38) :: Value.ref (a 39) :: Value.ref (a 40) :: Value.int (q 41) :: Value.ref (a 42) :: Value.int (q 43) :: Value.int (q 44) :: [])))])) (va_A [(h0, .inr (10, (Value.int (q 0) :: Value.int (q 1) :: Value.int (q 2) :: Value.int (q 3) :: Value.int (q 4) :: Value.int (q 5) :: Value.int (q 6) :: Value.int (q 7) :: Value.ref (a 8) :: Value.ref (a 9) :: Value.ref (a 10) :: Value.ref (a 11) :: Value.ref (a 12) :: Value.ref (a 13) :: Value.int (q 14) :: Value.long v :: Value.long w :: Value.ref (a 17) :: Value.ref (a 18) :: Value.ref (a 19) :: Value.ref (a 20) :: Value.ref (a 21) :: Value.ref (a 22) :: Value.ref (a 23) :: Value.int (q 24) :: Value.ref (a 25) :: Value.int (q 26) :: Value.ref (a 27) :: Value.int (q 28) :: Value.int (q 29) :: Value.int (q 30) :: Value.int (q 31) :: Value.int (q 32) :: Value.int (q 33) :: Value.ref (a 34) :: Value.ref (a 35) :: Value.ref (a 36) :: Value.ref (a 37) :: Value.ref (a 38) :: Value.ref (a 39) :: Value.ref (a 40) :: Value.int (q 41) :: Value.ref (a 42) :: Value.int (q 43) :: Value.int (q 44) :: [])))] sz)) 0 0 (va_A [(h0, .inr (10, (Value.int (q 0) :: Value.int (q 1) :: Value.int (q 2) :: Value.int (q 3) :: Value.int (q 4) :: Value.int (q 5) :: Value.int (q 6) :: Value.int (q 7) :: Value.ref (a 8) :: Value.ref (a 9) :: Value.ref (a 10) :: Value.ref (a 11) :: Value.ref (a 12) :: Value.ref (a 13) :: Value.int (q 14) :: Value.long v :: Value.long w :: Value.ref (a 17) :: Value.ref (a 18) :: Value.ref (a 19) :: Value.ref (a 20) :: Value.ref (a 21) :: Value.ref (a 22) :: Value.ref (a 23) :: Value.int (q 24) :: Value.ref (a 25) :: Value.int (q 26) :: Value.ref (a 27) :: Value.int (q 28) :: Value.int (q 29) :: Value.int (q 30) :: Value.int (q 31) :: Value.int (q 32) :: Value.int (q 33) :: Value.ref (a 34) :: Value.ref (a 35) :: Value.ref (a 36) :: Value.ref (a 37) :: Value.ref (a 38) :: Value.ref (a 39) :: Value.ref (a 40) :: Value.int (q 41) :: Value.ref (a 42) :: Value.int (q 43) :: Value.int (q 44) :: [])))] sz) := by
  refine Met.ofW (cc := cX13_drop) (maxL := 1) (ret := (some .int)) (by decide +kernel) rfl ?_
  intro p e s m args below meth c s₁ B hml hv
  obtain ⟨rfl, hsz, hP, hE, hD0⟩ := hv
  have hx := B.exec
  have hb := B.bytes
  have hr := B.returns
  have hts := atoms_spec (ws := wsX13_drop) B.pre
  have hown : s.vm.findClass RX13 = some m.cls := findClass_of_methodNamed B.named
  have hlocks := B.notSynchronized
  subst hsz
  have hD := hD0.self (sz := s.heap.size)
  generalize hAe : va_A [(h0, .inr (10, (Value.int (q 0) :: Value.int (q 1) :: Value.int (q 2) :: Value.int (q 3) :: Value.int (q 4) :: Value.int (q 5) :: Value.int (q 6) :: Value.int (q 7) :: Value.ref (a 8) :: Value.ref (a 9) :: Value.ref (a 10) :: Value.ref (a 11) :: Value.ref (a 12) :: Value.ref (a 13) :: Value.int (q 14) :: Value.long v :: Value.long w :: Value.ref (a 17) :: Value.ref (a 18) :: Value.ref (a 19) :: Value.ref (a 20) :: Value.ref (a 21) :: Value.ref (a 22) :: Value.ref (a 23) :: Value.int (q 24) :: Value.ref (a 25) :: Value.int (q 26) :: Value.ref (a 27) :: Value.int (q 28) :: Value.int (q 29) :: Value.int (q 30) :: Value.int (q 31) :: Value.int (q 32) :: Value.int (q 33) :: Value.ref (a 34) :: Value.ref (a 35) :: Value.ref (a 36) :: Value.ref (a 37) :: Value.ref (a 38) :: Value.ref (a 39) :: Value.ref (a 40) :: Value.int (q 41) :: Value.ref (a 42) :: Value.int (q 43) :: Value.int (q 44) :: [])))] s.heap.size = A at hD ⊢
  have hA : ∀ q : Nat, s.heap.size ≤ q → A q := fun q h => by rw [← hAe]; exact Or.inr h
  have hS : va_S A s.heap s.heap [] := va_S.rf
  have hP : va_P D vwCl [(h0, .inr (10, (Value.int (q 0) :: Value.int (q 1) :: Value.int (q 2) :: Value.int (q 3) :: Value.int (q 4) :: Value.int (q 5) :: Value.int (q 6) :: Value.int (q 7) :: Value.ref (a 8) :: Value.ref (a 9) :: Value.ref (a 10) :: Value.ref (a 11) :: Value.ref (a 12) :: Value.ref (a 13) :: Value.int (q 14) :: Value.long v :: Value.long w :: Value.ref (a 17) :: Value.ref (a 18) :: Value.ref (a 19) :: Value.ref (a 20) :: Value.ref (a 21) :: Value.ref (a 22) :: Value.ref (a 23) :: Value.int (q 24) :: Value.ref (a 25) :: Value.int (q 26) :: Value.ref (a 27) :: Value.int (q 28) :: Value.int (q 29) :: Value.int (q 30) :: Value.int (q 31) :: Value.int (q 32) :: Value.int (q 33) :: Value.ref (a 34) :: Value.ref (a 35) :: Value.ref (a 36) :: Value.ref (a 37) :: Value.ref (a 38) :: Value.ref (a 39) :: Value.ref (a 40) :: Value.int (q 41) :: Value.ref (a 42) :: Value.int (q 43) :: Value.int (q 44) :: [])))] s.heap := hP
  have hl := lv_entry ([.ref h0]) (n := 1) (Nat.le_of_ble_eq_true rfl)
  rw [lg_entry_eq]
  generalize (lg_sl ([.ref h0]) ++ List.replicate (1 - (lg_sl ([.ref h0])).length) Slot.unset).toArray = ls at hl ⊢
  have hl : lv_has ls 1 [(0, .ref h0)] := hl
  clear hD0
  refine lv_aload_n hx hb dX13_drop_0 rfl (lv_at hl 0 rfl) ?_
  refine va_get (D := D) (ci := 10) (v := .int (q 7)) (C := RX13) (T := TX13) (N := 45) hx hb hts in_X13_drop_X13 hown hE.1 hP 0 rfl rfl 7 (by decide +kernel) (hts (.fieldLink RX13 205 "ClauseBookModel" "many" "I") (List.mem_of_getElem? (i := 1) rfl)) (fun _ h9 => h9) rfl dX13_drop_1 ?_
  refine lv_if_ne (tgt := 10) hx hb dX13_drop_4 (by decide +kernel) (fun c_1 => ?_) (fun c_1 => ?_)
  · rw [fa_eq] at c_1
    try rw [ti_0] at c_1
    refine lv_aload_n hx hb dX13_drop_10 rfl (lv_at hl 0 rfl) ?_
    refine lv_dup hx hb dX13_drop_11 rfl ?_
    refine va_get (D := D) (ci := 10) (v := .int (q 7)) (C := RX13) (T := TX13) (N := 45) hx hb hts in_X13_drop_X13 hown hE.1 hP 0 rfl rfl 7 (by decide +kernel) (hts (.fieldLink RX13 205 "ClauseBookModel" "many" "I") (List.mem_of_getElem? (i := 1) rfl)) (fun _ h9 => h9) rfl dX13_drop_12 ?_
    refine lv_iconst (v := 1) hx hb dX13_drop_15 (by decide +kernel) ?_
    refine lv_isub hx hb dX13_drop_16 ?_
    refine lv_topi (fun z_2 ez_2 => ?_)
    refine va_put (D := D) (ci := 10) (v := .int z_2) (ty := .int) (C := RX13) (T := TX13) (N := 45) hx hb hts in_X13_drop_X13 tyX13 tyX13_ok nmX13 hown hE.1 hP hD hS 0 rfl rfl 7 (by decide +kernel) (hts (.fieldLink RX13 205 "ClauseBookModel" "many" "I") (List.mem_of_getElem? (i := 1) rfl)) (fun _ h9 => h9) rfl (by decide +kernel) rfl rfl (Nat.le_of_ble_eq_true rfl) dX13_drop_17 (fun H locs hP hD hS => ?_)
    obtain ⟨hP, hD⟩ := wPD [(h0, .inr (10, (Value.int (q 0) :: Value.int (q 1) :: Value.int (q 2) :: Value.int (q 3) :: Value.int (q 4) :: Value.int (q 5) :: Value.int (q 6) :: Value.int z_2 :: Value.ref (a 8) :: Value.ref (a 9) :: Value.ref (a 10) :: Value.ref (a 11) :: Value.ref (a 12) :: Value.ref (a 13) :: Value.int (q 14) :: Value.long v :: Value.long w :: Value.ref (a 17) :: Value.ref (a 18) :: Value.ref (a 19) :: Value.ref (a 20) :: Value.ref (a 21) :: Value.ref (a 22) :: Value.ref (a 23) :: Value.int (q 24) :: Value.ref (a 25) :: Value.int (q 26) :: Value.ref (a 27) :: Value.int (q 28) :: Value.int (q 29) :: Value.int (q 30) :: Value.int (q 31) :: Value.int (q 32) :: Value.int (q 33) :: Value.ref (a 34) :: Value.ref (a 35) :: Value.ref (a 36) :: Value.ref (a 37) :: Value.ref (a 38) :: Value.ref (a 39) :: Value.ref (a 40) :: Value.int (q 41) :: Value.ref (a 42) :: Value.int (q 43) :: Value.int (q 44) :: [])))] hP hD rfl
    have hz9 : z_2.toInt = (q 7).toInt - 1 := by rw [ez_2]; exact dec1 (by omega)
    refine lv_aload_n hx hb dX13_drop_20 rfl (lv_at hl 0 rfl) ?_
    refine va_get (D := D) (ci := 10) (v := .int z_2) (C := RX13) (T := TX13) (N := 45) hx hb hts in_X13_drop_X13 hown hE.1 hP 0 rfl rfl 7 (by decide +kernel) (hts (.fieldLink RX13 205 "ClauseBookModel" "many" "I") (List.mem_of_getElem? (i := 1) rfl)) (fun _ h9 => h9) rfl dX13_drop_21 ?_
    exact W.iret hx hb hr (fun t ht hW => ⟨⟨_, z_2, rfl, ⟨(show 0 ≤ z_2.toInt ∧ z_2.toInt ≤ 24 from (by first | omega | (subst_vars; omega))), (show dropC (q 7) z_2 z_2 from (Or.inr ⟨(by omega), rfl, hz9⟩))⟩, by rw [ht]; exact hP.sub [0] rfl, hD.sub [0] (by decide +kernel) rfl⟩, hS.F ht⟩) hS.2.2 dX13_drop_24
  · rw [fa_eq] at c_1
    try rw [ti_0] at c_1
    refine lv_bipush (v := (-3)) hx hb dX13_drop_7 (by decide +kernel) ?_
    exact W.iret hx hb hr (fun t ht hW => ⟨⟨_, (q 7), rfl, ⟨(show 0 ≤ (q 7).toInt ∧ (q 7).toInt ≤ 24 from (by first | omega | (subst_vars; omega))), (show dropC (q 7) ((-3) : Int32) (q 7) from (Or.inl ⟨(by omega), (by decide +kernel), rfl⟩))⟩, by rw [ht]; exact hP.sub [0] rfl, hD.sub [0] (by decide +kernel) rfl⟩, hS.F ht⟩) hS.2.2 dX13_drop_9
theorem dX13_clauseOf_0 : decode cX13_clauseOf 0 = .ok (.aload_n 0, 1) := by decide +kernel
theorem dX13_clauseOf_1 : decode cX13_clauseOf 1 = .ok (.iload_n 1, 1) := by decide +kernel
theorem dX13_clauseOf_10 : decode cX13_clauseOf 10 = .ok (.ireturn, 1) := by decide +kernel
theorem dX13_clauseOf_101 : decode cX13_clauseOf 101 = .ok (.iload_n 1, 1) := by decide +kernel
theorem dX13_clauseOf_102 : decode cX13_clauseOf 102 = .ok (.iaload, 1) := by decide +kernel
theorem dX13_clauseOf_103 : decode cX13_clauseOf 103 = .ok (.invokestatic 210, 3) := by decide +kernel
theorem dX13_clauseOf_106 : decode cX13_clauseOf 106 = .ok (.iconst 1, 1) := by decide +kernel
theorem dX13_clauseOf_107 : decode cX13_clauseOf 107 = .ok (.if_icmp .le 12, 3) := by decide +kernel
theorem dX13_clauseOf_11 : decode cX13_clauseOf 11 = .ok (.aload_n 0, 1) := by decide +kernel
theorem dX13_clauseOf_110 : decode cX13_clauseOf 110 = .ok (.aload_n 0, 1) := by decide +kernel
theorem dX13_clauseOf_111 : decode cX13_clauseOf 111 = .ok (.getfield 38, 3) := by decide +kernel
theorem dX13_clauseOf_114 : decode cX13_clauseOf 114 = .ok (.iload_n 1, 1) := by decide +kernel
theorem dX13_clauseOf_115 : decode cX13_clauseOf 115 = .ok (.iaload, 1) := by decide +kernel
theorem dX13_clauseOf_116 : decode cX13_clauseOf 116 = .ok (.goto 4, 3) := by decide +kernel
theorem dX13_clauseOf_119 : decode cX13_clauseOf 119 = .ok (.iconst (-1), 1) := by decide +kernel
theorem dX13_clauseOf_12 : decode cX13_clauseOf 12 = .ok (.invokevirtual 236, 3) := by decide +kernel
theorem dX13_clauseOf_120 : decode cX13_clauseOf 120 = .ok (.ireturn, 1) := by decide +kernel
theorem dX13_clauseOf_121 : decode cX13_clauseOf 121 = .ok (.aload_n 0, 1) := by decide +kernel
theorem dX13_clauseOf_122 : decode cX13_clauseOf 122 = .ok (.getfield 47, 3) := by decide +kernel
theorem dX13_clauseOf_125 : decode cX13_clauseOf 125 = .ok (.iload_n 1, 1) := by decide +kernel
theorem dX13_clauseOf_126 : decode cX13_clauseOf 126 = .ok (.iaload, 1) := by decide +kernel
theorem dX13_clauseOf_127 : decode cX13_clauseOf 127 = .ok (.ireturn, 1) := by decide +kernel
theorem dX13_clauseOf_128 : decode cX13_clauseOf 128 = .ok (.aload_n 0, 1) := by decide +kernel
theorem dX13_clauseOf_129 : decode cX13_clauseOf 129 = .ok (.getfield 50, 3) := by decide +kernel
theorem dX13_clauseOf_132 : decode cX13_clauseOf 132 = .ok (.iload_n 1, 1) := by decide +kernel
theorem dX13_clauseOf_133 : decode cX13_clauseOf 133 = .ok (.iaload, 1) := by decide +kernel
theorem dX13_clauseOf_134 : decode cX13_clauseOf 134 = .ok (.ireturn, 1) := by decide +kernel
theorem dX13_clauseOf_135 : decode cX13_clauseOf 135 = .ok (.aload_n 0, 1) := by decide +kernel
theorem dX13_clauseOf_136 : decode cX13_clauseOf 136 = .ok (.getfield 53, 3) := by decide +kernel
theorem dX13_clauseOf_139 : decode cX13_clauseOf 139 = .ok (.iload_n 1, 1) := by decide +kernel
theorem dX13_clauseOf_140 : decode cX13_clauseOf 140 = .ok (.iaload, 1) := by decide +kernel
theorem dX13_clauseOf_141 : decode cX13_clauseOf 141 = .ok (.ireturn, 1) := by decide +kernel
theorem dX13_clauseOf_142 : decode cX13_clauseOf 142 = .ok (.bipush (-2), 2) := by decide +kernel
theorem dX13_clauseOf_144 : decode cX13_clauseOf 144 = .ok (.ireturn, 1) := by decide +kernel
theorem dX13_clauseOf_15 : decode cX13_clauseOf 15 = .ok (.iload_n 2, 1) := by decide +kernel
theorem dX13_clauseOf_16 : decode cX13_clauseOf 16 = .ok (.tableswitch 126 0 6 #[44, 51, 58, 81, 105, 112, 119], 44) := by decide +kernel
theorem dX13_clauseOf_2 : decode cX13_clauseOf 2 = .ok (.invokevirtual 233, 3) := by decide +kernel
theorem dX13_clauseOf_5 : decode cX13_clauseOf 5 = .ok (.ifCond .ne 6, 3) := by decide +kernel
theorem dX13_clauseOf_60 : decode cX13_clauseOf 60 = .ok (.aload_n 0, 1) := by decide +kernel
theorem dX13_clauseOf_61 : decode cX13_clauseOf 61 = .ok (.getfield 28, 3) := by decide +kernel
theorem dX13_clauseOf_64 : decode cX13_clauseOf 64 = .ok (.iload_n 1, 1) := by decide +kernel
theorem dX13_clauseOf_65 : decode cX13_clauseOf 65 = .ok (.iaload, 1) := by decide +kernel
theorem dX13_clauseOf_66 : decode cX13_clauseOf 66 = .ok (.ireturn, 1) := by decide +kernel
theorem dX13_clauseOf_67 : decode cX13_clauseOf 67 = .ok (.aload_n 0, 1) := by decide +kernel
theorem dX13_clauseOf_68 : decode cX13_clauseOf 68 = .ok (.getfield 32, 3) := by decide +kernel
theorem dX13_clauseOf_71 : decode cX13_clauseOf 71 = .ok (.iload_n 1, 1) := by decide +kernel
theorem dX13_clauseOf_72 : decode cX13_clauseOf 72 = .ok (.iaload, 1) := by decide +kernel
theorem dX13_clauseOf_73 : decode cX13_clauseOf 73 = .ok (.ireturn, 1) := by decide +kernel
theorem dX13_clauseOf_74 : decode cX13_clauseOf 74 = .ok (.aload_n 0, 1) := by decide +kernel
theorem dX13_clauseOf_75 : decode cX13_clauseOf 75 = .ok (.getfield 28, 3) := by decide +kernel
theorem dX13_clauseOf_78 : decode cX13_clauseOf 78 = .ok (.iload_n 1, 1) := by decide +kernel
theorem dX13_clauseOf_79 : decode cX13_clauseOf 79 = .ok (.iaload, 1) := by decide +kernel
theorem dX13_clauseOf_8 : decode cX13_clauseOf 8 = .ok (.bipush (-2), 2) := by decide +kernel
theorem dX13_clauseOf_80 : decode cX13_clauseOf 80 = .ok (.invokestatic 210, 3) := by decide +kernel
theorem dX13_clauseOf_83 : decode cX13_clauseOf 83 = .ok (.ifCond .le 12, 3) := by decide +kernel
theorem dX13_clauseOf_86 : decode cX13_clauseOf 86 = .ok (.aload_n 0, 1) := by decide +kernel
theorem dX13_clauseOf_87 : decode cX13_clauseOf 87 = .ok (.getfield 35, 3) := by decide +kernel
theorem dX13_clauseOf_90 : decode cX13_clauseOf 90 = .ok (.iload_n 1, 1) := by decide +kernel
theorem dX13_clauseOf_91 : decode cX13_clauseOf 91 = .ok (.iaload, 1) := by decide +kernel
theorem dX13_clauseOf_92 : decode cX13_clauseOf 92 = .ok (.goto 4, 3) := by decide +kernel
theorem dX13_clauseOf_95 : decode cX13_clauseOf 95 = .ok (.iconst (-1), 1) := by decide +kernel
theorem dX13_clauseOf_96 : decode cX13_clauseOf 96 = .ok (.ireturn, 1) := by decide +kernel
theorem dX13_clauseOf_97 : decode cX13_clauseOf 97 = .ok (.aload_n 0, 1) := by decide +kernel
theorem dX13_clauseOf_98 : decode cX13_clauseOf 98 = .ok (.getfield 28, 3) := by decide +kernel
set_option maxRecDepth 20000 in
theorem ggX13_clauseOf_X13_isClause : GoodIn wsX13_clauseOf wsX13_isClause := goodIn_r _ [12, 13, 14, 15, 11, 16, 31, 32, 33, 34, 35, 36, 37, 38, 39, 40, 41, 42, 43, 44, 45, 46, 47, 48, 49, 50, 51, 52, 53, 54, 55, 56, 57, 58, 59, 60, 61, 62, 63, 64, 65, 66, 67, 68, 69, 70, 71, 72, 73, 74, 75] rfl (by decide +kernel)
set_option maxRecDepth 40000 in
theorem ggX13_clauseOf_X13_laysParts_0 : GoodIn wsX13_clauseOf [.code yX13_laysParts cX13_laysParts 5 none] := goodIn_r _ [20] rfl (by decide +kernel)
set_option maxRecDepth 40000 in
theorem ggX13_clauseOf_X13_laysParts_1 : GoodIn wsX13_clauseOf [.fieldLink RX13 205 "ClauseBookModel" "many" "I", .fieldLink RX13 28 "ClauseBookModel" "kind" "[I", .fieldLink RX13 35 "ClauseBookModel" "one" "[I", .fieldLink RX13 38 "ClauseBookModel" "two" "[I", .fieldLink RX13 47 "ClauseBookModel" "end" "[I", .methodLink RX13 227 Lib.Math.max.name, .static Lib.Math.max.name, .initialized "java/lang/Math", .code Lib.Math.max.name Lib.Math.max.code 2 (some .int), .fieldLink RX13 32 "ClauseBookModel" "number" "[I", .methodLink RX13 230 Lib.Math.min.name, .static Lib.Math.min.name, .code Lib.Math.min.name Lib.Math.min.code 2 (some .int), .fieldLink RX13 50 "ClauseBookModel" "parts" "[I", .fieldLink RX13 53 "ClauseBookModel" "deep" "[I", .methodLink RX13 210 yX13_names, .static yX13_names, .initialized RX13, .code yX13_names cX13_names 1 (some .int)] := goodIn_r _ [13, 1, 3, 4, 5, 21, 22, 23, 24, 2, 25, 26, 27, 6, 7, 28, 29, 11, 30] rfl (by decide +kernel)
set_option maxRecDepth 40000 in
theorem ggX13_clauseOf_X13_laysParts_2 : GoodIn wsX13_clauseOf wsX130 := goodIn_r _ [31, 32, 33, 34, 35, 36, 37, 38, 39, 40, 41, 42, 43, 44, 45, 46, 47, 48, 49, 50, 51, 52, 53, 54, 55, 56, 57, 58, 59, 60, 61, 62, 63, 64, 65, 66, 67, 68, 69, 70, 71, 72, 73, 74, 75] rfl (by decide +kernel)
set_option maxRecDepth 40000 in
theorem ggX13_clauseOf_X13_laysParts : GoodIn wsX13_clauseOf wsX13_laysParts := (goodIn_app ggX13_clauseOf_X13_laysParts_0 (goodIn_app ggX13_clauseOf_X13_laysParts_1 ggX13_clauseOf_X13_laysParts_2))
set_option maxRecDepth 20000 in
theorem ggX13_clauseOf_X13_names : GoodIn wsX13_clauseOf wsX13_names := goodIn_r _ [30] rfl (by decide +kernel)
set_option maxRecDepth 20000 in
theorem gX13_clauseOf_X13_isClause : GoodIn wsX13_clauseOf (wsV RX13 233 RX13 yX13_isClause wsX13_isClause) := goodIn_app (goodIn_r _ [8, 9, 10, 11] rfl (by decide +kernel)) ggX13_clauseOf_X13_isClause
set_option maxRecDepth 20000 in
theorem gX13_clauseOf_X13_laysParts : GoodIn wsX13_clauseOf (wsV RX13 236 RX13 yX13_laysParts wsX13_laysParts) := goodIn_app (goodIn_r _ [17, 18, 19, 11] rfl (by decide +kernel)) ggX13_clauseOf_X13_laysParts
set_option maxRecDepth 20000 in
theorem gX13_clauseOf_X13_names : GoodIn wsX13_clauseOf (va_wsS RX13 210 yX13_names wsX13_names) := goodIn_app (goodIn_of _ (by decide +kernel)) ggX13_clauseOf_X13_names
set_option maxRecDepth 20000 in
theorem in_X13_clauseOf_X13 : ∀ w ∈ wsX130, w ∈ wsX13_clauseOf := sub_r [31, 32, 33, 34, 35, 36, 37, 38, 39, 40, 41, 42, 43, 44, 45, 46, 47, 48, 49, 50, 51, 52, 53, 54, 55, 56, 57, 58, 59, 60, 61, 62, 63, 64, 65, 66, 67, 68, 69, 70, 71, 72, 73, 74, 75] rfl
set_option maxHeartbeats 4000000 in
set_option maxRecDepth 100000 in
theorem c_X13_clauseOf (l : Launch) (D : va_G) (T : Nat → ClassId) (sz : Nat) (h0 : Nat) (q : Nat → Int32) (v : Int64) (w : Int64) (a : Nat → Nat) (f8 : Nat → Int32) (f9 : Nat → Int32) (f10 : Nat → Int32) (f11 : Nat → Int32) (f17 : Nat → Int32) (f18 : Nat → Int32) (f19 : Nat → Int32) (x1 : Int32) (x2 : Int32) (hm : 0 ≤ (q 7).toInt ∧ (q 7).toInt ≤ 24) (hokR : okR f8 f10 f11) : Met l yX13_clauseOf wsX13_clauseOf ({ frames := 2, cells := 0, slots := 0, locals := 64 }) (pW [.ref h0, .int x1, .int x2] D T [(h0, .inr (10, (Value.int (q 0) :: Value.int (q 1) :: Value.int (q 2) :: Value.int (q 3) :: Value.int (q 4) :: Value.int (q 5) :: Value.int (q 6) :: Value.int (q 7) :: Value.ref (a 8) :: Value.ref (a 9) :: Value.ref (a 10) :: Value.ref (a 11) :: Value.ref (a 12) :: Value.ref (a 13) :: Value.int (q 14) :: Value.long v :: Value.long w :: Value.ref (a 17) :: Value.ref (a 18) :: Value.ref (a 19) :: Value.ref (a 20) :: Value.ref (a 21) :: Value.ref (a 22) :: Value.ref (a 23) :: Value.int (q 24) :: Value.ref (a 25) :: Value.int (q 26) :: Value.ref (a 27) :: Value.int (q 28) :: Value.int (q 29) :: Value.int (q 30) :: Value.int (q 31) :: Value.int (q 32) :: Value.int (q 33) :: Value.ref (a 34) :: Value.ref (a 35) :: Value.ref (a 36) :: Value.ref (a 37) :: Value.ref (a 38) :: Value.ref (a 39) :: Value.ref (a 40) :: Value.int (q 41) :: Value.ref (a 42) :: Value.int (q 43) :: Value.int (q 44) :: []))), ((a 8), .inl (T 0, 24, .inl f8)), ((a 9), .inl (T 0, 24, .inl f9)), ((a 10), .inl (T 0, 24, .inl f10)), ((a 11), .inl (T 0, 24, .inl f11)), ((a 17), .inl (T 0, 24, .inl f17)), ((a 18), .inl (T 0, 24, .inl f18)), ((a 19), .inl (T 0, 24, .inl f19))] sz) (va_Qi (fun (r : Int32) (u : (Nat → Int32) × (Nat → Int32) × (Nat → Int32)) => (clOR (q 7) x1 x2 r f8 f9 f10 f11)) (bW D (va_A [(h0, .inr (10, (Value.int (q 0) :: Value.int (q 1) :: Value.int (q 2) :: Value.int (q 3) :: Value.int (q 4) :: Value.int (q 5) :: Value.int (q 6) :: Value.int (q 7) :: Value.ref (a 8) :: Value.ref (a 9) :: Value.ref (a 10) :: Value.ref (a 11) :: Value.ref (a 12) :: Value.ref (a 13) :: Value.int (q 14) :: Value.long v :: Value.long w :: Value.ref (a 17) :: Value.ref (a 18) :: Value.ref (a 19) :: Value.ref (a 20) :: Value.ref (a 21) :: Value.ref (a 22) :: Value.ref (a 23) :: Value.int (q 24) :: Value.ref (a 25) :: Value.int (q 26) :: Value.ref (a 27) :: Value.int (q 28) :: Value.int (q 29) :: Value.int (q 30) :: Value.int (q 31) :: Value.int (q 32) :: Value.int (q 33) :: Value.ref (a 34) :: Value.ref (a 35) :: Value.ref (a 36) :: Value.ref (a 37) :: Value.ref (a 38) :: Value.ref (a 39) :: Value.ref (a 40) :: Value.int (q 41) :: Value.ref (a 42) :: Value.int (q 43) :: Value.int (q 44) :: []))), ((a 8), .inl (T 0, 24, .inl f8)), ((a 9), .inl (T 0, 24, .inl f9)), ((a 10), .inl (T 0, 24, .inl f10)), ((a 11), .inl (T 0, 24, .inl f11)), ((a 17), .inl (T 0, 24, .inl f17)), ((a 18), .inl (T 0, 24, .inl f18)), ((a 19), .inl (T 0, 24, .inl f19))] sz) (fun (u : (Nat → Int32) × (Nat → Int32) × (Nat → Int32)) => [(h0, .inr (10, (Value.int (q 0) :: Value.int (q 1) :: Value.int (q 2) :: Value.int (q 3) :: Value.int (q 4) :: Value.int (q 5) :: Value.int (q 6) :: Value.int (q 7) :: Value.ref (a 8) :: Value.ref (a 9) :: Value.ref (a 10) :: Value.ref (a 11) :: Value.ref (a 12) :: Value.ref (a 13) :: Value.int (q 14) :: Value.long v :: Value.long w :: Value.ref (a 17) :: Value.ref (a 18) :: Value.ref (a 19) :: Value.ref (a 20) :: Value.ref (a 21) :: Value.ref (a 22) :: Value.ref (a 23) :: Value.int (q 24) :: Value.ref (a 25) :: Value.int (q 26) :: Value.ref (a 27) :: Value.int (q 28) :: Value.int (q 29) :: Value.int (q 30) :: Value.int (q 31) :: Value.int (q 32) :: Value.int (q 33) :: Value.ref (a 34) :: Value.ref (a 35) :: Value.ref (a 36) :: Value.ref (a 37) :: Value.ref (a 38) :: Value.ref (a 39) :: Value.ref (a 40) :: Value.int (q 41) :: Value.ref (a 42) :: Value.int (q 43) :: Value.int (q 44) :: []))), ((a 8), .inl (T 0, 24, .inl f8)), ((a 9), .inl (T 0, 24, .inl f9)), ((a 10), .inl (T 0, 24, .inl f10)), ((a 11), .inl (T 0, 24, .inl f11)), ((a 17), .inl (T 0, 24, .inl u.1)), ((a 18), .inl (T 0, 24, .inl u.2.1)), ((a 19), .inl (T 0, 24, .inl u.2.2))])) (va_A [(h0, .inr (10, (Value.int (q 0) :: Value.int (q 1) :: Value.int (q 2) :: Value.int (q 3) :: Value.int (q 4) :: Value.int (q 5) :: Value.int (q 6) :: Value.int (q 7) :: Value.ref (a 8) :: Value.ref (a 9) :: Value.ref (a 10) :: Value.ref (a 11) :: Value.ref (a 12) :: Value.ref (a 13) :: Value.int (q 14) :: Value.long v :: Value.long w :: Value.ref (a 17) :: Value.ref (a 18) :: Value.ref (a 19) :: Value.ref (a 20) :: Value.ref (a 21) :: Value.ref (a 22) :: Value.ref (a 23) :: Value.int (q 24) :: Value.ref (a 25) :: Value.int (q 26) :: Value.ref (a 27) :: Value.int (q 28) :: Value.int (q 29) :: Value.int (q 30) :: Value.int (q 31) :: Value.int (q 32) :: Value.int (q 33) :: Value.ref (a 34) :: Value.ref (a 35) :: Value.ref (a 36) :: Value.ref (a 37) :: Value.ref (a 38) :: Value.ref (a 39) :: Value.ref (a 40) :: Value.int (q 41) :: Value.ref (a 42) :: Value.int (q 43) :: Value.int (q 44) :: []))), ((a 8), .inl (T 0, 24, .inl f8)), ((a 9), .inl (T 0, 24, .inl f9)), ((a 10), .inl (T 0, 24, .inl f10)), ((a 11), .inl (T 0, 24, .inl f11)), ((a 17), .inl (T 0, 24, .inl f17)), ((a 18), .inl (T 0, 24, .inl f18)), ((a 19), .inl (T 0, 24, .inl f19))] sz)) 0 0 (va_A [(h0, .inr (10, (Value.int (q 0) :: Value.int (q 1) :: Value.int (q 2) :: Value.int (q 3) :: Value.int (q 4) :: Value.int (q 5) :: Value.int (q 6) :: Value.int (q 7) :: Value.ref (a 8) :: Value.ref (a 9) :: Value.ref (a 10) :: Value.ref (a 11) :: Value.ref (a 12) :: Value.ref (a 13) :: Value.int (q 14) :: Value.long v :: Value.long w :: Value.ref (a 17) :: Value.ref (a 18) :: Value.ref (a 19) :: Value.ref (a 20) :: Value.ref (a 21) :: Value.ref (a 22) :: Value.ref (a 23) :: Value.int (q 24) :: Value.ref (a 25) :: Value.int (q 26) :: Value.ref (a 27) :: Value.int (q 28) :: Value.int (q 29) :: Value.int (q 30) :: Value.int (q 31) :: Value.int (q 32) :: Value.int (q 33) :: Value.ref (a 34) :: Value.ref (a 35) :: Value.ref (a 36) :: Value.ref (a 37) :: Value.ref (a 38) :: Value.ref (a 39) :: Value.ref (a 40) :: Value.int (q 41) :: Value.ref (a 42) :: Value.int (q 43) :: Value.int (q 44) :: []))), ((a 8), .inl (T 0, 24, .inl f8)), ((a 9), .inl (T 0, 24, .inl f9)), ((a 10), .inl (T 0, 24, .inl f10)), ((a 11), .inl (T 0, 24, .inl f11)), ((a 17), .inl (T 0, 24, .inl f17)), ((a 18), .inl (T 0, 24, .inl f18)), ((a 19), .inl (T 0, 24, .inl f19))] sz) := by
  refine Met.ofW (cc := cX13_clauseOf) (maxL := 3) (ret := (some .int)) (by decide +kernel) rfl ?_
  intro p e s m args below meth c s₁ B hml hv
  obtain ⟨rfl, hsz, hP, hE, hD0⟩ := hv
  have hx := B.exec
  have hb := B.bytes
  have hr := B.returns
  have hts := atoms_spec (ws := wsX13_clauseOf) B.pre
  have hown : s.vm.findClass RX13 = some m.cls := findClass_of_methodNamed B.named
  have hlocks := B.notSynchronized
  subst hsz
  have hD := hD0.self (sz := s.heap.size)
  generalize hAe : va_A [(h0, .inr (10, (Value.int (q 0) :: Value.int (q 1) :: Value.int (q 2) :: Value.int (q 3) :: Value.int (q 4) :: Value.int (q 5) :: Value.int (q 6) :: Value.int (q 7) :: Value.ref (a 8) :: Value.ref (a 9) :: Value.ref (a 10) :: Value.ref (a 11) :: Value.ref (a 12) :: Value.ref (a 13) :: Value.int (q 14) :: Value.long v :: Value.long w :: Value.ref (a 17) :: Value.ref (a 18) :: Value.ref (a 19) :: Value.ref (a 20) :: Value.ref (a 21) :: Value.ref (a 22) :: Value.ref (a 23) :: Value.int (q 24) :: Value.ref (a 25) :: Value.int (q 26) :: Value.ref (a 27) :: Value.int (q 28) :: Value.int (q 29) :: Value.int (q 30) :: Value.int (q 31) :: Value.int (q 32) :: Value.int (q 33) :: Value.ref (a 34) :: Value.ref (a 35) :: Value.ref (a 36) :: Value.ref (a 37) :: Value.ref (a 38) :: Value.ref (a 39) :: Value.ref (a 40) :: Value.int (q 41) :: Value.ref (a 42) :: Value.int (q 43) :: Value.int (q 44) :: []))), ((a 8), .inl (T 0, 24, .inl f8)), ((a 9), .inl (T 0, 24, .inl f9)), ((a 10), .inl (T 0, 24, .inl f10)), ((a 11), .inl (T 0, 24, .inl f11)), ((a 17), .inl (T 0, 24, .inl f17)), ((a 18), .inl (T 0, 24, .inl f18)), ((a 19), .inl (T 0, 24, .inl f19))] s.heap.size = A at hD ⊢
  have hA : ∀ q : Nat, s.heap.size ≤ q → A q := fun q h => by rw [← hAe]; exact Or.inr h
  have hS : va_S A s.heap s.heap [] := va_S.rf
  have hP : va_P D vwCl [(h0, .inr (10, (Value.int (q 0) :: Value.int (q 1) :: Value.int (q 2) :: Value.int (q 3) :: Value.int (q 4) :: Value.int (q 5) :: Value.int (q 6) :: Value.int (q 7) :: Value.ref (a 8) :: Value.ref (a 9) :: Value.ref (a 10) :: Value.ref (a 11) :: Value.ref (a 12) :: Value.ref (a 13) :: Value.int (q 14) :: Value.long v :: Value.long w :: Value.ref (a 17) :: Value.ref (a 18) :: Value.ref (a 19) :: Value.ref (a 20) :: Value.ref (a 21) :: Value.ref (a 22) :: Value.ref (a 23) :: Value.int (q 24) :: Value.ref (a 25) :: Value.int (q 26) :: Value.ref (a 27) :: Value.int (q 28) :: Value.int (q 29) :: Value.int (q 30) :: Value.int (q 31) :: Value.int (q 32) :: Value.int (q 33) :: Value.ref (a 34) :: Value.ref (a 35) :: Value.ref (a 36) :: Value.ref (a 37) :: Value.ref (a 38) :: Value.ref (a 39) :: Value.ref (a 40) :: Value.int (q 41) :: Value.ref (a 42) :: Value.int (q 43) :: Value.int (q 44) :: []))), ((a 8), .inl (T 0, 24, .inl f8)), ((a 9), .inl (T 0, 24, .inl f9)), ((a 10), .inl (T 0, 24, .inl f10)), ((a 11), .inl (T 0, 24, .inl f11)), ((a 17), .inl (T 0, 24, .inl f17)), ((a 18), .inl (T 0, 24, .inl f18)), ((a 19), .inl (T 0, 24, .inl f19))] s.heap := hP
  have hl := lv_entry ([.ref h0, .int x1, .int x2]) (n := 3) (Nat.le_of_ble_eq_true rfl)
  rw [lg_entry_eq]
  generalize (lg_sl ([.ref h0, .int x1, .int x2]) ++ List.replicate (3 - (lg_sl ([.ref h0, .int x1, .int x2])).length) Slot.unset).toArray = ls at hl ⊢
  have hl : lv_has ls 3 [(0, .ref h0), (1, .int x1), (2, .int x2)] := hl
  clear hD0
  refine lv_aload_n hx hb dX13_clauseOf_0 rfl (lv_at hl 0 rfl) ?_
  refine lv_iload_n hx hb dX13_clauseOf_1 rfl (lv_at hl 1 rfl) ?_
  refine vp_callSi (W.runV (As := [.int x1]) (rest := []) ⟨hx, hb, hml, hown, hts⟩ (c_X13_isClause l D T h0 [.int (q 0), .int (q 1), .int (q 2), .int (q 3), .int (q 4), .int (q 5), .int (q 6), .int (q 7), .ref (a 8), .ref (a 9), .ref (a 10), .ref (a 11), .ref (a 12), .ref (a 13), .int (q 14), .long v, .long w, .ref (a 17), .ref (a 18), .ref (a 19), .ref (a 20), .ref (a 21), .ref (a 22), .ref (a 23), .int (q 24), .ref (a 25), .int (q 26), .ref (a 27), .int (q 28), .int (q 29), .int (q 30), .int (q 31), .int (q 32), .int (q 33), .ref (a 34), .ref (a 35), .ref (a 36), .ref (a 37), .ref (a 38), .ref (a 39), .ref (a 40), .int (q 41), .ref (a 42), .int (q 43), .int (q 44)] x1 (q 7) rfl (by omega)) (cwV 1 hts gX13_clauseOf_X13_isClause rfl rfl rfl hv_X13_isClause ⟨Nat.le_of_ble_eq_true rfl, Nat.le_of_ble_eq_true rfl⟩) (pR_V (q := (RX13, TX13, 45)) (ci := 10) (q0 := 0) hP hE rfl rfl [0] rfl) rfl rfl hl.1 rfl (lv_room (Nat.le_of_ble_eq_true rfl)) dX13_clauseOf_2 ⟨Nat.le_of_ble_eq_true rfl, Nat.le_of_ble_eq_true rfl⟩) (fun r_1 hr_1 => ?_)
  rcases bool_post hr_1 with ⟨c_2, rfl⟩ | ⟨c_2, rfl⟩
  · refine lv_if_ne (tgt := 11) hx hb dX13_clauseOf_5 (by decide +kernel) (fun _ => ?_) (fun c9 => absurd c9 (by decide +kernel))
    refine lv_aload_n hx hb dX13_clauseOf_11 rfl (lv_at hl 0 rfl) ?_
    have hFc := va_free (wc := [(h0, .inr (10, (Value.int (q 0) :: Value.int (q 1) :: Value.int (q 2) :: Value.int (q 3) :: Value.int (q 4) :: Value.int (q 5) :: Value.int (q 6) :: Value.int (q 7) :: Value.ref (a 8) :: Value.ref (a 9) :: Value.ref (a 10) :: Value.ref (a 11) :: Value.ref (a 12) :: Value.ref (a 13) :: Value.int (q 14) :: Value.long v :: Value.long w :: Value.ref (a 17) :: Value.ref (a 18) :: Value.ref (a 19) :: Value.ref (a 20) :: Value.ref (a 21) :: Value.ref (a 22) :: Value.ref (a 23) :: Value.int (q 24) :: Value.ref (a 25) :: Value.int (q 26) :: Value.ref (a 27) :: Value.int (q 28) :: Value.int (q 29) :: Value.int (q 30) :: Value.int (q 31) :: Value.int (q 32) :: Value.int (q 33) :: Value.ref (a 34) :: Value.ref (a 35) :: Value.ref (a 36) :: Value.ref (a 37) :: Value.ref (a 38) :: Value.ref (a 39) :: Value.ref (a 40) :: Value.int (q 41) :: Value.ref (a 42) :: Value.int (q 43) :: Value.int (q 44) :: []))), ((a 8), .inl (T 0, 24, .inl f8)), ((a 9), .inl (T 0, 24, .inl f9)), ((a 10), .inl (T 0, 24, .inl f10)), ((a 11), .inl (T 0, 24, .inl f11)), ((a 17), .inl (T 0, 24, .inl f17)), ((a 18), .inl (T 0, 24, .inl f18)), ((a 19), .inl (T 0, 24, .inl f19))]) hD hS hA [0, 1, 2, 3, 4, 5, 6, 7] rfl
    refine va_callv (va_runV (As := []) (rest := []) ⟨hx, hb, hml, hown, hts⟩ (c_X13_laysParts l D T _ h0 q v w a f8 f9 f10 f11 f17 f18 f19 (show 0 ≤ (q 7).toInt ∧ (q 7).toInt ≤ 24 from (by omega)) (show okR f8 f10 f11 from hokR)) (cwV 0 hts gX13_clauseOf_X13_laysParts rfl rfl rfl hv_X13_laysParts ⟨Nat.le_of_ble_eq_true rfl, Nat.le_of_ble_eq_true rfl⟩) (pW_V (q := (RX13, TX13, 45)) (ci := 10) (q0 := 0) hP hE hD rfl rfl [0, 1, 2, 3, 4, 5, 6, 7] (by decide +kernel) rfl rfl) rfl rfl hl.1 rfl (lv_room (Nat.le_of_ble_eq_true rfl)) dX13_clauseOf_12 ⟨Nat.le_of_ble_eq_true rfl, Nat.le_of_ble_eq_true rfl⟩) hS (fun q _ h => hFc q h) hFc (fun u_4 t H1 locs ht hvm hr_3 hB hz1 hk1 hS => ?_)
    obtain ⟨f_5, f_6, f_7⟩ := u_4
    obtain ⟨hi0_r_3, hi1_r_3⟩ := hr_3
    have hEE : okE f8 f10 f_5 (q 7).toInt := hi0_r_3
    have hMEr : ∀ j : Nat, (j : Int) < (q 7).toInt → mesP f8 f9 f10 f11 f_5 f_6 f_7 j := hi1_r_3
    obtain ⟨hP1, hD1⟩ := hB
    rw [ht] at hP1
    obtain ⟨hP, hD⟩ := va_repl [(h0, .inr (10, (Value.int (q 0) :: Value.int (q 1) :: Value.int (q 2) :: Value.int (q 3) :: Value.int (q 4) :: Value.int (q 5) :: Value.int (q 6) :: Value.int (q 7) :: Value.ref (a 8) :: Value.ref (a 9) :: Value.ref (a 10) :: Value.ref (a 11) :: Value.ref (a 12) :: Value.ref (a 13) :: Value.int (q 14) :: Value.long v :: Value.long w :: Value.ref (a 17) :: Value.ref (a 18) :: Value.ref (a 19) :: Value.ref (a 20) :: Value.ref (a 21) :: Value.ref (a 22) :: Value.ref (a 23) :: Value.int (q 24) :: Value.ref (a 25) :: Value.int (q 26) :: Value.ref (a 27) :: Value.int (q 28) :: Value.int (q 29) :: Value.int (q 30) :: Value.int (q 31) :: Value.int (q 32) :: Value.int (q 33) :: Value.ref (a 34) :: Value.ref (a 35) :: Value.ref (a 36) :: Value.ref (a 37) :: Value.ref (a 38) :: Value.ref (a 39) :: Value.ref (a 40) :: Value.int (q 41) :: Value.ref (a 42) :: Value.int (q 43) :: Value.int (q 44) :: []))), ((a 8), .inl (T 0, 24, .inl f8)), ((a 9), .inl (T 0, 24, .inl f9)), ((a 10), .inl (T 0, 24, .inl f10)), ((a 11), .inl (T 0, 24, .inl f11)), ((a 17), .inl (T 0, 24, .inl f_5)), ((a 18), .inl (T 0, 24, .inl f_6)), ((a 19), .inl (T 0, 24, .inl f_7))] hP hD [0, 1, 2, 3, 4, 5, 6, 7] [0, 1, 2, 3, 4, 5, 6, 7] rfl (by decide +kernel) rfl rfl rfl hk1 hP1
    clear hP1 hD1 hFc
    generalize H1 = H at hP hS ⊢
    refine lv_iload_n hx hb dX13_clauseOf_15 rfl (lv_at hl 2 rfl) ?_
    by_cases k_8 : x2 = 0
    · subst k_8
      refine lv_tableIn (off := 44) (tgt := 60) hx hb dX13_clauseOf_16 (by decide +kernel) (by decide +kernel) (by decide +kernel) (by decide +kernel) ?_
      refine lv_aload_n hx hb dX13_clauseOf_60 rfl (lv_at hl 0 rfl) ?_
      refine va_get (D := D) (ci := 10) (v := .ref (a 8)) (C := RX13) (T := TX13) (N := 45) hx hb hts in_X13_clauseOf_X13 hown hE.1 hP 0 rfl rfl 8 (by decide +kernel) (hts (.fieldLink RX13 28 "ClauseBookModel" "kind" "[I") (List.mem_of_getElem? (i := 1) rfl)) (fun _ h9 => h9) rfl dX13_clauseOf_61 ?_
      refine lv_iload_n hx hb dX13_clauseOf_64 rfl (lv_at hl 1 rfl) ?_
      refine va_iald hx hb hE.1 hP 1 0 rfl rfl (by rw [vp_in_iff]; first | omega | (subst_vars; omega)) dX13_clauseOf_65 ?_
      refine lv_topi (fun z_9 ez_9 => ?_)
      exact W.iret hx hb hr (fun t ht hW => ⟨⟨_, (f_5, f_6, f_7), rfl, (show clOR (q 7) x1 (0 : Int32) z_9 f8 f9 f10 f11 from (Or.inr ⟨_, _, _, hMEr, (Or.inr ⟨(by omega), (Or.inl ⟨(by decide +kernel), ez_9⟩)⟩)⟩)), by rw [ht]; exact hP.sub [0, 1, 2, 3, 4, 5, 6, 7] rfl, hD.sub [0, 1, 2, 3, 4, 5, 6, 7] (by decide +kernel) rfl⟩, hS.F ht⟩) hS.2.2 dX13_clauseOf_66
    by_cases k_10 : x2 = 1
    · subst k_10
      refine lv_tableIn (off := 51) (tgt := 67) hx hb dX13_clauseOf_16 (by decide +kernel) (by decide +kernel) (by decide +kernel) (by decide +kernel) ?_
      refine lv_aload_n hx hb dX13_clauseOf_67 rfl (lv_at hl 0 rfl) ?_
      refine va_get (D := D) (ci := 10) (v := .ref (a 9)) (C := RX13) (T := TX13) (N := 45) hx hb hts in_X13_clauseOf_X13 hown hE.1 hP 0 rfl rfl 9 (by decide +kernel) (hts (.fieldLink RX13 32 "ClauseBookModel" "number" "[I") (List.mem_of_getElem? (i := 2) rfl)) (fun _ h9 => h9) rfl dX13_clauseOf_68 ?_
      refine lv_iload_n hx hb dX13_clauseOf_71 rfl (lv_at hl 1 rfl) ?_
      refine va_iald hx hb hE.1 hP 2 0 rfl rfl (by rw [vp_in_iff]; first | omega | (subst_vars; omega)) dX13_clauseOf_72 ?_
      refine lv_topi (fun z_11 ez_11 => ?_)
      exact W.iret hx hb hr (fun t ht hW => ⟨⟨_, (f_5, f_6, f_7), rfl, (show clOR (q 7) x1 (1 : Int32) z_11 f8 f9 f10 f11 from (Or.inr ⟨_, _, _, hMEr, (Or.inr ⟨(by omega), (Or.inr (Or.inl ⟨(by decide +kernel), ez_11⟩))⟩)⟩)), by rw [ht]; exact hP.sub [0, 1, 2, 3, 4, 5, 6, 7] rfl, hD.sub [0, 1, 2, 3, 4, 5, 6, 7] (by decide +kernel) rfl⟩, hS.F ht⟩) hS.2.2 dX13_clauseOf_73
    by_cases k_12 : x2 = 2
    · subst k_12
      refine lv_tableIn (off := 58) (tgt := 74) hx hb dX13_clauseOf_16 (by decide +kernel) (by decide +kernel) (by decide +kernel) (by decide +kernel) ?_
      refine lv_aload_n hx hb dX13_clauseOf_74 rfl (lv_at hl 0 rfl) ?_
      refine va_get (D := D) (ci := 10) (v := .ref (a 8)) (C := RX13) (T := TX13) (N := 45) hx hb hts in_X13_clauseOf_X13 hown hE.1 hP 0 rfl rfl 8 (by decide +kernel) (hts (.fieldLink RX13 28 "ClauseBookModel" "kind" "[I") (List.mem_of_getElem? (i := 1) rfl)) (fun _ h9 => h9) rfl dX13_clauseOf_75 ?_
      refine lv_iload_n hx hb dX13_clauseOf_78 rfl (lv_at hl 1 rfl) ?_
      refine va_iald hx hb hE.1 hP 1 0 rfl rfl (by rw [vp_in_iff]; first | omega | (subst_vars; omega)) dX13_clauseOf_79 ?_
      refine lv_topi (fun z_13 ez_13 => ?_)
      have hkz_13 : 0 ≤ z_13.toInt ∧ z_13.toInt ≤ 12 := by rw [ez_13]; exact (hokR _ (in24 (x := x1) (by omega)).1).1
      have hcz_13 : 1 ≤ (nmT (z_13.toNatClampNeg)).toInt → 0 ≤ (f10 (x1.toNatClampNeg)).toInt ∧ (f10 (x1.toNatClampNeg)).toInt < x1.toInt := by
        rw [ez_13]
        intro h1
        have h := (hokR _ (in24 (x := x1) (by omega)).1).2.1 h1
        have h2 := (in24 (x := x1) (by omega)).2
        omega
      have hdz_13 : (nmT (z_13.toNatClampNeg)).toInt = 2 → 0 ≤ (f11 (x1.toNatClampNeg)).toInt ∧ (f11 (x1.toNatClampNeg)).toInt < x1.toInt := by
        rw [ez_13]
        intro h1
        have h := (hokR _ (in24 (x := x1) (by omega)).1).2.2 h1
        have h2 := (in24 (x := x1) (by omega)).2
        omega
      refine vp_callSi (W.runS (As := [.int z_13]) (rest := []) ⟨hx, hb, hml, hown, hts⟩ (c_X13_names l D T z_13 (by omega)) (va_cwS 1 hts gX13_clauseOf_X13_names rfl rfl rfl hs_X13_names ⟨Nat.le_of_ble_eq_true rfl, Nat.le_of_ble_eq_true rfl⟩) (pR_S hP hE [] rfl) rfl rfl hl.1 rfl (lv_room (Nat.le_of_ble_eq_true rfl)) dX13_clauseOf_80 ⟨Nat.le_of_ble_eq_true rfl, Nat.le_of_ble_eq_true rfl⟩) (fun r_14 hr_14 => ?_)
      refine lv_if_le (tgt := 95) hx hb dX13_clauseOf_83 (by decide +kernel) (fun c_15 => ?_) (fun c_15 => ?_)
      · rw [fa_le] at c_15
        try rw [ti_0] at c_15
        refine lv_iconst (v := (-1)) hx hb dX13_clauseOf_95 (by decide +kernel) ?_
        exact W.iret hx hb hr (fun t ht hW => ⟨⟨_, (f_5, f_6, f_7), rfl, (show clOR (q 7) x1 (2 : Int32) ((-1) : Int32) f8 f9 f10 f11 from (Or.inr ⟨_, _, _, hMEr, (Or.inr ⟨(by omega), (Or.inr (Or.inr (Or.inl ⟨(by decide +kernel), (by exact (if_neg (by rw [← ez_13]; omega)).symm)⟩)))⟩)⟩)), by rw [ht]; exact hP.sub [0, 1, 2, 3, 4, 5, 6, 7] rfl, hD.sub [0, 1, 2, 3, 4, 5, 6, 7] (by decide +kernel) rfl⟩, hS.F ht⟩) hS.2.2 dX13_clauseOf_96
      · rw [fa_le] at c_15
        try rw [ti_0] at c_15
        refine lv_aload_n hx hb dX13_clauseOf_86 rfl (lv_at hl 0 rfl) ?_
        refine va_get (D := D) (ci := 10) (v := .ref (a 10)) (C := RX13) (T := TX13) (N := 45) hx hb hts in_X13_clauseOf_X13 hown hE.1 hP 0 rfl rfl 10 (by decide +kernel) (hts (.fieldLink RX13 35 "ClauseBookModel" "one" "[I") (List.mem_of_getElem? (i := 3) rfl)) (fun _ h9 => h9) rfl dX13_clauseOf_87 ?_
        refine lv_iload_n hx hb dX13_clauseOf_90 rfl (lv_at hl 1 rfl) ?_
        refine va_iald hx hb hE.1 hP 3 0 rfl rfl (by rw [vp_in_iff]; first | omega | (subst_vars; omega)) dX13_clauseOf_91 ?_
        refine lv_topi (fun z_16 ez_16 => ?_)
        refine lv_goto (tgt := 96) hx hb dX13_clauseOf_92 (by decide +kernel) ?_
        exact W.iret hx hb hr (fun t ht hW => ⟨⟨_, (f_5, f_6, f_7), rfl, (show clOR (q 7) x1 (2 : Int32) z_16 f8 f9 f10 f11 from (Or.inr ⟨_, _, _, hMEr, (Or.inr ⟨(by omega), (Or.inr (Or.inr (Or.inl ⟨(by decide +kernel), (by exact ez_16.trans (if_pos (by rw [← ez_13]; omega)).symm)⟩)))⟩)⟩)), by rw [ht]; exact hP.sub [0, 1, 2, 3, 4, 5, 6, 7] rfl, hD.sub [0, 1, 2, 3, 4, 5, 6, 7] (by decide +kernel) rfl⟩, hS.F ht⟩) hS.2.2 dX13_clauseOf_96
    by_cases k_17 : x2 = 3
    · subst k_17
      refine lv_tableIn (off := 81) (tgt := 97) hx hb dX13_clauseOf_16 (by decide +kernel) (by decide +kernel) (by decide +kernel) (by decide +kernel) ?_
      refine lv_aload_n hx hb dX13_clauseOf_97 rfl (lv_at hl 0 rfl) ?_
      refine va_get (D := D) (ci := 10) (v := .ref (a 8)) (C := RX13) (T := TX13) (N := 45) hx hb hts in_X13_clauseOf_X13 hown hE.1 hP 0 rfl rfl 8 (by decide +kernel) (hts (.fieldLink RX13 28 "ClauseBookModel" "kind" "[I") (List.mem_of_getElem? (i := 1) rfl)) (fun _ h9 => h9) rfl dX13_clauseOf_98 ?_
      refine lv_iload_n hx hb dX13_clauseOf_101 rfl (lv_at hl 1 rfl) ?_
      refine va_iald hx hb hE.1 hP 1 0 rfl rfl (by rw [vp_in_iff]; first | omega | (subst_vars; omega)) dX13_clauseOf_102 ?_
      refine lv_topi (fun z_18 ez_18 => ?_)
      have hkz_18 : 0 ≤ z_18.toInt ∧ z_18.toInt ≤ 12 := by rw [ez_18]; exact (hokR _ (in24 (x := x1) (by omega)).1).1
      have hcz_18 : 1 ≤ (nmT (z_18.toNatClampNeg)).toInt → 0 ≤ (f10 (x1.toNatClampNeg)).toInt ∧ (f10 (x1.toNatClampNeg)).toInt < x1.toInt := by
        rw [ez_18]
        intro h1
        have h := (hokR _ (in24 (x := x1) (by omega)).1).2.1 h1
        have h2 := (in24 (x := x1) (by omega)).2
        omega
      have hdz_18 : (nmT (z_18.toNatClampNeg)).toInt = 2 → 0 ≤ (f11 (x1.toNatClampNeg)).toInt ∧ (f11 (x1.toNatClampNeg)).toInt < x1.toInt := by
        rw [ez_18]
        intro h1
        have h := (hokR _ (in24 (x := x1) (by omega)).1).2.2 h1
        have h2 := (in24 (x := x1) (by omega)).2
        omega
      refine vp_callSi (W.runS (As := [.int z_18]) (rest := []) ⟨hx, hb, hml, hown, hts⟩ (c_X13_names l D T z_18 (by omega)) (va_cwS 1 hts gX13_clauseOf_X13_names rfl rfl rfl hs_X13_names ⟨Nat.le_of_ble_eq_true rfl, Nat.le_of_ble_eq_true rfl⟩) (pR_S hP hE [] rfl) rfl rfl hl.1 rfl (lv_room (Nat.le_of_ble_eq_true rfl)) dX13_clauseOf_103 ⟨Nat.le_of_ble_eq_true rfl, Nat.le_of_ble_eq_true rfl⟩) (fun r_19 hr_19 => ?_)
      refine lv_iconst (v := 1) hx hb dX13_clauseOf_106 (by decide +kernel) ?_
      refine lv_icmp_le (tgt := 119) hx hb dX13_clauseOf_107 (by decide +kernel) (fun c_20 => ?_) (fun c_20 => ?_)
      · rw [fa_le] at c_20
        try rw [ti_1] at c_20
        refine lv_iconst (v := (-1)) hx hb dX13_clauseOf_119 (by decide +kernel) ?_
        exact W.iret hx hb hr (fun t ht hW => ⟨⟨_, (f_5, f_6, f_7), rfl, (show clOR (q 7) x1 (3 : Int32) ((-1) : Int32) f8 f9 f10 f11 from (Or.inr ⟨_, _, _, hMEr, (Or.inr ⟨(by omega), (Or.inr (Or.inr (Or.inr (Or.inl ⟨(by decide +kernel), (by exact (if_neg (by rw [← ez_18]; omega)).symm)⟩))))⟩)⟩)), by rw [ht]; exact hP.sub [0, 1, 2, 3, 4, 5, 6, 7] rfl, hD.sub [0, 1, 2, 3, 4, 5, 6, 7] (by decide +kernel) rfl⟩, hS.F ht⟩) hS.2.2 dX13_clauseOf_120
      · rw [fa_le] at c_20
        try rw [ti_1] at c_20
        refine lv_aload_n hx hb dX13_clauseOf_110 rfl (lv_at hl 0 rfl) ?_
        refine va_get (D := D) (ci := 10) (v := .ref (a 11)) (C := RX13) (T := TX13) (N := 45) hx hb hts in_X13_clauseOf_X13 hown hE.1 hP 0 rfl rfl 11 (by decide +kernel) (hts (.fieldLink RX13 38 "ClauseBookModel" "two" "[I") (List.mem_of_getElem? (i := 4) rfl)) (fun _ h9 => h9) rfl dX13_clauseOf_111 ?_
        refine lv_iload_n hx hb dX13_clauseOf_114 rfl (lv_at hl 1 rfl) ?_
        refine va_iald hx hb hE.1 hP 4 0 rfl rfl (by rw [vp_in_iff]; first | omega | (subst_vars; omega)) dX13_clauseOf_115 ?_
        refine lv_topi (fun z_21 ez_21 => ?_)
        refine lv_goto (tgt := 120) hx hb dX13_clauseOf_116 (by decide +kernel) ?_
        exact W.iret hx hb hr (fun t ht hW => ⟨⟨_, (f_5, f_6, f_7), rfl, (show clOR (q 7) x1 (3 : Int32) z_21 f8 f9 f10 f11 from (Or.inr ⟨_, _, _, hMEr, (Or.inr ⟨(by omega), (Or.inr (Or.inr (Or.inr (Or.inl ⟨(by decide +kernel), (by exact ez_21.trans (if_pos (by rw [← ez_18]; omega)).symm)⟩))))⟩)⟩)), by rw [ht]; exact hP.sub [0, 1, 2, 3, 4, 5, 6, 7] rfl, hD.sub [0, 1, 2, 3, 4, 5, 6, 7] (by decide +kernel) rfl⟩, hS.F ht⟩) hS.2.2 dX13_clauseOf_120
    by_cases k_22 : x2 = 4
    · subst k_22
      refine lv_tableIn (off := 105) (tgt := 121) hx hb dX13_clauseOf_16 (by decide +kernel) (by decide +kernel) (by decide +kernel) (by decide +kernel) ?_
      refine lv_aload_n hx hb dX13_clauseOf_121 rfl (lv_at hl 0 rfl) ?_
      refine va_get (D := D) (ci := 10) (v := .ref (a 17)) (C := RX13) (T := TX13) (N := 45) hx hb hts in_X13_clauseOf_X13 hown hE.1 hP 0 rfl rfl 17 (by decide +kernel) (hts (.fieldLink RX13 47 "ClauseBookModel" "end" "[I") (List.mem_of_getElem? (i := 5) rfl)) (fun _ h9 => h9) rfl dX13_clauseOf_122 ?_
      refine lv_iload_n hx hb dX13_clauseOf_125 rfl (lv_at hl 1 rfl) ?_
      refine va_iald hx hb hE.1 hP 5 0 rfl rfl (by rw [vp_in_iff]; first | omega | (subst_vars; omega)) dX13_clauseOf_126 ?_
      refine lv_topi (fun z_23 ez_23 => ?_)
      exact W.iret hx hb hr (fun t ht hW => ⟨⟨_, (f_5, f_6, f_7), rfl, (show clOR (q 7) x1 (4 : Int32) z_23 f8 f9 f10 f11 from (Or.inr ⟨_, _, _, hMEr, (Or.inr ⟨(by omega), (Or.inr (Or.inr (Or.inr (Or.inr (Or.inl ⟨(by decide +kernel), ez_23⟩)))))⟩)⟩)), by rw [ht]; exact hP.sub [0, 1, 2, 3, 4, 5, 6, 7] rfl, hD.sub [0, 1, 2, 3, 4, 5, 6, 7] (by decide +kernel) rfl⟩, hS.F ht⟩) hS.2.2 dX13_clauseOf_127
    by_cases k_24 : x2 = 5
    · subst k_24
      refine lv_tableIn (off := 112) (tgt := 128) hx hb dX13_clauseOf_16 (by decide +kernel) (by decide +kernel) (by decide +kernel) (by decide +kernel) ?_
      refine lv_aload_n hx hb dX13_clauseOf_128 rfl (lv_at hl 0 rfl) ?_
      refine va_get (D := D) (ci := 10) (v := .ref (a 18)) (C := RX13) (T := TX13) (N := 45) hx hb hts in_X13_clauseOf_X13 hown hE.1 hP 0 rfl rfl 18 (by decide +kernel) (hts (.fieldLink RX13 50 "ClauseBookModel" "parts" "[I") (List.mem_of_getElem? (i := 6) rfl)) (fun _ h9 => h9) rfl dX13_clauseOf_129 ?_
      refine lv_iload_n hx hb dX13_clauseOf_132 rfl (lv_at hl 1 rfl) ?_
      refine va_iald hx hb hE.1 hP 6 0 rfl rfl (by rw [vp_in_iff]; first | omega | (subst_vars; omega)) dX13_clauseOf_133 ?_
      refine lv_topi (fun z_25 ez_25 => ?_)
      exact W.iret hx hb hr (fun t ht hW => ⟨⟨_, (f_5, f_6, f_7), rfl, (show clOR (q 7) x1 (5 : Int32) z_25 f8 f9 f10 f11 from (Or.inr ⟨_, _, _, hMEr, (Or.inr ⟨(by omega), (Or.inr (Or.inr (Or.inr (Or.inr (Or.inr (Or.inl ⟨(by decide +kernel), ez_25⟩))))))⟩)⟩)), by rw [ht]; exact hP.sub [0, 1, 2, 3, 4, 5, 6, 7] rfl, hD.sub [0, 1, 2, 3, 4, 5, 6, 7] (by decide +kernel) rfl⟩, hS.F ht⟩) hS.2.2 dX13_clauseOf_134
    by_cases k_26 : x2 = 6
    · subst k_26
      refine lv_tableIn (off := 119) (tgt := 135) hx hb dX13_clauseOf_16 (by decide +kernel) (by decide +kernel) (by decide +kernel) (by decide +kernel) ?_
      refine lv_aload_n hx hb dX13_clauseOf_135 rfl (lv_at hl 0 rfl) ?_
      refine va_get (D := D) (ci := 10) (v := .ref (a 19)) (C := RX13) (T := TX13) (N := 45) hx hb hts in_X13_clauseOf_X13 hown hE.1 hP 0 rfl rfl 19 (by decide +kernel) (hts (.fieldLink RX13 53 "ClauseBookModel" "deep" "[I") (List.mem_of_getElem? (i := 7) rfl)) (fun _ h9 => h9) rfl dX13_clauseOf_136 ?_
      refine lv_iload_n hx hb dX13_clauseOf_139 rfl (lv_at hl 1 rfl) ?_
      refine va_iald hx hb hE.1 hP 7 0 rfl rfl (by rw [vp_in_iff]; first | omega | (subst_vars; omega)) dX13_clauseOf_140 ?_
      refine lv_topi (fun z_27 ez_27 => ?_)
      exact W.iret hx hb hr (fun t ht hW => ⟨⟨_, (f_5, f_6, f_7), rfl, (show clOR (q 7) x1 (6 : Int32) z_27 f8 f9 f10 f11 from (Or.inr ⟨_, _, _, hMEr, (Or.inr ⟨(by omega), (Or.inr (Or.inr (Or.inr (Or.inr (Or.inr (Or.inr (Or.inl ⟨(by decide +kernel), ez_27⟩)))))))⟩)⟩)), by rw [ht]; exact hP.sub [0, 1, 2, 3, 4, 5, 6, 7] rfl, hD.sub [0, 1, 2, 3, 4, 5, 6, 7] (by decide +kernel) rfl⟩, hS.F ht⟩) hS.2.2 dX13_clauseOf_141
    rw [fa_eq] at k_8 k_10 k_12 k_17 k_22 k_24 k_26
    try simp only [ti_0, ti_1, ti_2, ti_3, ti_4, ti_5, ti_6] at k_8 k_10 k_12 k_17 k_22 k_24 k_26
    refine lv_tableOut (tgt := 142) hx hb dX13_clauseOf_16 (by omega) (by decide +kernel) ?_
    refine lv_bipush (v := (-2)) hx hb dX13_clauseOf_142 (by decide +kernel) ?_
    exact W.iret hx hb hr (fun t ht hW => ⟨⟨_, (f_5, f_6, f_7), rfl, (show clOR (q 7) x1 x2 ((-2) : Int32) f8 f9 f10 f11 from (Or.inr ⟨_, _, _, hMEr, (Or.inr ⟨(by omega), (Or.inr (Or.inr (Or.inr (Or.inr (Or.inr (Or.inr (Or.inr (⟨(by omega), (by decide +kernel)⟩))))))))⟩)⟩)), by rw [ht]; exact hP.sub [0, 1, 2, 3, 4, 5, 6, 7] rfl, hD.sub [0, 1, 2, 3, 4, 5, 6, 7] (by decide +kernel) rfl⟩, hS.F ht⟩) hS.2.2 dX13_clauseOf_144
  · refine lv_if_ne (tgt := 11) hx hb dX13_clauseOf_5 (by decide +kernel) (fun c9 => absurd c9 (by decide +kernel)) (fun _ => ?_)
    refine lv_bipush (v := (-2)) hx hb dX13_clauseOf_8 (by decide +kernel) ?_
    exact W.iret hx hb hr (fun t ht hW => ⟨⟨_, (f17, f18, f19), rfl, (show clOR (q 7) x1 x2 ((-2) : Int32) f8 f9 f10 f11 from (Or.inl ⟨by omega, by decide⟩)), by rw [ht]; exact hP.sub [0, 1, 2, 3, 4, 5, 6, 7] rfl, hD.sub [0, 1, 2, 3, 4, 5, 6, 7] (by decide +kernel) rfl⟩, hS.F ht⟩) hS.2.2 dX13_clauseOf_10
theorem dX13_start_0 : decode cX13_start 0 = .ok (.iload_n 1, 1) := by decide +kernel
theorem dX13_start_1 : decode cX13_start 1 = .ok (.i2l, 1) := by decide +kernel
theorem dX13_start_11 : decode cX13_start 11 = .ok (.ifCond .eq 27, 3) := by decide +kernel
theorem dX13_start_14 : decode cX13_start 14 = .ok (.iload_n 2, 1) := by decide +kernel
theorem dX13_start_15 : decode cX13_start 15 = .ok (.i2l, 1) := by decide +kernel
theorem dX13_start_16 : decode cX13_start 16 = .ok (.lconst 0, 1) := by decide +kernel
theorem dX13_start_17 : decode cX13_start 17 = .ok (.ldc2_w 179, 3) := by decide +kernel
theorem dX13_start_2 : decode cX13_start 2 = .ok (.ldc2_w 171, 3) := by decide +kernel
theorem dX13_start_20 : decode cX13_start 20 = .ok (.invokestatic 175, 3) := by decide +kernel
theorem dX13_start_23 : decode cX13_start 23 = .ok (.ifCond .eq 15, 3) := by decide +kernel
theorem dX13_start_26 : decode cX13_start 26 = .ok (.iload_n 3, 1) := by decide +kernel
theorem dX13_start_27 : decode cX13_start 27 = .ok (.i2l, 1) := by decide +kernel
theorem dX13_start_28 : decode cX13_start 28 = .ok (.lconst 0, 1) := by decide +kernel
theorem dX13_start_29 : decode cX13_start 29 = .ok (.ldc2_w 179, 3) := by decide +kernel
theorem dX13_start_32 : decode cX13_start 32 = .ok (.invokestatic 175, 3) := by decide +kernel
theorem dX13_start_35 : decode cX13_start 35 = .ok (.ifCond .ne 6, 3) := by decide +kernel
theorem dX13_start_38 : decode cX13_start 38 = .ok (.bipush (-2), 2) := by decide +kernel
theorem dX13_start_40 : decode cX13_start 40 = .ok (.ireturn, 1) := by decide +kernel
theorem dX13_start_41 : decode cX13_start 41 = .ok (.aload_n 0, 1) := by decide +kernel
theorem dX13_start_42 : decode cX13_start 42 = .ok (.iload_n 1, 1) := by decide +kernel
theorem dX13_start_43 : decode cX13_start 43 = .ok (.putfield 181, 3) := by decide +kernel
theorem dX13_start_46 : decode cX13_start 46 = .ok (.aload_n 0, 1) := by decide +kernel
theorem dX13_start_47 : decode cX13_start 47 = .ok (.iload_n 2, 1) := by decide +kernel
theorem dX13_start_48 : decode cX13_start 48 = .ok (.putfield 7, 3) := by decide +kernel
theorem dX13_start_5 : decode cX13_start 5 = .ok (.ldc2_w 173, 3) := by decide +kernel
theorem dX13_start_51 : decode cX13_start 51 = .ok (.aload_n 0, 1) := by decide +kernel
theorem dX13_start_52 : decode cX13_start 52 = .ok (.iload_n 3, 1) := by decide +kernel
theorem dX13_start_53 : decode cX13_start 53 = .ok (.putfield 13, 3) := by decide +kernel
theorem dX13_start_56 : decode cX13_start 56 = .ok (.iconst 1, 1) := by decide +kernel
theorem dX13_start_57 : decode cX13_start 57 = .ok (.ireturn, 1) := by decide +kernel
theorem dX13_start_8 : decode cX13_start 8 = .ok (.invokestatic 175, 3) := by decide +kernel
set_option maxRecDepth 20000 in
theorem ggX13_start_X13_in : GoodIn wsX13_start wsX13_in := goodIn_r _ [10] rfl (by decide +kernel)
set_option maxRecDepth 20000 in
theorem gX13_start_X13_in : GoodIn wsX13_start (va_wsS RX13 175 yX13_in wsX13_in) := goodIn_app (goodIn_of _ (by decide +kernel)) ggX13_start_X13_in
set_option maxRecDepth 20000 in
theorem in_X13_start_X13 : ∀ w ∈ wsX130, w ∈ wsX13_start := sub_r [11, 12, 13, 14, 15, 16, 17, 18, 19, 20, 21, 22, 23, 24, 25, 26, 27, 28, 29, 30, 31, 32, 33, 34, 35, 36, 37, 38, 39, 40, 41, 42, 43, 44, 45, 46, 47, 48, 49, 50, 51, 52, 53, 54, 55] rfl
set_option maxHeartbeats 4000000 in
set_option maxRecDepth 100000 in
theorem c_X13_start (l : Launch) (D : va_G) (T : Nat → ClassId) (sz : Nat) (h0 : Nat) (q : Nat → Int32) (v : Int64) (w : Int64) (a : Nat → Nat) (x1 : Int32) (x2 : Int32) (x3 : Int32)  : Met l yX13_start wsX13_start ({ frames := 1, cells := 0, slots := 0, locals := 25 }) (pW [.ref h0, .int x1, .int x2, .int x3] D T [(h0, .inr (10, (Value.int (q 0) :: Value.int (q 1) :: Value.int (q 2) :: Value.int (q 3) :: Value.int (q 4) :: Value.int (q 5) :: Value.int (q 6) :: Value.int (q 7) :: Value.ref (a 8) :: Value.ref (a 9) :: Value.ref (a 10) :: Value.ref (a 11) :: Value.ref (a 12) :: Value.ref (a 13) :: Value.int (q 14) :: Value.long v :: Value.long w :: Value.ref (a 17) :: Value.ref (a 18) :: Value.ref (a 19) :: Value.ref (a 20) :: Value.ref (a 21) :: Value.ref (a 22) :: Value.ref (a 23) :: Value.int (q 24) :: Value.ref (a 25) :: Value.int (q 26) :: Value.ref (a 27) :: Value.int (q 28) :: Value.int (q 29) :: Value.int (q 30) :: Value.int (q 31) :: Value.int (q 32) :: Value.int (q 33) :: Value.ref (a 34) :: Value.ref (a 35) :: Value.ref (a 36) :: Value.ref (a 37) :: Value.ref (a 38) :: Value.ref (a 39) :: Value.ref (a 40) :: Value.int (q 41) :: Value.ref (a 42) :: Value.int (q 43) :: Value.int (q 44) :: [])))] sz) (va_Qi (fun (r : Int32) (u : (Int32) × (Int32) × (Int32)) => (r = sp_start x1 x2 x3) ∧ ((r = 1 → u.1 = x1 ∧ u.2.1 = x2 ∧ u.2.2 = x3) ∧ (¬ r = 1 → u.1 = (q 0) ∧ u.2.1 = (q 1) ∧ u.2.2 = (q 2)))) (bW D (va_A [(h0, .inr (10, (Value.int (q 0) :: Value.int (q 1) :: Value.int (q 2) :: Value.int (q 3) :: Value.int (q 4) :: Value.int (q 5) :: Value.int (q 6) :: Value.int (q 7) :: Value.ref (a 8) :: Value.ref (a 9) :: Value.ref (a 10) :: Value.ref (a 11) :: Value.ref (a 12) :: Value.ref (a 13) :: Value.int (q 14) :: Value.long v :: Value.long w :: Value.ref (a 17) :: Value.ref (a 18) :: Value.ref (a 19) :: Value.ref (a 20) :: Value.ref (a 21) :: Value.ref (a 22) :: Value.ref (a 23) :: Value.int (q 24) :: Value.ref (a 25) :: Value.int (q 26) :: Value.ref (a 27) :: Value.int (q 28) :: Value.int (q 29) :: Value.int (q 30) :: Value.int (q 31) :: Value.int (q 32) :: Value.int (q 33) :: Value.ref (a 34) :: Value.ref (a 35) :: Value.ref (a 36) :: Value.ref (a 37) :: Value.ref (a 38) :: Value.ref (a 39) :: Value.ref (a 40) :: Value.int (q 41) :: Value.ref (a 42) :: Value.int (q 43) :: Value.int (q 44) :: [])))] sz) (fun (u : (Int32) × (Int32) × (Int32)) => [(h0, .inr (10, (Value.int u.1 :: Value.int u.2.1 :: Value.int u.2.2 :: Value.int (q 3) :: Value.int (q 4) :: Value.int (q 5) :: Value.int (q 6) :: Value.int (q 7) :: Value.ref (a 8) :: Value.ref (a 9) :: Value.ref (a 10) :: Value.ref (a 11) :: Value.ref (a 12) :: Value.ref (a 13) :: Value.int (q 14) :: Value.long v :: Value.long w :: Value.ref (a 17) :: Value.ref (a 18) :: Value.ref (a 19) :: Value.ref (a 20) :: Value.ref (a 21) :: Value.ref (a 22) :: Value.ref (a 23) :: Value.int (q 24) :: Value.ref (a 25) :: Value.int (q 26) :: Value.ref (a 27) :: Value.int (q 28) :: Value.int (q 29) :: Value.int (q 30) :: Value.int (q 31) :: Value.int (q 32) :: Value.int (q 33) :: Value.ref (a 34) :: Value.ref (a 35) :: Value.ref (a 36) :: Value.ref (a 37) :: Value.ref (a 38) :: Value.ref (a 39) :: Value.ref (a 40) :: Value.int (q 41) :: Value.ref (a 42) :: Value.int (q 43) :: Value.int (q 44) :: [])))])) (va_A [(h0, .inr (10, (Value.int (q 0) :: Value.int (q 1) :: Value.int (q 2) :: Value.int (q 3) :: Value.int (q 4) :: Value.int (q 5) :: Value.int (q 6) :: Value.int (q 7) :: Value.ref (a 8) :: Value.ref (a 9) :: Value.ref (a 10) :: Value.ref (a 11) :: Value.ref (a 12) :: Value.ref (a 13) :: Value.int (q 14) :: Value.long v :: Value.long w :: Value.ref (a 17) :: Value.ref (a 18) :: Value.ref (a 19) :: Value.ref (a 20) :: Value.ref (a 21) :: Value.ref (a 22) :: Value.ref (a 23) :: Value.int (q 24) :: Value.ref (a 25) :: Value.int (q 26) :: Value.ref (a 27) :: Value.int (q 28) :: Value.int (q 29) :: Value.int (q 30) :: Value.int (q 31) :: Value.int (q 32) :: Value.int (q 33) :: Value.ref (a 34) :: Value.ref (a 35) :: Value.ref (a 36) :: Value.ref (a 37) :: Value.ref (a 38) :: Value.ref (a 39) :: Value.ref (a 40) :: Value.int (q 41) :: Value.ref (a 42) :: Value.int (q 43) :: Value.int (q 44) :: [])))] sz)) 0 0 (va_A [(h0, .inr (10, (Value.int (q 0) :: Value.int (q 1) :: Value.int (q 2) :: Value.int (q 3) :: Value.int (q 4) :: Value.int (q 5) :: Value.int (q 6) :: Value.int (q 7) :: Value.ref (a 8) :: Value.ref (a 9) :: Value.ref (a 10) :: Value.ref (a 11) :: Value.ref (a 12) :: Value.ref (a 13) :: Value.int (q 14) :: Value.long v :: Value.long w :: Value.ref (a 17) :: Value.ref (a 18) :: Value.ref (a 19) :: Value.ref (a 20) :: Value.ref (a 21) :: Value.ref (a 22) :: Value.ref (a 23) :: Value.int (q 24) :: Value.ref (a 25) :: Value.int (q 26) :: Value.ref (a 27) :: Value.int (q 28) :: Value.int (q 29) :: Value.int (q 30) :: Value.int (q 31) :: Value.int (q 32) :: Value.int (q 33) :: Value.ref (a 34) :: Value.ref (a 35) :: Value.ref (a 36) :: Value.ref (a 37) :: Value.ref (a 38) :: Value.ref (a 39) :: Value.ref (a 40) :: Value.int (q 41) :: Value.ref (a 42) :: Value.int (q 43) :: Value.int (q 44) :: [])))] sz) := by
  refine Met.ofW (cc := cX13_start) (maxL := 4) (ret := (some .int)) (by decide +kernel) rfl ?_
  intro p e s m args below meth c s₁ B hml hv
  obtain ⟨rfl, hsz, hP, hE, hD0⟩ := hv
  have hx := B.exec
  have hb := B.bytes
  have hr := B.returns
  have hts := atoms_spec (ws := wsX13_start) B.pre
  have hown : s.vm.findClass RX13 = some m.cls := findClass_of_methodNamed B.named
  have hlocks := B.notSynchronized
  subst hsz
  have hD := hD0.self (sz := s.heap.size)
  generalize hAe : va_A [(h0, .inr (10, (Value.int (q 0) :: Value.int (q 1) :: Value.int (q 2) :: Value.int (q 3) :: Value.int (q 4) :: Value.int (q 5) :: Value.int (q 6) :: Value.int (q 7) :: Value.ref (a 8) :: Value.ref (a 9) :: Value.ref (a 10) :: Value.ref (a 11) :: Value.ref (a 12) :: Value.ref (a 13) :: Value.int (q 14) :: Value.long v :: Value.long w :: Value.ref (a 17) :: Value.ref (a 18) :: Value.ref (a 19) :: Value.ref (a 20) :: Value.ref (a 21) :: Value.ref (a 22) :: Value.ref (a 23) :: Value.int (q 24) :: Value.ref (a 25) :: Value.int (q 26) :: Value.ref (a 27) :: Value.int (q 28) :: Value.int (q 29) :: Value.int (q 30) :: Value.int (q 31) :: Value.int (q 32) :: Value.int (q 33) :: Value.ref (a 34) :: Value.ref (a 35) :: Value.ref (a 36) :: Value.ref (a 37) :: Value.ref (a 38) :: Value.ref (a 39) :: Value.ref (a 40) :: Value.int (q 41) :: Value.ref (a 42) :: Value.int (q 43) :: Value.int (q 44) :: [])))] s.heap.size = A at hD ⊢
  have hA : ∀ q : Nat, s.heap.size ≤ q → A q := fun q h => by rw [← hAe]; exact Or.inr h
  have hS : va_S A s.heap s.heap [] := va_S.rf
  have hP : va_P D vwCl [(h0, .inr (10, (Value.int (q 0) :: Value.int (q 1) :: Value.int (q 2) :: Value.int (q 3) :: Value.int (q 4) :: Value.int (q 5) :: Value.int (q 6) :: Value.int (q 7) :: Value.ref (a 8) :: Value.ref (a 9) :: Value.ref (a 10) :: Value.ref (a 11) :: Value.ref (a 12) :: Value.ref (a 13) :: Value.int (q 14) :: Value.long v :: Value.long w :: Value.ref (a 17) :: Value.ref (a 18) :: Value.ref (a 19) :: Value.ref (a 20) :: Value.ref (a 21) :: Value.ref (a 22) :: Value.ref (a 23) :: Value.int (q 24) :: Value.ref (a 25) :: Value.int (q 26) :: Value.ref (a 27) :: Value.int (q 28) :: Value.int (q 29) :: Value.int (q 30) :: Value.int (q 31) :: Value.int (q 32) :: Value.int (q 33) :: Value.ref (a 34) :: Value.ref (a 35) :: Value.ref (a 36) :: Value.ref (a 37) :: Value.ref (a 38) :: Value.ref (a 39) :: Value.ref (a 40) :: Value.int (q 41) :: Value.ref (a 42) :: Value.int (q 43) :: Value.int (q 44) :: [])))] s.heap := hP
  have hl := lv_entry ([.ref h0, .int x1, .int x2, .int x3]) (n := 4) (Nat.le_of_ble_eq_true rfl)
  rw [lg_entry_eq]
  generalize (lg_sl ([.ref h0, .int x1, .int x2, .int x3]) ++ List.replicate (4 - (lg_sl ([.ref h0, .int x1, .int x2, .int x3])).length) Slot.unset).toArray = ls at hl ⊢
  have hl : lv_has ls 4 [(0, .ref h0), (1, .int x1), (2, .int x2), (3, .int x3)] := hl
  clear hD0
  refine lv_iload_n hx hb dX13_start_0 rfl (lv_at hl 1 rfl) ?_
  refine lv_i2l hx hb dX13_start_1 rfl ?_
  refine lv_ldc2 (v := (-99)) hx hb hown (hts (.constantLong RX13 171 (-99)) (List.mem_of_getElem? (i := 1) rfl)) dX13_start_2 ?_
  refine lv_ldc2 (v := 99) hx hb hown (hts (.constantLong RX13 173 (99)) (List.mem_of_getElem? (i := 2) rfl)) dX13_start_5 ?_
  refine vp_callSi (W.runS (As := [.long (x1.toInt64), .long (-99), .long 99]) (rest := []) ⟨hx, hb, hml, hown, hts⟩ (c_X13_in l D T (x1.toInt64) (-99) 99 x1.toInt (-99) 99 ((Int32.toInt_toInt64 _).trans rfl) (by decide +kernel) (by decide +kernel)) (va_cwS 3 hts gX13_start_X13_in rfl rfl rfl hs_X13_in ⟨Nat.le_of_ble_eq_true rfl, Nat.le_of_ble_eq_true rfl⟩) (pR_S hP hE [] rfl) rfl rfl hl.1 rfl (lv_room (Nat.le_of_ble_eq_true rfl)) dX13_start_8 ⟨Nat.le_of_ble_eq_true rfl, Nat.le_of_ble_eq_true rfl⟩) (fun r_1 hr_1 => ?_)
  rcases bool_post hr_1 with ⟨c_2, rfl⟩ | ⟨c_2, rfl⟩
  · refine lv_if_eq (tgt := 38) hx hb dX13_start_11 (by decide +kernel) (fun c9 => absurd c9 (by decide +kernel)) (fun _ => ?_)
    refine lv_iload_n hx hb dX13_start_14 rfl (lv_at hl 2 rfl) ?_
    refine lv_i2l hx hb dX13_start_15 rfl ?_
    refine lv_lconst (v := 0) hx hb dX13_start_16 (by decide +kernel) ?_
    refine lv_ldc2 (v := 9) hx hb hown (hts (.constantLong RX13 179 (9)) (List.mem_of_getElem? (i := 3) rfl)) dX13_start_17 ?_
    refine vp_callSi (W.runS (As := [.long (x2.toInt64), .long 0, .long 9]) (rest := []) ⟨hx, hb, hml, hown, hts⟩ (c_X13_in l D T (x2.toInt64) 0 9 x2.toInt 0 9 ((Int32.toInt_toInt64 _).trans rfl) (by decide +kernel) (by decide +kernel)) (va_cwS 3 hts gX13_start_X13_in rfl rfl rfl hs_X13_in ⟨Nat.le_of_ble_eq_true rfl, Nat.le_of_ble_eq_true rfl⟩) (pR_S hP hE [] rfl) rfl rfl hl.1 rfl (lv_room (Nat.le_of_ble_eq_true rfl)) dX13_start_20 ⟨Nat.le_of_ble_eq_true rfl, Nat.le_of_ble_eq_true rfl⟩) (fun r_3 hr_3 => ?_)
    rcases bool_post hr_3 with ⟨c_4, rfl⟩ | ⟨c_4, rfl⟩
    · refine lv_if_eq (tgt := 38) hx hb dX13_start_23 (by decide +kernel) (fun c9 => absurd c9 (by decide +kernel)) (fun _ => ?_)
      refine lv_iload_n hx hb dX13_start_26 rfl (lv_at hl 3 rfl) ?_
      refine lv_i2l hx hb dX13_start_27 rfl ?_
      refine lv_lconst (v := 0) hx hb dX13_start_28 (by decide +kernel) ?_
      refine lv_ldc2 (v := 9) hx hb hown (hts (.constantLong RX13 179 (9)) (List.mem_of_getElem? (i := 3) rfl)) dX13_start_29 ?_
      refine vp_callSi (W.runS (As := [.long (x3.toInt64), .long 0, .long 9]) (rest := []) ⟨hx, hb, hml, hown, hts⟩ (c_X13_in l D T (x3.toInt64) 0 9 x3.toInt 0 9 ((Int32.toInt_toInt64 _).trans rfl) (by decide +kernel) (by decide +kernel)) (va_cwS 3 hts gX13_start_X13_in rfl rfl rfl hs_X13_in ⟨Nat.le_of_ble_eq_true rfl, Nat.le_of_ble_eq_true rfl⟩) (pR_S hP hE [] rfl) rfl rfl hl.1 rfl (lv_room (Nat.le_of_ble_eq_true rfl)) dX13_start_32 ⟨Nat.le_of_ble_eq_true rfl, Nat.le_of_ble_eq_true rfl⟩) (fun r_5 hr_5 => ?_)
      rcases bool_post hr_5 with ⟨c_6, rfl⟩ | ⟨c_6, rfl⟩
      · refine lv_if_ne (tgt := 41) hx hb dX13_start_35 (by decide +kernel) (fun _ => ?_) (fun c9 => absurd c9 (by decide +kernel))
        refine lv_aload_n hx hb dX13_start_41 rfl (lv_at hl 0 rfl) ?_
        refine lv_iload_n hx hb dX13_start_42 rfl (lv_at hl 1 rfl) ?_
        refine va_put (D := D) (ci := 10) (v := .int x1) (ty := .int) (C := RX13) (T := TX13) (N := 45) hx hb hts in_X13_start_X13 tyX13 tyX13_ok nmX13 hown hE.1 hP hD hS 0 rfl rfl 0 (by decide +kernel) (hts (.fieldLink RX13 181 "ClauseBookModel" "start" "I") (List.mem_of_getElem? (i := 4) rfl)) (fun _ h9 => h9) rfl (by decide +kernel) rfl rfl (Nat.le_of_ble_eq_true rfl) dX13_start_43 (fun H locs hP hD hS => ?_)
        obtain ⟨hP, hD⟩ := wPD [(h0, .inr (10, (Value.int x1 :: Value.int (q 1) :: Value.int (q 2) :: Value.int (q 3) :: Value.int (q 4) :: Value.int (q 5) :: Value.int (q 6) :: Value.int (q 7) :: Value.ref (a 8) :: Value.ref (a 9) :: Value.ref (a 10) :: Value.ref (a 11) :: Value.ref (a 12) :: Value.ref (a 13) :: Value.int (q 14) :: Value.long v :: Value.long w :: Value.ref (a 17) :: Value.ref (a 18) :: Value.ref (a 19) :: Value.ref (a 20) :: Value.ref (a 21) :: Value.ref (a 22) :: Value.ref (a 23) :: Value.int (q 24) :: Value.ref (a 25) :: Value.int (q 26) :: Value.ref (a 27) :: Value.int (q 28) :: Value.int (q 29) :: Value.int (q 30) :: Value.int (q 31) :: Value.int (q 32) :: Value.int (q 33) :: Value.ref (a 34) :: Value.ref (a 35) :: Value.ref (a 36) :: Value.ref (a 37) :: Value.ref (a 38) :: Value.ref (a 39) :: Value.ref (a 40) :: Value.int (q 41) :: Value.ref (a 42) :: Value.int (q 43) :: Value.int (q 44) :: [])))] hP hD rfl
        refine lv_aload_n hx hb dX13_start_46 rfl (lv_at hl 0 rfl) ?_
        refine lv_iload_n hx hb dX13_start_47 rfl (lv_at hl 2 rfl) ?_
        refine va_put (D := D) (ci := 10) (v := .int x2) (ty := .int) (C := RX13) (T := TX13) (N := 45) hx hb hts in_X13_start_X13 tyX13 tyX13_ok nmX13 hown hE.1 hP hD hS 0 rfl rfl 1 (by decide +kernel) (hts (.fieldLink RX13 7 "ClauseBookModel" "up" "I") (List.mem_of_getElem? (i := 5) rfl)) (fun _ h9 => h9) rfl (by decide +kernel) rfl rfl (Nat.le_of_ble_eq_true rfl) dX13_start_48 (fun H locs hP hD hS => ?_)
        obtain ⟨hP, hD⟩ := wPD [(h0, .inr (10, (Value.int x1 :: Value.int x2 :: Value.int (q 2) :: Value.int (q 3) :: Value.int (q 4) :: Value.int (q 5) :: Value.int (q 6) :: Value.int (q 7) :: Value.ref (a 8) :: Value.ref (a 9) :: Value.ref (a 10) :: Value.ref (a 11) :: Value.ref (a 12) :: Value.ref (a 13) :: Value.int (q 14) :: Value.long v :: Value.long w :: Value.ref (a 17) :: Value.ref (a 18) :: Value.ref (a 19) :: Value.ref (a 20) :: Value.ref (a 21) :: Value.ref (a 22) :: Value.ref (a 23) :: Value.int (q 24) :: Value.ref (a 25) :: Value.int (q 26) :: Value.ref (a 27) :: Value.int (q 28) :: Value.int (q 29) :: Value.int (q 30) :: Value.int (q 31) :: Value.int (q 32) :: Value.int (q 33) :: Value.ref (a 34) :: Value.ref (a 35) :: Value.ref (a 36) :: Value.ref (a 37) :: Value.ref (a 38) :: Value.ref (a 39) :: Value.ref (a 40) :: Value.int (q 41) :: Value.ref (a 42) :: Value.int (q 43) :: Value.int (q 44) :: [])))] hP hD rfl
        refine lv_aload_n hx hb dX13_start_51 rfl (lv_at hl 0 rfl) ?_
        refine lv_iload_n hx hb dX13_start_52 rfl (lv_at hl 3 rfl) ?_
        refine va_put (D := D) (ci := 10) (v := .int x3) (ty := .int) (C := RX13) (T := TX13) (N := 45) hx hb hts in_X13_start_X13 tyX13 tyX13_ok nmX13 hown hE.1 hP hD hS 0 rfl rfl 2 (by decide +kernel) (hts (.fieldLink RX13 13 "ClauseBookModel" "down" "I") (List.mem_of_getElem? (i := 6) rfl)) (fun _ h9 => h9) rfl (by decide +kernel) rfl rfl (Nat.le_of_ble_eq_true rfl) dX13_start_53 (fun H locs hP hD hS => ?_)
        obtain ⟨hP, hD⟩ := wPD [(h0, .inr (10, (Value.int x1 :: Value.int x2 :: Value.int x3 :: Value.int (q 3) :: Value.int (q 4) :: Value.int (q 5) :: Value.int (q 6) :: Value.int (q 7) :: Value.ref (a 8) :: Value.ref (a 9) :: Value.ref (a 10) :: Value.ref (a 11) :: Value.ref (a 12) :: Value.ref (a 13) :: Value.int (q 14) :: Value.long v :: Value.long w :: Value.ref (a 17) :: Value.ref (a 18) :: Value.ref (a 19) :: Value.ref (a 20) :: Value.ref (a 21) :: Value.ref (a 22) :: Value.ref (a 23) :: Value.int (q 24) :: Value.ref (a 25) :: Value.int (q 26) :: Value.ref (a 27) :: Value.int (q 28) :: Value.int (q 29) :: Value.int (q 30) :: Value.int (q 31) :: Value.int (q 32) :: Value.int (q 33) :: Value.ref (a 34) :: Value.ref (a 35) :: Value.ref (a 36) :: Value.ref (a 37) :: Value.ref (a 38) :: Value.ref (a 39) :: Value.ref (a 40) :: Value.int (q 41) :: Value.ref (a 42) :: Value.int (q 43) :: Value.int (q 44) :: [])))] hP hD rfl
        refine lv_iconst (v := 1) hx hb dX13_start_56 (by decide +kernel) ?_
        exact W.iret hx hb hr (fun t ht hW => ⟨⟨_, (x1, x2, x3), rfl, ⟨(show (1 : Int32) = sp_start x1 x2 x3 from (by first | decide | (unfold sp_start; (repeat' split) <;> first | rfl | (exfalso; omega)))), (show ((1 : Int32) = 1 → x1 = x1 ∧ x2 = x2 ∧ x3 = x3) ∧ (¬ (1 : Int32) = 1 → x1 = (q 0) ∧ x2 = (q 1) ∧ x3 = (q 2)) from ⟨(fun _ => ⟨rfl, rfl, rfl⟩), (fun h => absurd rfl h)⟩)⟩, by rw [ht]; exact hP.sub [0] rfl, hD.sub [0] (by decide +kernel) rfl⟩, hS.F ht⟩) hS.2.2 dX13_start_57
      · refine lv_if_ne (tgt := 41) hx hb dX13_start_35 (by decide +kernel) (fun c9 => absurd c9 (by decide +kernel)) (fun _ => ?_)
        refine lv_bipush (v := (-2)) hx hb dX13_start_38 (by decide +kernel) ?_
        exact W.iret hx hb hr (fun t ht hW => ⟨⟨_, ((q 0), (q 1), (q 2)), rfl, ⟨(show ((-2) : Int32) = sp_start x1 x2 x3 from (by first | decide | (unfold sp_start; (repeat' split) <;> first | rfl | (exfalso; omega)))), (show (((-2) : Int32) = 1 → (q 0) = x1 ∧ (q 1) = x2 ∧ (q 2) = x3) ∧ (¬ ((-2) : Int32) = 1 → (q 0) = (q 0) ∧ (q 1) = (q 1) ∧ (q 2) = (q 2)) from ⟨(fun h => absurd h (by decide +kernel)), (fun _ => ⟨rfl, rfl, rfl⟩)⟩)⟩, by rw [ht]; exact hP.sub [0] rfl, hD.sub [0] (by decide +kernel) rfl⟩, hS.F ht⟩) hS.2.2 dX13_start_40
    · refine lv_if_eq (tgt := 38) hx hb dX13_start_23 (by decide +kernel) (fun _ => ?_) (fun c9 => absurd c9 (by decide +kernel))
      refine lv_bipush (v := (-2)) hx hb dX13_start_38 (by decide +kernel) ?_
      exact W.iret hx hb hr (fun t ht hW => ⟨⟨_, ((q 0), (q 1), (q 2)), rfl, ⟨(show ((-2) : Int32) = sp_start x1 x2 x3 from (by first | decide | (unfold sp_start; (repeat' split) <;> first | rfl | (exfalso; omega)))), (show (((-2) : Int32) = 1 → (q 0) = x1 ∧ (q 1) = x2 ∧ (q 2) = x3) ∧ (¬ ((-2) : Int32) = 1 → (q 0) = (q 0) ∧ (q 1) = (q 1) ∧ (q 2) = (q 2)) from ⟨(fun h => absurd h (by decide +kernel)), (fun _ => ⟨rfl, rfl, rfl⟩)⟩)⟩, by rw [ht]; exact hP.sub [0] rfl, hD.sub [0] (by decide +kernel) rfl⟩, hS.F ht⟩) hS.2.2 dX13_start_40
  · refine lv_if_eq (tgt := 38) hx hb dX13_start_11 (by decide +kernel) (fun _ => ?_) (fun c9 => absurd c9 (by decide +kernel))
    refine lv_bipush (v := (-2)) hx hb dX13_start_38 (by decide +kernel) ?_
    exact W.iret hx hb hr (fun t ht hW => ⟨⟨_, ((q 0), (q 1), (q 2)), rfl, ⟨(show ((-2) : Int32) = sp_start x1 x2 x3 from (by first | decide | (unfold sp_start; (repeat' split) <;> first | rfl | (exfalso; omega)))), (show (((-2) : Int32) = 1 → (q 0) = x1 ∧ (q 1) = x2 ∧ (q 2) = x3) ∧ (¬ ((-2) : Int32) = 1 → (q 0) = (q 0) ∧ (q 1) = (q 1) ∧ (q 2) = (q 2)) from ⟨(fun h => absurd h (by decide +kernel)), (fun _ => ⟨rfl, rfl, rfl⟩)⟩)⟩, by rw [ht]; exact hP.sub [0] rfl, hD.sub [0] (by decide +kernel) rfl⟩, hS.F ht⟩) hS.2.2 dX13_start_40
theorem dX13_odds_0 : decode cX13_odds 0 = .ok (.iload_n 2, 1) := by decide +kernel
theorem dX13_odds_1 : decode cX13_odds 1 = .ok (.i2l, 1) := by decide +kernel
theorem dX13_odds_11 : decode cX13_odds 11 = .ok (.ifCond .eq 14, 3) := by decide +kernel
theorem dX13_odds_14 : decode cX13_odds 14 = .ok (.iload_n 1, 1) := by decide +kernel
theorem dX13_odds_15 : decode cX13_odds 15 = .ok (.i2l, 1) := by decide +kernel
theorem dX13_odds_16 : decode cX13_odds 16 = .ok (.lconst 0, 1) := by decide +kernel
theorem dX13_odds_17 : decode cX13_odds 17 = .ok (.iload_n 2, 1) := by decide +kernel
theorem dX13_odds_18 : decode cX13_odds 18 = .ok (.i2l, 1) := by decide +kernel
theorem dX13_odds_19 : decode cX13_odds 19 = .ok (.invokestatic 175, 3) := by decide +kernel
theorem dX13_odds_2 : decode cX13_odds 2 = .ok (.ldc2_w 184, 3) := by decide +kernel
theorem dX13_odds_22 : decode cX13_odds 22 = .ok (.ifCond .ne 6, 3) := by decide +kernel
theorem dX13_odds_25 : decode cX13_odds 25 = .ok (.bipush (-2), 2) := by decide +kernel
theorem dX13_odds_27 : decode cX13_odds 27 = .ok (.ireturn, 1) := by decide +kernel
theorem dX13_odds_28 : decode cX13_odds 28 = .ok (.aload_n 0, 1) := by decide +kernel
theorem dX13_odds_29 : decode cX13_odds 29 = .ok (.iload_n 1, 1) := by decide +kernel
theorem dX13_odds_30 : decode cX13_odds 30 = .ok (.putfield 16, 3) := by decide +kernel
theorem dX13_odds_33 : decode cX13_odds 33 = .ok (.aload_n 0, 1) := by decide +kernel
theorem dX13_odds_34 : decode cX13_odds 34 = .ok (.iload_n 2, 1) := by decide +kernel
theorem dX13_odds_35 : decode cX13_odds 35 = .ok (.putfield 19, 3) := by decide +kernel
theorem dX13_odds_38 : decode cX13_odds 38 = .ok (.iconst 1, 1) := by decide +kernel
theorem dX13_odds_39 : decode cX13_odds 39 = .ok (.ireturn, 1) := by decide +kernel
theorem dX13_odds_5 : decode cX13_odds 5 = .ok (.ldc2_w 179, 3) := by decide +kernel
theorem dX13_odds_8 : decode cX13_odds 8 = .ok (.invokestatic 175, 3) := by decide +kernel
set_option maxRecDepth 20000 in
theorem ggX13_odds_X13_in : GoodIn wsX13_odds wsX13_in := goodIn_r _ [8] rfl (by decide +kernel)
set_option maxRecDepth 20000 in
theorem gX13_odds_X13_in : GoodIn wsX13_odds (va_wsS RX13 175 yX13_in wsX13_in) := goodIn_app (goodIn_of _ (by decide +kernel)) ggX13_odds_X13_in
set_option maxRecDepth 20000 in
theorem in_X13_odds_X13 : ∀ w ∈ wsX130, w ∈ wsX13_odds := sub_r [9, 10, 11, 12, 13, 14, 15, 16, 17, 18, 19, 20, 21, 22, 23, 24, 25, 26, 27, 28, 29, 30, 31, 32, 33, 34, 35, 36, 37, 38, 39, 40, 41, 42, 43, 44, 45, 46, 47, 48, 49, 50, 51, 52, 53] rfl
set_option maxHeartbeats 4000000 in
set_option maxRecDepth 100000 in
theorem c_X13_odds (l : Launch) (D : va_G) (T : Nat → ClassId) (sz : Nat) (h0 : Nat) (q : Nat → Int32) (v : Int64) (w : Int64) (a : Nat → Nat) (x1 : Int32) (x2 : Int32) (hL : (1 ≤ (q 4).toInt ∧ (q 4).toInt ≤ 9) ∧ 1 ≤ (q 6).toInt ∧ (q 6).toInt ≤ 9) : Met l yX13_odds wsX13_odds ({ frames := 1, cells := 0, slots := 0, locals := 25 }) (pW [.ref h0, .int x1, .int x2] D T [(h0, .inr (10, (Value.int (q 0) :: Value.int (q 1) :: Value.int (q 2) :: Value.int (q 3) :: Value.int (q 4) :: Value.int (q 5) :: Value.int (q 6) :: Value.int (q 7) :: Value.ref (a 8) :: Value.ref (a 9) :: Value.ref (a 10) :: Value.ref (a 11) :: Value.ref (a 12) :: Value.ref (a 13) :: Value.int (q 14) :: Value.long v :: Value.long w :: Value.ref (a 17) :: Value.ref (a 18) :: Value.ref (a 19) :: Value.ref (a 20) :: Value.ref (a 21) :: Value.ref (a 22) :: Value.ref (a 23) :: Value.int (q 24) :: Value.ref (a 25) :: Value.int (q 26) :: Value.ref (a 27) :: Value.int (q 28) :: Value.int (q 29) :: Value.int (q 30) :: Value.int (q 31) :: Value.int (q 32) :: Value.int (q 33) :: Value.ref (a 34) :: Value.ref (a 35) :: Value.ref (a 36) :: Value.ref (a 37) :: Value.ref (a 38) :: Value.ref (a 39) :: Value.ref (a 40) :: Value.int (q 41) :: Value.ref (a 42) :: Value.int (q 43) :: Value.int (q 44) :: [])))] sz) (va_Qi (fun (r : Int32) (u : (Int32) × (Int32)) => (r = sp_odds x1 x2) ∧ ((1 ≤ u.2.toInt ∧ u.2.toInt ≤ 9) ∧ 1 ≤ (q 6).toInt ∧ (q 6).toInt ≤ 9) ∧ ((r = 1 → u.1 = x1 ∧ u.2 = x2) ∧ (¬ r = 1 → u.1 = (q 3) ∧ u.2 = (q 4)))) (bW D (va_A [(h0, .inr (10, (Value.int (q 0) :: Value.int (q 1) :: Value.int (q 2) :: Value.int (q 3) :: Value.int (q 4) :: Value.int (q 5) :: Value.int (q 6) :: Value.int (q 7) :: Value.ref (a 8) :: Value.ref (a 9) :: Value.ref (a 10) :: Value.ref (a 11) :: Value.ref (a 12) :: Value.ref (a 13) :: Value.int (q 14) :: Value.long v :: Value.long w :: Value.ref (a 17) :: Value.ref (a 18) :: Value.ref (a 19) :: Value.ref (a 20) :: Value.ref (a 21) :: Value.ref (a 22) :: Value.ref (a 23) :: Value.int (q 24) :: Value.ref (a 25) :: Value.int (q 26) :: Value.ref (a 27) :: Value.int (q 28) :: Value.int (q 29) :: Value.int (q 30) :: Value.int (q 31) :: Value.int (q 32) :: Value.int (q 33) :: Value.ref (a 34) :: Value.ref (a 35) :: Value.ref (a 36) :: Value.ref (a 37) :: Value.ref (a 38) :: Value.ref (a 39) :: Value.ref (a 40) :: Value.int (q 41) :: Value.ref (a 42) :: Value.int (q 43) :: Value.int (q 44) :: [])))] sz) (fun (u : (Int32) × (Int32)) => [(h0, .inr (10, (Value.int (q 0) :: Value.int (q 1) :: Value.int (q 2) :: Value.int u.1 :: Value.int u.2 :: Value.int (q 5) :: Value.int (q 6) :: Value.int (q 7) :: Value.ref (a 8) :: Value.ref (a 9) :: Value.ref (a 10) :: Value.ref (a 11) :: Value.ref (a 12) :: Value.ref (a 13) :: Value.int (q 14) :: Value.long v :: Value.long w :: Value.ref (a 17) :: Value.ref (a 18) :: Value.ref (a 19) :: Value.ref (a 20) :: Value.ref (a 21) :: Value.ref (a 22) :: Value.ref (a 23) :: Value.int (q 24) :: Value.ref (a 25) :: Value.int (q 26) :: Value.ref (a 27) :: Value.int (q 28) :: Value.int (q 29) :: Value.int (q 30) :: Value.int (q 31) :: Value.int (q 32) :: Value.int (q 33) :: Value.ref (a 34) :: Value.ref (a 35) :: Value.ref (a 36) :: Value.ref (a 37) :: Value.ref (a 38) :: Value.ref (a 39) :: Value.ref (a 40) :: Value.int (q 41) :: Value.ref (a 42) :: Value.int (q 43) :: Value.int (q 44) :: [])))])) (va_A [(h0, .inr (10, (Value.int (q 0) :: Value.int (q 1) :: Value.int (q 2) :: Value.int (q 3) :: Value.int (q 4) :: Value.int (q 5) :: Value.int (q 6) :: Value.int (q 7) :: Value.ref (a 8) :: Value.ref (a 9) :: Value.ref (a 10) :: Value.ref (a 11) :: Value.ref (a 12) :: Value.ref (a 13) :: Value.int (q 14) :: Value.long v :: Value.long w :: Value.ref (a 17) :: Value.ref (a 18) :: Value.ref (a 19) :: Value.ref (a 20) :: Value.ref (a 21) :: Value.ref (a 22) :: Value.ref (a 23) :: Value.int (q 24) :: Value.ref (a 25) :: Value.int (q 26) :: Value.ref (a 27) :: Value.int (q 28) :: Value.int (q 29) :: Value.int (q 30) :: Value.int (q 31) :: Value.int (q 32) :: Value.int (q 33) :: Value.ref (a 34) :: Value.ref (a 35) :: Value.ref (a 36) :: Value.ref (a 37) :: Value.ref (a 38) :: Value.ref (a 39) :: Value.ref (a 40) :: Value.int (q 41) :: Value.ref (a 42) :: Value.int (q 43) :: Value.int (q 44) :: [])))] sz)) 0 0 (va_A [(h0, .inr (10, (Value.int (q 0) :: Value.int (q 1) :: Value.int (q 2) :: Value.int (q 3) :: Value.int (q 4) :: Value.int (q 5) :: Value.int (q 6) :: Value.int (q 7) :: Value.ref (a 8) :: Value.ref (a 9) :: Value.ref (a 10) :: Value.ref (a 11) :: Value.ref (a 12) :: Value.ref (a 13) :: Value.int (q 14) :: Value.long v :: Value.long w :: Value.ref (a 17) :: Value.ref (a 18) :: Value.ref (a 19) :: Value.ref (a 20) :: Value.ref (a 21) :: Value.ref (a 22) :: Value.ref (a 23) :: Value.int (q 24) :: Value.ref (a 25) :: Value.int (q 26) :: Value.ref (a 27) :: Value.int (q 28) :: Value.int (q 29) :: Value.int (q 30) :: Value.int (q 31) :: Value.int (q 32) :: Value.int (q 33) :: Value.ref (a 34) :: Value.ref (a 35) :: Value.ref (a 36) :: Value.ref (a 37) :: Value.ref (a 38) :: Value.ref (a 39) :: Value.ref (a 40) :: Value.int (q 41) :: Value.ref (a 42) :: Value.int (q 43) :: Value.int (q 44) :: [])))] sz) := by
  refine Met.ofW (cc := cX13_odds) (maxL := 3) (ret := (some .int)) (by decide +kernel) rfl ?_
  intro p e s m args below meth c s₁ B hml hv
  obtain ⟨rfl, hsz, hP, hE, hD0⟩ := hv
  have hx := B.exec
  have hb := B.bytes
  have hr := B.returns
  have hts := atoms_spec (ws := wsX13_odds) B.pre
  have hown : s.vm.findClass RX13 = some m.cls := findClass_of_methodNamed B.named
  have hlocks := B.notSynchronized
  subst hsz
  have hD := hD0.self (sz := s.heap.size)
  generalize hAe : va_A [(h0, .inr (10, (Value.int (q 0) :: Value.int (q 1) :: Value.int (q 2) :: Value.int (q 3) :: Value.int (q 4) :: Value.int (q 5) :: Value.int (q 6) :: Value.int (q 7) :: Value.ref (a 8) :: Value.ref (a 9) :: Value.ref (a 10) :: Value.ref (a 11) :: Value.ref (a 12) :: Value.ref (a 13) :: Value.int (q 14) :: Value.long v :: Value.long w :: Value.ref (a 17) :: Value.ref (a 18) :: Value.ref (a 19) :: Value.ref (a 20) :: Value.ref (a 21) :: Value.ref (a 22) :: Value.ref (a 23) :: Value.int (q 24) :: Value.ref (a 25) :: Value.int (q 26) :: Value.ref (a 27) :: Value.int (q 28) :: Value.int (q 29) :: Value.int (q 30) :: Value.int (q 31) :: Value.int (q 32) :: Value.int (q 33) :: Value.ref (a 34) :: Value.ref (a 35) :: Value.ref (a 36) :: Value.ref (a 37) :: Value.ref (a 38) :: Value.ref (a 39) :: Value.ref (a 40) :: Value.int (q 41) :: Value.ref (a 42) :: Value.int (q 43) :: Value.int (q 44) :: [])))] s.heap.size = A at hD ⊢
  have hA : ∀ q : Nat, s.heap.size ≤ q → A q := fun q h => by rw [← hAe]; exact Or.inr h
  have hS : va_S A s.heap s.heap [] := va_S.rf
  have hP : va_P D vwCl [(h0, .inr (10, (Value.int (q 0) :: Value.int (q 1) :: Value.int (q 2) :: Value.int (q 3) :: Value.int (q 4) :: Value.int (q 5) :: Value.int (q 6) :: Value.int (q 7) :: Value.ref (a 8) :: Value.ref (a 9) :: Value.ref (a 10) :: Value.ref (a 11) :: Value.ref (a 12) :: Value.ref (a 13) :: Value.int (q 14) :: Value.long v :: Value.long w :: Value.ref (a 17) :: Value.ref (a 18) :: Value.ref (a 19) :: Value.ref (a 20) :: Value.ref (a 21) :: Value.ref (a 22) :: Value.ref (a 23) :: Value.int (q 24) :: Value.ref (a 25) :: Value.int (q 26) :: Value.ref (a 27) :: Value.int (q 28) :: Value.int (q 29) :: Value.int (q 30) :: Value.int (q 31) :: Value.int (q 32) :: Value.int (q 33) :: Value.ref (a 34) :: Value.ref (a 35) :: Value.ref (a 36) :: Value.ref (a 37) :: Value.ref (a 38) :: Value.ref (a 39) :: Value.ref (a 40) :: Value.int (q 41) :: Value.ref (a 42) :: Value.int (q 43) :: Value.int (q 44) :: [])))] s.heap := hP
  have hl := lv_entry ([.ref h0, .int x1, .int x2]) (n := 3) (Nat.le_of_ble_eq_true rfl)
  rw [lg_entry_eq]
  generalize (lg_sl ([.ref h0, .int x1, .int x2]) ++ List.replicate (3 - (lg_sl ([.ref h0, .int x1, .int x2])).length) Slot.unset).toArray = ls at hl ⊢
  have hl : lv_has ls 3 [(0, .ref h0), (1, .int x1), (2, .int x2)] := hl
  clear hD0
  refine lv_iload_n hx hb dX13_odds_0 rfl (lv_at hl 2 rfl) ?_
  refine lv_i2l hx hb dX13_odds_1 rfl ?_
  refine lv_ldc2 (v := 2) hx hb hown (hts (.constantLong RX13 184 (2)) (List.mem_of_getElem? (i := 1) rfl)) dX13_odds_2 ?_
  refine lv_ldc2 (v := 9) hx hb hown (hts (.constantLong RX13 179 (9)) (List.mem_of_getElem? (i := 2) rfl)) dX13_odds_5 ?_
  refine vp_callSi (W.runS (As := [.long (x2.toInt64), .long 2, .long 9]) (rest := []) ⟨hx, hb, hml, hown, hts⟩ (c_X13_in l D T (x2.toInt64) 2 9 x2.toInt 2 9 ((Int32.toInt_toInt64 _).trans rfl) (by decide +kernel) (by decide +kernel)) (va_cwS 3 hts gX13_odds_X13_in rfl rfl rfl hs_X13_in ⟨Nat.le_of_ble_eq_true rfl, Nat.le_of_ble_eq_true rfl⟩) (pR_S hP hE [] rfl) rfl rfl hl.1 rfl (lv_room (Nat.le_of_ble_eq_true rfl)) dX13_odds_8 ⟨Nat.le_of_ble_eq_true rfl, Nat.le_of_ble_eq_true rfl⟩) (fun r_1 hr_1 => ?_)
  rcases bool_post hr_1 with ⟨c_2, rfl⟩ | ⟨c_2, rfl⟩
  · refine lv_if_eq (tgt := 25) hx hb dX13_odds_11 (by decide +kernel) (fun c9 => absurd c9 (by decide +kernel)) (fun _ => ?_)
    refine lv_iload_n hx hb dX13_odds_14 rfl (lv_at hl 1 rfl) ?_
    refine lv_i2l hx hb dX13_odds_15 rfl ?_
    refine lv_lconst (v := 0) hx hb dX13_odds_16 (by decide +kernel) ?_
    refine lv_iload_n hx hb dX13_odds_17 rfl (lv_at hl 2 rfl) ?_
    refine lv_i2l hx hb dX13_odds_18 rfl ?_
    refine vp_callSi (W.runS (As := [.long (x1.toInt64), .long 0, .long (x2.toInt64)]) (rest := []) ⟨hx, hb, hml, hown, hts⟩ (c_X13_in l D T (x1.toInt64) 0 (x2.toInt64) x1.toInt 0 x2.toInt ((Int32.toInt_toInt64 _).trans rfl) (by decide +kernel) ((Int32.toInt_toInt64 _).trans rfl)) (va_cwS 3 hts gX13_odds_X13_in rfl rfl rfl hs_X13_in ⟨Nat.le_of_ble_eq_true rfl, Nat.le_of_ble_eq_true rfl⟩) (pR_S hP hE [] rfl) rfl rfl hl.1 rfl (lv_room (Nat.le_of_ble_eq_true rfl)) dX13_odds_19 ⟨Nat.le_of_ble_eq_true rfl, Nat.le_of_ble_eq_true rfl⟩) (fun r_3 hr_3 => ?_)
    rcases bool_post hr_3 with ⟨c_4, rfl⟩ | ⟨c_4, rfl⟩
    · refine lv_if_ne (tgt := 28) hx hb dX13_odds_22 (by decide +kernel) (fun _ => ?_) (fun c9 => absurd c9 (by decide +kernel))
      refine lv_aload_n hx hb dX13_odds_28 rfl (lv_at hl 0 rfl) ?_
      refine lv_iload_n hx hb dX13_odds_29 rfl (lv_at hl 1 rfl) ?_
      refine va_put (D := D) (ci := 10) (v := .int x1) (ty := .int) (C := RX13) (T := TX13) (N := 45) hx hb hts in_X13_odds_X13 tyX13 tyX13_ok nmX13 hown hE.1 hP hD hS 0 rfl rfl 3 (by decide +kernel) (hts (.fieldLink RX13 16 "ClauseBookModel" "oddsP" "I") (List.mem_of_getElem? (i := 3) rfl)) (fun _ h9 => h9) rfl (by decide +kernel) rfl rfl (Nat.le_of_ble_eq_true rfl) dX13_odds_30 (fun H locs hP hD hS => ?_)
      obtain ⟨hP, hD⟩ := wPD [(h0, .inr (10, (Value.int (q 0) :: Value.int (q 1) :: Value.int (q 2) :: Value.int x1 :: Value.int (q 4) :: Value.int (q 5) :: Value.int (q 6) :: Value.int (q 7) :: Value.ref (a 8) :: Value.ref (a 9) :: Value.ref (a 10) :: Value.ref (a 11) :: Value.ref (a 12) :: Value.ref (a 13) :: Value.int (q 14) :: Value.long v :: Value.long w :: Value.ref (a 17) :: Value.ref (a 18) :: Value.ref (a 19) :: Value.ref (a 20) :: Value.ref (a 21) :: Value.ref (a 22) :: Value.ref (a 23) :: Value.int (q 24) :: Value.ref (a 25) :: Value.int (q 26) :: Value.ref (a 27) :: Value.int (q 28) :: Value.int (q 29) :: Value.int (q 30) :: Value.int (q 31) :: Value.int (q 32) :: Value.int (q 33) :: Value.ref (a 34) :: Value.ref (a 35) :: Value.ref (a 36) :: Value.ref (a 37) :: Value.ref (a 38) :: Value.ref (a 39) :: Value.ref (a 40) :: Value.int (q 41) :: Value.ref (a 42) :: Value.int (q 43) :: Value.int (q 44) :: [])))] hP hD rfl
      refine lv_aload_n hx hb dX13_odds_33 rfl (lv_at hl 0 rfl) ?_
      refine lv_iload_n hx hb dX13_odds_34 rfl (lv_at hl 2 rfl) ?_
      refine va_put (D := D) (ci := 10) (v := .int x2) (ty := .int) (C := RX13) (T := TX13) (N := 45) hx hb hts in_X13_odds_X13 tyX13 tyX13_ok nmX13 hown hE.1 hP hD hS 0 rfl rfl 4 (by decide +kernel) (hts (.fieldLink RX13 19 "ClauseBookModel" "oddsQ" "I") (List.mem_of_getElem? (i := 4) rfl)) (fun _ h9 => h9) rfl (by decide +kernel) rfl rfl (Nat.le_of_ble_eq_true rfl) dX13_odds_35 (fun H locs hP hD hS => ?_)
      obtain ⟨hP, hD⟩ := wPD [(h0, .inr (10, (Value.int (q 0) :: Value.int (q 1) :: Value.int (q 2) :: Value.int x1 :: Value.int x2 :: Value.int (q 5) :: Value.int (q 6) :: Value.int (q 7) :: Value.ref (a 8) :: Value.ref (a 9) :: Value.ref (a 10) :: Value.ref (a 11) :: Value.ref (a 12) :: Value.ref (a 13) :: Value.int (q 14) :: Value.long v :: Value.long w :: Value.ref (a 17) :: Value.ref (a 18) :: Value.ref (a 19) :: Value.ref (a 20) :: Value.ref (a 21) :: Value.ref (a 22) :: Value.ref (a 23) :: Value.int (q 24) :: Value.ref (a 25) :: Value.int (q 26) :: Value.ref (a 27) :: Value.int (q 28) :: Value.int (q 29) :: Value.int (q 30) :: Value.int (q 31) :: Value.int (q 32) :: Value.int (q 33) :: Value.ref (a 34) :: Value.ref (a 35) :: Value.ref (a 36) :: Value.ref (a 37) :: Value.ref (a 38) :: Value.ref (a 39) :: Value.ref (a 40) :: Value.int (q 41) :: Value.ref (a 42) :: Value.int (q 43) :: Value.int (q 44) :: [])))] hP hD rfl
      refine lv_iconst (v := 1) hx hb dX13_odds_38 (by decide +kernel) ?_
      exact W.iret hx hb hr (fun t ht hW => ⟨⟨_, (x1, x2), rfl, ⟨(show (1 : Int32) = sp_odds x1 x2 from (by first | decide | (unfold sp_odds; (repeat' split) <;> first | rfl | (exfalso; omega)))), (show (1 ≤ x2.toInt ∧ x2.toInt ≤ 9) ∧ 1 ≤ (q 6).toInt ∧ (q 6).toInt ≤ 9 from (by first | omega | (subst_vars; omega))), (show ((1 : Int32) = 1 → x1 = x1 ∧ x2 = x2) ∧ (¬ (1 : Int32) = 1 → x1 = (q 3) ∧ x2 = (q 4)) from ⟨(fun _ => ⟨rfl, rfl⟩), (fun h => absurd rfl h)⟩)⟩, by rw [ht]; exact hP.sub [0] rfl, hD.sub [0] (by decide +kernel) rfl⟩, hS.F ht⟩) hS.2.2 dX13_odds_39
    · refine lv_if_ne (tgt := 28) hx hb dX13_odds_22 (by decide +kernel) (fun c9 => absurd c9 (by decide +kernel)) (fun _ => ?_)
      refine lv_bipush (v := (-2)) hx hb dX13_odds_25 (by decide +kernel) ?_
      exact W.iret hx hb hr (fun t ht hW => ⟨⟨_, ((q 3), (q 4)), rfl, ⟨(show ((-2) : Int32) = sp_odds x1 x2 from (by first | decide | (unfold sp_odds; (repeat' split) <;> first | rfl | (exfalso; omega)))), (show (1 ≤ (q 4).toInt ∧ (q 4).toInt ≤ 9) ∧ 1 ≤ (q 6).toInt ∧ (q 6).toInt ≤ 9 from (by first | omega | (subst_vars; omega))), (show (((-2) : Int32) = 1 → (q 3) = x1 ∧ (q 4) = x2) ∧ (¬ ((-2) : Int32) = 1 → (q 3) = (q 3) ∧ (q 4) = (q 4)) from ⟨(fun h => absurd h (by decide +kernel)), (fun _ => ⟨rfl, rfl⟩)⟩)⟩, by rw [ht]; exact hP.sub [0] rfl, hD.sub [0] (by decide +kernel) rfl⟩, hS.F ht⟩) hS.2.2 dX13_odds_27
  · refine lv_if_eq (tgt := 25) hx hb dX13_odds_11 (by decide +kernel) (fun _ => ?_) (fun c9 => absurd c9 (by decide +kernel))
    refine lv_bipush (v := (-2)) hx hb dX13_odds_25 (by decide +kernel) ?_
    exact W.iret hx hb hr (fun t ht hW => ⟨⟨_, ((q 3), (q 4)), rfl, ⟨(show ((-2) : Int32) = sp_odds x1 x2 from (by first | decide | (unfold sp_odds; (repeat' split) <;> first | rfl | (exfalso; omega)))), (show (1 ≤ (q 4).toInt ∧ (q 4).toInt ≤ 9) ∧ 1 ≤ (q 6).toInt ∧ (q 6).toInt ≤ 9 from (by first | omega | (subst_vars; omega))), (show (((-2) : Int32) = 1 → (q 3) = x1 ∧ (q 4) = x2) ∧ (¬ ((-2) : Int32) = 1 → (q 3) = (q 3) ∧ (q 4) = (q 4)) from ⟨(fun h => absurd h (by decide +kernel)), (fun _ => ⟨rfl, rfl⟩)⟩)⟩, by rw [ht]; exact hP.sub [0] rfl, hD.sub [0] (by decide +kernel) rfl⟩, hS.F ht⟩) hS.2.2 dX13_odds_27
theorem dX13_wait_0 : decode cX13_wait 0 = .ok (.iload_n 2, 1) := by decide +kernel
theorem dX13_wait_1 : decode cX13_wait 1 = .ok (.i2l, 1) := by decide +kernel
theorem dX13_wait_12 : decode cX13_wait 12 = .ok (.iload_n 1, 1) := by decide +kernel
theorem dX13_wait_13 : decode cX13_wait 13 = .ok (.i2l, 1) := by decide +kernel
theorem dX13_wait_14 : decode cX13_wait 14 = .ok (.lconst 1, 1) := by decide +kernel
theorem dX13_wait_15 : decode cX13_wait 15 = .ok (.iload_n 2, 1) := by decide +kernel
theorem dX13_wait_16 : decode cX13_wait 16 = .ok (.i2l, 1) := by decide +kernel
theorem dX13_wait_17 : decode cX13_wait 17 = .ok (.invokestatic 175, 3) := by decide +kernel
theorem dX13_wait_2 : decode cX13_wait 2 = .ok (.lconst 1, 1) := by decide +kernel
theorem dX13_wait_20 : decode cX13_wait 20 = .ok (.ifCond .ne 6, 3) := by decide +kernel
theorem dX13_wait_23 : decode cX13_wait 23 = .ok (.bipush (-2), 2) := by decide +kernel
theorem dX13_wait_25 : decode cX13_wait 25 = .ok (.ireturn, 1) := by decide +kernel
theorem dX13_wait_26 : decode cX13_wait 26 = .ok (.aload_n 0, 1) := by decide +kernel
theorem dX13_wait_27 : decode cX13_wait 27 = .ok (.iload_n 1, 1) := by decide +kernel
theorem dX13_wait_28 : decode cX13_wait 28 = .ok (.putfield 22, 3) := by decide +kernel
theorem dX13_wait_3 : decode cX13_wait 3 = .ok (.ldc2_w 179, 3) := by decide +kernel
theorem dX13_wait_31 : decode cX13_wait 31 = .ok (.aload_n 0, 1) := by decide +kernel
theorem dX13_wait_32 : decode cX13_wait 32 = .ok (.iload_n 2, 1) := by decide +kernel
theorem dX13_wait_33 : decode cX13_wait 33 = .ok (.putfield 25, 3) := by decide +kernel
theorem dX13_wait_36 : decode cX13_wait 36 = .ok (.iconst 1, 1) := by decide +kernel
theorem dX13_wait_37 : decode cX13_wait 37 = .ok (.ireturn, 1) := by decide +kernel
theorem dX13_wait_6 : decode cX13_wait 6 = .ok (.invokestatic 175, 3) := by decide +kernel
theorem dX13_wait_9 : decode cX13_wait 9 = .ok (.ifCond .eq 14, 3) := by decide +kernel
set_option maxRecDepth 20000 in
theorem ggX13_wait_X13_in : GoodIn wsX13_wait wsX13_in := goodIn_r _ [7] rfl (by decide +kernel)
set_option maxRecDepth 20000 in
theorem gX13_wait_X13_in : GoodIn wsX13_wait (va_wsS RX13 175 yX13_in wsX13_in) := goodIn_app (goodIn_of _ (by decide +kernel)) ggX13_wait_X13_in
set_option maxRecDepth 20000 in
theorem in_X13_wait_X13 : ∀ w ∈ wsX130, w ∈ wsX13_wait := sub_r [8, 9, 10, 11, 12, 13, 14, 15, 16, 17, 18, 19, 20, 21, 22, 23, 24, 25, 26, 27, 28, 29, 30, 31, 32, 33, 34, 35, 36, 37, 38, 39, 40, 41, 42, 43, 44, 45, 46, 47, 48, 49, 50, 51, 52] rfl
set_option maxHeartbeats 4000000 in
set_option maxRecDepth 100000 in
theorem c_X13_wait (l : Launch) (D : va_G) (T : Nat → ClassId) (sz : Nat) (h0 : Nat) (q : Nat → Int32) (v : Int64) (w : Int64) (a : Nat → Nat) (x1 : Int32) (x2 : Int32) (hL : (1 ≤ (q 4).toInt ∧ (q 4).toInt ≤ 9) ∧ 1 ≤ (q 6).toInt ∧ (q 6).toInt ≤ 9) : Met l yX13_wait wsX13_wait ({ frames := 1, cells := 0, slots := 0, locals := 25 }) (pW [.ref h0, .int x1, .int x2] D T [(h0, .inr (10, (Value.int (q 0) :: Value.int (q 1) :: Value.int (q 2) :: Value.int (q 3) :: Value.int (q 4) :: Value.int (q 5) :: Value.int (q 6) :: Value.int (q 7) :: Value.ref (a 8) :: Value.ref (a 9) :: Value.ref (a 10) :: Value.ref (a 11) :: Value.ref (a 12) :: Value.ref (a 13) :: Value.int (q 14) :: Value.long v :: Value.long w :: Value.ref (a 17) :: Value.ref (a 18) :: Value.ref (a 19) :: Value.ref (a 20) :: Value.ref (a 21) :: Value.ref (a 22) :: Value.ref (a 23) :: Value.int (q 24) :: Value.ref (a 25) :: Value.int (q 26) :: Value.ref (a 27) :: Value.int (q 28) :: Value.int (q 29) :: Value.int (q 30) :: Value.int (q 31) :: Value.int (q 32) :: Value.int (q 33) :: Value.ref (a 34) :: Value.ref (a 35) :: Value.ref (a 36) :: Value.ref (a 37) :: Value.ref (a 38) :: Value.ref (a 39) :: Value.ref (a 40) :: Value.int (q 41) :: Value.ref (a 42) :: Value.int (q 43) :: Value.int (q 44) :: [])))] sz) (va_Qi (fun (r : Int32) (u : (Int32) × (Int32)) => (r = sp_wait x1 x2) ∧ ((1 ≤ (q 4).toInt ∧ (q 4).toInt ≤ 9) ∧ 1 ≤ u.2.toInt ∧ u.2.toInt ≤ 9) ∧ ((r = 1 → u.1 = x1 ∧ u.2 = x2) ∧ (¬ r = 1 → u.1 = (q 5) ∧ u.2 = (q 6)))) (bW D (va_A [(h0, .inr (10, (Value.int (q 0) :: Value.int (q 1) :: Value.int (q 2) :: Value.int (q 3) :: Value.int (q 4) :: Value.int (q 5) :: Value.int (q 6) :: Value.int (q 7) :: Value.ref (a 8) :: Value.ref (a 9) :: Value.ref (a 10) :: Value.ref (a 11) :: Value.ref (a 12) :: Value.ref (a 13) :: Value.int (q 14) :: Value.long v :: Value.long w :: Value.ref (a 17) :: Value.ref (a 18) :: Value.ref (a 19) :: Value.ref (a 20) :: Value.ref (a 21) :: Value.ref (a 22) :: Value.ref (a 23) :: Value.int (q 24) :: Value.ref (a 25) :: Value.int (q 26) :: Value.ref (a 27) :: Value.int (q 28) :: Value.int (q 29) :: Value.int (q 30) :: Value.int (q 31) :: Value.int (q 32) :: Value.int (q 33) :: Value.ref (a 34) :: Value.ref (a 35) :: Value.ref (a 36) :: Value.ref (a 37) :: Value.ref (a 38) :: Value.ref (a 39) :: Value.ref (a 40) :: Value.int (q 41) :: Value.ref (a 42) :: Value.int (q 43) :: Value.int (q 44) :: [])))] sz) (fun (u : (Int32) × (Int32)) => [(h0, .inr (10, (Value.int (q 0) :: Value.int (q 1) :: Value.int (q 2) :: Value.int (q 3) :: Value.int (q 4) :: Value.int u.1 :: Value.int u.2 :: Value.int (q 7) :: Value.ref (a 8) :: Value.ref (a 9) :: Value.ref (a 10) :: Value.ref (a 11) :: Value.ref (a 12) :: Value.ref (a 13) :: Value.int (q 14) :: Value.long v :: Value.long w :: Value.ref (a 17) :: Value.ref (a 18) :: Value.ref (a 19) :: Value.ref (a 20) :: Value.ref (a 21) :: Value.ref (a 22) :: Value.ref (a 23) :: Value.int (q 24) :: Value.ref (a 25) :: Value.int (q 26) :: Value.ref (a 27) :: Value.int (q 28) :: Value.int (q 29) :: Value.int (q 30) :: Value.int (q 31) :: Value.int (q 32) :: Value.int (q 33) :: Value.ref (a 34) :: Value.ref (a 35) :: Value.ref (a 36) :: Value.ref (a 37) :: Value.ref (a 38) :: Value.ref (a 39) :: Value.ref (a 40) :: Value.int (q 41) :: Value.ref (a 42) :: Value.int (q 43) :: Value.int (q 44) :: [])))])) (va_A [(h0, .inr (10, (Value.int (q 0) :: Value.int (q 1) :: Value.int (q 2) :: Value.int (q 3) :: Value.int (q 4) :: Value.int (q 5) :: Value.int (q 6) :: Value.int (q 7) :: Value.ref (a 8) :: Value.ref (a 9) :: Value.ref (a 10) :: Value.ref (a 11) :: Value.ref (a 12) :: Value.ref (a 13) :: Value.int (q 14) :: Value.long v :: Value.long w :: Value.ref (a 17) :: Value.ref (a 18) :: Value.ref (a 19) :: Value.ref (a 20) :: Value.ref (a 21) :: Value.ref (a 22) :: Value.ref (a 23) :: Value.int (q 24) :: Value.ref (a 25) :: Value.int (q 26) :: Value.ref (a 27) :: Value.int (q 28) :: Value.int (q 29) :: Value.int (q 30) :: Value.int (q 31) :: Value.int (q 32) :: Value.int (q 33) :: Value.ref (a 34) :: Value.ref (a 35) :: Value.ref (a 36) :: Value.ref (a 37) :: Value.ref (a 38) :: Value.ref (a 39) :: Value.ref (a 40) :: Value.int (q 41) :: Value.ref (a 42) :: Value.int (q 43) :: Value.int (q 44) :: [])))] sz)) 0 0 (va_A [(h0, .inr (10, (Value.int (q 0) :: Value.int (q 1) :: Value.int (q 2) :: Value.int (q 3) :: Value.int (q 4) :: Value.int (q 5) :: Value.int (q 6) :: Value.int (q 7) :: Value.ref (a 8) :: Value.ref (a 9) :: Value.ref (a 10) :: Value.ref (a 11) :: Value.ref (a 12) :: Value.ref (a 13) :: Value.int (q 14) :: Value.long v :: Value.long w :: Value.ref (a 17) :: Value.ref (a 18) :: Value.ref (a 19) :: Value.ref (a 20) :: Value.ref (a 21) :: Value.ref (a 22) :: Value.ref (a 23) :: Value.int (q 24) :: Value.ref (a 25) :: Value.int (q 26) :: Value.ref (a 27) :: Value.int (q 28) :: Value.int (q 29) :: Value.int (q 30) :: Value.int (q 31) :: Value.int (q 32) :: Value.int (q 33) :: Value.ref (a 34) :: Value.ref (a 35) :: Value.ref (a 36) :: Value.ref (a 37) :: Value.ref (a 38) :: Value.ref (a 39) :: Value.ref (a 40) :: Value.int (q 41) :: Value.ref (a 42) :: Value.int (q 43) :: Value.int (q 44) :: [])))] sz) := by
  refine Met.ofW (cc := cX13_wait) (maxL := 3) (ret := (some .int)) (by decide +kernel) rfl ?_
  intro p e s m args below meth c s₁ B hml hv
  obtain ⟨rfl, hsz, hP, hE, hD0⟩ := hv
  have hx := B.exec
  have hb := B.bytes
  have hr := B.returns
  have hts := atoms_spec (ws := wsX13_wait) B.pre
  have hown : s.vm.findClass RX13 = some m.cls := findClass_of_methodNamed B.named
  have hlocks := B.notSynchronized
  subst hsz
  have hD := hD0.self (sz := s.heap.size)
  generalize hAe : va_A [(h0, .inr (10, (Value.int (q 0) :: Value.int (q 1) :: Value.int (q 2) :: Value.int (q 3) :: Value.int (q 4) :: Value.int (q 5) :: Value.int (q 6) :: Value.int (q 7) :: Value.ref (a 8) :: Value.ref (a 9) :: Value.ref (a 10) :: Value.ref (a 11) :: Value.ref (a 12) :: Value.ref (a 13) :: Value.int (q 14) :: Value.long v :: Value.long w :: Value.ref (a 17) :: Value.ref (a 18) :: Value.ref (a 19) :: Value.ref (a 20) :: Value.ref (a 21) :: Value.ref (a 22) :: Value.ref (a 23) :: Value.int (q 24) :: Value.ref (a 25) :: Value.int (q 26) :: Value.ref (a 27) :: Value.int (q 28) :: Value.int (q 29) :: Value.int (q 30) :: Value.int (q 31) :: Value.int (q 32) :: Value.int (q 33) :: Value.ref (a 34) :: Value.ref (a 35) :: Value.ref (a 36) :: Value.ref (a 37) :: Value.ref (a 38) :: Value.ref (a 39) :: Value.ref (a 40) :: Value.int (q 41) :: Value.ref (a 42) :: Value.int (q 43) :: Value.int (q 44) :: [])))] s.heap.size = A at hD ⊢
  have hA : ∀ q : Nat, s.heap.size ≤ q → A q := fun q h => by rw [← hAe]; exact Or.inr h
  have hS : va_S A s.heap s.heap [] := va_S.rf
  have hP : va_P D vwCl [(h0, .inr (10, (Value.int (q 0) :: Value.int (q 1) :: Value.int (q 2) :: Value.int (q 3) :: Value.int (q 4) :: Value.int (q 5) :: Value.int (q 6) :: Value.int (q 7) :: Value.ref (a 8) :: Value.ref (a 9) :: Value.ref (a 10) :: Value.ref (a 11) :: Value.ref (a 12) :: Value.ref (a 13) :: Value.int (q 14) :: Value.long v :: Value.long w :: Value.ref (a 17) :: Value.ref (a 18) :: Value.ref (a 19) :: Value.ref (a 20) :: Value.ref (a 21) :: Value.ref (a 22) :: Value.ref (a 23) :: Value.int (q 24) :: Value.ref (a 25) :: Value.int (q 26) :: Value.ref (a 27) :: Value.int (q 28) :: Value.int (q 29) :: Value.int (q 30) :: Value.int (q 31) :: Value.int (q 32) :: Value.int (q 33) :: Value.ref (a 34) :: Value.ref (a 35) :: Value.ref (a 36) :: Value.ref (a 37) :: Value.ref (a 38) :: Value.ref (a 39) :: Value.ref (a 40) :: Value.int (q 41) :: Value.ref (a 42) :: Value.int (q 43) :: Value.int (q 44) :: [])))] s.heap := hP
  have hl := lv_entry ([.ref h0, .int x1, .int x2]) (n := 3) (Nat.le_of_ble_eq_true rfl)
  rw [lg_entry_eq]
  generalize (lg_sl ([.ref h0, .int x1, .int x2]) ++ List.replicate (3 - (lg_sl ([.ref h0, .int x1, .int x2])).length) Slot.unset).toArray = ls at hl ⊢
  have hl : lv_has ls 3 [(0, .ref h0), (1, .int x1), (2, .int x2)] := hl
  clear hD0
  refine lv_iload_n hx hb dX13_wait_0 rfl (lv_at hl 2 rfl) ?_
  refine lv_i2l hx hb dX13_wait_1 rfl ?_
  refine lv_lconst (v := 1) hx hb dX13_wait_2 (by decide +kernel) ?_
  refine lv_ldc2 (v := 9) hx hb hown (hts (.constantLong RX13 179 (9)) (List.mem_of_getElem? (i := 1) rfl)) dX13_wait_3 ?_
  refine vp_callSi (W.runS (As := [.long (x2.toInt64), .long 1, .long 9]) (rest := []) ⟨hx, hb, hml, hown, hts⟩ (c_X13_in l D T (x2.toInt64) 1 9 x2.toInt 1 9 ((Int32.toInt_toInt64 _).trans rfl) (by decide +kernel) (by decide +kernel)) (va_cwS 3 hts gX13_wait_X13_in rfl rfl rfl hs_X13_in ⟨Nat.le_of_ble_eq_true rfl, Nat.le_of_ble_eq_true rfl⟩) (pR_S hP hE [] rfl) rfl rfl hl.1 rfl (lv_room (Nat.le_of_ble_eq_true rfl)) dX13_wait_6 ⟨Nat.le_of_ble_eq_true rfl, Nat.le_of_ble_eq_true rfl⟩) (fun r_1 hr_1 => ?_)
  rcases bool_post hr_1 with ⟨c_2, rfl⟩ | ⟨c_2, rfl⟩
  · refine lv_if_eq (tgt := 23) hx hb dX13_wait_9 (by decide +kernel) (fun c9 => absurd c9 (by decide +kernel)) (fun _ => ?_)
    refine lv_iload_n hx hb dX13_wait_12 rfl (lv_at hl 1 rfl) ?_
    refine lv_i2l hx hb dX13_wait_13 rfl ?_
    refine lv_lconst (v := 1) hx hb dX13_wait_14 (by decide +kernel) ?_
    refine lv_iload_n hx hb dX13_wait_15 rfl (lv_at hl 2 rfl) ?_
    refine lv_i2l hx hb dX13_wait_16 rfl ?_
    refine vp_callSi (W.runS (As := [.long (x1.toInt64), .long 1, .long (x2.toInt64)]) (rest := []) ⟨hx, hb, hml, hown, hts⟩ (c_X13_in l D T (x1.toInt64) 1 (x2.toInt64) x1.toInt 1 x2.toInt ((Int32.toInt_toInt64 _).trans rfl) (by decide +kernel) ((Int32.toInt_toInt64 _).trans rfl)) (va_cwS 3 hts gX13_wait_X13_in rfl rfl rfl hs_X13_in ⟨Nat.le_of_ble_eq_true rfl, Nat.le_of_ble_eq_true rfl⟩) (pR_S hP hE [] rfl) rfl rfl hl.1 rfl (lv_room (Nat.le_of_ble_eq_true rfl)) dX13_wait_17 ⟨Nat.le_of_ble_eq_true rfl, Nat.le_of_ble_eq_true rfl⟩) (fun r_3 hr_3 => ?_)
    rcases bool_post hr_3 with ⟨c_4, rfl⟩ | ⟨c_4, rfl⟩
    · refine lv_if_ne (tgt := 26) hx hb dX13_wait_20 (by decide +kernel) (fun _ => ?_) (fun c9 => absurd c9 (by decide +kernel))
      refine lv_aload_n hx hb dX13_wait_26 rfl (lv_at hl 0 rfl) ?_
      refine lv_iload_n hx hb dX13_wait_27 rfl (lv_at hl 1 rfl) ?_
      refine va_put (D := D) (ci := 10) (v := .int x1) (ty := .int) (C := RX13) (T := TX13) (N := 45) hx hb hts in_X13_wait_X13 tyX13 tyX13_ok nmX13 hown hE.1 hP hD hS 0 rfl rfl 5 (by decide +kernel) (hts (.fieldLink RX13 22 "ClauseBookModel" "waitA" "I") (List.mem_of_getElem? (i := 2) rfl)) (fun _ h9 => h9) rfl (by decide +kernel) rfl rfl (Nat.le_of_ble_eq_true rfl) dX13_wait_28 (fun H locs hP hD hS => ?_)
      obtain ⟨hP, hD⟩ := wPD [(h0, .inr (10, (Value.int (q 0) :: Value.int (q 1) :: Value.int (q 2) :: Value.int (q 3) :: Value.int (q 4) :: Value.int x1 :: Value.int (q 6) :: Value.int (q 7) :: Value.ref (a 8) :: Value.ref (a 9) :: Value.ref (a 10) :: Value.ref (a 11) :: Value.ref (a 12) :: Value.ref (a 13) :: Value.int (q 14) :: Value.long v :: Value.long w :: Value.ref (a 17) :: Value.ref (a 18) :: Value.ref (a 19) :: Value.ref (a 20) :: Value.ref (a 21) :: Value.ref (a 22) :: Value.ref (a 23) :: Value.int (q 24) :: Value.ref (a 25) :: Value.int (q 26) :: Value.ref (a 27) :: Value.int (q 28) :: Value.int (q 29) :: Value.int (q 30) :: Value.int (q 31) :: Value.int (q 32) :: Value.int (q 33) :: Value.ref (a 34) :: Value.ref (a 35) :: Value.ref (a 36) :: Value.ref (a 37) :: Value.ref (a 38) :: Value.ref (a 39) :: Value.ref (a 40) :: Value.int (q 41) :: Value.ref (a 42) :: Value.int (q 43) :: Value.int (q 44) :: [])))] hP hD rfl
      refine lv_aload_n hx hb dX13_wait_31 rfl (lv_at hl 0 rfl) ?_
      refine lv_iload_n hx hb dX13_wait_32 rfl (lv_at hl 2 rfl) ?_
      refine va_put (D := D) (ci := 10) (v := .int x2) (ty := .int) (C := RX13) (T := TX13) (N := 45) hx hb hts in_X13_wait_X13 tyX13 tyX13_ok nmX13 hown hE.1 hP hD hS 0 rfl rfl 6 (by decide +kernel) (hts (.fieldLink RX13 25 "ClauseBookModel" "waitB" "I") (List.mem_of_getElem? (i := 3) rfl)) (fun _ h9 => h9) rfl (by decide +kernel) rfl rfl (Nat.le_of_ble_eq_true rfl) dX13_wait_33 (fun H locs hP hD hS => ?_)
      obtain ⟨hP, hD⟩ := wPD [(h0, .inr (10, (Value.int (q 0) :: Value.int (q 1) :: Value.int (q 2) :: Value.int (q 3) :: Value.int (q 4) :: Value.int x1 :: Value.int x2 :: Value.int (q 7) :: Value.ref (a 8) :: Value.ref (a 9) :: Value.ref (a 10) :: Value.ref (a 11) :: Value.ref (a 12) :: Value.ref (a 13) :: Value.int (q 14) :: Value.long v :: Value.long w :: Value.ref (a 17) :: Value.ref (a 18) :: Value.ref (a 19) :: Value.ref (a 20) :: Value.ref (a 21) :: Value.ref (a 22) :: Value.ref (a 23) :: Value.int (q 24) :: Value.ref (a 25) :: Value.int (q 26) :: Value.ref (a 27) :: Value.int (q 28) :: Value.int (q 29) :: Value.int (q 30) :: Value.int (q 31) :: Value.int (q 32) :: Value.int (q 33) :: Value.ref (a 34) :: Value.ref (a 35) :: Value.ref (a 36) :: Value.ref (a 37) :: Value.ref (a 38) :: Value.ref (a 39) :: Value.ref (a 40) :: Value.int (q 41) :: Value.ref (a 42) :: Value.int (q 43) :: Value.int (q 44) :: [])))] hP hD rfl
      refine lv_iconst (v := 1) hx hb dX13_wait_36 (by decide +kernel) ?_
      exact W.iret hx hb hr (fun t ht hW => ⟨⟨_, (x1, x2), rfl, ⟨(show (1 : Int32) = sp_wait x1 x2 from (by first | decide | (unfold sp_wait; (repeat' split) <;> first | rfl | (exfalso; omega)))), (show (1 ≤ (q 4).toInt ∧ (q 4).toInt ≤ 9) ∧ 1 ≤ x2.toInt ∧ x2.toInt ≤ 9 from (by first | omega | (subst_vars; omega))), (show ((1 : Int32) = 1 → x1 = x1 ∧ x2 = x2) ∧ (¬ (1 : Int32) = 1 → x1 = (q 5) ∧ x2 = (q 6)) from ⟨(fun _ => ⟨rfl, rfl⟩), (fun h => absurd rfl h)⟩)⟩, by rw [ht]; exact hP.sub [0] rfl, hD.sub [0] (by decide +kernel) rfl⟩, hS.F ht⟩) hS.2.2 dX13_wait_37
    · refine lv_if_ne (tgt := 26) hx hb dX13_wait_20 (by decide +kernel) (fun c9 => absurd c9 (by decide +kernel)) (fun _ => ?_)
      refine lv_bipush (v := (-2)) hx hb dX13_wait_23 (by decide +kernel) ?_
      exact W.iret hx hb hr (fun t ht hW => ⟨⟨_, ((q 5), (q 6)), rfl, ⟨(show ((-2) : Int32) = sp_wait x1 x2 from (by first | decide | (unfold sp_wait; (repeat' split) <;> first | rfl | (exfalso; omega)))), (show (1 ≤ (q 4).toInt ∧ (q 4).toInt ≤ 9) ∧ 1 ≤ (q 6).toInt ∧ (q 6).toInt ≤ 9 from (by first | omega | (subst_vars; omega))), (show (((-2) : Int32) = 1 → (q 5) = x1 ∧ (q 6) = x2) ∧ (¬ ((-2) : Int32) = 1 → (q 5) = (q 5) ∧ (q 6) = (q 6)) from ⟨(fun h => absurd h (by decide +kernel)), (fun _ => ⟨rfl, rfl⟩)⟩)⟩, by rw [ht]; exact hP.sub [0] rfl, hD.sub [0] (by decide +kernel) rfl⟩, hS.F ht⟩) hS.2.2 dX13_wait_25
  · refine lv_if_eq (tgt := 23) hx hb dX13_wait_9 (by decide +kernel) (fun _ => ?_) (fun c9 => absurd c9 (by decide +kernel))
    refine lv_bipush (v := (-2)) hx hb dX13_wait_23 (by decide +kernel) ?_
    exact W.iret hx hb hr (fun t ht hW => ⟨⟨_, ((q 5), (q 6)), rfl, ⟨(show ((-2) : Int32) = sp_wait x1 x2 from (by first | decide | (unfold sp_wait; (repeat' split) <;> first | rfl | (exfalso; omega)))), (show (1 ≤ (q 4).toInt ∧ (q 4).toInt ≤ 9) ∧ 1 ≤ (q 6).toInt ∧ (q 6).toInt ≤ 9 from (by first | omega | (subst_vars; omega))), (show (((-2) : Int32) = 1 → (q 5) = x1 ∧ (q 6) = x2) ∧ (¬ ((-2) : Int32) = 1 → (q 5) = (q 5) ∧ (q 6) = (q 6)) from ⟨(fun h => absurd h (by decide +kernel)), (fun _ => ⟨rfl, rfl⟩)⟩)⟩, by rw [ht]; exact hP.sub [0] rfl, hD.sub [0] (by decide +kernel) rfl⟩, hS.F ht⟩) hS.2.2 dX13_wait_25
end
section
theorem bg_up {f : Nat → Int32} {x v : Int32} (h : ∀ k : Nat, k < 3 → 0 ≤ (f k).toInt ∧ (f k).toInt ≤ 12) (hv : 0 ≤ v.toInt ∧ v.toInt ≤ 12) : ∀ k : Nat, k < 3 → 0 ≤ (upd f x.toNatClampNeg v k).toInt ∧ (upd f x.toNatClampNeg v k).toInt ≤ 12 := by
  intro k hk
  simp only [upd]
  split
  · exact hv
  · exact h k hk
theorem tn3 {x : Int32} {k : Nat} (h : 0 ≤ x.toInt) (h2 : x.toInt < k) : x.toNatClampNeg < k := by
  have := tn h
  omega
theorem ix12 {b z : Int32} (hb : 0 ≤ b.toInt ∧ b.toInt ≤ 2) (hz : 0 ≤ z.toInt ∧ z.toInt ≤ 12) : ((12 * b) + z).toNatClampNeg = 12 * b.toNatClampNeg + z.toNatClampNeg := by
  have e12 : (12 : Int32).toInt = 12 := by decide
  have h1 : (12 * b).toInt = 12 * b.toInt := by rw [fb_mulI (by rw [e12]; omega) (by rw [e12]; omega), e12]
  have h2 : ((12 * b) + z).toInt = 12 * b.toInt + z.toInt := by rw [fb_addI (by omega) (by omega), h1]
  have t1 := tn hb.1
  have t2 := tn hz.1
  have t3 := tn (x := (12 * b) + z) (by omega)
  omega
theorem dX13_put_0 : decode cX13_put 0 = .ok (.iload_n 1, 1) := by decide +kernel
theorem dX13_put_1 : decode cX13_put 1 = .ok (.invokestatic 405, 3) := by decide +kernel
theorem dX13_put_12 : decode cX13_put 12 = .ok (.ifCond .ne 6, 3) := by decide +kernel
theorem dX13_put_15 : decode cX13_put 15 = .ok (.bipush (-2), 2) := by decide +kernel
theorem dX13_put_17 : decode cX13_put 17 = .ok (.ireturn, 1) := by decide +kernel
theorem dX13_put_18 : decode cX13_put 18 = .ok (.aload_n 0, 1) := by decide +kernel
theorem dX13_put_19 : decode cX13_put 19 = .ok (.getfield 44, 3) := by decide +kernel
theorem dX13_put_22 : decode cX13_put 22 = .ok (.iload_n 1, 1) := by decide +kernel
theorem dX13_put_23 : decode cX13_put 23 = .ok (.iaload, 1) := by decide +kernel
theorem dX13_put_24 : decode cX13_put 24 = .ok (.bipush 12, 2) := by decide +kernel
theorem dX13_put_26 : decode cX13_put 26 = .ok (.if_icmp .ne 6, 3) := by decide +kernel
theorem dX13_put_29 : decode cX13_put 29 = .ok (.bipush (-4), 2) := by decide +kernel
theorem dX13_put_31 : decode cX13_put 31 = .ok (.ireturn, 1) := by decide +kernel
theorem dX13_put_32 : decode cX13_put 32 = .ok (.aload_n 0, 1) := by decide +kernel
theorem dX13_put_33 : decode cX13_put 33 = .ok (.getfield 41, 3) := by decide +kernel
theorem dX13_put_36 : decode cX13_put 36 = .ok (.bipush 12, 2) := by decide +kernel
theorem dX13_put_38 : decode cX13_put 38 = .ok (.iload_n 1, 1) := by decide +kernel
theorem dX13_put_39 : decode cX13_put 39 = .ok (.imul, 1) := by decide +kernel
theorem dX13_put_4 : decode cX13_put 4 = .ok (.ifCond .eq 11, 3) := by decide +kernel
theorem dX13_put_40 : decode cX13_put 40 = .ok (.aload_n 0, 1) := by decide +kernel
theorem dX13_put_41 : decode cX13_put 41 = .ok (.getfield 44, 3) := by decide +kernel
theorem dX13_put_44 : decode cX13_put 44 = .ok (.iload_n 1, 1) := by decide +kernel
theorem dX13_put_45 : decode cX13_put 45 = .ok (.iaload, 1) := by decide +kernel
theorem dX13_put_46 : decode cX13_put 46 = .ok (.iadd, 1) := by decide +kernel
theorem dX13_put_47 : decode cX13_put 47 = .ok (.iload_n 2, 1) := by decide +kernel
theorem dX13_put_48 : decode cX13_put 48 = .ok (.iastore, 1) := by decide +kernel
theorem dX13_put_49 : decode cX13_put 49 = .ok (.aload_n 0, 1) := by decide +kernel
theorem dX13_put_50 : decode cX13_put 50 = .ok (.getfield 44, 3) := by decide +kernel
theorem dX13_put_53 : decode cX13_put 53 = .ok (.iload_n 1, 1) := by decide +kernel
theorem dX13_put_54 : decode cX13_put 54 = .ok (.dup2, 1) := by decide +kernel
theorem dX13_put_55 : decode cX13_put 55 = .ok (.iaload, 1) := by decide +kernel
theorem dX13_put_56 : decode cX13_put 56 = .ok (.iconst 1, 1) := by decide +kernel
theorem dX13_put_57 : decode cX13_put 57 = .ok (.iadd, 1) := by decide +kernel
theorem dX13_put_58 : decode cX13_put 58 = .ok (.iastore, 1) := by decide +kernel
theorem dX13_put_59 : decode cX13_put 59 = .ok (.aload_n 0, 1) := by decide +kernel
theorem dX13_put_60 : decode cX13_put 60 = .ok (.getfield 44, 3) := by decide +kernel
theorem dX13_put_63 : decode cX13_put 63 = .ok (.iload_n 1, 1) := by decide +kernel
theorem dX13_put_64 : decode cX13_put 64 = .ok (.iaload, 1) := by decide +kernel
theorem dX13_put_65 : decode cX13_put 65 = .ok (.ireturn, 1) := by decide +kernel
theorem dX13_put_7 : decode cX13_put 7 = .ok (.aload_n 0, 1) := by decide +kernel
theorem dX13_put_8 : decode cX13_put 8 = .ok (.iload_n 2, 1) := by decide +kernel
theorem dX13_put_9 : decode cX13_put 9 = .ok (.invokevirtual 233, 3) := by decide +kernel
set_option maxRecDepth 20000 in
theorem ggX13_put_X13_isBag : GoodIn wsX13_put wsX13_isBag := goodIn_r _ [6, 7, 8, 9, 5, 10] rfl (by decide +kernel)
set_option maxRecDepth 20000 in
theorem ggX13_put_X13_isClause : GoodIn wsX13_put wsX13_isClause := goodIn_r _ [14, 15, 8, 9, 5, 10, 16, 17, 18, 19, 20, 21, 22, 23, 24, 25, 26, 27, 28, 29, 30, 31, 32, 33, 34, 35, 36, 37, 38, 39, 40, 41, 42, 43, 44, 45, 46, 47, 48, 49, 50, 51, 52, 53, 54, 55, 56, 57, 58, 59, 60] rfl (by decide +kernel)
set_option maxRecDepth 20000 in
theorem gX13_put_X13_isBag : GoodIn wsX13_put (va_wsS RX13 405 yX13_isBag wsX13_isBag) := goodIn_app (goodIn_of _ (by decide +kernel)) ggX13_put_X13_isBag
set_option maxRecDepth 20000 in
theorem gX13_put_X13_isClause : GoodIn wsX13_put (wsV RX13 233 RX13 yX13_isClause wsX13_isClause) := goodIn_app (goodIn_r _ [11, 12, 13, 5] rfl (by decide +kernel)) ggX13_put_X13_isClause
theorem hs_X13_isBag : yX13_isBag.cls ≠ "java/lang/invoke/MethodHandle" ∧ yX13_isBag.cls ≠ "java/lang/invoke/VarHandle" ∧ (parseMethodDescriptor yX13_isBag.desc).map (fun d => d.parameters.length) = some 1 := by decide +kernel
set_option maxRecDepth 20000 in
theorem in_X13_put_X13 : ∀ w ∈ wsX130, w ∈ wsX13_put := sub_r [16, 17, 18, 19, 20, 21, 22, 23, 24, 25, 26, 27, 28, 29, 30, 31, 32, 33, 34, 35, 36, 37, 38, 39, 40, 41, 42, 43, 44, 45, 46, 47, 48, 49, 50, 51, 52, 53, 54, 55, 56, 57, 58, 59, 60] rfl
set_option maxHeartbeats 4000000 in
set_option maxRecDepth 100000 in
theorem c_X13_put (l : Launch) (D : va_G) (T : Nat → ClassId) (sz : Nat) (h0 : Nat) (q : Nat → Int32) (v : Int64) (w : Int64) (a : Nat → Nat) (f12 : Nat → Int32) (f13 : Nat → Int32) (x1 : Int32) (x2 : Int32) (hm : 0 ≤ (q 7).toInt ∧ (q 7).toInt ≤ 24) (hbg : ∀ k : Nat, k < 3 → 0 ≤ (f13 k).toInt ∧ (f13 k).toInt ≤ 12) : Met l yX13_put wsX13_put ({ frames := 2, cells := 0, slots := 0, locals := 46 }) (pW [.ref h0, .int x1, .int x2] D T [(h0, .inr (10, (Value.int (q 0) :: Value.int (q 1) :: Value.int (q 2) :: Value.int (q 3) :: Value.int (q 4) :: Value.int (q 5) :: Value.int (q 6) :: Value.int (q 7) :: Value.ref (a 8) :: Value.ref (a 9) :: Value.ref (a 10) :: Value.ref (a 11) :: Value.ref (a 12) :: Value.ref (a 13) :: Value.int (q 14) :: Value.long v :: Value.long w :: Value.ref (a 17) :: Value.ref (a 18) :: Value.ref (a 19) :: Value.ref (a 20) :: Value.ref (a 21) :: Value.ref (a 22) :: Value.ref (a 23) :: Value.int (q 24) :: Value.ref (a 25) :: Value.int (q 26) :: Value.ref (a 27) :: Value.int (q 28) :: Value.int (q 29) :: Value.int (q 30) :: Value.int (q 31) :: Value.int (q 32) :: Value.int (q 33) :: Value.ref (a 34) :: Value.ref (a 35) :: Value.ref (a 36) :: Value.ref (a 37) :: Value.ref (a 38) :: Value.ref (a 39) :: Value.ref (a 40) :: Value.int (q 41) :: Value.ref (a 42) :: Value.int (q 43) :: Value.int (q 44) :: []))), ((a 12), .inl (T 0, 36, .inl f12)), ((a 13), .inl (T 0, 3, .inl f13))] sz) (va_Qi (fun (r : Int32) (u : (Nat → Int32) × (Nat → Int32)) => (∀ k : Nat, k < 3 → 0 ≤ (u.2 k).toInt ∧ (u.2 k).toInt ≤ 12) ∧ (putR (q 7) x1 x2 r f13 u.2 f12 u.1)) (bW D (va_A [(h0, .inr (10, (Value.int (q 0) :: Value.int (q 1) :: Value.int (q 2) :: Value.int (q 3) :: Value.int (q 4) :: Value.int (q 5) :: Value.int (q 6) :: Value.int (q 7) :: Value.ref (a 8) :: Value.ref (a 9) :: Value.ref (a 10) :: Value.ref (a 11) :: Value.ref (a 12) :: Value.ref (a 13) :: Value.int (q 14) :: Value.long v :: Value.long w :: Value.ref (a 17) :: Value.ref (a 18) :: Value.ref (a 19) :: Value.ref (a 20) :: Value.ref (a 21) :: Value.ref (a 22) :: Value.ref (a 23) :: Value.int (q 24) :: Value.ref (a 25) :: Value.int (q 26) :: Value.ref (a 27) :: Value.int (q 28) :: Value.int (q 29) :: Value.int (q 30) :: Value.int (q 31) :: Value.int (q 32) :: Value.int (q 33) :: Value.ref (a 34) :: Value.ref (a 35) :: Value.ref (a 36) :: Value.ref (a 37) :: Value.ref (a 38) :: Value.ref (a 39) :: Value.ref (a 40) :: Value.int (q 41) :: Value.ref (a 42) :: Value.int (q 43) :: Value.int (q 44) :: []))), ((a 12), .inl (T 0, 36, .inl f12)), ((a 13), .inl (T 0, 3, .inl f13))] sz) (fun (u : (Nat → Int32) × (Nat → Int32)) => [(h0, .inr (10, (Value.int (q 0) :: Value.int (q 1) :: Value.int (q 2) :: Value.int (q 3) :: Value.int (q 4) :: Value.int (q 5) :: Value.int (q 6) :: Value.int (q 7) :: Value.ref (a 8) :: Value.ref (a 9) :: Value.ref (a 10) :: Value.ref (a 11) :: Value.ref (a 12) :: Value.ref (a 13) :: Value.int (q 14) :: Value.long v :: Value.long w :: Value.ref (a 17) :: Value.ref (a 18) :: Value.ref (a 19) :: Value.ref (a 20) :: Value.ref (a 21) :: Value.ref (a 22) :: Value.ref (a 23) :: Value.int (q 24) :: Value.ref (a 25) :: Value.int (q 26) :: Value.ref (a 27) :: Value.int (q 28) :: Value.int (q 29) :: Value.int (q 30) :: Value.int (q 31) :: Value.int (q 32) :: Value.int (q 33) :: Value.ref (a 34) :: Value.ref (a 35) :: Value.ref (a 36) :: Value.ref (a 37) :: Value.ref (a 38) :: Value.ref (a 39) :: Value.ref (a 40) :: Value.int (q 41) :: Value.ref (a 42) :: Value.int (q 43) :: Value.int (q 44) :: []))), ((a 12), .inl (T 0, 36, .inl u.1)), ((a 13), .inl (T 0, 3, .inl u.2))])) (va_A [(h0, .inr (10, (Value.int (q 0) :: Value.int (q 1) :: Value.int (q 2) :: Value.int (q 3) :: Value.int (q 4) :: Value.int (q 5) :: Value.int (q 6) :: Value.int (q 7) :: Value.ref (a 8) :: Value.ref (a 9) :: Value.ref (a 10) :: Value.ref (a 11) :: Value.ref (a 12) :: Value.ref (a 13) :: Value.int (q 14) :: Value.long v :: Value.long w :: Value.ref (a 17) :: Value.ref (a 18) :: Value.ref (a 19) :: Value.ref (a 20) :: Value.ref (a 21) :: Value.ref (a 22) :: Value.ref (a 23) :: Value.int (q 24) :: Value.ref (a 25) :: Value.int (q 26) :: Value.ref (a 27) :: Value.int (q 28) :: Value.int (q 29) :: Value.int (q 30) :: Value.int (q 31) :: Value.int (q 32) :: Value.int (q 33) :: Value.ref (a 34) :: Value.ref (a 35) :: Value.ref (a 36) :: Value.ref (a 37) :: Value.ref (a 38) :: Value.ref (a 39) :: Value.ref (a 40) :: Value.int (q 41) :: Value.ref (a 42) :: Value.int (q 43) :: Value.int (q 44) :: []))), ((a 12), .inl (T 0, 36, .inl f12)), ((a 13), .inl (T 0, 3, .inl f13))] sz)) 0 0 (va_A [(h0, .inr (10, (Value.int (q 0) :: Value.int (q 1) :: Value.int (q 2) :: Value.int (q 3) :: Value.int (q 4) :: Value.int (q 5) :: Value.int (q 6) :: Value.int (q 7) :: Value.ref (a 8) :: Value.ref (a 9) :: Value.ref (a 10) :: Value.ref (a 11) :: Value.ref (a 12) :: Value.ref (a 13) :: Value.int (q 14) :: Value.long v :: Value.long w :: Value.ref (a 17) :: Value.ref (a 18) :: Value.ref (a 19) :: Value.ref (a 20) :: Value.ref (a 21) :: Value.ref (a 22) :: Value.ref (a 23) :: Value.int (q 24) :: Value.ref (a 25) :: Value.int (q 26) :: Value.ref (a 27) :: Value.int (q 28) :: Value.int (q 29) :: Value.int (q 30) :: Value.int (q 31) :: Value.int (q 32) :: Value.int (q 33) :: Value.ref (a 34) :: Value.ref (a 35) :: Value.ref (a 36) :: Value.ref (a 37) :: Value.ref (a 38) :: Value.ref (a 39) :: Value.ref (a 40) :: Value.int (q 41) :: Value.ref (a 42) :: Value.int (q 43) :: Value.int (q 44) :: []))), ((a 12), .inl (T 0, 36, .inl f12)), ((a 13), .inl (T 0, 3, .inl f13))] sz) := by
  refine Met.ofW (cc := cX13_put) (maxL := 3) (ret := (some .int)) (by decide +kernel) rfl ?_
  intro p e s m args below meth c s₁ B hml hv
  obtain ⟨rfl, hsz, hP, hE, hD0⟩ := hv
  have hx := B.exec
  have hb := B.bytes
  have hr := B.returns
  have hts := atoms_spec (ws := wsX13_put) B.pre
  have hown : s.vm.findClass RX13 = some m.cls := findClass_of_methodNamed B.named
  have hlocks := B.notSynchronized
  subst hsz
  have hD := hD0.self (sz := s.heap.size)
  generalize hAe : va_A [(h0, .inr (10, (Value.int (q 0) :: Value.int (q 1) :: Value.int (q 2) :: Value.int (q 3) :: Value.int (q 4) :: Value.int (q 5) :: Value.int (q 6) :: Value.int (q 7) :: Value.ref (a 8) :: Value.ref (a 9) :: Value.ref (a 10) :: Value.ref (a 11) :: Value.ref (a 12) :: Value.ref (a 13) :: Value.int (q 14) :: Value.long v :: Value.long w :: Value.ref (a 17) :: Value.ref (a 18) :: Value.ref (a 19) :: Value.ref (a 20) :: Value.ref (a 21) :: Value.ref (a 22) :: Value.ref (a 23) :: Value.int (q 24) :: Value.ref (a 25) :: Value.int (q 26) :: Value.ref (a 27) :: Value.int (q 28) :: Value.int (q 29) :: Value.int (q 30) :: Value.int (q 31) :: Value.int (q 32) :: Value.int (q 33) :: Value.ref (a 34) :: Value.ref (a 35) :: Value.ref (a 36) :: Value.ref (a 37) :: Value.ref (a 38) :: Value.ref (a 39) :: Value.ref (a 40) :: Value.int (q 41) :: Value.ref (a 42) :: Value.int (q 43) :: Value.int (q 44) :: []))), ((a 12), .inl (T 0, 36, .inl f12)), ((a 13), .inl (T 0, 3, .inl f13))] s.heap.size = A at hD ⊢
  have hA : ∀ q : Nat, s.heap.size ≤ q → A q := fun q h => by rw [← hAe]; exact Or.inr h
  have hS : va_S A s.heap s.heap [] := va_S.rf
  have hP : va_P D vwCl [(h0, .inr (10, (Value.int (q 0) :: Value.int (q 1) :: Value.int (q 2) :: Value.int (q 3) :: Value.int (q 4) :: Value.int (q 5) :: Value.int (q 6) :: Value.int (q 7) :: Value.ref (a 8) :: Value.ref (a 9) :: Value.ref (a 10) :: Value.ref (a 11) :: Value.ref (a 12) :: Value.ref (a 13) :: Value.int (q 14) :: Value.long v :: Value.long w :: Value.ref (a 17) :: Value.ref (a 18) :: Value.ref (a 19) :: Value.ref (a 20) :: Value.ref (a 21) :: Value.ref (a 22) :: Value.ref (a 23) :: Value.int (q 24) :: Value.ref (a 25) :: Value.int (q 26) :: Value.ref (a 27) :: Value.int (q 28) :: Value.int (q 29) :: Value.int (q 30) :: Value.int (q 31) :: Value.int (q 32) :: Value.int (q 33) :: Value.ref (a 34) :: Value.ref (a 35) :: Value.ref (a 36) :: Value.ref (a 37) :: Value.ref (a 38) :: Value.ref (a 39) :: Value.ref (a 40) :: Value.int (q 41) :: Value.ref (a 42) :: Value.int (q 43) :: Value.int (q 44) :: []))), ((a 12), .inl (T 0, 36, .inl f12)), ((a 13), .inl (T 0, 3, .inl f13))] s.heap := hP
  have hl := lv_entry ([.ref h0, .int x1, .int x2]) (n := 3) (Nat.le_of_ble_eq_true rfl)
  rw [lg_entry_eq]
  generalize (lg_sl ([.ref h0, .int x1, .int x2]) ++ List.replicate (3 - (lg_sl ([.ref h0, .int x1, .int x2])).length) Slot.unset).toArray = ls at hl ⊢
  have hl : lv_has ls 3 [(0, .ref h0), (1, .int x1), (2, .int x2)] := hl
  clear hD0
  refine lv_iload_n hx hb dX13_put_0 rfl (lv_at hl 1 rfl) ?_
  refine vp_callSi (W.runS (As := [.int x1]) (rest := []) ⟨hx, hb, hml, hown, hts⟩ (c_X13_isBag l D T x1) (va_cwS 1 hts gX13_put_X13_isBag rfl rfl rfl hs_X13_isBag ⟨Nat.le_of_ble_eq_true rfl, Nat.le_of_ble_eq_true rfl⟩) (pR_S hP hE [] rfl) rfl rfl hl.1 rfl (lv_room (Nat.le_of_ble_eq_true rfl)) dX13_put_1 ⟨Nat.le_of_ble_eq_true rfl, Nat.le_of_ble_eq_true rfl⟩) (fun r_1 hr_1 => ?_)
  rcases bool_post hr_1 with ⟨c_2, rfl⟩ | ⟨c_2, rfl⟩
  · refine lv_if_eq (tgt := 15) hx hb dX13_put_4 (by decide +kernel) (fun c9 => absurd c9 (by decide +kernel)) (fun _ => ?_)
    refine lv_aload_n hx hb dX13_put_7 rfl (lv_at hl 0 rfl) ?_
    refine lv_iload_n hx hb dX13_put_8 rfl (lv_at hl 2 rfl) ?_
    refine vp_callSi (W.runV (As := [.int x2]) (rest := []) ⟨hx, hb, hml, hown, hts⟩ (c_X13_isClause l D T h0 [.int (q 0), .int (q 1), .int (q 2), .int (q 3), .int (q 4), .int (q 5), .int (q 6), .int (q 7), .ref (a 8), .ref (a 9), .ref (a 10), .ref (a 11), .ref (a 12), .ref (a 13), .int (q 14), .long v, .long w, .ref (a 17), .ref (a 18), .ref (a 19), .ref (a 20), .ref (a 21), .ref (a 22), .ref (a 23), .int (q 24), .ref (a 25), .int (q 26), .ref (a 27), .int (q 28), .int (q 29), .int (q 30), .int (q 31), .int (q 32), .int (q 33), .ref (a 34), .ref (a 35), .ref (a 36), .ref (a 37), .ref (a 38), .ref (a 39), .ref (a 40), .int (q 41), .ref (a 42), .int (q 43), .int (q 44)] x2 (q 7) rfl (by omega)) (cwV 1 hts gX13_put_X13_isClause rfl rfl rfl hv_X13_isClause ⟨Nat.le_of_ble_eq_true rfl, Nat.le_of_ble_eq_true rfl⟩) (pR_V (q := (RX13, TX13, 45)) (ci := 10) (q0 := 0) hP hE rfl rfl [0] rfl) rfl rfl hl.1 rfl (lv_room (Nat.le_of_ble_eq_true rfl)) dX13_put_9 ⟨Nat.le_of_ble_eq_true rfl, Nat.le_of_ble_eq_true rfl⟩) (fun r_3 hr_3 => ?_)
    rcases bool_post hr_3 with ⟨c_4, rfl⟩ | ⟨c_4, rfl⟩
    · refine lv_if_ne (tgt := 18) hx hb dX13_put_12 (by decide +kernel) (fun _ => ?_) (fun c9 => absurd c9 (by decide +kernel))
      refine lv_aload_n hx hb dX13_put_18 rfl (lv_at hl 0 rfl) ?_
      refine va_get (D := D) (ci := 10) (v := .ref (a 13)) (C := RX13) (T := TX13) (N := 45) hx hb hts in_X13_put_X13 hown hE.1 hP 0 rfl rfl 13 (by decide +kernel) (hts (.fieldLink RX13 44 "ClauseBookModel" "bagged" "[I") (List.mem_of_getElem? (i := 1) rfl)) (fun _ h9 => h9) rfl dX13_put_19 ?_
      refine lv_iload_n hx hb dX13_put_22 rfl (lv_at hl 1 rfl) ?_
      refine va_iald hx hb hE.1 hP 2 0 rfl rfl (by rw [vp_in_iff]; first | omega | (rw [fb_addI (by omega) (by omega)]; omega)) dX13_put_23 ?_
      refine lv_topi (fun z_5 ez_5 => ?_)
      have hbz_5 : 0 ≤ z_5.toInt ∧ z_5.toInt ≤ 12 := by rw [ez_5]; exact hbg _ (tn3 (by omega) (by omega))
      refine lv_bipush (v := 12) hx hb dX13_put_24 (by decide +kernel) ?_
      refine lv_icmp_ne (tgt := 32) hx hb dX13_put_26 (by decide +kernel) (fun c_6 => ?_) (fun c_6 => ?_)
      · rw [fa_eq] at c_6
        try rw [ti_12] at c_6
        have h12x1 : (12 * x1).toInt = 12 * x1.toInt := by rw [fb_mulI (by rw [ti_12]; omega) (by rw [ti_12]; omega), ti_12]
        refine lv_aload_n hx hb dX13_put_32 rfl (lv_at hl 0 rfl) ?_
        refine va_get (D := D) (ci := 10) (v := .ref (a 12)) (C := RX13) (T := TX13) (N := 45) hx hb hts in_X13_put_X13 hown hE.1 hP 0 rfl rfl 12 (by decide +kernel) (hts (.fieldLink RX13 41 "ClauseBookModel" "bag" "[I") (List.mem_of_getElem? (i := 2) rfl)) (fun _ h9 => h9) rfl dX13_put_33 ?_
        refine lv_bipush (v := 12) hx hb dX13_put_36 (by decide +kernel) ?_
        refine lv_iload_n hx hb dX13_put_38 rfl (lv_at hl 1 rfl) ?_
        refine lv_imul hx hb dX13_put_39 ?_
        refine lv_aload_n hx hb dX13_put_40 rfl (lv_at hl 0 rfl) ?_
        refine va_get (D := D) (ci := 10) (v := .ref (a 13)) (C := RX13) (T := TX13) (N := 45) hx hb hts in_X13_put_X13 hown hE.1 hP 0 rfl rfl 13 (by decide +kernel) (hts (.fieldLink RX13 44 "ClauseBookModel" "bagged" "[I") (List.mem_of_getElem? (i := 1) rfl)) (fun _ h9 => h9) rfl dX13_put_41 ?_
        refine lv_iload_n hx hb dX13_put_44 rfl (lv_at hl 1 rfl) ?_
        refine va_iald hx hb hE.1 hP 2 0 rfl rfl (by rw [vp_in_iff]; first | omega | (rw [fb_addI (by omega) (by omega)]; omega)) dX13_put_45 ?_
        refine lv_topi (fun z_7 ez_7 => ?_)
        have hbz_7 : 0 ≤ z_7.toInt ∧ z_7.toInt ≤ 12 := by rw [ez_7]; exact hbg _ (tn3 (by omega) (by omega))
        have hqz_7 : z_7.toInt = z_5.toInt := by rw [ez_7, ez_5]
        refine lv_iadd hx hb dX13_put_46 ?_
        refine lv_iload_n hx hb dX13_put_47 rfl (lv_at hl 2 rfl) ?_
        refine va_iast hx hb hE.1 hP hD hS 1 0 rfl rfl (by rw [vp_in_iff]; first | omega | (rw [fb_addI (by omega) (by omega)]; omega)) dX13_put_48 (fun H locs hP hD hS => ?_)
        obtain ⟨hP, hD⟩ := wPD [(h0, .inr (10, (Value.int (q 0) :: Value.int (q 1) :: Value.int (q 2) :: Value.int (q 3) :: Value.int (q 4) :: Value.int (q 5) :: Value.int (q 6) :: Value.int (q 7) :: Value.ref (a 8) :: Value.ref (a 9) :: Value.ref (a 10) :: Value.ref (a 11) :: Value.ref (a 12) :: Value.ref (a 13) :: Value.int (q 14) :: Value.long v :: Value.long w :: Value.ref (a 17) :: Value.ref (a 18) :: Value.ref (a 19) :: Value.ref (a 20) :: Value.ref (a 21) :: Value.ref (a 22) :: Value.ref (a 23) :: Value.int (q 24) :: Value.ref (a 25) :: Value.int (q 26) :: Value.ref (a 27) :: Value.int (q 28) :: Value.int (q 29) :: Value.int (q 30) :: Value.int (q 31) :: Value.int (q 32) :: Value.int (q 33) :: Value.ref (a 34) :: Value.ref (a 35) :: Value.ref (a 36) :: Value.ref (a 37) :: Value.ref (a 38) :: Value.ref (a 39) :: Value.ref (a 40) :: Value.int (q 41) :: Value.ref (a 42) :: Value.int (q 43) :: Value.int (q 44) :: []))), ((a 12), .inl (T 0, 36, .inl (upd f12 (((12 * x1) + z_7).toNatClampNeg) x2))), ((a 13), .inl (T 0, 3, .inl f13))] hP hD rfl
        refine lv_aload_n hx hb dX13_put_49 rfl (lv_at hl 0 rfl) ?_
        refine va_get (D := D) (ci := 10) (v := .ref (a 13)) (C := RX13) (T := TX13) (N := 45) hx hb hts in_X13_put_X13 hown hE.1 hP 0 rfl rfl 13 (by decide +kernel) (hts (.fieldLink RX13 44 "ClauseBookModel" "bagged" "[I") (List.mem_of_getElem? (i := 1) rfl)) (fun _ h9 => h9) rfl dX13_put_50 ?_
        refine lv_iload_n hx hb dX13_put_53 rfl (lv_at hl 1 rfl) ?_
        refine lv_dup2_11 hx hb dX13_put_54 rfl rfl ?_
        refine va_iald hx hb hE.1 hP 2 0 rfl rfl (by rw [vp_in_iff]; first | omega | (rw [fb_addI (by omega) (by omega)]; omega)) dX13_put_55 ?_
        refine lv_topi (fun z_8 ez_8 => ?_)
        have hbz_8 : 0 ≤ z_8.toInt ∧ z_8.toInt ≤ 12 := by rw [ez_8]; exact hbg _ (tn3 (by omega) (by omega))
        have hqz_8 : z_8.toInt = z_5.toInt := by rw [ez_8, ez_5]
        refine lv_iconst (v := 1) hx hb dX13_put_56 (by decide +kernel) ?_
        refine lv_iadd hx hb dX13_put_57 ?_
        refine lv_topi (fun z_9 ez_9 => ?_)
        have hvz_9 : 0 ≤ z_9.toInt ∧ z_9.toInt ≤ 12 := by rw [ez_9, inc1 (n := 1000) (by omega) (by decide +kernel)]; omega
        refine va_iast hx hb hE.1 hP hD hS 2 0 rfl rfl (by rw [vp_in_iff]; first | omega | (rw [fb_addI (by omega) (by omega)]; omega)) dX13_put_58 (fun H locs hP hD hS => ?_)
        obtain ⟨hP, hD⟩ := wPD [(h0, .inr (10, (Value.int (q 0) :: Value.int (q 1) :: Value.int (q 2) :: Value.int (q 3) :: Value.int (q 4) :: Value.int (q 5) :: Value.int (q 6) :: Value.int (q 7) :: Value.ref (a 8) :: Value.ref (a 9) :: Value.ref (a 10) :: Value.ref (a 11) :: Value.ref (a 12) :: Value.ref (a 13) :: Value.int (q 14) :: Value.long v :: Value.long w :: Value.ref (a 17) :: Value.ref (a 18) :: Value.ref (a 19) :: Value.ref (a 20) :: Value.ref (a 21) :: Value.ref (a 22) :: Value.ref (a 23) :: Value.int (q 24) :: Value.ref (a 25) :: Value.int (q 26) :: Value.ref (a 27) :: Value.int (q 28) :: Value.int (q 29) :: Value.int (q 30) :: Value.int (q 31) :: Value.int (q 32) :: Value.int (q 33) :: Value.ref (a 34) :: Value.ref (a 35) :: Value.ref (a 36) :: Value.ref (a 37) :: Value.ref (a 38) :: Value.ref (a 39) :: Value.ref (a 40) :: Value.int (q 41) :: Value.ref (a 42) :: Value.int (q 43) :: Value.int (q 44) :: []))), ((a 12), .inl (T 0, 36, .inl (upd f12 (((12 * x1) + z_7).toNatClampNeg) x2))), ((a 13), .inl (T 0, 3, .inl (upd f13 (x1.toNatClampNeg) z_9)))] hP hD rfl
        have hbg := bg_up (x := x1) hbg hvz_9
        refine lv_aload_n hx hb dX13_put_59 rfl (lv_at hl 0 rfl) ?_
        refine va_get (D := D) (ci := 10) (v := .ref (a 13)) (C := RX13) (T := TX13) (N := 45) hx hb hts in_X13_put_X13 hown hE.1 hP 0 rfl rfl 13 (by decide +kernel) (hts (.fieldLink RX13 44 "ClauseBookModel" "bagged" "[I") (List.mem_of_getElem? (i := 1) rfl)) (fun _ h9 => h9) rfl dX13_put_60 ?_
        refine lv_iload_n hx hb dX13_put_63 rfl (lv_at hl 1 rfl) ?_
        refine va_iald hx hb hE.1 hP 2 0 rfl rfl (by rw [vp_in_iff]; first | omega | (rw [fb_addI (by omega) (by omega)]; omega)) dX13_put_64 ?_
        refine lv_topi (fun z_10 ez_10 => ?_)
        have hbz_10 : 0 ≤ z_10.toInt ∧ z_10.toInt ≤ 12 := by rw [ez_10]; exact hbg _ (tn3 (by omega) (by omega))
        have hr65 : z_10 = z_9 := by rw [ez_10, upd_at]
        have hv65 : z_9.toInt = z_5.toInt + 1 := by rw [ez_9, inc1 (n := 1000) (by omega) (by decide +kernel)]; omega
        exact W.iret hx hb hr (fun t ht hW => ⟨⟨_, ((upd f12 (((12 * x1) + z_7).toNatClampNeg) x2), (upd f13 (x1.toNatClampNeg) z_9)), rfl, ⟨(show ∀ k : Nat, k < 3 → 0 ≤ ((upd f13 (x1.toNatClampNeg) z_9) k).toInt ∧ ((upd f13 (x1.toNatClampNeg) z_9) k).toInt ≤ 12 from hbg), (show putR (q 7) x1 x2 z_10 f13 (upd f13 (x1.toNatClampNeg) z_9) f12 (upd f12 (((12 * x1) + z_7).toNatClampNeg) x2) from (Or.inr (Or.inr ⟨(by constructor <;> omega), (by rw [← ez_5]; omega), (by rw [hr65, ← ez_5]; omega), (by rw [hr65]), (by rw [ix12 (by omega) (by omega), ez_7])⟩)))⟩, by rw [ht]; exact hP.sub [0, 1, 2] rfl, hD.sub [0, 1, 2] (by decide +kernel) rfl⟩, hS.F ht⟩) hS.2.2 dX13_put_65
      · rw [fa_eq] at c_6
        try rw [ti_12] at c_6
        refine lv_bipush (v := (-4)) hx hb dX13_put_29 (by decide +kernel) ?_
        exact W.iret hx hb hr (fun t ht hW => ⟨⟨_, (f12, f13), rfl, ⟨(show ∀ k : Nat, k < 3 → 0 ≤ (f13 k).toInt ∧ (f13 k).toInt ≤ 12 from hbg), (show putR (q 7) x1 x2 ((-4) : Int32) f13 f13 f12 f12 from (Or.inr (Or.inl ⟨(by constructor <;> omega), (by rw [← ez_5]; omega), (by decide +kernel), rfl, rfl⟩)))⟩, by rw [ht]; exact hP.sub [0, 1, 2] rfl, hD.sub [0, 1, 2] (by decide +kernel) rfl⟩, hS.F ht⟩) hS.2.2 dX13_put_31
    · refine lv_if_ne (tgt := 18) hx hb dX13_put_12 (by decide +kernel) (fun c9 => absurd c9 (by decide +kernel)) (fun _ => ?_)
      refine lv_bipush (v := (-2)) hx hb dX13_put_15 (by decide +kernel) ?_
      exact W.iret hx hb hr (fun t ht hW => ⟨⟨_, (f12, f13), rfl, ⟨(show ∀ k : Nat, k < 3 → 0 ≤ (f13 k).toInt ∧ (f13 k).toInt ≤ 12 from hbg), (show putR (q 7) x1 x2 ((-2) : Int32) f13 f13 f12 f12 from (Or.inl ⟨(fun h9 => by have h8 := h9.1; have h7 := h9.2; omega), (by decide +kernel), rfl, rfl⟩))⟩, by rw [ht]; exact hP.sub [0, 1, 2] rfl, hD.sub [0, 1, 2] (by decide +kernel) rfl⟩, hS.F ht⟩) hS.2.2 dX13_put_17
  · refine lv_if_eq (tgt := 15) hx hb dX13_put_4 (by decide +kernel) (fun _ => ?_) (fun c9 => absurd c9 (by decide +kernel))
    refine lv_bipush (v := (-2)) hx hb dX13_put_15 (by decide +kernel) ?_
    exact W.iret hx hb hr (fun t ht hW => ⟨⟨_, (f12, f13), rfl, ⟨(show ∀ k : Nat, k < 3 → 0 ≤ (f13 k).toInt ∧ (f13 k).toInt ≤ 12 from hbg), (show putR (q 7) x1 x2 ((-2) : Int32) f13 f13 f12 f12 from (Or.inl ⟨(fun h9 => by have h8 := h9.1; have h7 := h9.2; omega), (by decide +kernel), rfl, rfl⟩))⟩, by rw [ht]; exact hP.sub [0, 1, 2] rfl, hD.sub [0, 1, 2] (by decide +kernel) rfl⟩, hS.F ht⟩) hS.2.2 dX13_put_17
theorem dX13_take_0 : decode cX13_take 0 = .ok (.iload_n 1, 1) := by decide +kernel
theorem dX13_take_1 : decode cX13_take 1 = .ok (.invokestatic 405, 3) := by decide +kernel
theorem dX13_take_10 : decode cX13_take 10 = .ok (.aload_n 0, 1) := by decide +kernel
theorem dX13_take_11 : decode cX13_take 11 = .ok (.getfield 44, 3) := by decide +kernel
theorem dX13_take_14 : decode cX13_take 14 = .ok (.iload_n 1, 1) := by decide +kernel
theorem dX13_take_15 : decode cX13_take 15 = .ok (.iaload, 1) := by decide +kernel
theorem dX13_take_16 : decode cX13_take 16 = .ok (.ifCond .ne 5, 3) := by decide +kernel
theorem dX13_take_19 : decode cX13_take 19 = .ok (.iconst (-1), 1) := by decide +kernel
theorem dX13_take_20 : decode cX13_take 20 = .ok (.ireturn, 1) := by decide +kernel
theorem dX13_take_21 : decode cX13_take 21 = .ok (.aload_n 0, 1) := by decide +kernel
theorem dX13_take_22 : decode cX13_take 22 = .ok (.getfield 44, 3) := by decide +kernel
theorem dX13_take_25 : decode cX13_take 25 = .ok (.iload_n 1, 1) := by decide +kernel
theorem dX13_take_26 : decode cX13_take 26 = .ok (.dup2, 1) := by decide +kernel
theorem dX13_take_27 : decode cX13_take 27 = .ok (.iaload, 1) := by decide +kernel
theorem dX13_take_28 : decode cX13_take 28 = .ok (.iconst 1, 1) := by decide +kernel
theorem dX13_take_29 : decode cX13_take 29 = .ok (.isub, 1) := by decide +kernel
theorem dX13_take_30 : decode cX13_take 30 = .ok (.iastore, 1) := by decide +kernel
theorem dX13_take_31 : decode cX13_take 31 = .ok (.aload_n 0, 1) := by decide +kernel
theorem dX13_take_32 : decode cX13_take 32 = .ok (.getfield 41, 3) := by decide +kernel
theorem dX13_take_35 : decode cX13_take 35 = .ok (.bipush 12, 2) := by decide +kernel
theorem dX13_take_37 : decode cX13_take 37 = .ok (.iload_n 1, 1) := by decide +kernel
theorem dX13_take_38 : decode cX13_take 38 = .ok (.imul, 1) := by decide +kernel
theorem dX13_take_39 : decode cX13_take 39 = .ok (.aload_n 0, 1) := by decide +kernel
theorem dX13_take_4 : decode cX13_take 4 = .ok (.ifCond .ne 6, 3) := by decide +kernel
theorem dX13_take_40 : decode cX13_take 40 = .ok (.getfield 44, 3) := by decide +kernel
theorem dX13_take_43 : decode cX13_take 43 = .ok (.iload_n 1, 1) := by decide +kernel
theorem dX13_take_44 : decode cX13_take 44 = .ok (.iaload, 1) := by decide +kernel
theorem dX13_take_45 : decode cX13_take 45 = .ok (.iadd, 1) := by decide +kernel
theorem dX13_take_46 : decode cX13_take 46 = .ok (.iaload, 1) := by decide +kernel
theorem dX13_take_47 : decode cX13_take 47 = .ok (.ireturn, 1) := by decide +kernel
theorem dX13_take_7 : decode cX13_take 7 = .ok (.bipush (-2), 2) := by decide +kernel
theorem dX13_take_9 : decode cX13_take 9 = .ok (.ireturn, 1) := by decide +kernel
set_option maxRecDepth 20000 in
theorem ggX13_take_X13_isBag : GoodIn wsX13_take wsX13_isBag := goodIn_r _ [6, 7, 8, 9, 5, 10] rfl (by decide +kernel)
set_option maxRecDepth 20000 in
theorem gX13_take_X13_isBag : GoodIn wsX13_take (va_wsS RX13 405 yX13_isBag wsX13_isBag) := goodIn_app (goodIn_of _ (by decide +kernel)) ggX13_take_X13_isBag
set_option maxRecDepth 20000 in
theorem in_X13_take_X13 : ∀ w ∈ wsX130, w ∈ wsX13_take := sub_r [11, 12, 13, 14, 15, 16, 17, 18, 19, 20, 21, 22, 23, 24, 25, 26, 27, 28, 29, 30, 31, 32, 33, 34, 35, 36, 37, 38, 39, 40, 41, 42, 43, 44, 45, 46, 47, 48, 49, 50, 51, 52, 53, 54, 55] rfl
set_option maxHeartbeats 4000000 in
set_option maxRecDepth 100000 in
theorem c_X13_take (l : Launch) (D : va_G) (T : Nat → ClassId) (sz : Nat) (h0 : Nat) (q : Nat → Int32) (v : Int64) (w : Int64) (a : Nat → Nat) (f12 : Nat → Int32) (f13 : Nat → Int32) (x1 : Int32) (hbg : ∀ k : Nat, k < 3 → 0 ≤ (f13 k).toInt ∧ (f13 k).toInt ≤ 12) : Met l yX13_take wsX13_take ({ frames := 2, cells := 0, slots := 0, locals := 45 }) (pW [.ref h0, .int x1] D T [(h0, .inr (10, (Value.int (q 0) :: Value.int (q 1) :: Value.int (q 2) :: Value.int (q 3) :: Value.int (q 4) :: Value.int (q 5) :: Value.int (q 6) :: Value.int (q 7) :: Value.ref (a 8) :: Value.ref (a 9) :: Value.ref (a 10) :: Value.ref (a 11) :: Value.ref (a 12) :: Value.ref (a 13) :: Value.int (q 14) :: Value.long v :: Value.long w :: Value.ref (a 17) :: Value.ref (a 18) :: Value.ref (a 19) :: Value.ref (a 20) :: Value.ref (a 21) :: Value.ref (a 22) :: Value.ref (a 23) :: Value.int (q 24) :: Value.ref (a 25) :: Value.int (q 26) :: Value.ref (a 27) :: Value.int (q 28) :: Value.int (q 29) :: Value.int (q 30) :: Value.int (q 31) :: Value.int (q 32) :: Value.int (q 33) :: Value.ref (a 34) :: Value.ref (a 35) :: Value.ref (a 36) :: Value.ref (a 37) :: Value.ref (a 38) :: Value.ref (a 39) :: Value.ref (a 40) :: Value.int (q 41) :: Value.ref (a 42) :: Value.int (q 43) :: Value.int (q 44) :: []))), ((a 12), .inl (T 0, 36, .inl f12)), ((a 13), .inl (T 0, 3, .inl f13))] sz) (va_Qi (fun (r : Int32) (u : (Nat → Int32) × (Nat → Int32)) => (∀ k : Nat, k < 3 → 0 ≤ (u.2 k).toInt ∧ (u.2 k).toInt ≤ 12) ∧ (takeR x1 r f13 u.2 f12 u.1)) (bW D (va_A [(h0, .inr (10, (Value.int (q 0) :: Value.int (q 1) :: Value.int (q 2) :: Value.int (q 3) :: Value.int (q 4) :: Value.int (q 5) :: Value.int (q 6) :: Value.int (q 7) :: Value.ref (a 8) :: Value.ref (a 9) :: Value.ref (a 10) :: Value.ref (a 11) :: Value.ref (a 12) :: Value.ref (a 13) :: Value.int (q 14) :: Value.long v :: Value.long w :: Value.ref (a 17) :: Value.ref (a 18) :: Value.ref (a 19) :: Value.ref (a 20) :: Value.ref (a 21) :: Value.ref (a 22) :: Value.ref (a 23) :: Value.int (q 24) :: Value.ref (a 25) :: Value.int (q 26) :: Value.ref (a 27) :: Value.int (q 28) :: Value.int (q 29) :: Value.int (q 30) :: Value.int (q 31) :: Value.int (q 32) :: Value.int (q 33) :: Value.ref (a 34) :: Value.ref (a 35) :: Value.ref (a 36) :: Value.ref (a 37) :: Value.ref (a 38) :: Value.ref (a 39) :: Value.ref (a 40) :: Value.int (q 41) :: Value.ref (a 42) :: Value.int (q 43) :: Value.int (q 44) :: []))), ((a 12), .inl (T 0, 36, .inl f12)), ((a 13), .inl (T 0, 3, .inl f13))] sz) (fun (u : (Nat → Int32) × (Nat → Int32)) => [(h0, .inr (10, (Value.int (q 0) :: Value.int (q 1) :: Value.int (q 2) :: Value.int (q 3) :: Value.int (q 4) :: Value.int (q 5) :: Value.int (q 6) :: Value.int (q 7) :: Value.ref (a 8) :: Value.ref (a 9) :: Value.ref (a 10) :: Value.ref (a 11) :: Value.ref (a 12) :: Value.ref (a 13) :: Value.int (q 14) :: Value.long v :: Value.long w :: Value.ref (a 17) :: Value.ref (a 18) :: Value.ref (a 19) :: Value.ref (a 20) :: Value.ref (a 21) :: Value.ref (a 22) :: Value.ref (a 23) :: Value.int (q 24) :: Value.ref (a 25) :: Value.int (q 26) :: Value.ref (a 27) :: Value.int (q 28) :: Value.int (q 29) :: Value.int (q 30) :: Value.int (q 31) :: Value.int (q 32) :: Value.int (q 33) :: Value.ref (a 34) :: Value.ref (a 35) :: Value.ref (a 36) :: Value.ref (a 37) :: Value.ref (a 38) :: Value.ref (a 39) :: Value.ref (a 40) :: Value.int (q 41) :: Value.ref (a 42) :: Value.int (q 43) :: Value.int (q 44) :: []))), ((a 12), .inl (T 0, 36, .inl u.1)), ((a 13), .inl (T 0, 3, .inl u.2))])) (va_A [(h0, .inr (10, (Value.int (q 0) :: Value.int (q 1) :: Value.int (q 2) :: Value.int (q 3) :: Value.int (q 4) :: Value.int (q 5) :: Value.int (q 6) :: Value.int (q 7) :: Value.ref (a 8) :: Value.ref (a 9) :: Value.ref (a 10) :: Value.ref (a 11) :: Value.ref (a 12) :: Value.ref (a 13) :: Value.int (q 14) :: Value.long v :: Value.long w :: Value.ref (a 17) :: Value.ref (a 18) :: Value.ref (a 19) :: Value.ref (a 20) :: Value.ref (a 21) :: Value.ref (a 22) :: Value.ref (a 23) :: Value.int (q 24) :: Value.ref (a 25) :: Value.int (q 26) :: Value.ref (a 27) :: Value.int (q 28) :: Value.int (q 29) :: Value.int (q 30) :: Value.int (q 31) :: Value.int (q 32) :: Value.int (q 33) :: Value.ref (a 34) :: Value.ref (a 35) :: Value.ref (a 36) :: Value.ref (a 37) :: Value.ref (a 38) :: Value.ref (a 39) :: Value.ref (a 40) :: Value.int (q 41) :: Value.ref (a 42) :: Value.int (q 43) :: Value.int (q 44) :: []))), ((a 12), .inl (T 0, 36, .inl f12)), ((a 13), .inl (T 0, 3, .inl f13))] sz)) 0 0 (va_A [(h0, .inr (10, (Value.int (q 0) :: Value.int (q 1) :: Value.int (q 2) :: Value.int (q 3) :: Value.int (q 4) :: Value.int (q 5) :: Value.int (q 6) :: Value.int (q 7) :: Value.ref (a 8) :: Value.ref (a 9) :: Value.ref (a 10) :: Value.ref (a 11) :: Value.ref (a 12) :: Value.ref (a 13) :: Value.int (q 14) :: Value.long v :: Value.long w :: Value.ref (a 17) :: Value.ref (a 18) :: Value.ref (a 19) :: Value.ref (a 20) :: Value.ref (a 21) :: Value.ref (a 22) :: Value.ref (a 23) :: Value.int (q 24) :: Value.ref (a 25) :: Value.int (q 26) :: Value.ref (a 27) :: Value.int (q 28) :: Value.int (q 29) :: Value.int (q 30) :: Value.int (q 31) :: Value.int (q 32) :: Value.int (q 33) :: Value.ref (a 34) :: Value.ref (a 35) :: Value.ref (a 36) :: Value.ref (a 37) :: Value.ref (a 38) :: Value.ref (a 39) :: Value.ref (a 40) :: Value.int (q 41) :: Value.ref (a 42) :: Value.int (q 43) :: Value.int (q 44) :: []))), ((a 12), .inl (T 0, 36, .inl f12)), ((a 13), .inl (T 0, 3, .inl f13))] sz) := by
  refine Met.ofW (cc := cX13_take) (maxL := 2) (ret := (some .int)) (by decide +kernel) rfl ?_
  intro p e s m args below meth c s₁ B hml hv
  obtain ⟨rfl, hsz, hP, hE, hD0⟩ := hv
  have hx := B.exec
  have hb := B.bytes
  have hr := B.returns
  have hts := atoms_spec (ws := wsX13_take) B.pre
  have hown : s.vm.findClass RX13 = some m.cls := findClass_of_methodNamed B.named
  have hlocks := B.notSynchronized
  subst hsz
  have hD := hD0.self (sz := s.heap.size)
  generalize hAe : va_A [(h0, .inr (10, (Value.int (q 0) :: Value.int (q 1) :: Value.int (q 2) :: Value.int (q 3) :: Value.int (q 4) :: Value.int (q 5) :: Value.int (q 6) :: Value.int (q 7) :: Value.ref (a 8) :: Value.ref (a 9) :: Value.ref (a 10) :: Value.ref (a 11) :: Value.ref (a 12) :: Value.ref (a 13) :: Value.int (q 14) :: Value.long v :: Value.long w :: Value.ref (a 17) :: Value.ref (a 18) :: Value.ref (a 19) :: Value.ref (a 20) :: Value.ref (a 21) :: Value.ref (a 22) :: Value.ref (a 23) :: Value.int (q 24) :: Value.ref (a 25) :: Value.int (q 26) :: Value.ref (a 27) :: Value.int (q 28) :: Value.int (q 29) :: Value.int (q 30) :: Value.int (q 31) :: Value.int (q 32) :: Value.int (q 33) :: Value.ref (a 34) :: Value.ref (a 35) :: Value.ref (a 36) :: Value.ref (a 37) :: Value.ref (a 38) :: Value.ref (a 39) :: Value.ref (a 40) :: Value.int (q 41) :: Value.ref (a 42) :: Value.int (q 43) :: Value.int (q 44) :: []))), ((a 12), .inl (T 0, 36, .inl f12)), ((a 13), .inl (T 0, 3, .inl f13))] s.heap.size = A at hD ⊢
  have hA : ∀ q : Nat, s.heap.size ≤ q → A q := fun q h => by rw [← hAe]; exact Or.inr h
  have hS : va_S A s.heap s.heap [] := va_S.rf
  have hP : va_P D vwCl [(h0, .inr (10, (Value.int (q 0) :: Value.int (q 1) :: Value.int (q 2) :: Value.int (q 3) :: Value.int (q 4) :: Value.int (q 5) :: Value.int (q 6) :: Value.int (q 7) :: Value.ref (a 8) :: Value.ref (a 9) :: Value.ref (a 10) :: Value.ref (a 11) :: Value.ref (a 12) :: Value.ref (a 13) :: Value.int (q 14) :: Value.long v :: Value.long w :: Value.ref (a 17) :: Value.ref (a 18) :: Value.ref (a 19) :: Value.ref (a 20) :: Value.ref (a 21) :: Value.ref (a 22) :: Value.ref (a 23) :: Value.int (q 24) :: Value.ref (a 25) :: Value.int (q 26) :: Value.ref (a 27) :: Value.int (q 28) :: Value.int (q 29) :: Value.int (q 30) :: Value.int (q 31) :: Value.int (q 32) :: Value.int (q 33) :: Value.ref (a 34) :: Value.ref (a 35) :: Value.ref (a 36) :: Value.ref (a 37) :: Value.ref (a 38) :: Value.ref (a 39) :: Value.ref (a 40) :: Value.int (q 41) :: Value.ref (a 42) :: Value.int (q 43) :: Value.int (q 44) :: []))), ((a 12), .inl (T 0, 36, .inl f12)), ((a 13), .inl (T 0, 3, .inl f13))] s.heap := hP
  have hl := lv_entry ([.ref h0, .int x1]) (n := 2) (Nat.le_of_ble_eq_true rfl)
  rw [lg_entry_eq]
  generalize (lg_sl ([.ref h0, .int x1]) ++ List.replicate (2 - (lg_sl ([.ref h0, .int x1])).length) Slot.unset).toArray = ls at hl ⊢
  have hl : lv_has ls 2 [(0, .ref h0), (1, .int x1)] := hl
  clear hD0
  refine lv_iload_n hx hb dX13_take_0 rfl (lv_at hl 1 rfl) ?_
  refine vp_callSi (W.runS (As := [.int x1]) (rest := []) ⟨hx, hb, hml, hown, hts⟩ (c_X13_isBag l D T x1) (va_cwS 1 hts gX13_take_X13_isBag rfl rfl rfl hs_X13_isBag ⟨Nat.le_of_ble_eq_true rfl, Nat.le_of_ble_eq_true rfl⟩) (pR_S hP hE [] rfl) rfl rfl hl.1 rfl (lv_room (Nat.le_of_ble_eq_true rfl)) dX13_take_1 ⟨Nat.le_of_ble_eq_true rfl, Nat.le_of_ble_eq_true rfl⟩) (fun r_1 hr_1 => ?_)
  rcases bool_post hr_1 with ⟨c_2, rfl⟩ | ⟨c_2, rfl⟩
  · refine lv_if_ne (tgt := 10) hx hb dX13_take_4 (by decide +kernel) (fun _ => ?_) (fun c9 => absurd c9 (by decide +kernel))
    refine lv_aload_n hx hb dX13_take_10 rfl (lv_at hl 0 rfl) ?_
    refine va_get (D := D) (ci := 10) (v := .ref (a 13)) (C := RX13) (T := TX13) (N := 45) hx hb hts in_X13_take_X13 hown hE.1 hP 0 rfl rfl 13 (by decide +kernel) (hts (.fieldLink RX13 44 "ClauseBookModel" "bagged" "[I") (List.mem_of_getElem? (i := 1) rfl)) (fun _ h9 => h9) rfl dX13_take_11 ?_
    refine lv_iload_n hx hb dX13_take_14 rfl (lv_at hl 1 rfl) ?_
    refine va_iald hx hb hE.1 hP 2 0 rfl rfl (by rw [vp_in_iff]; first | omega | (rw [fb_addI (by omega) (by omega)]; omega)) dX13_take_15 ?_
    refine lv_topi (fun z_3 ez_3 => ?_)
    have hbz_3 : 0 ≤ z_3.toInt ∧ z_3.toInt ≤ 12 := by rw [ez_3]; exact hbg _ (tn3 (by omega) (by omega))
    refine lv_if_ne (tgt := 21) hx hb dX13_take_16 (by decide +kernel) (fun c_4 => ?_) (fun c_4 => ?_)
    · rw [fa_eq] at c_4
      try rw [ti_0] at c_4
      refine lv_aload_n hx hb dX13_take_21 rfl (lv_at hl 0 rfl) ?_
      refine va_get (D := D) (ci := 10) (v := .ref (a 13)) (C := RX13) (T := TX13) (N := 45) hx hb hts in_X13_take_X13 hown hE.1 hP 0 rfl rfl 13 (by decide +kernel) (hts (.fieldLink RX13 44 "ClauseBookModel" "bagged" "[I") (List.mem_of_getElem? (i := 1) rfl)) (fun _ h9 => h9) rfl dX13_take_22 ?_
      refine lv_iload_n hx hb dX13_take_25 rfl (lv_at hl 1 rfl) ?_
      refine lv_dup2_11 hx hb dX13_take_26 rfl rfl ?_
      refine va_iald hx hb hE.1 hP 2 0 rfl rfl (by rw [vp_in_iff]; first | omega | (rw [fb_addI (by omega) (by omega)]; omega)) dX13_take_27 ?_
      refine lv_topi (fun z_5 ez_5 => ?_)
      have hbz_5 : 0 ≤ z_5.toInt ∧ z_5.toInt ≤ 12 := by rw [ez_5]; exact hbg _ (tn3 (by omega) (by omega))
      have hqz_5 : z_5.toInt = z_3.toInt := by rw [ez_5, ez_3]
      refine lv_iconst (v := 1) hx hb dX13_take_28 (by decide +kernel) ?_
      refine lv_isub hx hb dX13_take_29 ?_
      refine lv_topi (fun z_6 ez_6 => ?_)
      have hvz_6 : 0 ≤ z_6.toInt ∧ z_6.toInt ≤ 12 := by rw [ez_6, dec1 (by omega)]; omega
      have hwz_6 : z_6.toInt ≤ 11 := by rw [ez_6, dec1 (by omega)]; omega
      refine va_iast hx hb hE.1 hP hD hS 2 0 rfl rfl (by rw [vp_in_iff]; first | omega | (rw [fb_addI (by omega) (by omega)]; omega)) dX13_take_30 (fun H locs hP hD hS => ?_)
      obtain ⟨hP, hD⟩ := wPD [(h0, .inr (10, (Value.int (q 0) :: Value.int (q 1) :: Value.int (q 2) :: Value.int (q 3) :: Value.int (q 4) :: Value.int (q 5) :: Value.int (q 6) :: Value.int (q 7) :: Value.ref (a 8) :: Value.ref (a 9) :: Value.ref (a 10) :: Value.ref (a 11) :: Value.ref (a 12) :: Value.ref (a 13) :: Value.int (q 14) :: Value.long v :: Value.long w :: Value.ref (a 17) :: Value.ref (a 18) :: Value.ref (a 19) :: Value.ref (a 20) :: Value.ref (a 21) :: Value.ref (a 22) :: Value.ref (a 23) :: Value.int (q 24) :: Value.ref (a 25) :: Value.int (q 26) :: Value.ref (a 27) :: Value.int (q 28) :: Value.int (q 29) :: Value.int (q 30) :: Value.int (q 31) :: Value.int (q 32) :: Value.int (q 33) :: Value.ref (a 34) :: Value.ref (a 35) :: Value.ref (a 36) :: Value.ref (a 37) :: Value.ref (a 38) :: Value.ref (a 39) :: Value.ref (a 40) :: Value.int (q 41) :: Value.ref (a 42) :: Value.int (q 43) :: Value.int (q 44) :: []))), ((a 12), .inl (T 0, 36, .inl f12)), ((a 13), .inl (T 0, 3, .inl (upd f13 (x1.toNatClampNeg) z_6)))] hP hD rfl
      have hbg := bg_up (x := x1) hbg hvz_6
      have h12x1 : (12 * x1).toInt = 12 * x1.toInt := by rw [fb_mulI (by rw [ti_12]; omega) (by rw [ti_12]; omega), ti_12]
      refine lv_aload_n hx hb dX13_take_31 rfl (lv_at hl 0 rfl) ?_
      refine va_get (D := D) (ci := 10) (v := .ref (a 12)) (C := RX13) (T := TX13) (N := 45) hx hb hts in_X13_take_X13 hown hE.1 hP 0 rfl rfl 12 (by decide +kernel) (hts (.fieldLink RX13 41 "ClauseBookModel" "bag" "[I") (List.mem_of_getElem? (i := 2) rfl)) (fun _ h9 => h9) rfl dX13_take_32 ?_
      refine lv_bipush (v := 12) hx hb dX13_take_35 (by decide +kernel) ?_
      refine lv_iload_n hx hb dX13_take_37 rfl (lv_at hl 1 rfl) ?_
      refine lv_imul hx hb dX13_take_38 ?_
      refine lv_aload_n hx hb dX13_take_39 rfl (lv_at hl 0 rfl) ?_
      refine va_get (D := D) (ci := 10) (v := .ref (a 13)) (C := RX13) (T := TX13) (N := 45) hx hb hts in_X13_take_X13 hown hE.1 hP 0 rfl rfl 13 (by decide +kernel) (hts (.fieldLink RX13 44 "ClauseBookModel" "bagged" "[I") (List.mem_of_getElem? (i := 1) rfl)) (fun _ h9 => h9) rfl dX13_take_40 ?_
      refine lv_iload_n hx hb dX13_take_43 rfl (lv_at hl 1 rfl) ?_
      refine va_iald hx hb hE.1 hP 2 0 rfl rfl (by rw [vp_in_iff]; first | omega | (rw [fb_addI (by omega) (by omega)]; omega)) dX13_take_44 ?_
      refine lv_topi (fun z_7 ez_7 => ?_)
      have hbz_7 : z_7.toInt = z_6.toInt := by rw [ez_7, upd_at]
      refine lv_iadd hx hb dX13_take_45 ?_
      refine va_iald hx hb hE.1 hP 1 0 rfl rfl (by rw [vp_in_iff]; first | omega | (rw [fb_addI (by omega) (by omega)]; omega)) dX13_take_46 ?_
      refine lv_topi (fun z_8 ez_8 => ?_)
      exact W.iret hx hb hr (fun t ht hW => ⟨⟨_, (f12, (upd f13 (x1.toNatClampNeg) z_6)), rfl, ⟨(show ∀ k : Nat, k < 3 → 0 ≤ ((upd f13 (x1.toNatClampNeg) z_6) k).toInt ∧ ((upd f13 (x1.toNatClampNeg) z_6) k).toInt ≤ 12 from hbg), (show takeR x1 z_8 f13 (upd f13 (x1.toNatClampNeg) z_6) f12 f12 from ⟨rfl, (Or.inr (Or.inr ⟨(by omega), (by rw [← ez_3]; omega), z_6, (by rw [← ez_3, ez_6, dec1 (by omega)]; omega), (by rw [ez_8, ix12 (by omega) (by omega), ez_7, upd_at]), rfl⟩))⟩)⟩, by rw [ht]; exact hP.sub [0, 1, 2] rfl, hD.sub [0, 1, 2] (by decide +kernel) rfl⟩, hS.F ht⟩) hS.2.2 dX13_take_47
    · rw [fa_eq] at c_4
      try rw [ti_0] at c_4
      refine lv_iconst (v := (-1)) hx hb dX13_take_19 (by decide +kernel) ?_
      exact W.iret hx hb hr (fun t ht hW => ⟨⟨_, (f12, f13), rfl, ⟨(show ∀ k : Nat, k < 3 → 0 ≤ (f13 k).toInt ∧ (f13 k).toInt ≤ 12 from hbg), (show takeR x1 ((-1) : Int32) f13 f13 f12 f12 from ⟨rfl, (Or.inr (Or.inl ⟨(by omega), (by rw [← ez_3]; omega), (by decide +kernel), rfl⟩))⟩)⟩, by rw [ht]; exact hP.sub [0, 1, 2] rfl, hD.sub [0, 1, 2] (by decide +kernel) rfl⟩, hS.F ht⟩) hS.2.2 dX13_take_20
  · refine lv_if_ne (tgt := 10) hx hb dX13_take_4 (by decide +kernel) (fun c9 => absurd c9 (by decide +kernel)) (fun _ => ?_)
    refine lv_bipush (v := (-2)) hx hb dX13_take_7 (by decide +kernel) ?_
    exact W.iret hx hb hr (fun t ht hW => ⟨⟨_, (f12, f13), rfl, ⟨(show ∀ k : Nat, k < 3 → 0 ≤ (f13 k).toInt ∧ (f13 k).toInt ≤ 12 from hbg), (show takeR x1 ((-2) : Int32) f13 f13 f12 f12 from ⟨rfl, (Or.inl ⟨(by omega), (by decide +kernel), rfl⟩)⟩)⟩, by rw [ht]; exact hP.sub [0, 1, 2] rfl, hD.sub [0, 1, 2] (by decide +kernel) rfl⟩, hS.F ht⟩) hS.2.2 dX13_take_9
theorem dX13_bagOf_0 : decode cX13_bagOf 0 = .ok (.iload_n 1, 1) := by decide +kernel
theorem dX13_bagOf_1 : decode cX13_bagOf 1 = .ok (.invokestatic 405, 3) := by decide +kernel
theorem dX13_bagOf_12 : decode cX13_bagOf 12 = .ok (.iload_n 2, 1) := by decide +kernel
theorem dX13_bagOf_13 : decode cX13_bagOf 13 = .ok (.i2l, 1) := by decide +kernel
theorem dX13_bagOf_14 : decode cX13_bagOf 14 = .ok (.lconst 0, 1) := by decide +kernel
theorem dX13_bagOf_15 : decode cX13_bagOf 15 = .ok (.aload_n 0, 1) := by decide +kernel
theorem dX13_bagOf_16 : decode cX13_bagOf 16 = .ok (.getfield 44, 3) := by decide +kernel
theorem dX13_bagOf_19 : decode cX13_bagOf 19 = .ok (.iload_n 1, 1) := by decide +kernel
theorem dX13_bagOf_20 : decode cX13_bagOf 20 = .ok (.iaload, 1) := by decide +kernel
theorem dX13_bagOf_21 : decode cX13_bagOf 21 = .ok (.iconst 1, 1) := by decide +kernel
theorem dX13_bagOf_22 : decode cX13_bagOf 22 = .ok (.isub, 1) := by decide +kernel
theorem dX13_bagOf_23 : decode cX13_bagOf 23 = .ok (.i2l, 1) := by decide +kernel
theorem dX13_bagOf_24 : decode cX13_bagOf 24 = .ok (.invokestatic 175, 3) := by decide +kernel
theorem dX13_bagOf_27 : decode cX13_bagOf 27 = .ok (.ifCond .eq 17, 3) := by decide +kernel
theorem dX13_bagOf_30 : decode cX13_bagOf 30 = .ok (.aload_n 0, 1) := by decide +kernel
theorem dX13_bagOf_31 : decode cX13_bagOf 31 = .ok (.getfield 41, 3) := by decide +kernel
theorem dX13_bagOf_34 : decode cX13_bagOf 34 = .ok (.bipush 12, 2) := by decide +kernel
theorem dX13_bagOf_36 : decode cX13_bagOf 36 = .ok (.iload_n 1, 1) := by decide +kernel
theorem dX13_bagOf_37 : decode cX13_bagOf 37 = .ok (.imul, 1) := by decide +kernel
theorem dX13_bagOf_38 : decode cX13_bagOf 38 = .ok (.iload_n 2, 1) := by decide +kernel
theorem dX13_bagOf_39 : decode cX13_bagOf 39 = .ok (.iadd, 1) := by decide +kernel
theorem dX13_bagOf_4 : decode cX13_bagOf 4 = .ok (.ifCond .ne 8, 3) := by decide +kernel
theorem dX13_bagOf_40 : decode cX13_bagOf 40 = .ok (.iaload, 1) := by decide +kernel
theorem dX13_bagOf_41 : decode cX13_bagOf 41 = .ok (.goto 5, 3) := by decide +kernel
theorem dX13_bagOf_44 : decode cX13_bagOf 44 = .ok (.bipush (-12), 2) := by decide +kernel
theorem dX13_bagOf_46 : decode cX13_bagOf 46 = .ok (.ireturn, 1) := by decide +kernel
theorem dX13_bagOf_7 : decode cX13_bagOf 7 = .ok (.bipush (-2), 2) := by decide +kernel
theorem dX13_bagOf_9 : decode cX13_bagOf 9 = .ok (.goto 37, 3) := by decide +kernel
set_option maxRecDepth 20000 in
theorem ggX13_bagOf_X13_in : GoodIn wsX13_bagOf wsX13_in := goodIn_r _ [10] rfl (by decide +kernel)
set_option maxRecDepth 20000 in
theorem ggX13_bagOf_X13_isBag : GoodIn wsX13_bagOf wsX13_isBag := goodIn_r _ [6, 7, 8, 9, 5, 10] rfl (by decide +kernel)
set_option maxRecDepth 20000 in
theorem gX13_bagOf_X13_in : GoodIn wsX13_bagOf (va_wsS RX13 175 yX13_in wsX13_in) := goodIn_app (goodIn_of _ (by decide +kernel)) ggX13_bagOf_X13_in
set_option maxRecDepth 20000 in
theorem gX13_bagOf_X13_isBag : GoodIn wsX13_bagOf (va_wsS RX13 405 yX13_isBag wsX13_isBag) := goodIn_app (goodIn_of _ (by decide +kernel)) ggX13_bagOf_X13_isBag
set_option maxRecDepth 20000 in
theorem in_X13_bagOf_X13 : ∀ w ∈ wsX130, w ∈ wsX13_bagOf := sub_r [11, 12, 13, 14, 15, 16, 17, 18, 19, 20, 21, 22, 23, 24, 25, 26, 27, 28, 29, 30, 31, 32, 33, 34, 35, 36, 37, 38, 39, 40, 41, 42, 43, 44, 45, 46, 47, 48, 49, 50, 51, 52, 53, 54, 55] rfl
set_option maxHeartbeats 4000000 in
set_option maxRecDepth 100000 in
theorem c_X13_bagOf (l : Launch) (D : va_G) (T : Nat → ClassId) (sz : Nat) (h0 : Nat) (q : Nat → Int32) (v : Int64) (w : Int64) (a : Nat → Nat) (f12 : Nat → Int32) (f13 : Nat → Int32) (x1 : Int32) (x2 : Int32) (hbg : ∀ k : Nat, k < 3 → 0 ≤ (f13 k).toInt ∧ (f13 k).toInt ≤ 12) : Met l yX13_bagOf wsX13_bagOf ({ frames := 2, cells := 0, slots := 0, locals := 45 }) (pW [.ref h0, .int x1, .int x2] D T [(h0, .inr (10, (Value.int (q 0) :: Value.int (q 1) :: Value.int (q 2) :: Value.int (q 3) :: Value.int (q 4) :: Value.int (q 5) :: Value.int (q 6) :: Value.int (q 7) :: Value.ref (a 8) :: Value.ref (a 9) :: Value.ref (a 10) :: Value.ref (a 11) :: Value.ref (a 12) :: Value.ref (a 13) :: Value.int (q 14) :: Value.long v :: Value.long w :: Value.ref (a 17) :: Value.ref (a 18) :: Value.ref (a 19) :: Value.ref (a 20) :: Value.ref (a 21) :: Value.ref (a 22) :: Value.ref (a 23) :: Value.int (q 24) :: Value.ref (a 25) :: Value.int (q 26) :: Value.ref (a 27) :: Value.int (q 28) :: Value.int (q 29) :: Value.int (q 30) :: Value.int (q 31) :: Value.int (q 32) :: Value.int (q 33) :: Value.ref (a 34) :: Value.ref (a 35) :: Value.ref (a 36) :: Value.ref (a 37) :: Value.ref (a 38) :: Value.ref (a 39) :: Value.ref (a 40) :: Value.int (q 41) :: Value.ref (a 42) :: Value.int (q 43) :: Value.int (q 44) :: []))), ((a 12), .inl (T 0, 36, .inl f12)), ((a 13), .inl (T 0, 3, .inl f13))] sz) (va_Qi (fun (r : Int32) (u : Unit) => (bagOfC x1 x2 r f13 (fun k i => f12 (12 * k + i)))) (bW D (va_A [(h0, .inr (10, (Value.int (q 0) :: Value.int (q 1) :: Value.int (q 2) :: Value.int (q 3) :: Value.int (q 4) :: Value.int (q 5) :: Value.int (q 6) :: Value.int (q 7) :: Value.ref (a 8) :: Value.ref (a 9) :: Value.ref (a 10) :: Value.ref (a 11) :: Value.ref (a 12) :: Value.ref (a 13) :: Value.int (q 14) :: Value.long v :: Value.long w :: Value.ref (a 17) :: Value.ref (a 18) :: Value.ref (a 19) :: Value.ref (a 20) :: Value.ref (a 21) :: Value.ref (a 22) :: Value.ref (a 23) :: Value.int (q 24) :: Value.ref (a 25) :: Value.int (q 26) :: Value.ref (a 27) :: Value.int (q 28) :: Value.int (q 29) :: Value.int (q 30) :: Value.int (q 31) :: Value.int (q 32) :: Value.int (q 33) :: Value.ref (a 34) :: Value.ref (a 35) :: Value.ref (a 36) :: Value.ref (a 37) :: Value.ref (a 38) :: Value.ref (a 39) :: Value.ref (a 40) :: Value.int (q 41) :: Value.ref (a 42) :: Value.int (q 43) :: Value.int (q 44) :: []))), ((a 12), .inl (T 0, 36, .inl f12)), ((a 13), .inl (T 0, 3, .inl f13))] sz) (fun (u : Unit) => [(h0, .inr (10, (Value.int (q 0) :: Value.int (q 1) :: Value.int (q 2) :: Value.int (q 3) :: Value.int (q 4) :: Value.int (q 5) :: Value.int (q 6) :: Value.int (q 7) :: Value.ref (a 8) :: Value.ref (a 9) :: Value.ref (a 10) :: Value.ref (a 11) :: Value.ref (a 12) :: Value.ref (a 13) :: Value.int (q 14) :: Value.long v :: Value.long w :: Value.ref (a 17) :: Value.ref (a 18) :: Value.ref (a 19) :: Value.ref (a 20) :: Value.ref (a 21) :: Value.ref (a 22) :: Value.ref (a 23) :: Value.int (q 24) :: Value.ref (a 25) :: Value.int (q 26) :: Value.ref (a 27) :: Value.int (q 28) :: Value.int (q 29) :: Value.int (q 30) :: Value.int (q 31) :: Value.int (q 32) :: Value.int (q 33) :: Value.ref (a 34) :: Value.ref (a 35) :: Value.ref (a 36) :: Value.ref (a 37) :: Value.ref (a 38) :: Value.ref (a 39) :: Value.ref (a 40) :: Value.int (q 41) :: Value.ref (a 42) :: Value.int (q 43) :: Value.int (q 44) :: []))), ((a 12), .inl (T 0, 36, .inl f12)), ((a 13), .inl (T 0, 3, .inl f13))])) (va_A [(h0, .inr (10, (Value.int (q 0) :: Value.int (q 1) :: Value.int (q 2) :: Value.int (q 3) :: Value.int (q 4) :: Value.int (q 5) :: Value.int (q 6) :: Value.int (q 7) :: Value.ref (a 8) :: Value.ref (a 9) :: Value.ref (a 10) :: Value.ref (a 11) :: Value.ref (a 12) :: Value.ref (a 13) :: Value.int (q 14) :: Value.long v :: Value.long w :: Value.ref (a 17) :: Value.ref (a 18) :: Value.ref (a 19) :: Value.ref (a 20) :: Value.ref (a 21) :: Value.ref (a 22) :: Value.ref (a 23) :: Value.int (q 24) :: Value.ref (a 25) :: Value.int (q 26) :: Value.ref (a 27) :: Value.int (q 28) :: Value.int (q 29) :: Value.int (q 30) :: Value.int (q 31) :: Value.int (q 32) :: Value.int (q 33) :: Value.ref (a 34) :: Value.ref (a 35) :: Value.ref (a 36) :: Value.ref (a 37) :: Value.ref (a 38) :: Value.ref (a 39) :: Value.ref (a 40) :: Value.int (q 41) :: Value.ref (a 42) :: Value.int (q 43) :: Value.int (q 44) :: []))), ((a 12), .inl (T 0, 36, .inl f12)), ((a 13), .inl (T 0, 3, .inl f13))] sz)) 0 0 (va_A [(h0, .inr (10, (Value.int (q 0) :: Value.int (q 1) :: Value.int (q 2) :: Value.int (q 3) :: Value.int (q 4) :: Value.int (q 5) :: Value.int (q 6) :: Value.int (q 7) :: Value.ref (a 8) :: Value.ref (a 9) :: Value.ref (a 10) :: Value.ref (a 11) :: Value.ref (a 12) :: Value.ref (a 13) :: Value.int (q 14) :: Value.long v :: Value.long w :: Value.ref (a 17) :: Value.ref (a 18) :: Value.ref (a 19) :: Value.ref (a 20) :: Value.ref (a 21) :: Value.ref (a 22) :: Value.ref (a 23) :: Value.int (q 24) :: Value.ref (a 25) :: Value.int (q 26) :: Value.ref (a 27) :: Value.int (q 28) :: Value.int (q 29) :: Value.int (q 30) :: Value.int (q 31) :: Value.int (q 32) :: Value.int (q 33) :: Value.ref (a 34) :: Value.ref (a 35) :: Value.ref (a 36) :: Value.ref (a 37) :: Value.ref (a 38) :: Value.ref (a 39) :: Value.ref (a 40) :: Value.int (q 41) :: Value.ref (a 42) :: Value.int (q 43) :: Value.int (q 44) :: []))), ((a 12), .inl (T 0, 36, .inl f12)), ((a 13), .inl (T 0, 3, .inl f13))] sz) := by
  refine Met.ofW (cc := cX13_bagOf) (maxL := 3) (ret := (some .int)) (by decide +kernel) rfl ?_
  intro p e s m args below meth c s₁ B hml hv
  obtain ⟨rfl, hsz, hP, hE, hD0⟩ := hv
  have hx := B.exec
  have hb := B.bytes
  have hr := B.returns
  have hts := atoms_spec (ws := wsX13_bagOf) B.pre
  have hown : s.vm.findClass RX13 = some m.cls := findClass_of_methodNamed B.named
  have hlocks := B.notSynchronized
  subst hsz
  have hD := hD0.self (sz := s.heap.size)
  generalize hAe : va_A [(h0, .inr (10, (Value.int (q 0) :: Value.int (q 1) :: Value.int (q 2) :: Value.int (q 3) :: Value.int (q 4) :: Value.int (q 5) :: Value.int (q 6) :: Value.int (q 7) :: Value.ref (a 8) :: Value.ref (a 9) :: Value.ref (a 10) :: Value.ref (a 11) :: Value.ref (a 12) :: Value.ref (a 13) :: Value.int (q 14) :: Value.long v :: Value.long w :: Value.ref (a 17) :: Value.ref (a 18) :: Value.ref (a 19) :: Value.ref (a 20) :: Value.ref (a 21) :: Value.ref (a 22) :: Value.ref (a 23) :: Value.int (q 24) :: Value.ref (a 25) :: Value.int (q 26) :: Value.ref (a 27) :: Value.int (q 28) :: Value.int (q 29) :: Value.int (q 30) :: Value.int (q 31) :: Value.int (q 32) :: Value.int (q 33) :: Value.ref (a 34) :: Value.ref (a 35) :: Value.ref (a 36) :: Value.ref (a 37) :: Value.ref (a 38) :: Value.ref (a 39) :: Value.ref (a 40) :: Value.int (q 41) :: Value.ref (a 42) :: Value.int (q 43) :: Value.int (q 44) :: []))), ((a 12), .inl (T 0, 36, .inl f12)), ((a 13), .inl (T 0, 3, .inl f13))] s.heap.size = A at hD ⊢
  have hA : ∀ q : Nat, s.heap.size ≤ q → A q := fun q h => by rw [← hAe]; exact Or.inr h
  have hS : va_S A s.heap s.heap [] := va_S.rf
  have hP : va_P D vwCl [(h0, .inr (10, (Value.int (q 0) :: Value.int (q 1) :: Value.int (q 2) :: Value.int (q 3) :: Value.int (q 4) :: Value.int (q 5) :: Value.int (q 6) :: Value.int (q 7) :: Value.ref (a 8) :: Value.ref (a 9) :: Value.ref (a 10) :: Value.ref (a 11) :: Value.ref (a 12) :: Value.ref (a 13) :: Value.int (q 14) :: Value.long v :: Value.long w :: Value.ref (a 17) :: Value.ref (a 18) :: Value.ref (a 19) :: Value.ref (a 20) :: Value.ref (a 21) :: Value.ref (a 22) :: Value.ref (a 23) :: Value.int (q 24) :: Value.ref (a 25) :: Value.int (q 26) :: Value.ref (a 27) :: Value.int (q 28) :: Value.int (q 29) :: Value.int (q 30) :: Value.int (q 31) :: Value.int (q 32) :: Value.int (q 33) :: Value.ref (a 34) :: Value.ref (a 35) :: Value.ref (a 36) :: Value.ref (a 37) :: Value.ref (a 38) :: Value.ref (a 39) :: Value.ref (a 40) :: Value.int (q 41) :: Value.ref (a 42) :: Value.int (q 43) :: Value.int (q 44) :: []))), ((a 12), .inl (T 0, 36, .inl f12)), ((a 13), .inl (T 0, 3, .inl f13))] s.heap := hP
  have hl := lv_entry ([.ref h0, .int x1, .int x2]) (n := 3) (Nat.le_of_ble_eq_true rfl)
  rw [lg_entry_eq]
  generalize (lg_sl ([.ref h0, .int x1, .int x2]) ++ List.replicate (3 - (lg_sl ([.ref h0, .int x1, .int x2])).length) Slot.unset).toArray = ls at hl ⊢
  have hl : lv_has ls 3 [(0, .ref h0), (1, .int x1), (2, .int x2)] := hl
  clear hD0
  refine lv_iload_n hx hb dX13_bagOf_0 rfl (lv_at hl 1 rfl) ?_
  refine vp_callSi (W.runS (As := [.int x1]) (rest := []) ⟨hx, hb, hml, hown, hts⟩ (c_X13_isBag l D T x1) (va_cwS 1 hts gX13_bagOf_X13_isBag rfl rfl rfl hs_X13_isBag ⟨Nat.le_of_ble_eq_true rfl, Nat.le_of_ble_eq_true rfl⟩) (pR_S hP hE [] rfl) rfl rfl hl.1 rfl (lv_room (Nat.le_of_ble_eq_true rfl)) dX13_bagOf_1 ⟨Nat.le_of_ble_eq_true rfl, Nat.le_of_ble_eq_true rfl⟩) (fun r_1 hr_1 => ?_)
  rcases bool_post hr_1 with ⟨c_2, rfl⟩ | ⟨c_2, rfl⟩
  · refine lv_if_ne (tgt := 12) hx hb dX13_bagOf_4 (by decide +kernel) (fun _ => ?_) (fun c9 => absurd c9 (by decide +kernel))
    refine lv_iload_n hx hb dX13_bagOf_12 rfl (lv_at hl 2 rfl) ?_
    refine lv_i2l hx hb dX13_bagOf_13 rfl ?_
    refine lv_lconst (v := 0) hx hb dX13_bagOf_14 (by decide +kernel) ?_
    refine lv_aload_n hx hb dX13_bagOf_15 rfl (lv_at hl 0 rfl) ?_
    refine va_get (D := D) (ci := 10) (v := .ref (a 13)) (C := RX13) (T := TX13) (N := 45) hx hb hts in_X13_bagOf_X13 hown hE.1 hP 0 rfl rfl 13 (by decide +kernel) (hts (.fieldLink RX13 44 "ClauseBookModel" "bagged" "[I") (List.mem_of_getElem? (i := 1) rfl)) (fun _ h9 => h9) rfl dX13_bagOf_16 ?_
    refine lv_iload_n hx hb dX13_bagOf_19 rfl (lv_at hl 1 rfl) ?_
    refine va_iald hx hb hE.1 hP 2 0 rfl rfl (by rw [vp_in_iff]; first | omega | (rw [fb_addI (by omega) (by omega)]; omega)) dX13_bagOf_20 ?_
    refine lv_topi (fun z_3 ez_3 => ?_)
    have hbz_3 : 0 ≤ z_3.toInt ∧ z_3.toInt ≤ 12 := by rw [ez_3]; exact hbg _ (tn3 (by omega) (by omega))
    have hd9 := dec1 (i := z_3) (by omega)
    refine lv_iconst (v := 1) hx hb dX13_bagOf_21 (by decide +kernel) ?_
    refine lv_isub hx hb dX13_bagOf_22 ?_
    refine lv_i2l hx hb dX13_bagOf_23 rfl ?_
    refine vp_callSi (W.runS (As := [.long (x2.toInt64), .long 0, .long ((z_3 - 1).toInt64)]) (rest := []) ⟨hx, hb, hml, hown, hts⟩ (c_X13_in l D T (x2.toInt64) 0 ((z_3 - 1).toInt64) x2.toInt 0 ((z_3 - 1)).toInt ((Int32.toInt_toInt64 _).trans rfl) (by decide +kernel) ((Int32.toInt_toInt64 _).trans rfl)) (va_cwS 3 hts gX13_bagOf_X13_in rfl rfl rfl hs_X13_in ⟨Nat.le_of_ble_eq_true rfl, Nat.le_of_ble_eq_true rfl⟩) (pR_S hP hE [] rfl) rfl rfl hl.1 rfl (lv_room (Nat.le_of_ble_eq_true rfl)) dX13_bagOf_24 ⟨Nat.le_of_ble_eq_true rfl, Nat.le_of_ble_eq_true rfl⟩) (fun r_4 hr_4 => ?_)
    rcases bool_post hr_4 with ⟨c_5, rfl⟩ | ⟨c_5, rfl⟩
    · refine lv_if_eq (tgt := 44) hx hb dX13_bagOf_27 (by decide +kernel) (fun c9 => absurd c9 (by decide +kernel)) (fun _ => ?_)
      have h12x1 : (12 * x1).toInt = 12 * x1.toInt := by rw [fb_mulI (by rw [ti_12]; omega) (by rw [ti_12]; omega), ti_12]
      refine lv_aload_n hx hb dX13_bagOf_30 rfl (lv_at hl 0 rfl) ?_
      refine va_get (D := D) (ci := 10) (v := .ref (a 12)) (C := RX13) (T := TX13) (N := 45) hx hb hts in_X13_bagOf_X13 hown hE.1 hP 0 rfl rfl 12 (by decide +kernel) (hts (.fieldLink RX13 41 "ClauseBookModel" "bag" "[I") (List.mem_of_getElem? (i := 2) rfl)) (fun _ h9 => h9) rfl dX13_bagOf_31 ?_
      refine lv_bipush (v := 12) hx hb dX13_bagOf_34 (by decide +kernel) ?_
      refine lv_iload_n hx hb dX13_bagOf_36 rfl (lv_at hl 1 rfl) ?_
      refine lv_imul hx hb dX13_bagOf_37 ?_
      refine lv_iload_n hx hb dX13_bagOf_38 rfl (lv_at hl 2 rfl) ?_
      refine lv_iadd hx hb dX13_bagOf_39 ?_
      refine va_iald hx hb hE.1 hP 1 0 rfl rfl (by rw [vp_in_iff]; first | omega | (rw [fb_addI (by omega) (by omega)]; omega)) dX13_bagOf_40 ?_
      refine lv_topi (fun z_6 ez_6 => ?_)
      refine lv_goto (tgt := 46) hx hb dX13_bagOf_41 (by decide +kernel) ?_
      exact W.iret hx hb hr (fun t ht hW => ⟨⟨_, (), rfl, (show bagOfC x1 x2 z_6 f13 (fun k i => f12 (12 * k + i)) from (Or.inr (Or.inr ⟨(by omega), (by rw [← ez_3]; omega), (by rw [ez_6, ix12 (by omega) (by omega)])⟩))), by rw [ht]; exact hP.sub [0, 1, 2] rfl, hD.sub [0, 1, 2] (by decide +kernel) rfl⟩, hS.F ht⟩) hS.2.2 dX13_bagOf_46
    · refine lv_if_eq (tgt := 44) hx hb dX13_bagOf_27 (by decide +kernel) (fun _ => ?_) (fun c9 => absurd c9 (by decide +kernel))
      refine lv_bipush (v := (-12)) hx hb dX13_bagOf_44 (by decide +kernel) ?_
      exact W.iret hx hb hr (fun t ht hW => ⟨⟨_, (), rfl, (show bagOfC x1 x2 ((-12) : Int32) f13 (fun k i => f12 (12 * k + i)) from (Or.inr (Or.inl ⟨(by omega), (by rw [← ez_3]; omega), (by decide +kernel)⟩))), by rw [ht]; exact hP.sub [0, 1, 2] rfl, hD.sub [0, 1, 2] (by decide +kernel) rfl⟩, hS.F ht⟩) hS.2.2 dX13_bagOf_46
  · refine lv_if_ne (tgt := 12) hx hb dX13_bagOf_4 (by decide +kernel) (fun c9 => absurd c9 (by decide +kernel)) (fun _ => ?_)
    refine lv_bipush (v := (-2)) hx hb dX13_bagOf_7 (by decide +kernel) ?_
    refine lv_goto (tgt := 46) hx hb dX13_bagOf_9 (by decide +kernel) ?_
    exact W.iret hx hb hr (fun t ht hW => ⟨⟨_, (), rfl, (show bagOfC x1 x2 ((-2) : Int32) f13 (fun k i => f12 (12 * k + i)) from (Or.inl ⟨(by omega), (by decide +kernel)⟩)), by rw [ht]; exact hP.sub [0, 1, 2] rfl, hD.sub [0, 1, 2] (by decide +kernel) rfl⟩, hS.F ht⟩) hS.2.2 dX13_bagOf_46
theorem dX13_pour_0 : decode cX13_pour 0 = .ok (.iload_n 1, 1) := by decide +kernel
theorem dX13_pour_1 : decode cX13_pour 1 = .ok (.invokestatic 405, 3) := by decide +kernel
theorem dX13_pour_100 : decode cX13_pour 100 = .ok (.istore 8, 2) := by decide +kernel
theorem dX13_pour_102 : decode cX13_pour 102 = .ok (.iload 8, 2) := by decide +kernel
theorem dX13_pour_104 : decode cX13_pour 104 = .ok (.ifCond .eq 48, 3) := by decide +kernel
theorem dX13_pour_107 : decode cX13_pour 107 = .ok (.aload_n 0, 1) := by decide +kernel
theorem dX13_pour_108 : decode cX13_pour 108 = .ok (.getfield 44, 3) := by decide +kernel
theorem dX13_pour_11 : decode cX13_pour 11 = .ok (.ifCond .eq 22, 3) := by decide +kernel
theorem dX13_pour_111 : decode cX13_pour 111 = .ok (.iload_n 2, 1) := by decide +kernel
theorem dX13_pour_112 : decode cX13_pour 112 = .ok (.iaload, 1) := by decide +kernel
theorem dX13_pour_113 : decode cX13_pour 113 = .ok (.bipush 12, 2) := by decide +kernel
theorem dX13_pour_115 : decode cX13_pour 115 = .ok (.if_icmp .ge 37, 3) := by decide +kernel
theorem dX13_pour_118 : decode cX13_pour 118 = .ok (.aload_n 0, 1) := by decide +kernel
theorem dX13_pour_119 : decode cX13_pour 119 = .ok (.getfield 41, 3) := by decide +kernel
theorem dX13_pour_122 : decode cX13_pour 122 = .ok (.bipush 12, 2) := by decide +kernel
theorem dX13_pour_124 : decode cX13_pour 124 = .ok (.iload_n 2, 1) := by decide +kernel
theorem dX13_pour_125 : decode cX13_pour 125 = .ok (.imul, 1) := by decide +kernel
theorem dX13_pour_126 : decode cX13_pour 126 = .ok (.aload_n 0, 1) := by decide +kernel
theorem dX13_pour_127 : decode cX13_pour 127 = .ok (.getfield 44, 3) := by decide +kernel
theorem dX13_pour_130 : decode cX13_pour 130 = .ok (.iload_n 2, 1) := by decide +kernel
theorem dX13_pour_131 : decode cX13_pour 131 = .ok (.iaload, 1) := by decide +kernel
theorem dX13_pour_132 : decode cX13_pour 132 = .ok (.iadd, 1) := by decide +kernel
theorem dX13_pour_133 : decode cX13_pour 133 = .ok (.iload 7, 2) := by decide +kernel
theorem dX13_pour_135 : decode cX13_pour 135 = .ok (.iastore, 1) := by decide +kernel
theorem dX13_pour_136 : decode cX13_pour 136 = .ok (.aload_n 0, 1) := by decide +kernel
theorem dX13_pour_137 : decode cX13_pour 137 = .ok (.getfield 44, 3) := by decide +kernel
theorem dX13_pour_14 : decode cX13_pour 14 = .ok (.iload_n 1, 1) := by decide +kernel
theorem dX13_pour_140 : decode cX13_pour 140 = .ok (.iload_n 2, 1) := by decide +kernel
theorem dX13_pour_141 : decode cX13_pour 141 = .ok (.dup2, 1) := by decide +kernel
theorem dX13_pour_142 : decode cX13_pour 142 = .ok (.iaload, 1) := by decide +kernel
theorem dX13_pour_143 : decode cX13_pour 143 = .ok (.iconst 1, 1) := by decide +kernel
theorem dX13_pour_144 : decode cX13_pour 144 = .ok (.iadd, 1) := by decide +kernel
theorem dX13_pour_145 : decode cX13_pour 145 = .ok (.iastore, 1) := by decide +kernel
theorem dX13_pour_146 : decode cX13_pour 146 = .ok (.iinc 4 1, 3) := by decide +kernel
theorem dX13_pour_149 : decode cX13_pour 149 = .ok (.goto 20, 3) := by decide +kernel
theorem dX13_pour_15 : decode cX13_pour 15 = .ok (.iload_n 2, 1) := by decide +kernel
theorem dX13_pour_152 : decode cX13_pour 152 = .ok (.aload_n 0, 1) := by decide +kernel
theorem dX13_pour_153 : decode cX13_pour 153 = .ok (.getfield 41, 3) := by decide +kernel
theorem dX13_pour_156 : decode cX13_pour 156 = .ok (.bipush 12, 2) := by decide +kernel
theorem dX13_pour_158 : decode cX13_pour 158 = .ok (.iload_n 1, 1) := by decide +kernel
theorem dX13_pour_159 : decode cX13_pour 159 = .ok (.imul, 1) := by decide +kernel
theorem dX13_pour_16 : decode cX13_pour 16 = .ok (.if_icmp .eq 17, 3) := by decide +kernel
theorem dX13_pour_160 : decode cX13_pour 160 = .ok (.iload 5, 2) := by decide +kernel
theorem dX13_pour_162 : decode cX13_pour 162 = .ok (.iadd, 1) := by decide +kernel
theorem dX13_pour_163 : decode cX13_pour 163 = .ok (.iload 7, 2) := by decide +kernel
theorem dX13_pour_165 : decode cX13_pour 165 = .ok (.iastore, 1) := by decide +kernel
theorem dX13_pour_166 : decode cX13_pour 166 = .ok (.iinc 5 1, 3) := by decide +kernel
theorem dX13_pour_169 : decode cX13_pour 169 = .ok (.iinc 6 1, 3) := by decide +kernel
theorem dX13_pour_172 : decode cX13_pour 172 = .ok (.goto (-127), 3) := by decide +kernel
theorem dX13_pour_175 : decode cX13_pour 175 = .ok (.aload_n 0, 1) := by decide +kernel
theorem dX13_pour_176 : decode cX13_pour 176 = .ok (.getfield 44, 3) := by decide +kernel
theorem dX13_pour_179 : decode cX13_pour 179 = .ok (.iload_n 1, 1) := by decide +kernel
theorem dX13_pour_180 : decode cX13_pour 180 = .ok (.iload 5, 2) := by decide +kernel
theorem dX13_pour_182 : decode cX13_pour 182 = .ok (.iastore, 1) := by decide +kernel
theorem dX13_pour_183 : decode cX13_pour 183 = .ok (.iload 4, 2) := by decide +kernel
theorem dX13_pour_185 : decode cX13_pour 185 = .ok (.ireturn, 1) := by decide +kernel
theorem dX13_pour_19 : decode cX13_pour 19 = .ok (.iload_n 3, 1) := by decide +kernel
theorem dX13_pour_20 : decode cX13_pour 20 = .ok (.i2l, 1) := by decide +kernel
theorem dX13_pour_21 : decode cX13_pour 21 = .ok (.ldc2_w 135, 3) := by decide +kernel
theorem dX13_pour_24 : decode cX13_pour 24 = .ok (.ldc2_w 214, 3) := by decide +kernel
theorem dX13_pour_27 : decode cX13_pour 27 = .ok (.invokestatic 175, 3) := by decide +kernel
theorem dX13_pour_30 : decode cX13_pour 30 = .ok (.ifCond .ne 6, 3) := by decide +kernel
theorem dX13_pour_33 : decode cX13_pour 33 = .ok (.bipush (-2), 2) := by decide +kernel
theorem dX13_pour_35 : decode cX13_pour 35 = .ok (.ireturn, 1) := by decide +kernel
theorem dX13_pour_36 : decode cX13_pour 36 = .ok (.iconst 0, 1) := by decide +kernel
theorem dX13_pour_37 : decode cX13_pour 37 = .ok (.istore 4, 2) := by decide +kernel
theorem dX13_pour_39 : decode cX13_pour 39 = .ok (.iconst 0, 1) := by decide +kernel
theorem dX13_pour_4 : decode cX13_pour 4 = .ok (.ifCond .eq 29, 3) := by decide +kernel
theorem dX13_pour_40 : decode cX13_pour 40 = .ok (.istore 5, 2) := by decide +kernel
theorem dX13_pour_42 : decode cX13_pour 42 = .ok (.iconst 0, 1) := by decide +kernel
theorem dX13_pour_43 : decode cX13_pour 43 = .ok (.istore 6, 2) := by decide +kernel
theorem dX13_pour_45 : decode cX13_pour 45 = .ok (.iload 6, 2) := by decide +kernel
theorem dX13_pour_47 : decode cX13_pour 47 = .ok (.aload_n 0, 1) := by decide +kernel
theorem dX13_pour_48 : decode cX13_pour 48 = .ok (.getfield 44, 3) := by decide +kernel
theorem dX13_pour_51 : decode cX13_pour 51 = .ok (.iload_n 1, 1) := by decide +kernel
theorem dX13_pour_52 : decode cX13_pour 52 = .ok (.iaload, 1) := by decide +kernel
theorem dX13_pour_53 : decode cX13_pour 53 = .ok (.if_icmp .ge 122, 3) := by decide +kernel
theorem dX13_pour_56 : decode cX13_pour 56 = .ok (.aload_n 0, 1) := by decide +kernel
theorem dX13_pour_57 : decode cX13_pour 57 = .ok (.getfield 41, 3) := by decide +kernel
theorem dX13_pour_60 : decode cX13_pour 60 = .ok (.bipush 12, 2) := by decide +kernel
theorem dX13_pour_62 : decode cX13_pour 62 = .ok (.iload_n 1, 1) := by decide +kernel
theorem dX13_pour_63 : decode cX13_pour 63 = .ok (.imul, 1) := by decide +kernel
theorem dX13_pour_64 : decode cX13_pour 64 = .ok (.iload 6, 2) := by decide +kernel
theorem dX13_pour_66 : decode cX13_pour 66 = .ok (.iadd, 1) := by decide +kernel
theorem dX13_pour_67 : decode cX13_pour 67 = .ok (.iaload, 1) := by decide +kernel
theorem dX13_pour_68 : decode cX13_pour 68 = .ok (.istore 7, 2) := by decide +kernel
theorem dX13_pour_7 : decode cX13_pour 7 = .ok (.iload_n 2, 1) := by decide +kernel
theorem dX13_pour_70 : decode cX13_pour 70 = .ok (.iload_n 3, 1) := by decide +kernel
theorem dX13_pour_71 : decode cX13_pour 71 = .ok (.iconst (-1), 1) := by decide +kernel
theorem dX13_pour_72 : decode cX13_pour 72 = .ok (.if_icmp .eq 23, 3) := by decide +kernel
theorem dX13_pour_75 : decode cX13_pour 75 = .ok (.aload_n 0, 1) := by decide +kernel
theorem dX13_pour_76 : decode cX13_pour 76 = .ok (.iload 7, 2) := by decide +kernel
theorem dX13_pour_78 : decode cX13_pour 78 = .ok (.invokevirtual 233, 3) := by decide +kernel
theorem dX13_pour_8 : decode cX13_pour 8 = .ok (.invokestatic 405, 3) := by decide +kernel
theorem dX13_pour_81 : decode cX13_pour 81 = .ok (.ifCond .eq 18, 3) := by decide +kernel
theorem dX13_pour_84 : decode cX13_pour 84 = .ok (.aload_n 0, 1) := by decide +kernel
theorem dX13_pour_85 : decode cX13_pour 85 = .ok (.getfield 28, 3) := by decide +kernel
theorem dX13_pour_88 : decode cX13_pour 88 = .ok (.iload 7, 2) := by decide +kernel
theorem dX13_pour_90 : decode cX13_pour 90 = .ok (.iaload, 1) := by decide +kernel
theorem dX13_pour_91 : decode cX13_pour 91 = .ok (.iload_n 3, 1) := by decide +kernel
theorem dX13_pour_92 : decode cX13_pour 92 = .ok (.if_icmp .ne 7, 3) := by decide +kernel
theorem dX13_pour_95 : decode cX13_pour 95 = .ok (.iconst 1, 1) := by decide +kernel
theorem dX13_pour_96 : decode cX13_pour 96 = .ok (.goto 4, 3) := by decide +kernel
theorem dX13_pour_99 : decode cX13_pour 99 = .ok (.iconst 0, 1) := by decide +kernel
set_option maxRecDepth 20000 in
theorem ggX13_pour_X13_in : GoodIn wsX13_pour wsX13_in := goodIn_r _ [13] rfl (by decide +kernel)
set_option maxRecDepth 20000 in
theorem ggX13_pour_X13_isBag : GoodIn wsX13_pour wsX13_isBag := goodIn_r _ [9, 10, 11, 12, 8, 13] rfl (by decide +kernel)
set_option maxRecDepth 20000 in
theorem ggX13_pour_X13_isClause : GoodIn wsX13_pour wsX13_isClause := goodIn_r _ [17, 18, 11, 12, 8, 13, 19, 20, 21, 22, 23, 24, 25, 26, 27, 28, 29, 30, 31, 32, 33, 34, 35, 36, 37, 38, 39, 40, 41, 42, 43, 44, 45, 46, 47, 48, 49, 50, 51, 52, 53, 54, 55, 56, 57, 58, 59, 60, 61, 62, 63] rfl (by decide +kernel)
set_option maxRecDepth 20000 in
theorem gX13_pour_X13_in : GoodIn wsX13_pour (va_wsS RX13 175 yX13_in wsX13_in) := goodIn_app (goodIn_of _ (by decide +kernel)) ggX13_pour_X13_in
set_option maxRecDepth 20000 in
theorem gX13_pour_X13_isBag : GoodIn wsX13_pour (va_wsS RX13 405 yX13_isBag wsX13_isBag) := goodIn_app (goodIn_of _ (by decide +kernel)) ggX13_pour_X13_isBag
set_option maxRecDepth 20000 in
theorem gX13_pour_X13_isClause : GoodIn wsX13_pour (wsV RX13 233 RX13 yX13_isClause wsX13_isClause) := goodIn_app (goodIn_r _ [14, 15, 16, 8] rfl (by decide +kernel)) ggX13_pour_X13_isClause
set_option maxRecDepth 20000 in
theorem in_X13_pour_X13 : ∀ w ∈ wsX130, w ∈ wsX13_pour := sub_r [19, 20, 21, 22, 23, 24, 25, 26, 27, 28, 29, 30, 31, 32, 33, 34, 35, 36, 37, 38, 39, 40, 41, 42, 43, 44, 45, 46, 47, 48, 49, 50, 51, 52, 53, 54, 55, 56, 57, 58, 59, 60, 61, 62, 63] rfl
set_option maxHeartbeats 4000000 in
set_option maxRecDepth 100000 in
theorem c_X13_pour (l : Launch) (D : va_G) (T : Nat → ClassId) (sz : Nat) (h0 : Nat) (q : Nat → Int32) (v : Int64) (w : Int64) (a : Nat → Nat) (f8 : Nat → Int32) (f12 : Nat → Int32) (f13 : Nat → Int32) (x1 : Int32) (x2 : Int32) (x3 : Int32) (hm : 0 ≤ (q 7).toInt ∧ (q 7).toInt ≤ 24) (hbg : ∀ k : Nat, k < 3 → 0 ≤ (f13 k).toInt ∧ (f13 k).toInt ≤ 12) : Met l yX13_pour wsX13_pour ({ frames := 2, cells := 0, slots := 0, locals := 46 }) (pW [.ref h0, .int x1, .int x2, .int x3] D T [(h0, .inr (10, (Value.int (q 0) :: Value.int (q 1) :: Value.int (q 2) :: Value.int (q 3) :: Value.int (q 4) :: Value.int (q 5) :: Value.int (q 6) :: Value.int (q 7) :: Value.ref (a 8) :: Value.ref (a 9) :: Value.ref (a 10) :: Value.ref (a 11) :: Value.ref (a 12) :: Value.ref (a 13) :: Value.int (q 14) :: Value.long v :: Value.long w :: Value.ref (a 17) :: Value.ref (a 18) :: Value.ref (a 19) :: Value.ref (a 20) :: Value.ref (a 21) :: Value.ref (a 22) :: Value.ref (a 23) :: Value.int (q 24) :: Value.ref (a 25) :: Value.int (q 26) :: Value.ref (a 27) :: Value.int (q 28) :: Value.int (q 29) :: Value.int (q 30) :: Value.int (q 31) :: Value.int (q 32) :: Value.int (q 33) :: Value.ref (a 34) :: Value.ref (a 35) :: Value.ref (a 36) :: Value.ref (a 37) :: Value.ref (a 38) :: Value.ref (a 39) :: Value.ref (a 40) :: Value.int (q 41) :: Value.ref (a 42) :: Value.int (q 43) :: Value.int (q 44) :: []))), ((a 8), .inl (T 0, 24, .inl f8)), ((a 12), .inl (T 0, 36, .inl f12)), ((a 13), .inl (T 0, 3, .inl f13))] sz) (va_Qi (fun (r : Int32) (u : (Nat → Int32) × (Nat → Int32)) => (∀ k : Nat, k < 3 → 0 ≤ (u.2 k).toInt ∧ (u.2 k).toInt ≤ 12) ∧ (pourR (q 7) x1 x2 x3 r f8 f13 u.2 f12 u.1)) (bW D (va_A [(h0, .inr (10, (Value.int (q 0) :: Value.int (q 1) :: Value.int (q 2) :: Value.int (q 3) :: Value.int (q 4) :: Value.int (q 5) :: Value.int (q 6) :: Value.int (q 7) :: Value.ref (a 8) :: Value.ref (a 9) :: Value.ref (a 10) :: Value.ref (a 11) :: Value.ref (a 12) :: Value.ref (a 13) :: Value.int (q 14) :: Value.long v :: Value.long w :: Value.ref (a 17) :: Value.ref (a 18) :: Value.ref (a 19) :: Value.ref (a 20) :: Value.ref (a 21) :: Value.ref (a 22) :: Value.ref (a 23) :: Value.int (q 24) :: Value.ref (a 25) :: Value.int (q 26) :: Value.ref (a 27) :: Value.int (q 28) :: Value.int (q 29) :: Value.int (q 30) :: Value.int (q 31) :: Value.int (q 32) :: Value.int (q 33) :: Value.ref (a 34) :: Value.ref (a 35) :: Value.ref (a 36) :: Value.ref (a 37) :: Value.ref (a 38) :: Value.ref (a 39) :: Value.ref (a 40) :: Value.int (q 41) :: Value.ref (a 42) :: Value.int (q 43) :: Value.int (q 44) :: []))), ((a 8), .inl (T 0, 24, .inl f8)), ((a 12), .inl (T 0, 36, .inl f12)), ((a 13), .inl (T 0, 3, .inl f13))] sz) (fun (u : (Nat → Int32) × (Nat → Int32)) => [(h0, .inr (10, (Value.int (q 0) :: Value.int (q 1) :: Value.int (q 2) :: Value.int (q 3) :: Value.int (q 4) :: Value.int (q 5) :: Value.int (q 6) :: Value.int (q 7) :: Value.ref (a 8) :: Value.ref (a 9) :: Value.ref (a 10) :: Value.ref (a 11) :: Value.ref (a 12) :: Value.ref (a 13) :: Value.int (q 14) :: Value.long v :: Value.long w :: Value.ref (a 17) :: Value.ref (a 18) :: Value.ref (a 19) :: Value.ref (a 20) :: Value.ref (a 21) :: Value.ref (a 22) :: Value.ref (a 23) :: Value.int (q 24) :: Value.ref (a 25) :: Value.int (q 26) :: Value.ref (a 27) :: Value.int (q 28) :: Value.int (q 29) :: Value.int (q 30) :: Value.int (q 31) :: Value.int (q 32) :: Value.int (q 33) :: Value.ref (a 34) :: Value.ref (a 35) :: Value.ref (a 36) :: Value.ref (a 37) :: Value.ref (a 38) :: Value.ref (a 39) :: Value.ref (a 40) :: Value.int (q 41) :: Value.ref (a 42) :: Value.int (q 43) :: Value.int (q 44) :: []))), ((a 8), .inl (T 0, 24, .inl f8)), ((a 12), .inl (T 0, 36, .inl u.1)), ((a 13), .inl (T 0, 3, .inl u.2))])) (va_A [(h0, .inr (10, (Value.int (q 0) :: Value.int (q 1) :: Value.int (q 2) :: Value.int (q 3) :: Value.int (q 4) :: Value.int (q 5) :: Value.int (q 6) :: Value.int (q 7) :: Value.ref (a 8) :: Value.ref (a 9) :: Value.ref (a 10) :: Value.ref (a 11) :: Value.ref (a 12) :: Value.ref (a 13) :: Value.int (q 14) :: Value.long v :: Value.long w :: Value.ref (a 17) :: Value.ref (a 18) :: Value.ref (a 19) :: Value.ref (a 20) :: Value.ref (a 21) :: Value.ref (a 22) :: Value.ref (a 23) :: Value.int (q 24) :: Value.ref (a 25) :: Value.int (q 26) :: Value.ref (a 27) :: Value.int (q 28) :: Value.int (q 29) :: Value.int (q 30) :: Value.int (q 31) :: Value.int (q 32) :: Value.int (q 33) :: Value.ref (a 34) :: Value.ref (a 35) :: Value.ref (a 36) :: Value.ref (a 37) :: Value.ref (a 38) :: Value.ref (a 39) :: Value.ref (a 40) :: Value.int (q 41) :: Value.ref (a 42) :: Value.int (q 43) :: Value.int (q 44) :: []))), ((a 8), .inl (T 0, 24, .inl f8)), ((a 12), .inl (T 0, 36, .inl f12)), ((a 13), .inl (T 0, 3, .inl f13))] sz)) 0 0 (va_A [(h0, .inr (10, (Value.int (q 0) :: Value.int (q 1) :: Value.int (q 2) :: Value.int (q 3) :: Value.int (q 4) :: Value.int (q 5) :: Value.int (q 6) :: Value.int (q 7) :: Value.ref (a 8) :: Value.ref (a 9) :: Value.ref (a 10) :: Value.ref (a 11) :: Value.ref (a 12) :: Value.ref (a 13) :: Value.int (q 14) :: Value.long v :: Value.long w :: Value.ref (a 17) :: Value.ref (a 18) :: Value.ref (a 19) :: Value.ref (a 20) :: Value.ref (a 21) :: Value.ref (a 22) :: Value.ref (a 23) :: Value.int (q 24) :: Value.ref (a 25) :: Value.int (q 26) :: Value.ref (a 27) :: Value.int (q 28) :: Value.int (q 29) :: Value.int (q 30) :: Value.int (q 31) :: Value.int (q 32) :: Value.int (q 33) :: Value.ref (a 34) :: Value.ref (a 35) :: Value.ref (a 36) :: Value.ref (a 37) :: Value.ref (a 38) :: Value.ref (a 39) :: Value.ref (a 40) :: Value.int (q 41) :: Value.ref (a 42) :: Value.int (q 43) :: Value.int (q 44) :: []))), ((a 8), .inl (T 0, 24, .inl f8)), ((a 12), .inl (T 0, 36, .inl f12)), ((a 13), .inl (T 0, 3, .inl f13))] sz) := by
  refine Met.ofW (cc := cX13_pour) (maxL := 9) (ret := (some .int)) (by decide +kernel) rfl ?_
  intro p e s m args below meth c s₁ B hml hv
  obtain ⟨rfl, hsz, hP, hE, hD0⟩ := hv
  have hx := B.exec
  have hb := B.bytes
  have hr := B.returns
  have hts := atoms_spec (ws := wsX13_pour) B.pre
  have hown : s.vm.findClass RX13 = some m.cls := findClass_of_methodNamed B.named
  have hlocks := B.notSynchronized
  subst hsz
  have hD := hD0.self (sz := s.heap.size)
  generalize hAe : va_A [(h0, .inr (10, (Value.int (q 0) :: Value.int (q 1) :: Value.int (q 2) :: Value.int (q 3) :: Value.int (q 4) :: Value.int (q 5) :: Value.int (q 6) :: Value.int (q 7) :: Value.ref (a 8) :: Value.ref (a 9) :: Value.ref (a 10) :: Value.ref (a 11) :: Value.ref (a 12) :: Value.ref (a 13) :: Value.int (q 14) :: Value.long v :: Value.long w :: Value.ref (a 17) :: Value.ref (a 18) :: Value.ref (a 19) :: Value.ref (a 20) :: Value.ref (a 21) :: Value.ref (a 22) :: Value.ref (a 23) :: Value.int (q 24) :: Value.ref (a 25) :: Value.int (q 26) :: Value.ref (a 27) :: Value.int (q 28) :: Value.int (q 29) :: Value.int (q 30) :: Value.int (q 31) :: Value.int (q 32) :: Value.int (q 33) :: Value.ref (a 34) :: Value.ref (a 35) :: Value.ref (a 36) :: Value.ref (a 37) :: Value.ref (a 38) :: Value.ref (a 39) :: Value.ref (a 40) :: Value.int (q 41) :: Value.ref (a 42) :: Value.int (q 43) :: Value.int (q 44) :: []))), ((a 8), .inl (T 0, 24, .inl f8)), ((a 12), .inl (T 0, 36, .inl f12)), ((a 13), .inl (T 0, 3, .inl f13))] s.heap.size = A at hD ⊢
  have hA : ∀ q : Nat, s.heap.size ≤ q → A q := fun q h => by rw [← hAe]; exact Or.inr h
  have hS : va_S A s.heap s.heap [] := va_S.rf
  have hP : va_P D vwCl [(h0, .inr (10, (Value.int (q 0) :: Value.int (q 1) :: Value.int (q 2) :: Value.int (q 3) :: Value.int (q 4) :: Value.int (q 5) :: Value.int (q 6) :: Value.int (q 7) :: Value.ref (a 8) :: Value.ref (a 9) :: Value.ref (a 10) :: Value.ref (a 11) :: Value.ref (a 12) :: Value.ref (a 13) :: Value.int (q 14) :: Value.long v :: Value.long w :: Value.ref (a 17) :: Value.ref (a 18) :: Value.ref (a 19) :: Value.ref (a 20) :: Value.ref (a 21) :: Value.ref (a 22) :: Value.ref (a 23) :: Value.int (q 24) :: Value.ref (a 25) :: Value.int (q 26) :: Value.ref (a 27) :: Value.int (q 28) :: Value.int (q 29) :: Value.int (q 30) :: Value.int (q 31) :: Value.int (q 32) :: Value.int (q 33) :: Value.ref (a 34) :: Value.ref (a 35) :: Value.ref (a 36) :: Value.ref (a 37) :: Value.ref (a 38) :: Value.ref (a 39) :: Value.ref (a 40) :: Value.int (q 41) :: Value.ref (a 42) :: Value.int (q 43) :: Value.int (q 44) :: []))), ((a 8), .inl (T 0, 24, .inl f8)), ((a 12), .inl (T 0, 36, .inl f12)), ((a 13), .inl (T 0, 3, .inl f13))] s.heap := hP
  have hl := lv_entry ([.ref h0, .int x1, .int x2, .int x3]) (n := 9) (Nat.le_of_ble_eq_true rfl)
  rw [lg_entry_eq]
  generalize (lg_sl ([.ref h0, .int x1, .int x2, .int x3]) ++ List.replicate (9 - (lg_sl ([.ref h0, .int x1, .int x2, .int x3])).length) Slot.unset).toArray = ls at hl ⊢
  have hl : lv_has ls 9 [(0, .ref h0), (1, .int x1), (2, .int x2), (3, .int x3)] := hl
  clear hD0
  refine lv_iload_n hx hb dX13_pour_0 rfl (lv_at hl 1 rfl) ?_
  refine vp_callSi (W.runS (As := [.int x1]) (rest := []) ⟨hx, hb, hml, hown, hts⟩ (c_X13_isBag l D T x1) (va_cwS 1 hts gX13_pour_X13_isBag rfl rfl rfl hs_X13_isBag ⟨Nat.le_of_ble_eq_true rfl, Nat.le_of_ble_eq_true rfl⟩) (pR_S hP hE [] rfl) rfl rfl hl.1 rfl (lv_room (Nat.le_of_ble_eq_true rfl)) dX13_pour_1 ⟨Nat.le_of_ble_eq_true rfl, Nat.le_of_ble_eq_true rfl⟩) (fun r_1 hr_1 => ?_)
  rcases bool_post hr_1 with ⟨c_2, rfl⟩ | ⟨c_2, rfl⟩
  · refine lv_if_eq (tgt := 33) hx hb dX13_pour_4 (by decide +kernel) (fun c9 => absurd c9 (by decide +kernel)) (fun _ => ?_)
    refine lv_iload_n hx hb dX13_pour_7 rfl (lv_at hl 2 rfl) ?_
    refine vp_callSi (W.runS (As := [.int x2]) (rest := []) ⟨hx, hb, hml, hown, hts⟩ (c_X13_isBag l D T x2) (va_cwS 1 hts gX13_pour_X13_isBag rfl rfl rfl hs_X13_isBag ⟨Nat.le_of_ble_eq_true rfl, Nat.le_of_ble_eq_true rfl⟩) (pR_S hP hE [] rfl) rfl rfl hl.1 rfl (lv_room (Nat.le_of_ble_eq_true rfl)) dX13_pour_8 ⟨Nat.le_of_ble_eq_true rfl, Nat.le_of_ble_eq_true rfl⟩) (fun r_3 hr_3 => ?_)
    rcases bool_post hr_3 with ⟨c_4, rfl⟩ | ⟨c_4, rfl⟩
    · refine lv_if_eq (tgt := 33) hx hb dX13_pour_11 (by decide +kernel) (fun c9 => absurd c9 (by decide +kernel)) (fun _ => ?_)
      refine lv_iload_n hx hb dX13_pour_14 rfl (lv_at hl 1 rfl) ?_
      refine lv_iload_n hx hb dX13_pour_15 rfl (lv_at hl 2 rfl) ?_
      refine lv_icmp_eq (tgt := 33) hx hb dX13_pour_16 (by decide +kernel) (fun c_5 => ?_) (fun c_5 => ?_)
      · rw [fa_eq] at c_5
        refine lv_bipush (v := (-2)) hx hb dX13_pour_33 (by decide +kernel) ?_
        exact W.iret hx hb hr (fun t ht hW => ⟨⟨_, (f12, f13), rfl, ⟨(show ∀ k : Nat, k < 3 → 0 ≤ (f13 k).toInt ∧ (f13 k).toInt ≤ 12 from hbg), (show pourR (q 7) x1 x2 x3 ((-2) : Int32) f8 f13 f13 f12 f12 from (Or.inl ⟨(fun h9 => by obtain ⟨⟨h1, h2⟩, h3, h4⟩ := h9; omega), (by decide +kernel), rfl, rfl⟩))⟩, by rw [ht]; exact hP.sub [0, 1, 2, 3] rfl, hD.sub [0, 1, 2, 3] (by decide +kernel) rfl⟩, hS.F ht⟩) hS.2.2 dX13_pour_35
      · rw [fa_eq] at c_5
        refine lv_iload_n hx hb dX13_pour_19 rfl (lv_at hl 3 rfl) ?_
        refine lv_i2l hx hb dX13_pour_20 rfl ?_
        refine lv_ldc2 (v := (-1)) hx hb hown (hts (.constantLong RX13 135 (-1)) (List.mem_of_getElem? (i := 1) rfl)) dX13_pour_21 ?_
        refine lv_ldc2 (v := 12) hx hb hown (hts (.constantLong RX13 214 (12)) (List.mem_of_getElem? (i := 2) rfl)) dX13_pour_24 ?_
        refine vp_callSi (W.runS (As := [.long (x3.toInt64), .long (-1), .long 12]) (rest := []) ⟨hx, hb, hml, hown, hts⟩ (c_X13_in l D T (x3.toInt64) (-1) 12 x3.toInt (-1) 12 ((Int32.toInt_toInt64 _).trans rfl) (by decide +kernel) (by decide +kernel)) (va_cwS 3 hts gX13_pour_X13_in rfl rfl rfl hs_X13_in ⟨Nat.le_of_ble_eq_true rfl, Nat.le_of_ble_eq_true rfl⟩) (pR_S hP hE [] rfl) rfl rfl hl.1 rfl (lv_room (Nat.le_of_ble_eq_true rfl)) dX13_pour_27 ⟨Nat.le_of_ble_eq_true rfl, Nat.le_of_ble_eq_true rfl⟩) (fun r_6 hr_6 => ?_)
        rcases bool_post hr_6 with ⟨c_7, rfl⟩ | ⟨c_7, rfl⟩
        · refine lv_if_ne (tgt := 36) hx hb dX13_pour_30 (by decide +kernel) (fun _ => ?_) (fun c9 => absurd c9 (by decide +kernel))
          have hX1 : x1.toNatClampNeg < 3 := tn3 (by omega) (by omega)
          have hX2 : x2.toNatClampNeg < 3 := tn3 (by omega) (by omega)
          have hXn : x1.toNatClampNeg ≠ x2.toNatClampNeg := by have h8 := tn (x := x1) (by omega); have h7 := tn (x := x2) (by omega); omega
          have hV9 : pourV x1 x2 x3 := by refine ⟨⟨?_, ?_⟩, ?_, ?_⟩ <;> omega
          refine lv_iconst (v := 0) hx hb dX13_pour_36 (by decide +kernel) ?_
          refine lv_istore (lv' := [(4, .int 0), (0, .ref h0), (1, .int x1), (2, .int x2), (3, .int x3)]) hx hb dX13_pour_37 hl (by decide +kernel) rfl (fun ls hl => ?_)
          refine lv_iconst (v := 0) hx hb dX13_pour_39 (by decide +kernel) ?_
          refine lv_istore (lv' := [(5, .int 0), (4, .int 0), (0, .ref h0), (1, .int x1), (2, .int x2), (3, .int x3)]) hx hb dX13_pour_40 hl (by decide +kernel) rfl (fun ls hl => ?_)
          refine lv_iconst (v := 0) hx hb dX13_pour_42 (by decide +kernel) ?_
          refine lv_istore (lv' := [(6, .int 0), (5, .int 0), (4, .int 0), (0, .ref h0), (1, .int x1), (2, .int x2), (3, .int x3)]) hx hb dX13_pour_43 hl (by decide +kernel) rfl (fun ls hl => ?_)
          refine loopW (σ := (Int32) × (Int32) × (Int32) × (Nat → Int32) × (Nat → Int32)) (fun x9 ls H locs => lv_has ls 9 [(6, .int x9.1), (5, .int x9.2.1), (4, .int x9.2.2.1), (0, .ref h0), (1, .int x1), (2, .int x2), (3, .int x3)] ∧ va_P D vwCl [(h0, .inr (10, (Value.int (q 0) :: Value.int (q 1) :: Value.int (q 2) :: Value.int (q 3) :: Value.int (q 4) :: Value.int (q 5) :: Value.int (q 6) :: Value.int (q 7) :: Value.ref (a 8) :: Value.ref (a 9) :: Value.ref (a 10) :: Value.ref (a 11) :: Value.ref (a 12) :: Value.ref (a 13) :: Value.int (q 14) :: Value.long v :: Value.long w :: Value.ref (a 17) :: Value.ref (a 18) :: Value.ref (a 19) :: Value.ref (a 20) :: Value.ref (a 21) :: Value.ref (a 22) :: Value.ref (a 23) :: Value.int (q 24) :: Value.ref (a 25) :: Value.int (q 26) :: Value.ref (a 27) :: Value.int (q 28) :: Value.int (q 29) :: Value.int (q 30) :: Value.int (q 31) :: Value.int (q 32) :: Value.int (q 33) :: Value.ref (a 34) :: Value.ref (a 35) :: Value.ref (a 36) :: Value.ref (a 37) :: Value.ref (a 38) :: Value.ref (a 39) :: Value.ref (a 40) :: Value.int (q 41) :: Value.ref (a 42) :: Value.int (q 43) :: Value.int (q 44) :: []))), ((a 8), .inl (T 0, 24, .inl f8)), ((a 12), .inl (T 0, 36, .inl x9.2.2.2.1)), ((a 13), .inl (T 0, 3, .inl x9.2.2.2.2))] H ∧ va_D A [(h0, .inr (10, (Value.int (q 0) :: Value.int (q 1) :: Value.int (q 2) :: Value.int (q 3) :: Value.int (q 4) :: Value.int (q 5) :: Value.int (q 6) :: Value.int (q 7) :: Value.ref (a 8) :: Value.ref (a 9) :: Value.ref (a 10) :: Value.ref (a 11) :: Value.ref (a 12) :: Value.ref (a 13) :: Value.int (q 14) :: Value.long v :: Value.long w :: Value.ref (a 17) :: Value.ref (a 18) :: Value.ref (a 19) :: Value.ref (a 20) :: Value.ref (a 21) :: Value.ref (a 22) :: Value.ref (a 23) :: Value.int (q 24) :: Value.ref (a 25) :: Value.int (q 26) :: Value.ref (a 27) :: Value.int (q 28) :: Value.int (q 29) :: Value.int (q 30) :: Value.int (q 31) :: Value.int (q 32) :: Value.int (q 33) :: Value.ref (a 34) :: Value.ref (a 35) :: Value.ref (a 36) :: Value.ref (a 37) :: Value.ref (a 38) :: Value.ref (a 39) :: Value.ref (a 40) :: Value.int (q 41) :: Value.ref (a 42) :: Value.int (q 43) :: Value.int (q 44) :: []))), ((a 8), .inl (T 0, 24, .inl f8)), ((a 12), .inl (T 0, 36, .inl x9.2.2.2.1)), ((a 13), .inl (T 0, 3, .inl x9.2.2.2.2))] ∧ va_S A s.heap H locs ∧ ((0 ≤ x9.2.1.toInt ∧ x9.2.1.toInt ≤ x9.1.toInt ∧ x9.1.toInt ≤ 12 ∧ x9.1.toInt ≤ (f13 x1.toNatClampNeg).toInt) ∧ (∀ k : Nat, k < 3 → 0 ≤ (x9.2.2.2.2 k).toInt ∧ (x9.2.2.2.2 k).toInt ≤ 12) ∧ pourJ (prP x3 (q 7) f8) f12 f13 x1.toNatClampNeg x2.toNatClampNeg x9.1.toNatClampNeg x9.2.1 x9.2.2.1 x9.2.2.2.1 x9.2.2.2.2)) (fun x9 => (12 - x9.1.toInt).toNat) (fun x9 ls H locs hI ih => ?_) (0, 0, 0, f12, f13) ls ⟨lv_sub hl [0, 1, 2, 3, 4, 5, 6] rfl, hP.sub [0, 1, 2, 3] rfl, hD.sub [0, 1, 2, 3] (by decide +kernel) rfl, hS, ⟨(by (try dsimp only); have h8 := hbg _ hX1; simp only [ti_0]; omega), hbg, (by (try dsimp only); rw [tn0']; exact pourJ_0 hX2 (hbg _ hX2).1)⟩⟩
          obtain ⟨ii, st, ca, g12, g13⟩ := x9
          obtain ⟨hl, hP, hD, hS, hinv⟩ := hI
          have hl : lv_has ls 9 [(6, .int ii), (5, .int st), (4, .int ca), (0, .ref h0), (1, .int x1), (2, .int x2), (3, .int x3)] := hl
          have hP : va_P D vwCl [(h0, .inr (10, (Value.int (q 0) :: Value.int (q 1) :: Value.int (q 2) :: Value.int (q 3) :: Value.int (q 4) :: Value.int (q 5) :: Value.int (q 6) :: Value.int (q 7) :: Value.ref (a 8) :: Value.ref (a 9) :: Value.ref (a 10) :: Value.ref (a 11) :: Value.ref (a 12) :: Value.ref (a 13) :: Value.int (q 14) :: Value.long v :: Value.long w :: Value.ref (a 17) :: Value.ref (a 18) :: Value.ref (a 19) :: Value.ref (a 20) :: Value.ref (a 21) :: Value.ref (a 22) :: Value.ref (a 23) :: Value.int (q 24) :: Value.ref (a 25) :: Value.int (q 26) :: Value.ref (a 27) :: Value.int (q 28) :: Value.int (q 29) :: Value.int (q 30) :: Value.int (q 31) :: Value.int (q 32) :: Value.int (q 33) :: Value.ref (a 34) :: Value.ref (a 35) :: Value.ref (a 36) :: Value.ref (a 37) :: Value.ref (a 38) :: Value.ref (a 39) :: Value.ref (a 40) :: Value.int (q 41) :: Value.ref (a 42) :: Value.int (q 43) :: Value.int (q 44) :: []))), ((a 8), .inl (T 0, 24, .inl f8)), ((a 12), .inl (T 0, 36, .inl g12)), ((a 13), .inl (T 0, 3, .inl g13))] H := hP
          have hD : va_D A [(h0, .inr (10, (Value.int (q 0) :: Value.int (q 1) :: Value.int (q 2) :: Value.int (q 3) :: Value.int (q 4) :: Value.int (q 5) :: Value.int (q 6) :: Value.int (q 7) :: Value.ref (a 8) :: Value.ref (a 9) :: Value.ref (a 10) :: Value.ref (a 11) :: Value.ref (a 12) :: Value.ref (a 13) :: Value.int (q 14) :: Value.long v :: Value.long w :: Value.ref (a 17) :: Value.ref (a 18) :: Value.ref (a 19) :: Value.ref (a 20) :: Value.ref (a 21) :: Value.ref (a 22) :: Value.ref (a 23) :: Value.int (q 24) :: Value.ref (a 25) :: Value.int (q 26) :: Value.ref (a 27) :: Value.int (q 28) :: Value.int (q 29) :: Value.int (q 30) :: Value.int (q 31) :: Value.int (q 32) :: Value.int (q 33) :: Value.ref (a 34) :: Value.ref (a 35) :: Value.ref (a 36) :: Value.ref (a 37) :: Value.ref (a 38) :: Value.ref (a 39) :: Value.ref (a 40) :: Value.int (q 41) :: Value.ref (a 42) :: Value.int (q 43) :: Value.int (q 44) :: []))), ((a 8), .inl (T 0, 24, .inl f8)), ((a 12), .inl (T 0, 36, .inl g12)), ((a 13), .inl (T 0, 3, .inl g13))] := hD
          have hinv : (0 ≤ st.toInt ∧ st.toInt ≤ ii.toInt ∧ ii.toInt ≤ 12 ∧ ii.toInt ≤ (f13 x1.toNatClampNeg).toInt) ∧ (∀ k : Nat, k < 3 → 0 ≤ (g13 k).toInt ∧ (g13 k).toInt ≤ 12) ∧ pourJ (prP x3 (q 7) f8) f12 f13 x1.toNatClampNeg x2.toNatClampNeg ii.toNatClampNeg st ca g12 g13 := hinv
          obtain ⟨hii, hbg, hpj⟩ := hinv
          have h12x1 : (12 * x1).toInt = 12 * x1.toInt := by rw [fb_mulI (by rw [ti_12]; omega) (by rw [ti_12]; omega), ti_12]
          have h12x2 : (12 * x2).toInt = 12 * x2.toInt := by rw [fb_mulI (by rw [ti_12]; omega) (by rw [ti_12]; omega), ti_12]
          have hg1 : g13 x1.toNatClampNeg = f13 x1.toNatClampNeg := (hpj.2.1 _ hX1).2 hXn
          refine lv_iload hx hb dX13_pour_45 (lv_at hl 0 rfl) ?_
          refine lv_aload_n hx hb dX13_pour_47 rfl (lv_at hl 3 rfl) ?_
          refine va_get (D := D) (ci := 10) (v := .ref (a 13)) (C := RX13) (T := TX13) (N := 45) hx hb hts in_X13_pour_X13 hown hE.1 hP 0 rfl rfl 13 (by decide +kernel) (hts (.fieldLink RX13 44 "ClauseBookModel" "bagged" "[I") (List.mem_of_getElem? (i := 3) rfl)) (fun _ h9 => h9) rfl dX13_pour_48 ?_
          refine lv_iload_n hx hb dX13_pour_51 rfl (lv_at hl 4 rfl) ?_
          refine va_iald hx hb hE.1 hP 3 0 rfl rfl (by rw [vp_in_iff]; first | omega | (rw [fb_addI (by omega) (by omega)]; omega)) dX13_pour_52 ?_
          refine lv_topi (fun z_8 ez_8 => ?_)
          have hbz_8 : 0 ≤ z_8.toInt ∧ z_8.toInt ≤ 12 := by rw [ez_8]; exact hbg _ (tn3 (by omega) (by omega))
          have hfz_8 : z_8.toInt = (f13 x1.toNatClampNeg).toInt := by rw [ez_8, hg1]
          refine lv_icmp_ge (tgt := 175) hx hb dX13_pour_53 (by decide +kernel) (fun c_9 => ?_) (fun c_9 => ?_)
          · rw [fa_le] at c_9
            refine lv_aload_n hx hb dX13_pour_175 rfl (lv_at hl 3 rfl) ?_
            refine va_get (D := D) (ci := 10) (v := .ref (a 13)) (C := RX13) (T := TX13) (N := 45) hx hb hts in_X13_pour_X13 hown hE.1 hP 0 rfl rfl 13 (by decide +kernel) (hts (.fieldLink RX13 44 "ClauseBookModel" "bagged" "[I") (List.mem_of_getElem? (i := 3) rfl)) (fun _ h9 => h9) rfl dX13_pour_176 ?_
            refine lv_iload_n hx hb dX13_pour_179 rfl (lv_at hl 4 rfl) ?_
            refine lv_iload hx hb dX13_pour_180 (lv_at hl 1 rfl) ?_
            refine va_iast hx hb hE.1 hP hD hS 3 0 rfl rfl (by rw [vp_in_iff]; first | omega | (rw [fb_addI (by omega) (by omega)]; omega)) dX13_pour_182 (fun H locs hP hD hS => ?_)
            obtain ⟨hP, hD⟩ := wPD [(h0, .inr (10, (Value.int (q 0) :: Value.int (q 1) :: Value.int (q 2) :: Value.int (q 3) :: Value.int (q 4) :: Value.int (q 5) :: Value.int (q 6) :: Value.int (q 7) :: Value.ref (a 8) :: Value.ref (a 9) :: Value.ref (a 10) :: Value.ref (a 11) :: Value.ref (a 12) :: Value.ref (a 13) :: Value.int (q 14) :: Value.long v :: Value.long w :: Value.ref (a 17) :: Value.ref (a 18) :: Value.ref (a 19) :: Value.ref (a 20) :: Value.ref (a 21) :: Value.ref (a 22) :: Value.ref (a 23) :: Value.int (q 24) :: Value.ref (a 25) :: Value.int (q 26) :: Value.ref (a 27) :: Value.int (q 28) :: Value.int (q 29) :: Value.int (q 30) :: Value.int (q 31) :: Value.int (q 32) :: Value.int (q 33) :: Value.ref (a 34) :: Value.ref (a 35) :: Value.ref (a 36) :: Value.ref (a 37) :: Value.ref (a 38) :: Value.ref (a 39) :: Value.ref (a 40) :: Value.int (q 41) :: Value.ref (a 42) :: Value.int (q 43) :: Value.int (q 44) :: []))), ((a 8), .inl (T 0, 24, .inl f8)), ((a 12), .inl (T 0, 36, .inl g12)), ((a 13), .inl (T 0, 3, .inl (upd g13 (x1.toNatClampNeg) st)))] hP hD rfl
            have hbg := bg_up (x := x1) (v := st) hbg (by omega)
            refine lv_iload hx hb dX13_pour_183 (lv_at hl 2 rfl) ?_
            exact W.iret hx hb hr (fun t ht hW => ⟨⟨_, (g12, (upd g13 (x1.toNatClampNeg) st)), rfl, ⟨(show ∀ k : Nat, k < 3 → 0 ≤ ((upd g13 (x1.toNatClampNeg) st) k).toInt ∧ ((upd g13 (x1.toNatClampNeg) st) k).toInt ≤ 12 from hbg), (show pourR (q 7) x1 x2 x3 ca f8 f13 (upd g13 (x1.toNatClampNeg) st) f12 g12 from (pourJ_end hV9 hpj (by have h8 := tn (x := ii) (by omega); have h7 := tn (x := f13 x1.toNatClampNeg) (by omega); omega) (by omega)))⟩, by rw [ht]; exact hP.sub [0, 1, 2, 3] rfl, hD.sub [0, 1, 2, 3] (by decide +kernel) rfl⟩, hS.F ht⟩) hS.2.2 dX13_pour_185
          · rw [fa_le] at c_9
            refine lv_aload_n hx hb dX13_pour_56 rfl (lv_at hl 3 rfl) ?_
            refine va_get (D := D) (ci := 10) (v := .ref (a 12)) (C := RX13) (T := TX13) (N := 45) hx hb hts in_X13_pour_X13 hown hE.1 hP 0 rfl rfl 12 (by decide +kernel) (hts (.fieldLink RX13 41 "ClauseBookModel" "bag" "[I") (List.mem_of_getElem? (i := 4) rfl)) (fun _ h9 => h9) rfl dX13_pour_57 ?_
            refine lv_bipush (v := 12) hx hb dX13_pour_60 (by decide +kernel) ?_
            refine lv_iload_n hx hb dX13_pour_62 rfl (lv_at hl 4 rfl) ?_
            refine lv_imul hx hb dX13_pour_63 ?_
            refine lv_iload hx hb dX13_pour_64 (lv_at hl 0 rfl) ?_
            refine lv_iadd hx hb dX13_pour_66 ?_
            refine va_iald hx hb hE.1 hP 2 0 rfl rfl (by rw [vp_in_iff]; first | omega | (rw [fb_addI (by omega) (by omega)]; omega)) dX13_pour_67 ?_
            refine lv_topi (fun z_10 ez_10 => ?_)
            have hzF : z_10 = f12 (12 * x1.toNatClampNeg + ii.toNatClampNeg) := pourJ_z hpj hX1 (by have h8 := tn (x := ii) (by omega); omega) (by rw [ez_10, ix12 (by omega) (by omega)])
            refine lv_istore (lv' := [(7, .int z_10), (6, .int ii), (5, .int st), (4, .int ca), (0, .ref h0), (1, .int x1), (2, .int x2), (3, .int x3)]) hx hb dX13_pour_68 hl (by decide +kernel) rfl (fun ls hl => ?_)
            refine lv_iload_n hx hb dX13_pour_70 rfl (lv_at hl 7 rfl) ?_
            refine lv_iconst (v := (-1)) hx hb dX13_pour_71 (by decide +kernel) ?_
            refine lv_icmp_eq (tgt := 95) hx hb dX13_pour_72 (by decide +kernel) (fun c_11 => ?_) (fun c_11 => ?_)
            · rw [fa_eq] at c_11
              try rw [ti_n1] at c_11
              refine lv_iconst (v := 1) hx hb dX13_pour_95 (by decide +kernel) ?_
              refine lv_goto (tgt := 100) hx hb dX13_pour_96 (by decide +kernel) ?_
              refine lv_istore (lv' := [(8, .int 1), (7, .int z_10), (6, .int ii), (5, .int st), (4, .int ca), (0, .ref h0), (1, .int x1), (2, .int x2), (3, .int x3)]) hx hb dX13_pour_100 hl (by decide +kernel) rfl (fun ls hl => ?_)
              have hM : prP x3 (q 7) f8 z_10 = true := decide_eq_true (Or.inl (by omega))
              refine lv_iload hx hb dX13_pour_102 (lv_at hl 0 rfl) ?_
              refine lv_if_eq (tgt := 152) hx hb dX13_pour_104 (by decide +kernel) (fun c9 => absurd c9 (by decide +kernel)) (fun _ => ?_)
              refine lv_aload_n hx hb dX13_pour_107 rfl (lv_at hl 5 rfl) ?_
              refine va_get (D := D) (ci := 10) (v := .ref (a 13)) (C := RX13) (T := TX13) (N := 45) hx hb hts in_X13_pour_X13 hown hE.1 hP 0 rfl rfl 13 (by decide +kernel) (hts (.fieldLink RX13 44 "ClauseBookModel" "bagged" "[I") (List.mem_of_getElem? (i := 3) rfl)) (fun _ h9 => h9) rfl dX13_pour_108 ?_
              refine lv_iload_n hx hb dX13_pour_111 rfl (lv_at hl 7 rfl) ?_
              refine va_iald hx hb hE.1 hP 3 0 rfl rfl (by rw [vp_in_iff]; first | omega | (rw [fb_addI (by omega) (by omega)]; omega)) dX13_pour_112 ?_
              refine lv_topi (fun z_12 ez_12 => ?_)
              have hbz_12 : 0 ≤ z_12.toInt ∧ z_12.toInt ≤ 12 := by rw [ez_12]; exact hbg _ (tn3 (by omega) (by omega))
              refine lv_bipush (v := 12) hx hb dX13_pour_113 (by decide +kernel) ?_
              refine lv_icmp_ge (tgt := 152) hx hb dX13_pour_115 (by decide +kernel) (fun c_13 => ?_) (fun c_13 => ?_)
              · rw [fa_le] at c_13
                try rw [ti_12] at c_13
                refine lv_aload_n hx hb dX13_pour_152 rfl (lv_at hl 5 rfl) ?_
                refine va_get (D := D) (ci := 10) (v := .ref (a 12)) (C := RX13) (T := TX13) (N := 45) hx hb hts in_X13_pour_X13 hown hE.1 hP 0 rfl rfl 12 (by decide +kernel) (hts (.fieldLink RX13 41 "ClauseBookModel" "bag" "[I") (List.mem_of_getElem? (i := 4) rfl)) (fun _ h9 => h9) rfl dX13_pour_153 ?_
                refine lv_bipush (v := 12) hx hb dX13_pour_156 (by decide +kernel) ?_
                refine lv_iload_n hx hb dX13_pour_158 rfl (lv_at hl 6 rfl) ?_
                refine lv_imul hx hb dX13_pour_159 ?_
                refine lv_iload hx hb dX13_pour_160 (lv_at hl 3 rfl) ?_
                refine lv_iadd hx hb dX13_pour_162 ?_
                refine lv_iload hx hb dX13_pour_163 (lv_at hl 1 rfl) ?_
                refine va_iast hx hb hE.1 hP hD hS 2 0 rfl rfl (by rw [vp_in_iff]; first | omega | (rw [fb_addI (by omega) (by omega)]; omega)) dX13_pour_165 (fun H locs hP hD hS => ?_)
                obtain ⟨hP, hD⟩ := wPD [(h0, .inr (10, (Value.int (q 0) :: Value.int (q 1) :: Value.int (q 2) :: Value.int (q 3) :: Value.int (q 4) :: Value.int (q 5) :: Value.int (q 6) :: Value.int (q 7) :: Value.ref (a 8) :: Value.ref (a 9) :: Value.ref (a 10) :: Value.ref (a 11) :: Value.ref (a 12) :: Value.ref (a 13) :: Value.int (q 14) :: Value.long v :: Value.long w :: Value.ref (a 17) :: Value.ref (a 18) :: Value.ref (a 19) :: Value.ref (a 20) :: Value.ref (a 21) :: Value.ref (a 22) :: Value.ref (a 23) :: Value.int (q 24) :: Value.ref (a 25) :: Value.int (q 26) :: Value.ref (a 27) :: Value.int (q 28) :: Value.int (q 29) :: Value.int (q 30) :: Value.int (q 31) :: Value.int (q 32) :: Value.int (q 33) :: Value.ref (a 34) :: Value.ref (a 35) :: Value.ref (a 36) :: Value.ref (a 37) :: Value.ref (a 38) :: Value.ref (a 39) :: Value.ref (a 40) :: Value.int (q 41) :: Value.ref (a 42) :: Value.int (q 43) :: Value.int (q 44) :: []))), ((a 8), .inl (T 0, 24, .inl f8)), ((a 12), .inl (T 0, 36, .inl (upd g12 (((12 * x1) + st).toNatClampNeg) z_10))), ((a 13), .inl (T 0, 3, .inl g13))] hP hD rfl
                obtain ⟨z_14, ez_14⟩ : ∃ y : Int32, y = st + 1 := ⟨_, rfl⟩
                refine lv_iinc (v := z_14) (lv' := [(5, .int z_14), (8, .int 1), (7, .int z_10), (6, .int ii), (4, .int ca), (0, .ref h0), (1, .int x1), (2, .int x2), (3, .int x3)]) hx hb dX13_pour_166 hl (k := 3) rfl (by rw [ez_14]; rfl) (by decide +kernel) rfl (fun ls hl => ?_)
                have hs9 : z_14.toInt = st.toInt + 1 := by rw [ez_14]; exact inc1 (n := 1000) (by omega) (by decide +kernel)
                have hpn := pourJ_no (st' := z_14) hpj hX1 hX2 hXn hzF (fun h9 => by first | exact hM h9.1 | (have h8 := h9.2; rw [← ez_12] at h8; omega)) (by omega) hs9
                rw [← ix12 (b := x1) (z := st) (by omega) (by omega)] at hpn
                obtain ⟨z_15, ez_15⟩ : ∃ y : Int32, y = ii + 1 := ⟨_, rfl⟩
                refine lv_iinc (v := z_15) (lv' := [(6, .int z_15), (5, .int z_14), (8, .int 1), (7, .int z_10), (4, .int ca), (0, .ref h0), (1, .int x1), (2, .int x2), (3, .int x3)]) hx hb dX13_pour_169 hl (k := 3) rfl (by rw [ez_15]; rfl) (by decide +kernel) rfl (fun ls hl => ?_)
                have hi9 : z_15.toInt = ii.toInt + 1 := by rw [ez_15]; exact inc1 (n := 1000) (by omega) (by decide +kernel)
                refine lv_goto (tgt := 45) hx hb dX13_pour_172 (by decide +kernel) ?_
                exact ih (z_15, z_14, ca, (upd g12 (((12 * x1) + st).toNatClampNeg) z_10), g13) ls _ _ ⟨lv_sub hl [0, 1, 4, 5, 6, 7, 8] rfl, hP.sub [0, 1, 2, 3] rfl, hD.sub [0, 1, 2, 3] (by decide +kernel) rfl, hS, ⟨(by (try dsimp only); omega), hbg, (by (try dsimp only); rw [tnS (by omega) hi9]; exact hpn)⟩⟩ (by (try dsimp only); omega)
              · rw [fa_le] at c_13
                try rw [ti_12] at c_13
                refine lv_aload_n hx hb dX13_pour_118 rfl (lv_at hl 5 rfl) ?_
                refine va_get (D := D) (ci := 10) (v := .ref (a 12)) (C := RX13) (T := TX13) (N := 45) hx hb hts in_X13_pour_X13 hown hE.1 hP 0 rfl rfl 12 (by decide +kernel) (hts (.fieldLink RX13 41 "ClauseBookModel" "bag" "[I") (List.mem_of_getElem? (i := 4) rfl)) (fun _ h9 => h9) rfl dX13_pour_119 ?_
                refine lv_bipush (v := 12) hx hb dX13_pour_122 (by decide +kernel) ?_
                refine lv_iload_n hx hb dX13_pour_124 rfl (lv_at hl 7 rfl) ?_
                refine lv_imul hx hb dX13_pour_125 ?_
                refine lv_aload_n hx hb dX13_pour_126 rfl (lv_at hl 5 rfl) ?_
                refine va_get (D := D) (ci := 10) (v := .ref (a 13)) (C := RX13) (T := TX13) (N := 45) hx hb hts in_X13_pour_X13 hown hE.1 hP 0 rfl rfl 13 (by decide +kernel) (hts (.fieldLink RX13 44 "ClauseBookModel" "bagged" "[I") (List.mem_of_getElem? (i := 3) rfl)) (fun _ h9 => h9) rfl dX13_pour_127 ?_
                refine lv_iload_n hx hb dX13_pour_130 rfl (lv_at hl 7 rfl) ?_
                refine va_iald hx hb hE.1 hP 3 0 rfl rfl (by rw [vp_in_iff]; first | omega | (rw [fb_addI (by omega) (by omega)]; omega)) dX13_pour_131 ?_
                refine lv_topi (fun z_16 ez_16 => ?_)
                have hbz_16 : 0 ≤ z_16.toInt ∧ z_16.toInt ≤ 12 := by rw [ez_16]; exact hbg _ (tn3 (by omega) (by omega))
                have hqz_16 : z_16.toInt = z_12.toInt := by rw [ez_16, ez_12]
                refine lv_iadd hx hb dX13_pour_132 ?_
                refine lv_iload hx hb dX13_pour_133 (lv_at hl 1 rfl) ?_
                refine va_iast hx hb hE.1 hP hD hS 2 0 rfl rfl (by rw [vp_in_iff]; first | omega | (rw [fb_addI (by omega) (by omega)]; omega)) dX13_pour_135 (fun H locs hP hD hS => ?_)
                obtain ⟨hP, hD⟩ := wPD [(h0, .inr (10, (Value.int (q 0) :: Value.int (q 1) :: Value.int (q 2) :: Value.int (q 3) :: Value.int (q 4) :: Value.int (q 5) :: Value.int (q 6) :: Value.int (q 7) :: Value.ref (a 8) :: Value.ref (a 9) :: Value.ref (a 10) :: Value.ref (a 11) :: Value.ref (a 12) :: Value.ref (a 13) :: Value.int (q 14) :: Value.long v :: Value.long w :: Value.ref (a 17) :: Value.ref (a 18) :: Value.ref (a 19) :: Value.ref (a 20) :: Value.ref (a 21) :: Value.ref (a 22) :: Value.ref (a 23) :: Value.int (q 24) :: Value.ref (a 25) :: Value.int (q 26) :: Value.ref (a 27) :: Value.int (q 28) :: Value.int (q 29) :: Value.int (q 30) :: Value.int (q 31) :: Value.int (q 32) :: Value.int (q 33) :: Value.ref (a 34) :: Value.ref (a 35) :: Value.ref (a 36) :: Value.ref (a 37) :: Value.ref (a 38) :: Value.ref (a 39) :: Value.ref (a 40) :: Value.int (q 41) :: Value.ref (a 42) :: Value.int (q 43) :: Value.int (q 44) :: []))), ((a 8), .inl (T 0, 24, .inl f8)), ((a 12), .inl (T 0, 36, .inl (upd g12 (((12 * x2) + z_16).toNatClampNeg) z_10))), ((a 13), .inl (T 0, 3, .inl g13))] hP hD rfl
                refine lv_aload_n hx hb dX13_pour_136 rfl (lv_at hl 5 rfl) ?_
                refine va_get (D := D) (ci := 10) (v := .ref (a 13)) (C := RX13) (T := TX13) (N := 45) hx hb hts in_X13_pour_X13 hown hE.1 hP 0 rfl rfl 13 (by decide +kernel) (hts (.fieldLink RX13 44 "ClauseBookModel" "bagged" "[I") (List.mem_of_getElem? (i := 3) rfl)) (fun _ h9 => h9) rfl dX13_pour_137 ?_
                refine lv_iload_n hx hb dX13_pour_140 rfl (lv_at hl 7 rfl) ?_
                refine lv_dup2_11 hx hb dX13_pour_141 rfl rfl ?_
                refine va_iald hx hb hE.1 hP 3 0 rfl rfl (by rw [vp_in_iff]; first | omega | (rw [fb_addI (by omega) (by omega)]; omega)) dX13_pour_142 ?_
                refine lv_topi (fun z_17 ez_17 => ?_)
                have hbz_17 : 0 ≤ z_17.toInt ∧ z_17.toInt ≤ 12 := by rw [ez_17]; exact hbg _ (tn3 (by omega) (by omega))
                have hqz_17 : z_17.toInt = z_12.toInt := by rw [ez_17, ez_12]
                refine lv_iconst (v := 1) hx hb dX13_pour_143 (by decide +kernel) ?_
                refine lv_iadd hx hb dX13_pour_144 ?_
                refine lv_topi (fun z_18 ez_18 => ?_)
                have hvz_18 : 0 ≤ z_18.toInt ∧ z_18.toInt ≤ 12 := by rw [ez_18, inc1 (n := 1000) (by omega) (by decide +kernel)]; omega
                refine va_iast hx hb hE.1 hP hD hS 3 0 rfl rfl (by rw [vp_in_iff]; first | omega | (rw [fb_addI (by omega) (by omega)]; omega)) dX13_pour_145 (fun H locs hP hD hS => ?_)
                obtain ⟨hP, hD⟩ := wPD [(h0, .inr (10, (Value.int (q 0) :: Value.int (q 1) :: Value.int (q 2) :: Value.int (q 3) :: Value.int (q 4) :: Value.int (q 5) :: Value.int (q 6) :: Value.int (q 7) :: Value.ref (a 8) :: Value.ref (a 9) :: Value.ref (a 10) :: Value.ref (a 11) :: Value.ref (a 12) :: Value.ref (a 13) :: Value.int (q 14) :: Value.long v :: Value.long w :: Value.ref (a 17) :: Value.ref (a 18) :: Value.ref (a 19) :: Value.ref (a 20) :: Value.ref (a 21) :: Value.ref (a 22) :: Value.ref (a 23) :: Value.int (q 24) :: Value.ref (a 25) :: Value.int (q 26) :: Value.ref (a 27) :: Value.int (q 28) :: Value.int (q 29) :: Value.int (q 30) :: Value.int (q 31) :: Value.int (q 32) :: Value.int (q 33) :: Value.ref (a 34) :: Value.ref (a 35) :: Value.ref (a 36) :: Value.ref (a 37) :: Value.ref (a 38) :: Value.ref (a 39) :: Value.ref (a 40) :: Value.int (q 41) :: Value.ref (a 42) :: Value.int (q 43) :: Value.int (q 44) :: []))), ((a 8), .inl (T 0, 24, .inl f8)), ((a 12), .inl (T 0, 36, .inl (upd g12 (((12 * x2) + z_16).toNatClampNeg) z_10))), ((a 13), .inl (T 0, 3, .inl (upd g13 (x2.toNatClampNeg) z_18)))] hP hD rfl
                have hbg := bg_up (x := x2) hbg hvz_18
                obtain ⟨z_19, ez_19⟩ : ∃ y : Int32, y = ca + 1 := ⟨_, rfl⟩
                refine lv_iinc (v := z_19) (lv' := [(4, .int z_19), (8, .int 1), (7, .int z_10), (6, .int ii), (5, .int st), (0, .ref h0), (1, .int x1), (2, .int x2), (3, .int x3)]) hx hb dX13_pour_146 hl (k := 4) rfl (by rw [ez_19]; rfl) (by decide +kernel) rfl (fun ls hl => ?_)
                have hc9 : z_19.toInt = ca.toInt + 1 := by
                  have h8 := hpj.1.2
                  have h7 := tn (x := ii) (by omega)
                  have h6 := hpj.1.1
                  rw [ez_19]
                  exact inc1 (n := 1000) (by omega) (by decide +kernel)
                have hpn := pourJ_yes (q := z_16) (q' := z_18) (ca' := z_19) hpj hX1 hX2 hXn hzF hM ez_16 (by omega) (by rw [ez_18, inc1 (n := 1000) (by omega) (by decide +kernel)]; omega) hc9
                rw [← ix12 (b := x2) (z := z_16) (by omega) (by omega)] at hpn
                refine lv_goto (tgt := 169) hx hb dX13_pour_149 (by decide +kernel) ?_
                obtain ⟨z_20, ez_20⟩ : ∃ y : Int32, y = ii + 1 := ⟨_, rfl⟩
                refine lv_iinc (v := z_20) (lv' := [(6, .int z_20), (4, .int z_19), (8, .int 1), (7, .int z_10), (5, .int st), (0, .ref h0), (1, .int x1), (2, .int x2), (3, .int x3)]) hx hb dX13_pour_169 hl (k := 3) rfl (by rw [ez_20]; rfl) (by decide +kernel) rfl (fun ls hl => ?_)
                have hi9 : z_20.toInt = ii.toInt + 1 := by rw [ez_20]; exact inc1 (n := 1000) (by omega) (by decide +kernel)
                refine lv_goto (tgt := 45) hx hb dX13_pour_172 (by decide +kernel) ?_
                exact ih (z_20, st, z_19, (upd g12 (((12 * x2) + z_16).toNatClampNeg) z_10), (upd g13 (x2.toNatClampNeg) z_18)) ls _ _ ⟨lv_sub hl [0, 4, 1, 5, 6, 7, 8] rfl, hP.sub [0, 1, 2, 3] rfl, hD.sub [0, 1, 2, 3] (by decide +kernel) rfl, hS, ⟨(by (try dsimp only); omega), hbg, (by (try dsimp only); rw [tnS (by omega) hi9]; exact hpn)⟩⟩ (by (try dsimp only); omega)
            · rw [fa_eq] at c_11
              try rw [ti_n1] at c_11
              refine lv_aload_n hx hb dX13_pour_75 rfl (lv_at hl 4 rfl) ?_
              refine lv_iload hx hb dX13_pour_76 (lv_at hl 0 rfl) ?_
              refine vp_callSi (W.runV (As := [.int z_10]) (rest := []) ⟨hx, hb, hml, hown, hts⟩ (c_X13_isClause l D T h0 [.int (q 0), .int (q 1), .int (q 2), .int (q 3), .int (q 4), .int (q 5), .int (q 6), .int (q 7), .ref (a 8), .ref (a 9), .ref (a 10), .ref (a 11), .ref (a 12), .ref (a 13), .int (q 14), .long v, .long w, .ref (a 17), .ref (a 18), .ref (a 19), .ref (a 20), .ref (a 21), .ref (a 22), .ref (a 23), .int (q 24), .ref (a 25), .int (q 26), .ref (a 27), .int (q 28), .int (q 29), .int (q 30), .int (q 31), .int (q 32), .int (q 33), .ref (a 34), .ref (a 35), .ref (a 36), .ref (a 37), .ref (a 38), .ref (a 39), .ref (a 40), .int (q 41), .ref (a 42), .int (q 43), .int (q 44)] z_10 (q 7) rfl (by omega)) (cwV 1 hts gX13_pour_X13_isClause rfl rfl rfl hv_X13_isClause ⟨Nat.le_of_ble_eq_true rfl, Nat.le_of_ble_eq_true rfl⟩) (pR_V (q := (RX13, TX13, 45)) (ci := 10) (q0 := 0) hP hE rfl rfl [0] rfl) rfl rfl hl.1 rfl (lv_room (Nat.le_of_ble_eq_true rfl)) dX13_pour_78 ⟨Nat.le_of_ble_eq_true rfl, Nat.le_of_ble_eq_true rfl⟩) (fun r_21 hr_21 => ?_)
              rcases bool_post hr_21 with ⟨c_22, rfl⟩ | ⟨c_22, rfl⟩
              · refine lv_if_eq (tgt := 99) hx hb dX13_pour_81 (by decide +kernel) (fun c9 => absurd c9 (by decide +kernel)) (fun _ => ?_)
                refine lv_aload_n hx hb dX13_pour_84 rfl (lv_at hl 4 rfl) ?_
                refine va_get (D := D) (ci := 10) (v := .ref (a 8)) (C := RX13) (T := TX13) (N := 45) hx hb hts in_X13_pour_X13 hown hE.1 hP 0 rfl rfl 8 (by decide +kernel) (hts (.fieldLink RX13 28 "ClauseBookModel" "kind" "[I") (List.mem_of_getElem? (i := 5) rfl)) (fun _ h9 => h9) rfl dX13_pour_85 ?_
                refine lv_iload hx hb dX13_pour_88 (lv_at hl 0 rfl) ?_
                refine va_iald hx hb hE.1 hP 1 0 rfl rfl (by rw [vp_in_iff]; first | omega | (rw [fb_addI (by omega) (by omega)]; omega)) dX13_pour_90 ?_
                refine lv_topi (fun z_23 ez_23 => ?_)
                refine lv_iload_n hx hb dX13_pour_91 rfl (lv_at hl 7 rfl) ?_
                refine lv_icmp_ne (tgt := 99) hx hb dX13_pour_92 (by decide +kernel) (fun c_24 => ?_) (fun c_24 => ?_)
                · rw [fa_eq] at c_24
                  refine lv_iconst (v := 0) hx hb dX13_pour_99 (by decide +kernel) ?_
                  refine lv_istore (lv' := [(8, .int 0), (7, .int z_10), (6, .int ii), (5, .int st), (4, .int ca), (0, .ref h0), (1, .int x1), (2, .int x2), (3, .int x3)]) hx hb dX13_pour_100 hl (by decide +kernel) rfl (fun ls hl => ?_)
                  have hM : ¬ prP x3 (q 7) f8 z_10 = true := fun h9 => by rcases of_decide_eq_true h9 with h8 | ⟨h8, h7⟩ <;> first | omega | (rw [← ez_23] at h7; omega)
                  refine lv_iload hx hb dX13_pour_102 (lv_at hl 0 rfl) ?_
                  refine lv_if_eq (tgt := 152) hx hb dX13_pour_104 (by decide +kernel) (fun _ => ?_) (fun c9 => absurd c9 (by decide +kernel))
                  refine lv_aload_n hx hb dX13_pour_152 rfl (lv_at hl 5 rfl) ?_
                  refine va_get (D := D) (ci := 10) (v := .ref (a 12)) (C := RX13) (T := TX13) (N := 45) hx hb hts in_X13_pour_X13 hown hE.1 hP 0 rfl rfl 12 (by decide +kernel) (hts (.fieldLink RX13 41 "ClauseBookModel" "bag" "[I") (List.mem_of_getElem? (i := 4) rfl)) (fun _ h9 => h9) rfl dX13_pour_153 ?_
                  refine lv_bipush (v := 12) hx hb dX13_pour_156 (by decide +kernel) ?_
                  refine lv_iload_n hx hb dX13_pour_158 rfl (lv_at hl 6 rfl) ?_
                  refine lv_imul hx hb dX13_pour_159 ?_
                  refine lv_iload hx hb dX13_pour_160 (lv_at hl 3 rfl) ?_
                  refine lv_iadd hx hb dX13_pour_162 ?_
                  refine lv_iload hx hb dX13_pour_163 (lv_at hl 1 rfl) ?_
                  refine va_iast hx hb hE.1 hP hD hS 2 0 rfl rfl (by rw [vp_in_iff]; first | omega | (rw [fb_addI (by omega) (by omega)]; omega)) dX13_pour_165 (fun H locs hP hD hS => ?_)
                  obtain ⟨hP, hD⟩ := wPD [(h0, .inr (10, (Value.int (q 0) :: Value.int (q 1) :: Value.int (q 2) :: Value.int (q 3) :: Value.int (q 4) :: Value.int (q 5) :: Value.int (q 6) :: Value.int (q 7) :: Value.ref (a 8) :: Value.ref (a 9) :: Value.ref (a 10) :: Value.ref (a 11) :: Value.ref (a 12) :: Value.ref (a 13) :: Value.int (q 14) :: Value.long v :: Value.long w :: Value.ref (a 17) :: Value.ref (a 18) :: Value.ref (a 19) :: Value.ref (a 20) :: Value.ref (a 21) :: Value.ref (a 22) :: Value.ref (a 23) :: Value.int (q 24) :: Value.ref (a 25) :: Value.int (q 26) :: Value.ref (a 27) :: Value.int (q 28) :: Value.int (q 29) :: Value.int (q 30) :: Value.int (q 31) :: Value.int (q 32) :: Value.int (q 33) :: Value.ref (a 34) :: Value.ref (a 35) :: Value.ref (a 36) :: Value.ref (a 37) :: Value.ref (a 38) :: Value.ref (a 39) :: Value.ref (a 40) :: Value.int (q 41) :: Value.ref (a 42) :: Value.int (q 43) :: Value.int (q 44) :: []))), ((a 8), .inl (T 0, 24, .inl f8)), ((a 12), .inl (T 0, 36, .inl (upd g12 (((12 * x1) + st).toNatClampNeg) z_10))), ((a 13), .inl (T 0, 3, .inl g13))] hP hD rfl
                  obtain ⟨z_25, ez_25⟩ : ∃ y : Int32, y = st + 1 := ⟨_, rfl⟩
                  refine lv_iinc (v := z_25) (lv' := [(5, .int z_25), (8, .int 0), (7, .int z_10), (6, .int ii), (4, .int ca), (0, .ref h0), (1, .int x1), (2, .int x2), (3, .int x3)]) hx hb dX13_pour_166 hl (k := 3) rfl (by rw [ez_25]; rfl) (by decide +kernel) rfl (fun ls hl => ?_)
                  have hs9 : z_25.toInt = st.toInt + 1 := by rw [ez_25]; exact inc1 (n := 1000) (by omega) (by decide +kernel)
                  have hpn := pourJ_no (st' := z_25) hpj hX1 hX2 hXn hzF (fun h9 => by first | exact hM h9.1 | (have h8 := h9.2; rw [← ez_12] at h8; omega)) (by omega) hs9
                  rw [← ix12 (b := x1) (z := st) (by omega) (by omega)] at hpn
                  obtain ⟨z_26, ez_26⟩ : ∃ y : Int32, y = ii + 1 := ⟨_, rfl⟩
                  refine lv_iinc (v := z_26) (lv' := [(6, .int z_26), (5, .int z_25), (8, .int 0), (7, .int z_10), (4, .int ca), (0, .ref h0), (1, .int x1), (2, .int x2), (3, .int x3)]) hx hb dX13_pour_169 hl (k := 3) rfl (by rw [ez_26]; rfl) (by decide +kernel) rfl (fun ls hl => ?_)
                  have hi9 : z_26.toInt = ii.toInt + 1 := by rw [ez_26]; exact inc1 (n := 1000) (by omega) (by decide +kernel)
                  refine lv_goto (tgt := 45) hx hb dX13_pour_172 (by decide +kernel) ?_
                  exact ih (z_26, z_25, ca, (upd g12 (((12 * x1) + st).toNatClampNeg) z_10), g13) ls _ _ ⟨lv_sub hl [0, 1, 4, 5, 6, 7, 8] rfl, hP.sub [0, 1, 2, 3] rfl, hD.sub [0, 1, 2, 3] (by decide +kernel) rfl, hS, ⟨(by (try dsimp only); omega), hbg, (by (try dsimp only); rw [tnS (by omega) hi9]; exact hpn)⟩⟩ (by (try dsimp only); omega)
                · rw [fa_eq] at c_24
                  refine lv_iconst (v := 1) hx hb dX13_pour_95 (by decide +kernel) ?_
                  refine lv_goto (tgt := 100) hx hb dX13_pour_96 (by decide +kernel) ?_
                  refine lv_istore (lv' := [(8, .int 1), (7, .int z_10), (6, .int ii), (5, .int st), (4, .int ca), (0, .ref h0), (1, .int x1), (2, .int x2), (3, .int x3)]) hx hb dX13_pour_100 hl (by decide +kernel) rfl (fun ls hl => ?_)
                  have hM : prP x3 (q 7) f8 z_10 = true := decide_eq_true (by first | exact Or.inl (by omega) | exact Or.inr ⟨(by omega), (by rw [← ez_23]; omega)⟩)
                  refine lv_iload hx hb dX13_pour_102 (lv_at hl 0 rfl) ?_
                  refine lv_if_eq (tgt := 152) hx hb dX13_pour_104 (by decide +kernel) (fun c9 => absurd c9 (by decide +kernel)) (fun _ => ?_)
                  refine lv_aload_n hx hb dX13_pour_107 rfl (lv_at hl 5 rfl) ?_
                  refine va_get (D := D) (ci := 10) (v := .ref (a 13)) (C := RX13) (T := TX13) (N := 45) hx hb hts in_X13_pour_X13 hown hE.1 hP 0 rfl rfl 13 (by decide +kernel) (hts (.fieldLink RX13 44 "ClauseBookModel" "bagged" "[I") (List.mem_of_getElem? (i := 3) rfl)) (fun _ h9 => h9) rfl dX13_pour_108 ?_
                  refine lv_iload_n hx hb dX13_pour_111 rfl (lv_at hl 7 rfl) ?_
                  refine va_iald hx hb hE.1 hP 3 0 rfl rfl (by rw [vp_in_iff]; first | omega | (rw [fb_addI (by omega) (by omega)]; omega)) dX13_pour_112 ?_
                  refine lv_topi (fun z_27 ez_27 => ?_)
                  have hbz_27 : 0 ≤ z_27.toInt ∧ z_27.toInt ≤ 12 := by rw [ez_27]; exact hbg _ (tn3 (by omega) (by omega))
                  refine lv_bipush (v := 12) hx hb dX13_pour_113 (by decide +kernel) ?_
                  refine lv_icmp_ge (tgt := 152) hx hb dX13_pour_115 (by decide +kernel) (fun c_28 => ?_) (fun c_28 => ?_)
                  · rw [fa_le] at c_28
                    try rw [ti_12] at c_28
                    refine lv_aload_n hx hb dX13_pour_152 rfl (lv_at hl 5 rfl) ?_
                    refine va_get (D := D) (ci := 10) (v := .ref (a 12)) (C := RX13) (T := TX13) (N := 45) hx hb hts in_X13_pour_X13 hown hE.1 hP 0 rfl rfl 12 (by decide +kernel) (hts (.fieldLink RX13 41 "ClauseBookModel" "bag" "[I") (List.mem_of_getElem? (i := 4) rfl)) (fun _ h9 => h9) rfl dX13_pour_153 ?_
                    refine lv_bipush (v := 12) hx hb dX13_pour_156 (by decide +kernel) ?_
                    refine lv_iload_n hx hb dX13_pour_158 rfl (lv_at hl 6 rfl) ?_
                    refine lv_imul hx hb dX13_pour_159 ?_
                    refine lv_iload hx hb dX13_pour_160 (lv_at hl 3 rfl) ?_
                    refine lv_iadd hx hb dX13_pour_162 ?_
                    refine lv_iload hx hb dX13_pour_163 (lv_at hl 1 rfl) ?_
                    refine va_iast hx hb hE.1 hP hD hS 2 0 rfl rfl (by rw [vp_in_iff]; first | omega | (rw [fb_addI (by omega) (by omega)]; omega)) dX13_pour_165 (fun H locs hP hD hS => ?_)
                    obtain ⟨hP, hD⟩ := wPD [(h0, .inr (10, (Value.int (q 0) :: Value.int (q 1) :: Value.int (q 2) :: Value.int (q 3) :: Value.int (q 4) :: Value.int (q 5) :: Value.int (q 6) :: Value.int (q 7) :: Value.ref (a 8) :: Value.ref (a 9) :: Value.ref (a 10) :: Value.ref (a 11) :: Value.ref (a 12) :: Value.ref (a 13) :: Value.int (q 14) :: Value.long v :: Value.long w :: Value.ref (a 17) :: Value.ref (a 18) :: Value.ref (a 19) :: Value.ref (a 20) :: Value.ref (a 21) :: Value.ref (a 22) :: Value.ref (a 23) :: Value.int (q 24) :: Value.ref (a 25) :: Value.int (q 26) :: Value.ref (a 27) :: Value.int (q 28) :: Value.int (q 29) :: Value.int (q 30) :: Value.int (q 31) :: Value.int (q 32) :: Value.int (q 33) :: Value.ref (a 34) :: Value.ref (a 35) :: Value.ref (a 36) :: Value.ref (a 37) :: Value.ref (a 38) :: Value.ref (a 39) :: Value.ref (a 40) :: Value.int (q 41) :: Value.ref (a 42) :: Value.int (q 43) :: Value.int (q 44) :: []))), ((a 8), .inl (T 0, 24, .inl f8)), ((a 12), .inl (T 0, 36, .inl (upd g12 (((12 * x1) + st).toNatClampNeg) z_10))), ((a 13), .inl (T 0, 3, .inl g13))] hP hD rfl
                    obtain ⟨z_29, ez_29⟩ : ∃ y : Int32, y = st + 1 := ⟨_, rfl⟩
                    refine lv_iinc (v := z_29) (lv' := [(5, .int z_29), (8, .int 1), (7, .int z_10), (6, .int ii), (4, .int ca), (0, .ref h0), (1, .int x1), (2, .int x2), (3, .int x3)]) hx hb dX13_pour_166 hl (k := 3) rfl (by rw [ez_29]; rfl) (by decide +kernel) rfl (fun ls hl => ?_)
                    have hs9 : z_29.toInt = st.toInt + 1 := by rw [ez_29]; exact inc1 (n := 1000) (by omega) (by decide +kernel)
                    have hpn := pourJ_no (st' := z_29) hpj hX1 hX2 hXn hzF (fun h9 => by first | exact hM h9.1 | (have h8 := h9.2; rw [← ez_27] at h8; omega)) (by omega) hs9
                    rw [← ix12 (b := x1) (z := st) (by omega) (by omega)] at hpn
                    obtain ⟨z_30, ez_30⟩ : ∃ y : Int32, y = ii + 1 := ⟨_, rfl⟩
                    refine lv_iinc (v := z_30) (lv' := [(6, .int z_30), (5, .int z_29), (8, .int 1), (7, .int z_10), (4, .int ca), (0, .ref h0), (1, .int x1), (2, .int x2), (3, .int x3)]) hx hb dX13_pour_169 hl (k := 3) rfl (by rw [ez_30]; rfl) (by decide +kernel) rfl (fun ls hl => ?_)
                    have hi9 : z_30.toInt = ii.toInt + 1 := by rw [ez_30]; exact inc1 (n := 1000) (by omega) (by decide +kernel)
                    refine lv_goto (tgt := 45) hx hb dX13_pour_172 (by decide +kernel) ?_
                    exact ih (z_30, z_29, ca, (upd g12 (((12 * x1) + st).toNatClampNeg) z_10), g13) ls _ _ ⟨lv_sub hl [0, 1, 4, 5, 6, 7, 8] rfl, hP.sub [0, 1, 2, 3] rfl, hD.sub [0, 1, 2, 3] (by decide +kernel) rfl, hS, ⟨(by (try dsimp only); omega), hbg, (by (try dsimp only); rw [tnS (by omega) hi9]; exact hpn)⟩⟩ (by (try dsimp only); omega)
                  · rw [fa_le] at c_28
                    try rw [ti_12] at c_28
                    refine lv_aload_n hx hb dX13_pour_118 rfl (lv_at hl 5 rfl) ?_
                    refine va_get (D := D) (ci := 10) (v := .ref (a 12)) (C := RX13) (T := TX13) (N := 45) hx hb hts in_X13_pour_X13 hown hE.1 hP 0 rfl rfl 12 (by decide +kernel) (hts (.fieldLink RX13 41 "ClauseBookModel" "bag" "[I") (List.mem_of_getElem? (i := 4) rfl)) (fun _ h9 => h9) rfl dX13_pour_119 ?_
                    refine lv_bipush (v := 12) hx hb dX13_pour_122 (by decide +kernel) ?_
                    refine lv_iload_n hx hb dX13_pour_124 rfl (lv_at hl 7 rfl) ?_
                    refine lv_imul hx hb dX13_pour_125 ?_
                    refine lv_aload_n hx hb dX13_pour_126 rfl (lv_at hl 5 rfl) ?_
                    refine va_get (D := D) (ci := 10) (v := .ref (a 13)) (C := RX13) (T := TX13) (N := 45) hx hb hts in_X13_pour_X13 hown hE.1 hP 0 rfl rfl 13 (by decide +kernel) (hts (.fieldLink RX13 44 "ClauseBookModel" "bagged" "[I") (List.mem_of_getElem? (i := 3) rfl)) (fun _ h9 => h9) rfl dX13_pour_127 ?_
                    refine lv_iload_n hx hb dX13_pour_130 rfl (lv_at hl 7 rfl) ?_
                    refine va_iald hx hb hE.1 hP 3 0 rfl rfl (by rw [vp_in_iff]; first | omega | (rw [fb_addI (by omega) (by omega)]; omega)) dX13_pour_131 ?_
                    refine lv_topi (fun z_31 ez_31 => ?_)
                    have hbz_31 : 0 ≤ z_31.toInt ∧ z_31.toInt ≤ 12 := by rw [ez_31]; exact hbg _ (tn3 (by omega) (by omega))
                    have hqz_31 : z_31.toInt = z_27.toInt := by rw [ez_31, ez_27]
                    refine lv_iadd hx hb dX13_pour_132 ?_
                    refine lv_iload hx hb dX13_pour_133 (lv_at hl 1 rfl) ?_
                    refine va_iast hx hb hE.1 hP hD hS 2 0 rfl rfl (by rw [vp_in_iff]; first | omega | (rw [fb_addI (by omega) (by omega)]; omega)) dX13_pour_135 (fun H locs hP hD hS => ?_)
                    obtain ⟨hP, hD⟩ := wPD [(h0, .inr (10, (Value.int (q 0) :: Value.int (q 1) :: Value.int (q 2) :: Value.int (q 3) :: Value.int (q 4) :: Value.int (q 5) :: Value.int (q 6) :: Value.int (q 7) :: Value.ref (a 8) :: Value.ref (a 9) :: Value.ref (a 10) :: Value.ref (a 11) :: Value.ref (a 12) :: Value.ref (a 13) :: Value.int (q 14) :: Value.long v :: Value.long w :: Value.ref (a 17) :: Value.ref (a 18) :: Value.ref (a 19) :: Value.ref (a 20) :: Value.ref (a 21) :: Value.ref (a 22) :: Value.ref (a 23) :: Value.int (q 24) :: Value.ref (a 25) :: Value.int (q 26) :: Value.ref (a 27) :: Value.int (q 28) :: Value.int (q 29) :: Value.int (q 30) :: Value.int (q 31) :: Value.int (q 32) :: Value.int (q 33) :: Value.ref (a 34) :: Value.ref (a 35) :: Value.ref (a 36) :: Value.ref (a 37) :: Value.ref (a 38) :: Value.ref (a 39) :: Value.ref (a 40) :: Value.int (q 41) :: Value.ref (a 42) :: Value.int (q 43) :: Value.int (q 44) :: []))), ((a 8), .inl (T 0, 24, .inl f8)), ((a 12), .inl (T 0, 36, .inl (upd g12 (((12 * x2) + z_31).toNatClampNeg) z_10))), ((a 13), .inl (T 0, 3, .inl g13))] hP hD rfl
                    refine lv_aload_n hx hb dX13_pour_136 rfl (lv_at hl 5 rfl) ?_
                    refine va_get (D := D) (ci := 10) (v := .ref (a 13)) (C := RX13) (T := TX13) (N := 45) hx hb hts in_X13_pour_X13 hown hE.1 hP 0 rfl rfl 13 (by decide +kernel) (hts (.fieldLink RX13 44 "ClauseBookModel" "bagged" "[I") (List.mem_of_getElem? (i := 3) rfl)) (fun _ h9 => h9) rfl dX13_pour_137 ?_
                    refine lv_iload_n hx hb dX13_pour_140 rfl (lv_at hl 7 rfl) ?_
                    refine lv_dup2_11 hx hb dX13_pour_141 rfl rfl ?_
                    refine va_iald hx hb hE.1 hP 3 0 rfl rfl (by rw [vp_in_iff]; first | omega | (rw [fb_addI (by omega) (by omega)]; omega)) dX13_pour_142 ?_
                    refine lv_topi (fun z_32 ez_32 => ?_)
                    have hbz_32 : 0 ≤ z_32.toInt ∧ z_32.toInt ≤ 12 := by rw [ez_32]; exact hbg _ (tn3 (by omega) (by omega))
                    have hqz_32 : z_32.toInt = z_27.toInt := by rw [ez_32, ez_27]
                    refine lv_iconst (v := 1) hx hb dX13_pour_143 (by decide +kernel) ?_
                    refine lv_iadd hx hb dX13_pour_144 ?_
                    refine lv_topi (fun z_33 ez_33 => ?_)
                    have hvz_33 : 0 ≤ z_33.toInt ∧ z_33.toInt ≤ 12 := by rw [ez_33, inc1 (n := 1000) (by omega) (by decide +kernel)]; omega
                    refine va_iast hx hb hE.1 hP hD hS 3 0 rfl rfl (by rw [vp_in_iff]; first | omega | (rw [fb_addI (by omega) (by omega)]; omega)) dX13_pour_145 (fun H locs hP hD hS => ?_)
                    obtain ⟨hP, hD⟩ := wPD [(h0, .inr (10, (Value.int (q 0) :: Value.int (q 1) :: Value.int (q 2) :: Value.int (q 3) :: Value.int (q 4) :: Value.int (q 5) :: Value.int (q 6) :: Value.int (q 7) :: Value.ref (a 8) :: Value.ref (a 9) :: Value.ref (a 10) :: Value.ref (a 11) :: Value.ref (a 12) :: Value.ref (a 13) :: Value.int (q 14) :: Value.long v :: Value.long w :: Value.ref (a 17) :: Value.ref (a 18) :: Value.ref (a 19) :: Value.ref (a 20) :: Value.ref (a 21) :: Value.ref (a 22) :: Value.ref (a 23) :: Value.int (q 24) :: Value.ref (a 25) :: Value.int (q 26) :: Value.ref (a 27) :: Value.int (q 28) :: Value.int (q 29) :: Value.int (q 30) :: Value.int (q 31) :: Value.int (q 32) :: Value.int (q 33) :: Value.ref (a 34) :: Value.ref (a 35) :: Value.ref (a 36) :: Value.ref (a 37) :: Value.ref (a 38) :: Value.ref (a 39) :: Value.ref (a 40) :: Value.int (q 41) :: Value.ref (a 42) :: Value.int (q 43) :: Value.int (q 44) :: []))), ((a 8), .inl (T 0, 24, .inl f8)), ((a 12), .inl (T 0, 36, .inl (upd g12 (((12 * x2) + z_31).toNatClampNeg) z_10))), ((a 13), .inl (T 0, 3, .inl (upd g13 (x2.toNatClampNeg) z_33)))] hP hD rfl
                    have hbg := bg_up (x := x2) hbg hvz_33
                    obtain ⟨z_34, ez_34⟩ : ∃ y : Int32, y = ca + 1 := ⟨_, rfl⟩
                    refine lv_iinc (v := z_34) (lv' := [(4, .int z_34), (8, .int 1), (7, .int z_10), (6, .int ii), (5, .int st), (0, .ref h0), (1, .int x1), (2, .int x2), (3, .int x3)]) hx hb dX13_pour_146 hl (k := 4) rfl (by rw [ez_34]; rfl) (by decide +kernel) rfl (fun ls hl => ?_)
                    have hc9 : z_34.toInt = ca.toInt + 1 := by
                      have h8 := hpj.1.2
                      have h7 := tn (x := ii) (by omega)
                      have h6 := hpj.1.1
                      rw [ez_34]
                      exact inc1 (n := 1000) (by omega) (by decide +kernel)
                    have hpn := pourJ_yes (q := z_31) (q' := z_33) (ca' := z_34) hpj hX1 hX2 hXn hzF hM ez_31 (by omega) (by rw [ez_33, inc1 (n := 1000) (by omega) (by decide +kernel)]; omega) hc9
                    rw [← ix12 (b := x2) (z := z_31) (by omega) (by omega)] at hpn
                    refine lv_goto (tgt := 169) hx hb dX13_pour_149 (by decide +kernel) ?_
                    obtain ⟨z_35, ez_35⟩ : ∃ y : Int32, y = ii + 1 := ⟨_, rfl⟩
                    refine lv_iinc (v := z_35) (lv' := [(6, .int z_35), (4, .int z_34), (8, .int 1), (7, .int z_10), (5, .int st), (0, .ref h0), (1, .int x1), (2, .int x2), (3, .int x3)]) hx hb dX13_pour_169 hl (k := 3) rfl (by rw [ez_35]; rfl) (by decide +kernel) rfl (fun ls hl => ?_)
                    have hi9 : z_35.toInt = ii.toInt + 1 := by rw [ez_35]; exact inc1 (n := 1000) (by omega) (by decide +kernel)
                    refine lv_goto (tgt := 45) hx hb dX13_pour_172 (by decide +kernel) ?_
                    exact ih (z_35, st, z_34, (upd g12 (((12 * x2) + z_31).toNatClampNeg) z_10), (upd g13 (x2.toNatClampNeg) z_33)) ls _ _ ⟨lv_sub hl [0, 4, 1, 5, 6, 7, 8] rfl, hP.sub [0, 1, 2, 3] rfl, hD.sub [0, 1, 2, 3] (by decide +kernel) rfl, hS, ⟨(by (try dsimp only); omega), hbg, (by (try dsimp only); rw [tnS (by omega) hi9]; exact hpn)⟩⟩ (by (try dsimp only); omega)
              · refine lv_if_eq (tgt := 99) hx hb dX13_pour_81 (by decide +kernel) (fun _ => ?_) (fun c9 => absurd c9 (by decide +kernel))
                refine lv_iconst (v := 0) hx hb dX13_pour_99 (by decide +kernel) ?_
                refine lv_istore (lv' := [(8, .int 0), (7, .int z_10), (6, .int ii), (5, .int st), (4, .int ca), (0, .ref h0), (1, .int x1), (2, .int x2), (3, .int x3)]) hx hb dX13_pour_100 hl (by decide +kernel) rfl (fun ls hl => ?_)
                have hM : ¬ prP x3 (q 7) f8 z_10 = true := fun h9 => by rcases of_decide_eq_true h9 with h8 | ⟨h8, h7⟩ <;> first | omega | (rw [← ez_23] at h7; omega)
                refine lv_iload hx hb dX13_pour_102 (lv_at hl 0 rfl) ?_
                refine lv_if_eq (tgt := 152) hx hb dX13_pour_104 (by decide +kernel) (fun _ => ?_) (fun c9 => absurd c9 (by decide +kernel))
                refine lv_aload_n hx hb dX13_pour_152 rfl (lv_at hl 5 rfl) ?_
                refine va_get (D := D) (ci := 10) (v := .ref (a 12)) (C := RX13) (T := TX13) (N := 45) hx hb hts in_X13_pour_X13 hown hE.1 hP 0 rfl rfl 12 (by decide +kernel) (hts (.fieldLink RX13 41 "ClauseBookModel" "bag" "[I") (List.mem_of_getElem? (i := 4) rfl)) (fun _ h9 => h9) rfl dX13_pour_153 ?_
                refine lv_bipush (v := 12) hx hb dX13_pour_156 (by decide +kernel) ?_
                refine lv_iload_n hx hb dX13_pour_158 rfl (lv_at hl 6 rfl) ?_
                refine lv_imul hx hb dX13_pour_159 ?_
                refine lv_iload hx hb dX13_pour_160 (lv_at hl 3 rfl) ?_
                refine lv_iadd hx hb dX13_pour_162 ?_
                refine lv_iload hx hb dX13_pour_163 (lv_at hl 1 rfl) ?_
                refine va_iast hx hb hE.1 hP hD hS 2 0 rfl rfl (by rw [vp_in_iff]; first | omega | (rw [fb_addI (by omega) (by omega)]; omega)) dX13_pour_165 (fun H locs hP hD hS => ?_)
                obtain ⟨hP, hD⟩ := wPD [(h0, .inr (10, (Value.int (q 0) :: Value.int (q 1) :: Value.int (q 2) :: Value.int (q 3) :: Value.int (q 4) :: Value.int (q 5) :: Value.int (q 6) :: Value.int (q 7) :: Value.ref (a 8) :: Value.ref (a 9) :: Value.ref (a 10) :: Value.ref (a 11) :: Value.ref (a 12) :: Value.ref (a 13) :: Value.int (q 14) :: Value.long v :: Value.long w :: Value.ref (a 17) :: Value.ref (a 18) :: Value.ref (a 19) :: Value.ref (a 20) :: Value.ref (a 21) :: Value.ref (a 22) :: Value.ref (a 23) :: Value.int (q 24) :: Value.ref (a 25) :: Value.int (q 26) :: Value.ref (a 27) :: Value.int (q 28) :: Value.int (q 29) :: Value.int (q 30) :: Value.int (q 31) :: Value.int (q 32) :: Value.int (q 33) :: Value.ref (a 34) :: Value.ref (a 35) :: Value.ref (a 36) :: Value.ref (a 37) :: Value.ref (a 38) :: Value.ref (a 39) :: Value.ref (a 40) :: Value.int (q 41) :: Value.ref (a 42) :: Value.int (q 43) :: Value.int (q 44) :: []))), ((a 8), .inl (T 0, 24, .inl f8)), ((a 12), .inl (T 0, 36, .inl (upd g12 (((12 * x1) + st).toNatClampNeg) z_10))), ((a 13), .inl (T 0, 3, .inl g13))] hP hD rfl
                obtain ⟨z_36, ez_36⟩ : ∃ y : Int32, y = st + 1 := ⟨_, rfl⟩
                refine lv_iinc (v := z_36) (lv' := [(5, .int z_36), (8, .int 0), (7, .int z_10), (6, .int ii), (4, .int ca), (0, .ref h0), (1, .int x1), (2, .int x2), (3, .int x3)]) hx hb dX13_pour_166 hl (k := 3) rfl (by rw [ez_36]; rfl) (by decide +kernel) rfl (fun ls hl => ?_)
                have hs9 : z_36.toInt = st.toInt + 1 := by rw [ez_36]; exact inc1 (n := 1000) (by omega) (by decide +kernel)
                have hpn := pourJ_no (st' := z_36) hpj hX1 hX2 hXn hzF (fun h9 => by first | exact hM h9.1 | (have h8 := h9.2; rw [← ez_27] at h8; omega)) (by omega) hs9
                rw [← ix12 (b := x1) (z := st) (by omega) (by omega)] at hpn
                obtain ⟨z_37, ez_37⟩ : ∃ y : Int32, y = ii + 1 := ⟨_, rfl⟩
                refine lv_iinc (v := z_37) (lv' := [(6, .int z_37), (5, .int z_36), (8, .int 0), (7, .int z_10), (4, .int ca), (0, .ref h0), (1, .int x1), (2, .int x2), (3, .int x3)]) hx hb dX13_pour_169 hl (k := 3) rfl (by rw [ez_37]; rfl) (by decide +kernel) rfl (fun ls hl => ?_)
                have hi9 : z_37.toInt = ii.toInt + 1 := by rw [ez_37]; exact inc1 (n := 1000) (by omega) (by decide +kernel)
                refine lv_goto (tgt := 45) hx hb dX13_pour_172 (by decide +kernel) ?_
                exact ih (z_37, z_36, ca, (upd g12 (((12 * x1) + st).toNatClampNeg) z_10), g13) ls _ _ ⟨lv_sub hl [0, 1, 4, 5, 6, 7, 8] rfl, hP.sub [0, 1, 2, 3] rfl, hD.sub [0, 1, 2, 3] (by decide +kernel) rfl, hS, ⟨(by (try dsimp only); omega), hbg, (by (try dsimp only); rw [tnS (by omega) hi9]; exact hpn)⟩⟩ (by (try dsimp only); omega)
        · refine lv_if_ne (tgt := 36) hx hb dX13_pour_30 (by decide +kernel) (fun c9 => absurd c9 (by decide +kernel)) (fun _ => ?_)
          refine lv_bipush (v := (-2)) hx hb dX13_pour_33 (by decide +kernel) ?_
          exact W.iret hx hb hr (fun t ht hW => ⟨⟨_, (f12, f13), rfl, ⟨(show ∀ k : Nat, k < 3 → 0 ≤ (f13 k).toInt ∧ (f13 k).toInt ≤ 12 from hbg), (show pourR (q 7) x1 x2 x3 ((-2) : Int32) f8 f13 f13 f12 f12 from (Or.inl ⟨(fun h9 => by obtain ⟨⟨h1, h2⟩, h3, h4⟩ := h9; omega), (by decide +kernel), rfl, rfl⟩))⟩, by rw [ht]; exact hP.sub [0, 1, 2, 3] rfl, hD.sub [0, 1, 2, 3] (by decide +kernel) rfl⟩, hS.F ht⟩) hS.2.2 dX13_pour_35
    · refine lv_if_eq (tgt := 33) hx hb dX13_pour_11 (by decide +kernel) (fun _ => ?_) (fun c9 => absurd c9 (by decide +kernel))
      refine lv_bipush (v := (-2)) hx hb dX13_pour_33 (by decide +kernel) ?_
      exact W.iret hx hb hr (fun t ht hW => ⟨⟨_, (f12, f13), rfl, ⟨(show ∀ k : Nat, k < 3 → 0 ≤ (f13 k).toInt ∧ (f13 k).toInt ≤ 12 from hbg), (show pourR (q 7) x1 x2 x3 ((-2) : Int32) f8 f13 f13 f12 f12 from (Or.inl ⟨(fun h9 => by obtain ⟨⟨h1, h2⟩, h3, h4⟩ := h9; omega), (by decide +kernel), rfl, rfl⟩))⟩, by rw [ht]; exact hP.sub [0, 1, 2, 3] rfl, hD.sub [0, 1, 2, 3] (by decide +kernel) rfl⟩, hS.F ht⟩) hS.2.2 dX13_pour_35
  · refine lv_if_eq (tgt := 33) hx hb dX13_pour_4 (by decide +kernel) (fun _ => ?_) (fun c9 => absurd c9 (by decide +kernel))
    refine lv_bipush (v := (-2)) hx hb dX13_pour_33 (by decide +kernel) ?_
    exact W.iret hx hb hr (fun t ht hW => ⟨⟨_, (f12, f13), rfl, ⟨(show ∀ k : Nat, k < 3 → 0 ≤ (f13 k).toInt ∧ (f13 k).toInt ≤ 12 from hbg), (show pourR (q 7) x1 x2 x3 ((-2) : Int32) f8 f13 f13 f12 f12 from (Or.inl ⟨(fun h9 => by obtain ⟨⟨h1, h2⟩, h3, h4⟩ := h9; omega), (by decide +kernel), rfl, rfl⟩))⟩, by rw [ht]; exact hP.sub [0, 1, 2, 3] rfl, hD.sub [0, 1, 2, 3] (by decide +kernel) rfl⟩, hS.F ht⟩) hS.2.2 dX13_pour_35
end
section
theorem ix_nat {x y z : Int32} {n m : Int} (hx : 0 ≤ x.toInt ∧ x.toInt ≤ 100) (hy : 0 ≤ y.toInt ∧ y.toInt ≤ 100) : (x + y).toNatClampNeg = x.toNatClampNeg + y.toNatClampNeg := by
  have h1 := tn hx.1
  have h2 := tn hy.1
  have e := fb_addI (x := x) (y := y) (by omega) (by omega)
  have h3 := tn (x := x + y) (by omega)
  omega
theorem isB.and1 {x : Int32} (h : isB x) : x &&& 1 = x := by
  rcases h with rfl | rfl <;> decide
theorem and_0 {x : Int32} (h : isB x) : x &&& 0 = 0 := by
  rcases h with rfl | rfl <;> decide
theorem dX13_bagBest_0 : decode cX13_bagBest 0 = .ok (.iload_n 1, 1) := by decide +kernel
theorem dX13_bagBest_1 : decode cX13_bagBest 1 = .ok (.invokestatic 405, 3) := by decide +kernel
theorem dX13_bagBest_100 : decode cX13_bagBest 100 = .ok (.imul, 1) := by decide +kernel
theorem dX13_bagBest_101 : decode cX13_bagBest 101 = .ok (.iload 4, 2) := by decide +kernel
theorem dX13_bagBest_103 : decode cX13_bagBest 103 = .ok (.iadd, 1) := by decide +kernel
theorem dX13_bagBest_104 : decode cX13_bagBest 104 = .ok (.iaload, 1) := by decide +kernel
theorem dX13_bagBest_105 : decode cX13_bagBest 105 = .ok (.iload_n 2, 1) := by decide +kernel
theorem dX13_bagBest_106 : decode cX13_bagBest 106 = .ok (.iload_n 3, 1) := by decide +kernel
theorem dX13_bagBest_107 : decode cX13_bagBest 107 = .ok (.invokevirtual 303, 3) := by decide +kernel
theorem dX13_bagBest_110 : decode cX13_bagBest 110 = .ok (.ifCond .le 8, 3) := by decide +kernel
theorem dX13_bagBest_113 : decode cX13_bagBest 113 = .ok (.iload 6, 2) := by decide +kernel
theorem dX13_bagBest_115 : decode cX13_bagBest 115 = .ok (.goto 5, 3) := by decide +kernel
theorem dX13_bagBest_118 : decode cX13_bagBest 118 = .ok (.iload 4, 2) := by decide +kernel
theorem dX13_bagBest_12 : decode cX13_bagBest 12 = .ok (.ifCond .ne 6, 3) := by decide +kernel
theorem dX13_bagBest_120 : decode cX13_bagBest 120 = .ok (.istore 4, 2) := by decide +kernel
theorem dX13_bagBest_122 : decode cX13_bagBest 122 = .ok (.iinc 6 1, 3) := by decide +kernel
theorem dX13_bagBest_125 : decode cX13_bagBest 125 = .ok (.goto (-88), 3) := by decide +kernel
theorem dX13_bagBest_128 : decode cX13_bagBest 128 = .ok (.iload 5, 2) := by decide +kernel
theorem dX13_bagBest_130 : decode cX13_bagBest 130 = .ok (.ifCond .eq 8, 3) := by decide +kernel
theorem dX13_bagBest_133 : decode cX13_bagBest 133 = .ok (.bipush (-5), 2) := by decide +kernel
theorem dX13_bagBest_135 : decode cX13_bagBest 135 = .ok (.goto 5, 3) := by decide +kernel
theorem dX13_bagBest_138 : decode cX13_bagBest 138 = .ok (.iload 4, 2) := by decide +kernel
theorem dX13_bagBest_140 : decode cX13_bagBest 140 = .ok (.ireturn, 1) := by decide +kernel
theorem dX13_bagBest_15 : decode cX13_bagBest 15 = .ok (.bipush (-2), 2) := by decide +kernel
theorem dX13_bagBest_17 : decode cX13_bagBest 17 = .ok (.ireturn, 1) := by decide +kernel
theorem dX13_bagBest_18 : decode cX13_bagBest 18 = .ok (.aload_n 0, 1) := by decide +kernel
theorem dX13_bagBest_19 : decode cX13_bagBest 19 = .ok (.aload_n 0, 1) := by decide +kernel
theorem dX13_bagBest_20 : decode cX13_bagBest 20 = .ok (.getfield 205, 3) := by decide +kernel
theorem dX13_bagBest_23 : decode cX13_bagBest 23 = .ok (.iconst 1, 1) := by decide +kernel
theorem dX13_bagBest_24 : decode cX13_bagBest 24 = .ok (.isub, 1) := by decide +kernel
theorem dX13_bagBest_25 : decode cX13_bagBest 25 = .ok (.invokevirtual 274, 3) := by decide +kernel
theorem dX13_bagBest_28 : decode cX13_bagBest 28 = .ok (.iconst (-1), 1) := by decide +kernel
theorem dX13_bagBest_29 : decode cX13_bagBest 29 = .ok (.istore 4, 2) := by decide +kernel
theorem dX13_bagBest_31 : decode cX13_bagBest 31 = .ok (.iconst 0, 1) := by decide +kernel
theorem dX13_bagBest_32 : decode cX13_bagBest 32 = .ok (.istore 5, 2) := by decide +kernel
theorem dX13_bagBest_34 : decode cX13_bagBest 34 = .ok (.iconst 0, 1) := by decide +kernel
theorem dX13_bagBest_35 : decode cX13_bagBest 35 = .ok (.istore 6, 2) := by decide +kernel
theorem dX13_bagBest_37 : decode cX13_bagBest 37 = .ok (.iload 6, 2) := by decide +kernel
theorem dX13_bagBest_39 : decode cX13_bagBest 39 = .ok (.aload_n 0, 1) := by decide +kernel
theorem dX13_bagBest_4 : decode cX13_bagBest 4 = .ok (.ifCond .eq 11, 3) := by decide +kernel
theorem dX13_bagBest_40 : decode cX13_bagBest 40 = .ok (.getfield 44, 3) := by decide +kernel
theorem dX13_bagBest_43 : decode cX13_bagBest 43 = .ok (.iload_n 1, 1) := by decide +kernel
theorem dX13_bagBest_44 : decode cX13_bagBest 44 = .ok (.iaload, 1) := by decide +kernel
theorem dX13_bagBest_45 : decode cX13_bagBest 45 = .ok (.if_icmp .ge 83, 3) := by decide +kernel
theorem dX13_bagBest_48 : decode cX13_bagBest 48 = .ok (.aload_n 0, 1) := by decide +kernel
theorem dX13_bagBest_49 : decode cX13_bagBest 49 = .ok (.getfield 41, 3) := by decide +kernel
theorem dX13_bagBest_52 : decode cX13_bagBest 52 = .ok (.bipush 12, 2) := by decide +kernel
theorem dX13_bagBest_54 : decode cX13_bagBest 54 = .ok (.iload_n 1, 1) := by decide +kernel
theorem dX13_bagBest_55 : decode cX13_bagBest 55 = .ok (.imul, 1) := by decide +kernel
theorem dX13_bagBest_56 : decode cX13_bagBest 56 = .ok (.iload 6, 2) := by decide +kernel
theorem dX13_bagBest_58 : decode cX13_bagBest 58 = .ok (.iadd, 1) := by decide +kernel
theorem dX13_bagBest_59 : decode cX13_bagBest 59 = .ok (.iaload, 1) := by decide +kernel
theorem dX13_bagBest_60 : decode cX13_bagBest 60 = .ok (.istore 7, 2) := by decide +kernel
theorem dX13_bagBest_62 : decode cX13_bagBest 62 = .ok (.aload_n 0, 1) := by decide +kernel
theorem dX13_bagBest_63 : decode cX13_bagBest 63 = .ok (.iload 7, 2) := by decide +kernel
theorem dX13_bagBest_65 : decode cX13_bagBest 65 = .ok (.invokevirtual 233, 3) := by decide +kernel
theorem dX13_bagBest_68 : decode cX13_bagBest 68 = .ok (.ifCond .eq 54, 3) := by decide +kernel
theorem dX13_bagBest_7 : decode cX13_bagBest 7 = .ok (.iload_n 2, 1) := by decide +kernel
theorem dX13_bagBest_71 : decode cX13_bagBest 71 = .ok (.iload 5, 2) := by decide +kernel
theorem dX13_bagBest_73 : decode cX13_bagBest 73 = .ok (.aload_n 0, 1) := by decide +kernel
theorem dX13_bagBest_74 : decode cX13_bagBest 74 = .ok (.iload 7, 2) := by decide +kernel
theorem dX13_bagBest_76 : decode cX13_bagBest 76 = .ok (.iload_n 2, 1) := by decide +kernel
theorem dX13_bagBest_77 : decode cX13_bagBest 77 = .ok (.iload_n 3, 1) := by decide +kernel
theorem dX13_bagBest_78 : decode cX13_bagBest 78 = .ok (.invokevirtual 299, 3) := by decide +kernel
theorem dX13_bagBest_8 : decode cX13_bagBest 8 = .ok (.iload_n 3, 1) := by decide +kernel
theorem dX13_bagBest_81 : decode cX13_bagBest 81 = .ok (.ior, 1) := by decide +kernel
theorem dX13_bagBest_82 : decode cX13_bagBest 82 = .ok (.istore 5, 2) := by decide +kernel
theorem dX13_bagBest_84 : decode cX13_bagBest 84 = .ok (.iload 4, 2) := by decide +kernel
theorem dX13_bagBest_86 : decode cX13_bagBest 86 = .ok (.iconst (-1), 1) := by decide +kernel
theorem dX13_bagBest_87 : decode cX13_bagBest 87 = .ok (.if_icmp .eq 26, 3) := by decide +kernel
theorem dX13_bagBest_9 : decode cX13_bagBest 9 = .ok (.invokestatic 188, 3) := by decide +kernel
theorem dX13_bagBest_90 : decode cX13_bagBest 90 = .ok (.aload_n 0, 1) := by decide +kernel
theorem dX13_bagBest_91 : decode cX13_bagBest 91 = .ok (.iload 7, 2) := by decide +kernel
theorem dX13_bagBest_93 : decode cX13_bagBest 93 = .ok (.aload_n 0, 1) := by decide +kernel
theorem dX13_bagBest_94 : decode cX13_bagBest 94 = .ok (.getfield 41, 3) := by decide +kernel
theorem dX13_bagBest_97 : decode cX13_bagBest 97 = .ok (.bipush 12, 2) := by decide +kernel
theorem dX13_bagBest_99 : decode cX13_bagBest 99 = .ok (.iload_n 1, 1) := by decide +kernel
set_option maxRecDepth 20000 in
theorem ggX13_bagBest_X13_comparedAt : GoodIn wsX13_bagBest wsX13_comparedAt := goodIn_r _ [128, 23, 25, 63, 64, 6, 65, 98, 99, 100, 101, 102, 103, 104, 129, 130, 131, 132, 133, 134, 135, 136, 137, 138, 139, 140, 141, 142, 143, 144, 145, 146, 147, 148, 149, 150, 151, 152, 153, 154, 155, 156, 157, 158, 159, 160, 161, 162, 163, 164, 165, 166, 167, 168, 169, 170, 171, 172, 173] rfl (by decide +kernel)
set_option maxRecDepth 20000 in
theorem ggX13_bagBest_X13_isBag : GoodIn wsX13_bagBest wsX13_isBag := goodIn_r _ [7, 8, 9, 10, 6, 11] rfl (by decide +kernel)
set_option maxRecDepth 20000 in
theorem ggX13_bagBest_X13_isClause : GoodIn wsX13_bagBest wsX13_isClause := goodIn_r _ [120, 1, 9, 10, 6, 11, 129, 130, 131, 132, 133, 134, 135, 136, 137, 138, 139, 140, 141, 142, 143, 144, 145, 146, 147, 148, 149, 150, 151, 152, 153, 154, 155, 156, 157, 158, 159, 160, 161, 162, 163, 164, 165, 166, 167, 168, 169, 170, 171, 172, 173] rfl (by decide +kernel)
set_option maxRecDepth 20000 in
theorem ggX13_bagBest_X13_isMuchAt : GoodIn wsX13_bagBest wsX13_isMuchAt := goodIn_r _ [124, 22, 63, 64, 6, 65, 129, 130, 131, 132, 133, 134, 135, 136, 137, 138, 139, 140, 141, 142, 143, 144, 145, 146, 147, 148, 149, 150, 151, 152, 153, 154, 155, 156, 157, 158, 159, 160, 161, 162, 163, 164, 165, 166, 167, 168, 169, 170, 171, 172, 173] rfl (by decide +kernel)
set_option maxRecDepth 20000 in
theorem ggX13_bagBest_X13_isSpot : GoodIn wsX13_bagBest wsX13_isSpot := goodIn_r _ [14, 15, 9, 10, 6, 11] rfl (by decide +kernel)
set_option maxRecDepth 40000 in
theorem ggX13_bagBest_X13_laysWorths_0 : GoodIn wsX13_bagBest [.code yX13_laysWorths cX13_laysWorths 6 none] := goodIn_r _ [19] rfl (by decide +kernel)
set_option maxRecDepth 40000 in
theorem ggX13_bagBest_X13_laysWorths_1 : GoodIn wsX13_bagBest wsX13_laysWorths_r1 := goodIn_r _ [20, 21, 22, 23, 24, 25, 26, 27, 28, 29, 6, 30, 1, 31, 32, 33, 34, 35, 36, 37, 38, 39, 40, 41] rfl (by decide +kernel)
set_option maxRecDepth 40000 in
theorem ggX13_bagBest_X13_laysWorths_2 : GoodIn wsX13_bagBest wsX13_laysWorths_r2 := goodIn_r _ [42, 43, 44, 45, 46, 47, 48, 49, 50, 51, 52, 53, 54, 55, 56, 57, 58, 59, 60, 61, 62, 63, 64, 65] rfl (by decide +kernel)
set_option maxRecDepth 40000 in
theorem ggX13_bagBest_X13_laysWorths_3 : GoodIn wsX13_bagBest wsX13_laysWorths_r3 := goodIn_r _ [66, 67, 68, 69, 70, 71, 72, 73, 74, 75, 76, 77, 78, 79, 80, 81, 82, 83, 84, 85, 86, 87, 88, 89] rfl (by decide +kernel)
set_option maxRecDepth 40000 in
theorem ggX13_bagBest_X13_laysWorths_4 : GoodIn wsX13_bagBest wsX13_laysWorths_r4 := goodIn_r _ [90, 91, 92, 93, 94, 95, 96, 97, 98, 99, 100, 101, 102, 103, 104, 105, 106, 107, 108, 109, 110, 111, 112, 113] rfl (by decide +kernel)
set_option maxRecDepth 40000 in
theorem ggX13_bagBest_X13_laysWorths_5 : GoodIn wsX13_bagBest wsX13_laysWorths_r5 := goodIn_r _ [114, 115, 116] rfl (by decide +kernel)
set_option maxRecDepth 40000 in
theorem ggX13_bagBest_X13_laysWorths_6 : GoodIn wsX13_bagBest wsX130 := goodIn_r _ [129, 130, 131, 132, 133, 134, 135, 136, 137, 138, 139, 140, 141, 142, 143, 144, 145, 146, 147, 148, 149, 150, 151, 152, 153, 154, 155, 156, 157, 158, 159, 160, 161, 162, 163, 164, 165, 166, 167, 168, 169, 170, 171, 172, 173] rfl (by decide +kernel)
set_option maxRecDepth 40000 in
theorem ggX13_bagBest_X13_laysWorths : GoodIn wsX13_bagBest wsX13_laysWorths := (goodIn_app ggX13_bagBest_X13_laysWorths_0 (goodIn_app (goodIn_app ggX13_bagBest_X13_laysWorths_1 (goodIn_app ggX13_bagBest_X13_laysWorths_2 (goodIn_app ggX13_bagBest_X13_laysWorths_3 (goodIn_app ggX13_bagBest_X13_laysWorths_4 ggX13_bagBest_X13_laysWorths_5)))) ggX13_bagBest_X13_laysWorths_6))
set_option maxRecDepth 20000 in
theorem gX13_bagBest_X13_comparedAt : GoodIn wsX13_bagBest (wsV RX13 303 RX13 yX13_comparedAt wsX13_comparedAt) := goodIn_app (goodIn_r _ [125, 126, 127, 6] rfl (by decide +kernel)) ggX13_bagBest_X13_comparedAt
set_option maxRecDepth 20000 in
theorem gX13_bagBest_X13_isBag : GoodIn wsX13_bagBest (va_wsS RX13 405 yX13_isBag wsX13_isBag) := goodIn_app (goodIn_of _ (by decide +kernel)) ggX13_bagBest_X13_isBag
set_option maxRecDepth 20000 in
theorem gX13_bagBest_X13_isClause : GoodIn wsX13_bagBest (wsV RX13 233 RX13 yX13_isClause wsX13_isClause) := goodIn_app (goodIn_r _ [117, 118, 119, 6] rfl (by decide +kernel)) ggX13_bagBest_X13_isClause
set_option maxRecDepth 20000 in
theorem gX13_bagBest_X13_isMuchAt : GoodIn wsX13_bagBest (wsV RX13 299 RX13 yX13_isMuchAt wsX13_isMuchAt) := goodIn_app (goodIn_r _ [121, 122, 123, 6] rfl (by decide +kernel)) ggX13_bagBest_X13_isMuchAt
set_option maxRecDepth 20000 in
theorem gX13_bagBest_X13_isSpot : GoodIn wsX13_bagBest (va_wsS RX13 188 yX13_isSpot wsX13_isSpot) := goodIn_app (goodIn_of _ (by decide +kernel)) ggX13_bagBest_X13_isSpot
set_option maxRecDepth 20000 in
theorem gX13_bagBest_X13_laysWorths : GoodIn wsX13_bagBest (wsV RX13 274 RX13 yX13_laysWorths wsX13_laysWorths) := goodIn_app (goodIn_r _ [16, 17, 18, 6] rfl (by decide +kernel)) ggX13_bagBest_X13_laysWorths
set_option maxRecDepth 20000 in
theorem in_X13_bagBest_X13 : ∀ w ∈ wsX130, w ∈ wsX13_bagBest := sub_r [129, 130, 131, 132, 133, 134, 135, 136, 137, 138, 139, 140, 141, 142, 143, 144, 145, 146, 147, 148, 149, 150, 151, 152, 153, 154, 155, 156, 157, 158, 159, 160, 161, 162, 163, 164, 165, 166, 167, 168, 169, 170, 171, 172, 173] rfl
set_option maxHeartbeats 4000000 in
set_option maxRecDepth 100000 in
theorem c_X13_bagBest (l : Launch) (D : va_G) (T : Nat → ClassId) (sz : Nat) (h0 : Nat) (q : Nat → Int32) (v : Int64) (w : Int64) (a : Nat → Nat) (f8 : Nat → Int32) (f9 : Nat → Int32) (f10 : Nat → Int32) (f11 : Nat → Int32) (f17 : Nat → Int32) (f18 : Nat → Int32) (f19 : Nat → Int32) (f20 : Nat → Int64) (f21 : Nat → Int64) (f22 : Nat → Int32) (f12 : Nat → Int32) (f13 : Nat → Int32) (x1 : Int32) (x2 : Int32) (x3 : Int32) (hB : isB (q 14)) (hm : 0 ≤ (q 7).toInt ∧ (q 7).toInt ≤ 24) (hokR : okR f8 f10 f11) (hZ : ∀ j : Nat, isB (f22 j)) (hL : (1 ≤ (q 4).toInt ∧ (q 4).toInt ≤ 9) ∧ 1 ≤ (q 6).toInt ∧ (q 6).toInt ≤ 9) (hbg : ∀ k : Nat, k < 3 → 0 ≤ (f13 k).toInt ∧ (f13 k).toInt ≤ 12) : Met l yX13_bagBest wsX13_bagBest ({ frames := 134, cells := 0, slots := 0, locals := 5283 }) (pW [.ref h0, .int x1, .int x2, .int x3] D T [(h0, .inr (10, (Value.int (q 0) :: Value.int (q 1) :: Value.int (q 2) :: Value.int (q 3) :: Value.int (q 4) :: Value.int (q 5) :: Value.int (q 6) :: Value.int (q 7) :: Value.ref (a 8) :: Value.ref (a 9) :: Value.ref (a 10) :: Value.ref (a 11) :: Value.ref (a 12) :: Value.ref (a 13) :: Value.int (q 14) :: Value.long v :: Value.long w :: Value.ref (a 17) :: Value.ref (a 18) :: Value.ref (a 19) :: Value.ref (a 20) :: Value.ref (a 21) :: Value.ref (a 22) :: Value.ref (a 23) :: Value.int (q 24) :: Value.ref (a 25) :: Value.int (q 26) :: Value.ref (a 27) :: Value.int (q 28) :: Value.int (q 29) :: Value.int (q 30) :: Value.int (q 31) :: Value.int (q 32) :: Value.int (q 33) :: Value.ref (a 34) :: Value.ref (a 35) :: Value.ref (a 36) :: Value.ref (a 37) :: Value.ref (a 38) :: Value.ref (a 39) :: Value.ref (a 40) :: Value.int (q 41) :: Value.ref (a 42) :: Value.int (q 43) :: Value.int (q 44) :: []))), ((a 8), .inl (T 0, 24, .inl f8)), ((a 9), .inl (T 0, 24, .inl f9)), ((a 10), .inl (T 0, 24, .inl f10)), ((a 11), .inl (T 0, 24, .inl f11)), ((a 17), .inl (T 0, 24, .inl f17)), ((a 18), .inl (T 0, 24, .inl f18)), ((a 19), .inl (T 0, 24, .inl f19)), ((a 20), .inl (T 1, 672, .inr (.inl f20))), ((a 21), .inl (T 1, 672, .inr (.inl f21))), ((a 22), .inl (T 4, 672, .inl f22)), ((a 12), .inl (T 0, 36, .inl f12)), ((a 13), .inl (T 0, 3, .inl f13))] sz) (va_Qi (fun (r : Int32) (u : (Int32) × (Int64) × (Int64) × (Nat → Int32) × (Nat → Int32) × (Nat → Int32) × (Nat → Int64) × (Nat → Int64) × (Nat → Int32)) => (isB u.1) ∧ (∀ j : Nat, isB (u.2.2.2.2.2.2.2.2 j)) ∧ ((0 ≤ x1.toInt ∧ x1.toInt ≤ 2) ∧ spK x2 x3 → ∀ j : Nat, (j : Int) < (q 7).toInt → mesP f8 f9 f10 f11 u.2.2.2.1 u.2.2.2.2.1 u.2.2.2.2.2.1 j) ∧ (bbQ (VALW (lqW (q 0) (q 1) (q 2) (q 3) (q 4) (q 5) (q 6)) f8 f9 f10 f11 u.2.2.2.1) (q 7) (f13 (x1.toNatClampNeg)) (gbB f12 x1) (0 ≤ x1.toInt ∧ x1.toInt ≤ 2) x2 x3 r)) (bW D (va_A [(h0, .inr (10, (Value.int (q 0) :: Value.int (q 1) :: Value.int (q 2) :: Value.int (q 3) :: Value.int (q 4) :: Value.int (q 5) :: Value.int (q 6) :: Value.int (q 7) :: Value.ref (a 8) :: Value.ref (a 9) :: Value.ref (a 10) :: Value.ref (a 11) :: Value.ref (a 12) :: Value.ref (a 13) :: Value.int (q 14) :: Value.long v :: Value.long w :: Value.ref (a 17) :: Value.ref (a 18) :: Value.ref (a 19) :: Value.ref (a 20) :: Value.ref (a 21) :: Value.ref (a 22) :: Value.ref (a 23) :: Value.int (q 24) :: Value.ref (a 25) :: Value.int (q 26) :: Value.ref (a 27) :: Value.int (q 28) :: Value.int (q 29) :: Value.int (q 30) :: Value.int (q 31) :: Value.int (q 32) :: Value.int (q 33) :: Value.ref (a 34) :: Value.ref (a 35) :: Value.ref (a 36) :: Value.ref (a 37) :: Value.ref (a 38) :: Value.ref (a 39) :: Value.ref (a 40) :: Value.int (q 41) :: Value.ref (a 42) :: Value.int (q 43) :: Value.int (q 44) :: []))), ((a 8), .inl (T 0, 24, .inl f8)), ((a 9), .inl (T 0, 24, .inl f9)), ((a 10), .inl (T 0, 24, .inl f10)), ((a 11), .inl (T 0, 24, .inl f11)), ((a 17), .inl (T 0, 24, .inl f17)), ((a 18), .inl (T 0, 24, .inl f18)), ((a 19), .inl (T 0, 24, .inl f19)), ((a 20), .inl (T 1, 672, .inr (.inl f20))), ((a 21), .inl (T 1, 672, .inr (.inl f21))), ((a 22), .inl (T 4, 672, .inl f22)), ((a 12), .inl (T 0, 36, .inl f12)), ((a 13), .inl (T 0, 3, .inl f13))] sz) (fun (u : (Int32) × (Int64) × (Int64) × (Nat → Int32) × (Nat → Int32) × (Nat → Int32) × (Nat → Int64) × (Nat → Int64) × (Nat → Int32)) => [(h0, .inr (10, (Value.int (q 0) :: Value.int (q 1) :: Value.int (q 2) :: Value.int (q 3) :: Value.int (q 4) :: Value.int (q 5) :: Value.int (q 6) :: Value.int (q 7) :: Value.ref (a 8) :: Value.ref (a 9) :: Value.ref (a 10) :: Value.ref (a 11) :: Value.ref (a 12) :: Value.ref (a 13) :: Value.int u.1 :: Value.long u.2.1 :: Value.long u.2.2.1 :: Value.ref (a 17) :: Value.ref (a 18) :: Value.ref (a 19) :: Value.ref (a 20) :: Value.ref (a 21) :: Value.ref (a 22) :: Value.ref (a 23) :: Value.int (q 24) :: Value.ref (a 25) :: Value.int (q 26) :: Value.ref (a 27) :: Value.int (q 28) :: Value.int (q 29) :: Value.int (q 30) :: Value.int (q 31) :: Value.int (q 32) :: Value.int (q 33) :: Value.ref (a 34) :: Value.ref (a 35) :: Value.ref (a 36) :: Value.ref (a 37) :: Value.ref (a 38) :: Value.ref (a 39) :: Value.ref (a 40) :: Value.int (q 41) :: Value.ref (a 42) :: Value.int (q 43) :: Value.int (q 44) :: []))), ((a 8), .inl (T 0, 24, .inl f8)), ((a 9), .inl (T 0, 24, .inl f9)), ((a 10), .inl (T 0, 24, .inl f10)), ((a 11), .inl (T 0, 24, .inl f11)), ((a 17), .inl (T 0, 24, .inl u.2.2.2.1)), ((a 18), .inl (T 0, 24, .inl u.2.2.2.2.1)), ((a 19), .inl (T 0, 24, .inl u.2.2.2.2.2.1)), ((a 20), .inl (T 1, 672, .inr (.inl u.2.2.2.2.2.2.1))), ((a 21), .inl (T 1, 672, .inr (.inl u.2.2.2.2.2.2.2.1))), ((a 22), .inl (T 4, 672, .inl u.2.2.2.2.2.2.2.2)), ((a 12), .inl (T 0, 36, .inl f12)), ((a 13), .inl (T 0, 3, .inl f13))])) (va_A [(h0, .inr (10, (Value.int (q 0) :: Value.int (q 1) :: Value.int (q 2) :: Value.int (q 3) :: Value.int (q 4) :: Value.int (q 5) :: Value.int (q 6) :: Value.int (q 7) :: Value.ref (a 8) :: Value.ref (a 9) :: Value.ref (a 10) :: Value.ref (a 11) :: Value.ref (a 12) :: Value.ref (a 13) :: Value.int (q 14) :: Value.long v :: Value.long w :: Value.ref (a 17) :: Value.ref (a 18) :: Value.ref (a 19) :: Value.ref (a 20) :: Value.ref (a 21) :: Value.ref (a 22) :: Value.ref (a 23) :: Value.int (q 24) :: Value.ref (a 25) :: Value.int (q 26) :: Value.ref (a 27) :: Value.int (q 28) :: Value.int (q 29) :: Value.int (q 30) :: Value.int (q 31) :: Value.int (q 32) :: Value.int (q 33) :: Value.ref (a 34) :: Value.ref (a 35) :: Value.ref (a 36) :: Value.ref (a 37) :: Value.ref (a 38) :: Value.ref (a 39) :: Value.ref (a 40) :: Value.int (q 41) :: Value.ref (a 42) :: Value.int (q 43) :: Value.int (q 44) :: []))), ((a 8), .inl (T 0, 24, .inl f8)), ((a 9), .inl (T 0, 24, .inl f9)), ((a 10), .inl (T 0, 24, .inl f10)), ((a 11), .inl (T 0, 24, .inl f11)), ((a 17), .inl (T 0, 24, .inl f17)), ((a 18), .inl (T 0, 24, .inl f18)), ((a 19), .inl (T 0, 24, .inl f19)), ((a 20), .inl (T 1, 672, .inr (.inl f20))), ((a 21), .inl (T 1, 672, .inr (.inl f21))), ((a 22), .inl (T 4, 672, .inl f22)), ((a 12), .inl (T 0, 36, .inl f12)), ((a 13), .inl (T 0, 3, .inl f13))] sz)) 0 0 (va_A [(h0, .inr (10, (Value.int (q 0) :: Value.int (q 1) :: Value.int (q 2) :: Value.int (q 3) :: Value.int (q 4) :: Value.int (q 5) :: Value.int (q 6) :: Value.int (q 7) :: Value.ref (a 8) :: Value.ref (a 9) :: Value.ref (a 10) :: Value.ref (a 11) :: Value.ref (a 12) :: Value.ref (a 13) :: Value.int (q 14) :: Value.long v :: Value.long w :: Value.ref (a 17) :: Value.ref (a 18) :: Value.ref (a 19) :: Value.ref (a 20) :: Value.ref (a 21) :: Value.ref (a 22) :: Value.ref (a 23) :: Value.int (q 24) :: Value.ref (a 25) :: Value.int (q 26) :: Value.ref (a 27) :: Value.int (q 28) :: Value.int (q 29) :: Value.int (q 30) :: Value.int (q 31) :: Value.int (q 32) :: Value.int (q 33) :: Value.ref (a 34) :: Value.ref (a 35) :: Value.ref (a 36) :: Value.ref (a 37) :: Value.ref (a 38) :: Value.ref (a 39) :: Value.ref (a 40) :: Value.int (q 41) :: Value.ref (a 42) :: Value.int (q 43) :: Value.int (q 44) :: []))), ((a 8), .inl (T 0, 24, .inl f8)), ((a 9), .inl (T 0, 24, .inl f9)), ((a 10), .inl (T 0, 24, .inl f10)), ((a 11), .inl (T 0, 24, .inl f11)), ((a 17), .inl (T 0, 24, .inl f17)), ((a 18), .inl (T 0, 24, .inl f18)), ((a 19), .inl (T 0, 24, .inl f19)), ((a 20), .inl (T 1, 672, .inr (.inl f20))), ((a 21), .inl (T 1, 672, .inr (.inl f21))), ((a 22), .inl (T 4, 672, .inl f22)), ((a 12), .inl (T 0, 36, .inl f12)), ((a 13), .inl (T 0, 3, .inl f13))] sz) := by
  refine Met.ofW (cc := cX13_bagBest) (maxL := 8) (ret := (some .int)) (by decide +kernel) rfl ?_
  intro p e s m args below meth c s₁ B hml hv
  obtain ⟨rfl, hsz, hP, hE, hD0⟩ := hv
  have hx := B.exec
  have hb := B.bytes
  have hr := B.returns
  have hts := atoms_spec (ws := wsX13_bagBest) B.pre
  have hown : s.vm.findClass RX13 = some m.cls := findClass_of_methodNamed B.named
  have hlocks := B.notSynchronized
  subst hsz
  have hD := hD0.self (sz := s.heap.size)
  generalize hAe : va_A [(h0, .inr (10, (Value.int (q 0) :: Value.int (q 1) :: Value.int (q 2) :: Value.int (q 3) :: Value.int (q 4) :: Value.int (q 5) :: Value.int (q 6) :: Value.int (q 7) :: Value.ref (a 8) :: Value.ref (a 9) :: Value.ref (a 10) :: Value.ref (a 11) :: Value.ref (a 12) :: Value.ref (a 13) :: Value.int (q 14) :: Value.long v :: Value.long w :: Value.ref (a 17) :: Value.ref (a 18) :: Value.ref (a 19) :: Value.ref (a 20) :: Value.ref (a 21) :: Value.ref (a 22) :: Value.ref (a 23) :: Value.int (q 24) :: Value.ref (a 25) :: Value.int (q 26) :: Value.ref (a 27) :: Value.int (q 28) :: Value.int (q 29) :: Value.int (q 30) :: Value.int (q 31) :: Value.int (q 32) :: Value.int (q 33) :: Value.ref (a 34) :: Value.ref (a 35) :: Value.ref (a 36) :: Value.ref (a 37) :: Value.ref (a 38) :: Value.ref (a 39) :: Value.ref (a 40) :: Value.int (q 41) :: Value.ref (a 42) :: Value.int (q 43) :: Value.int (q 44) :: []))), ((a 8), .inl (T 0, 24, .inl f8)), ((a 9), .inl (T 0, 24, .inl f9)), ((a 10), .inl (T 0, 24, .inl f10)), ((a 11), .inl (T 0, 24, .inl f11)), ((a 17), .inl (T 0, 24, .inl f17)), ((a 18), .inl (T 0, 24, .inl f18)), ((a 19), .inl (T 0, 24, .inl f19)), ((a 20), .inl (T 1, 672, .inr (.inl f20))), ((a 21), .inl (T 1, 672, .inr (.inl f21))), ((a 22), .inl (T 4, 672, .inl f22)), ((a 12), .inl (T 0, 36, .inl f12)), ((a 13), .inl (T 0, 3, .inl f13))] s.heap.size = A at hD ⊢
  have hA : ∀ q : Nat, s.heap.size ≤ q → A q := fun q h => by rw [← hAe]; exact Or.inr h
  have hS : va_S A s.heap s.heap [] := va_S.rf
  have hP : va_P D vwCl [(h0, .inr (10, (Value.int (q 0) :: Value.int (q 1) :: Value.int (q 2) :: Value.int (q 3) :: Value.int (q 4) :: Value.int (q 5) :: Value.int (q 6) :: Value.int (q 7) :: Value.ref (a 8) :: Value.ref (a 9) :: Value.ref (a 10) :: Value.ref (a 11) :: Value.ref (a 12) :: Value.ref (a 13) :: Value.int (q 14) :: Value.long v :: Value.long w :: Value.ref (a 17) :: Value.ref (a 18) :: Value.ref (a 19) :: Value.ref (a 20) :: Value.ref (a 21) :: Value.ref (a 22) :: Value.ref (a 23) :: Value.int (q 24) :: Value.ref (a 25) :: Value.int (q 26) :: Value.ref (a 27) :: Value.int (q 28) :: Value.int (q 29) :: Value.int (q 30) :: Value.int (q 31) :: Value.int (q 32) :: Value.int (q 33) :: Value.ref (a 34) :: Value.ref (a 35) :: Value.ref (a 36) :: Value.ref (a 37) :: Value.ref (a 38) :: Value.ref (a 39) :: Value.ref (a 40) :: Value.int (q 41) :: Value.ref (a 42) :: Value.int (q 43) :: Value.int (q 44) :: []))), ((a 8), .inl (T 0, 24, .inl f8)), ((a 9), .inl (T 0, 24, .inl f9)), ((a 10), .inl (T 0, 24, .inl f10)), ((a 11), .inl (T 0, 24, .inl f11)), ((a 17), .inl (T 0, 24, .inl f17)), ((a 18), .inl (T 0, 24, .inl f18)), ((a 19), .inl (T 0, 24, .inl f19)), ((a 20), .inl (T 1, 672, .inr (.inl f20))), ((a 21), .inl (T 1, 672, .inr (.inl f21))), ((a 22), .inl (T 4, 672, .inl f22)), ((a 12), .inl (T 0, 36, .inl f12)), ((a 13), .inl (T 0, 3, .inl f13))] s.heap := hP
  have hl := lv_entry ([.ref h0, .int x1, .int x2, .int x3]) (n := 8) (Nat.le_of_ble_eq_true rfl)
  rw [lg_entry_eq]
  generalize (lg_sl ([.ref h0, .int x1, .int x2, .int x3]) ++ List.replicate (8 - (lg_sl ([.ref h0, .int x1, .int x2, .int x3])).length) Slot.unset).toArray = ls at hl ⊢
  have hl : lv_has ls 8 [(0, .ref h0), (1, .int x1), (2, .int x2), (3, .int x3)] := hl
  clear hD0
  refine lv_iload_n hx hb dX13_bagBest_0 rfl (lv_at hl 1 rfl) ?_
  refine vp_callSi (W.runS (As := [.int x1]) (rest := []) ⟨hx, hb, hml, hown, hts⟩ (c_X13_isBag l D T x1) (va_cwS 1 hts gX13_bagBest_X13_isBag rfl rfl rfl hs_X13_isBag ⟨Nat.le_of_ble_eq_true rfl, Nat.le_of_ble_eq_true rfl⟩) (pR_S hP hE [] rfl) rfl rfl hl.1 rfl (lv_room (Nat.le_of_ble_eq_true rfl)) dX13_bagBest_1 ⟨Nat.le_of_ble_eq_true rfl, Nat.le_of_ble_eq_true rfl⟩) (fun r_1 hr_1 => ?_)
  rcases bool_post hr_1 with ⟨c_2, rfl⟩ | ⟨c_2, rfl⟩
  · refine lv_if_eq (tgt := 15) hx hb dX13_bagBest_4 (by decide +kernel) (fun c9 => absurd c9 (by decide +kernel)) (fun _ => ?_)
    refine lv_iload_n hx hb dX13_bagBest_7 rfl (lv_at hl 2 rfl) ?_
    refine lv_iload_n hx hb dX13_bagBest_8 rfl (lv_at hl 3 rfl) ?_
    refine vp_callSi (W.runS (As := [.int x2, .int x3]) (rest := []) ⟨hx, hb, hml, hown, hts⟩ (c_X13_isSpot l D T x2 x3) (va_cwS 2 hts gX13_bagBest_X13_isSpot rfl rfl rfl hs_X13_isSpot ⟨Nat.le_of_ble_eq_true rfl, Nat.le_of_ble_eq_true rfl⟩) (pR_S hP hE [] rfl) rfl rfl hl.1 rfl (lv_room (Nat.le_of_ble_eq_true rfl)) dX13_bagBest_9 ⟨Nat.le_of_ble_eq_true rfl, Nat.le_of_ble_eq_true rfl⟩) (fun r_3 hr_3 => ?_)
    rcases bool_post hr_3 with ⟨c_4, rfl⟩ | ⟨c_4, rfl⟩
    · refine lv_if_ne (tgt := 18) hx hb dX13_bagBest_12 (by decide +kernel) (fun _ => ?_) (fun c9 => absurd c9 (by decide +kernel))
      refine lv_aload_n hx hb dX13_bagBest_18 rfl (lv_at hl 0 rfl) ?_
      refine lv_aload_n hx hb dX13_bagBest_19 rfl (lv_at hl 0 rfl) ?_
      refine va_get (D := D) (ci := 10) (v := .int (q 7)) (C := RX13) (T := TX13) (N := 45) hx hb hts in_X13_bagBest_X13 hown hE.1 hP 0 rfl rfl 7 (by decide +kernel) (hts (.fieldLink RX13 205 "ClauseBookModel" "many" "I") (List.mem_of_getElem? (i := 1) rfl)) (fun _ h9 => h9) rfl dX13_bagBest_20 ?_
      refine lv_iconst (v := 1) hx hb dX13_bagBest_23 (by decide +kernel) ?_
      refine lv_isub hx hb dX13_bagBest_24 ?_
      have hd9 := dec1 (i := (q 7)) (by omega)
      have hb13 : 0 ≤ (f13 (x1.toNatClampNeg)).toInt ∧ (f13 (x1.toNatClampNeg)).toInt ≤ 12 := hbg _ (by have h9 := tn (x := x1) (by omega); omega)
      have hFc := va_free (wc := [(h0, .inr (10, (Value.int (q 0) :: Value.int (q 1) :: Value.int (q 2) :: Value.int (q 3) :: Value.int (q 4) :: Value.int (q 5) :: Value.int (q 6) :: Value.int (q 7) :: Value.ref (a 8) :: Value.ref (a 9) :: Value.ref (a 10) :: Value.ref (a 11) :: Value.ref (a 12) :: Value.ref (a 13) :: Value.int (q 14) :: Value.long v :: Value.long w :: Value.ref (a 17) :: Value.ref (a 18) :: Value.ref (a 19) :: Value.ref (a 20) :: Value.ref (a 21) :: Value.ref (a 22) :: Value.ref (a 23) :: Value.int (q 24) :: Value.ref (a 25) :: Value.int (q 26) :: Value.ref (a 27) :: Value.int (q 28) :: Value.int (q 29) :: Value.int (q 30) :: Value.int (q 31) :: Value.int (q 32) :: Value.int (q 33) :: Value.ref (a 34) :: Value.ref (a 35) :: Value.ref (a 36) :: Value.ref (a 37) :: Value.ref (a 38) :: Value.ref (a 39) :: Value.ref (a 40) :: Value.int (q 41) :: Value.ref (a 42) :: Value.int (q 43) :: Value.int (q 44) :: []))), ((a 8), .inl (T 0, 24, .inl f8)), ((a 9), .inl (T 0, 24, .inl f9)), ((a 10), .inl (T 0, 24, .inl f10)), ((a 11), .inl (T 0, 24, .inl f11)), ((a 17), .inl (T 0, 24, .inl f17)), ((a 18), .inl (T 0, 24, .inl f18)), ((a 19), .inl (T 0, 24, .inl f19)), ((a 20), .inl (T 1, 672, .inr (.inl f20))), ((a 21), .inl (T 1, 672, .inr (.inl f21))), ((a 22), .inl (T 4, 672, .inl f22))]) hD hS hA [0, 1, 2, 3, 4, 5, 6, 7, 8, 9, 10] rfl
      refine va_callv (va_runV (As := [.int ((q 7) - 1)]) (rest := []) ⟨hx, hb, hml, hown, hts⟩ (c_X13_laysWorths l D T _ h0 q v w a f8 f9 f10 f11 f17 f18 f19 f20 f21 f22 ((q 7) - 1) (show 0 ≤ (q 7).toInt ∧ (q 7).toInt ≤ 24 from (by omega)) (show okR f8 f10 f11 from hokR) (show ∀ j : Nat, isB (f22 j) from hZ) (show (1 ≤ (q 4).toInt ∧ (q 4).toInt ≤ 9) ∧ 1 ≤ (q 6).toInt ∧ (q 6).toInt ≤ 9 from (by omega)) (show -1 ≤ ((q 7) - 1).toInt ∧ ((q 7) - 1).toInt < (q 7).toInt from (by omega))) (cwV 1 hts gX13_bagBest_X13_laysWorths rfl rfl rfl hv_X13_laysWorths ⟨Nat.le_of_ble_eq_true rfl, Nat.le_of_ble_eq_true rfl⟩) (pW_V (q := (RX13, TX13, 45)) (ci := 10) (q0 := 0) hP hE hD rfl rfl [0, 1, 2, 3, 4, 5, 6, 7, 8, 9, 10] (by decide +kernel) rfl rfl) rfl rfl hl.1 rfl (lv_room (Nat.le_of_ble_eq_true rfl)) dX13_bagBest_25 ⟨Nat.le_of_ble_eq_true rfl, Nat.le_of_ble_eq_true rfl⟩) hS (fun q _ h => hFc q h) hFc (fun u_6 t H1 locs ht hvm hr_5 hB hz1 hk1 hS => ?_)
      obtain ⟨l_7, l_8, f_9, f_10, f_11, f_12, f_13, f_14⟩ := u_6
      obtain ⟨hi0_r_5, hi1_r_5, hi2_r_5, hi3_r_5, hi4_r_5⟩ := hr_5
      have hZ : ∀ j : Nat, isB (f_14 j) := hi0_r_5
      have hEE : okE f8 f10 f_9 (q 7).toInt := hi1_r_5
      have hW1 : ∀ j : Nat, (j : Int) < 28 * (((q 7) - 1).toInt + 1) → 1 ≤ (f_13 j).toInt := hi2_r_5
      have hTV : ∀ y t s : Int32, spK t s → 0 ≤ y.toInt → y.toInt ≤ ((q 7) - 1).toInt → tabW f_12 f_13 f_14 y t s = VALW (lqW (q 0) (q 1) (q 2) (q 3) (q 4) (q 5) (q 6)) f8 f9 f10 f11 f_9 y t s := hi3_r_5
      have hMEr : ∀ j : Nat, (j : Int) < (q 7).toInt → mesP f8 f9 f10 f11 f_9 f_10 f_11 j := hi4_r_5
      obtain ⟨hP1, hD1⟩ := hB
      rw [ht] at hP1
      obtain ⟨hP, hD⟩ := va_repl [(h0, .inr (10, (Value.int (q 0) :: Value.int (q 1) :: Value.int (q 2) :: Value.int (q 3) :: Value.int (q 4) :: Value.int (q 5) :: Value.int (q 6) :: Value.int (q 7) :: Value.ref (a 8) :: Value.ref (a 9) :: Value.ref (a 10) :: Value.ref (a 11) :: Value.ref (a 12) :: Value.ref (a 13) :: Value.int 0 :: Value.long l_7 :: Value.long l_8 :: Value.ref (a 17) :: Value.ref (a 18) :: Value.ref (a 19) :: Value.ref (a 20) :: Value.ref (a 21) :: Value.ref (a 22) :: Value.ref (a 23) :: Value.int (q 24) :: Value.ref (a 25) :: Value.int (q 26) :: Value.ref (a 27) :: Value.int (q 28) :: Value.int (q 29) :: Value.int (q 30) :: Value.int (q 31) :: Value.int (q 32) :: Value.int (q 33) :: Value.ref (a 34) :: Value.ref (a 35) :: Value.ref (a 36) :: Value.ref (a 37) :: Value.ref (a 38) :: Value.ref (a 39) :: Value.ref (a 40) :: Value.int (q 41) :: Value.ref (a 42) :: Value.int (q 43) :: Value.int (q 44) :: []))), ((a 8), .inl (T 0, 24, .inl f8)), ((a 9), .inl (T 0, 24, .inl f9)), ((a 10), .inl (T 0, 24, .inl f10)), ((a 11), .inl (T 0, 24, .inl f11)), ((a 17), .inl (T 0, 24, .inl f_9)), ((a 18), .inl (T 0, 24, .inl f_10)), ((a 19), .inl (T 0, 24, .inl f_11)), ((a 20), .inl (T 1, 672, .inr (.inl f_12))), ((a 21), .inl (T 1, 672, .inr (.inl f_13))), ((a 22), .inl (T 4, 672, .inl f_14)), ((a 12), .inl (T 0, 36, .inl f12)), ((a 13), .inl (T 0, 3, .inl f13))] hP hD [0, 1, 2, 3, 4, 5, 6, 7, 8, 9, 10] [0, 1, 2, 3, 4, 5, 6, 7, 8, 9, 10] rfl (by decide +kernel) rfl rfl rfl hk1 hP1
      clear hP1 hD1 hFc
      generalize H1 = H at hP hS ⊢
      refine lv_iconst (v := (-1)) hx hb dX13_bagBest_28 (by decide +kernel) ?_
      refine lv_istore (lv' := [(4, .int (-1)), (0, .ref h0), (1, .int x1), (2, .int x2), (3, .int x3)]) hx hb dX13_bagBest_29 hl (by decide +kernel) rfl (fun ls hl => ?_)
      refine lv_iconst (v := 0) hx hb dX13_bagBest_31 (by decide +kernel) ?_
      refine lv_istore (lv' := [(5, .int 0), (4, .int (-1)), (0, .ref h0), (1, .int x1), (2, .int x2), (3, .int x3)]) hx hb dX13_bagBest_32 hl (by decide +kernel) rfl (fun ls hl => ?_)
      refine lv_iconst (v := 0) hx hb dX13_bagBest_34 (by decide +kernel) ?_
      refine lv_istore (lv' := [(6, .int 0), (5, .int 0), (4, .int (-1)), (0, .ref h0), (1, .int x1), (2, .int x2), (3, .int x3)]) hx hb dX13_bagBest_35 hl (by decide +kernel) rfl (fun ls hl => ?_)
      refine loopR (σ := (Int32) × (Int32) × (Int32)) (fun x9 ls => lv_has ls 8 [(6, .int x9.1), (5, .int x9.2.1), (4, .int x9.2.2), (0, .ref h0), (1, .int x1), (2, .int x2), (3, .int x3)] ∧ ((0 ≤ x9.1.toInt ∧ x9.1.toInt ≤ 12 ∧ x9.1.toInt ≤ (f13 (x1.toNatClampNeg)).toInt) ∧ isB x9.2.1 ∧ (x9.2.2.toInt = -1 ∨ ((0 ≤ x9.2.2.toInt ∧ x9.2.2.toInt < 12) ∧ 0 ≤ (f12 ((12 * x1) + x9.2.2).toNatClampNeg).toInt ∧ (f12 ((12 * x1) + x9.2.2).toNatClampNeg).toInt < (q 7).toInt)) ∧ bbJ (VALW (lqW (q 0) (q 1) (q 2) (q 3) (q 4) (q 5) (q 6)) f8 f9 f10 f11 f_9) (q 7) (gbB f12 x1) x2 x3 x9.1 x9.2.2 x9.2.1)) (fun x9 => (12 - x9.1.toInt).toNat) (fun x9 ls hI ih => ?_) (0, 0, (-1)) ls ⟨lv_sub hl [0, 1, 2, 3, 4, 5, 6] rfl, ⟨⟨(by (try dsimp only); decide), (by (try dsimp only); decide), (by (try dsimp only); rw [ti_0]; exact hb13.1)⟩, isB0, Or.inl (by (try dsimp only); decide), bbJ_0⟩⟩
      obtain ⟨ii, ov, be⟩ := x9
      obtain ⟨hl, hinv⟩ := hI
      have hl : lv_has ls 8 [(6, .int ii), (5, .int ov), (4, .int be), (0, .ref h0), (1, .int x1), (2, .int x2), (3, .int x3)] := hl
      have hinv : (0 ≤ ii.toInt ∧ ii.toInt ≤ 12 ∧ ii.toInt ≤ (f13 (x1.toNatClampNeg)).toInt) ∧ isB ov ∧ (be.toInt = -1 ∨ ((0 ≤ be.toInt ∧ be.toInt < 12) ∧ 0 ≤ (f12 ((12 * x1) + be).toNatClampNeg).toInt ∧ (f12 ((12 * x1) + be).toNatClampNeg).toInt < (q 7).toInt)) ∧ bbJ (VALW (lqW (q 0) (q 1) (q 2) (q 3) (q 4) (q 5) (q 6)) f8 f9 f10 f11 f_9) (q 7) (gbB f12 x1) x2 x3 ii be ov := hinv
      obtain ⟨hii, hBo, hbe, hbb⟩ := hinv
      have h12x1 : (12 * x1).toInt = 12 * x1.toInt := by rw [fb_mulI (by rw [ti_12]; omega) (by rw [ti_12]; omega), ti_12]
      have ht := tri_in (d := x2.toInt) (by omega)
      refine lv_iload hx hb dX13_bagBest_37 (lv_at hl 0 rfl) ?_
      refine lv_aload_n hx hb dX13_bagBest_39 rfl (lv_at hl 3 rfl) ?_
      refine va_get (D := D) (ci := 10) (v := .ref (a 13)) (C := RX13) (T := TX13) (N := 45) hx hb hts in_X13_bagBest_X13 hown hE.1 hP 0 rfl rfl 13 (by decide +kernel) (hts (.fieldLink RX13 44 "ClauseBookModel" "bagged" "[I") (List.mem_of_getElem? (i := 2) rfl)) (fun _ h9 => h9) rfl dX13_bagBest_40 ?_
      refine lv_iload_n hx hb dX13_bagBest_43 rfl (lv_at hl 4 rfl) ?_
      refine va_iald hx hb hE.1 hP 12 0 rfl rfl (by rw [vp_in_iff]; first | omega | (rw [fb_addI (by omega) (by omega)]; omega)) dX13_bagBest_44 ?_
      refine lv_topi (fun z_15 ez_15 => ?_)
      have hbz_15 : 0 ≤ z_15.toInt ∧ z_15.toInt ≤ 12 := by rw [ez_15]; exact hbg _ (tn3 (by omega) (by omega))
      have htz_15 : z_15.toInt = (f13 (x1.toNatClampNeg)).toInt := by rw [ez_15]
      refine lv_icmp_ge (tgt := 128) hx hb dX13_bagBest_45 (by decide +kernel) (fun c_16 => ?_) (fun c_16 => ?_)
      · rw [fa_le] at c_16
        refine lv_iload hx hb dX13_bagBest_128 (lv_at hl 1 rfl) ?_
        refine lv_if_eq (tgt := 138) hx hb dX13_bagBest_130 (by decide +kernel) (fun c_17 => ?_) (fun c_17 => ?_)
        · rw [fa_eq] at c_17
          try rw [ti_0] at c_17
          refine lv_iload hx hb dX13_bagBest_138 (lv_at hl 2 rfl) ?_
          exact W.iret hx hb hr (fun t ht hW => ⟨⟨_, (0, l_7, l_8, f_9, f_10, f_11, f_12, f_13, f_14), rfl, ⟨(show isB 0 from isB0), (show ∀ j : Nat, isB (f_14 j) from hZ), (show (0 ≤ x1.toInt ∧ x1.toInt ≤ 2) ∧ spK x2 x3 → ∀ j : Nat, (j : Int) < (q 7).toInt → mesP f8 f9 f10 f11 f_9 f_10 f_11 j from (fun _ => hMEr)), (show bbQ (VALW (lqW (q 0) (q 1) (q 2) (q 3) (q 4) (q 5) (q 6)) f8 f9 f10 f11 f_9) (q 7) (f13 (x1.toNatClampNeg)) (gbB f12 x1) (0 ≤ x1.toInt ∧ x1.toInt ≤ 2) x2 x3 be from (bbJ_end ⟨by omega, ⟨⟨(by omega), (by omega)⟩, (by omega), (by omega)⟩⟩ hbb (by omega) (by omega) (by first | exact Or.inl ⟨by omega, rfl⟩ | exact Or.inr ⟨by omega, by decide⟩)))⟩, by rw [ht]; exact hP.sub [0, 1, 2, 3, 4, 5, 6, 7, 8, 9, 10, 11, 12] rfl, hD.sub [0, 1, 2, 3, 4, 5, 6, 7, 8, 9, 10, 11, 12] (by decide +kernel) rfl⟩, hS.F ht⟩) hS.2.2 dX13_bagBest_140
        · rw [fa_eq] at c_17
          try rw [ti_0] at c_17
          refine lv_bipush (v := (-5)) hx hb dX13_bagBest_133 (by decide +kernel) ?_
          refine lv_goto (tgt := 140) hx hb dX13_bagBest_135 (by decide +kernel) ?_
          exact W.iret hx hb hr (fun t ht hW => ⟨⟨_, (0, l_7, l_8, f_9, f_10, f_11, f_12, f_13, f_14), rfl, ⟨(show isB 0 from isB0), (show ∀ j : Nat, isB (f_14 j) from hZ), (show (0 ≤ x1.toInt ∧ x1.toInt ≤ 2) ∧ spK x2 x3 → ∀ j : Nat, (j : Int) < (q 7).toInt → mesP f8 f9 f10 f11 f_9 f_10 f_11 j from (fun _ => hMEr)), (show bbQ (VALW (lqW (q 0) (q 1) (q 2) (q 3) (q 4) (q 5) (q 6)) f8 f9 f10 f11 f_9) (q 7) (f13 (x1.toNatClampNeg)) (gbB f12 x1) (0 ≤ x1.toInt ∧ x1.toInt ≤ 2) x2 x3 ((-5) : Int32) from (bbJ_end ⟨by omega, ⟨⟨(by omega), (by omega)⟩, (by omega), (by omega)⟩⟩ hbb (by omega) (by omega) (by first | exact Or.inl ⟨by omega, rfl⟩ | exact Or.inr ⟨by omega, by decide⟩)))⟩, by rw [ht]; exact hP.sub [0, 1, 2, 3, 4, 5, 6, 7, 8, 9, 10, 11, 12] rfl, hD.sub [0, 1, 2, 3, 4, 5, 6, 7, 8, 9, 10, 11, 12] (by decide +kernel) rfl⟩, hS.F ht⟩) hS.2.2 dX13_bagBest_140
      · rw [fa_le] at c_16
        refine lv_aload_n hx hb dX13_bagBest_48 rfl (lv_at hl 3 rfl) ?_
        refine va_get (D := D) (ci := 10) (v := .ref (a 12)) (C := RX13) (T := TX13) (N := 45) hx hb hts in_X13_bagBest_X13 hown hE.1 hP 0 rfl rfl 12 (by decide +kernel) (hts (.fieldLink RX13 41 "ClauseBookModel" "bag" "[I") (List.mem_of_getElem? (i := 3) rfl)) (fun _ h9 => h9) rfl dX13_bagBest_49 ?_
        refine lv_bipush (v := 12) hx hb dX13_bagBest_52 (by decide +kernel) ?_
        refine lv_iload_n hx hb dX13_bagBest_54 rfl (lv_at hl 4 rfl) ?_
        refine lv_imul hx hb dX13_bagBest_55 ?_
        refine lv_iload hx hb dX13_bagBest_56 (lv_at hl 0 rfl) ?_
        refine lv_iadd hx hb dX13_bagBest_58 ?_
        refine va_iald hx hb hE.1 hP 11 0 rfl rfl (by rw [vp_in_iff]; first | omega | (rw [fb_addI (by omega) (by omega)]; omega)) dX13_bagBest_59 ?_
        refine lv_topi (fun z_18 ez_18 => ?_)
        have hgz : z_18 = gbB f12 x1 ii.toNatClampNeg := by show z_18 = f12 (12 * x1.toNatClampNeg + ii.toNatClampNeg); rw [ez_18, ix12 (by omega) (by omega)]
        refine lv_istore (lv' := [(7, .int z_18), (6, .int ii), (5, .int ov), (4, .int be), (0, .ref h0), (1, .int x1), (2, .int x2), (3, .int x3)]) hx hb dX13_bagBest_60 hl (by decide +kernel) rfl (fun ls hl => ?_)
        refine lv_aload_n hx hb dX13_bagBest_62 rfl (lv_at hl 4 rfl) ?_
        refine lv_iload hx hb dX13_bagBest_63 (lv_at hl 0 rfl) ?_
        refine vp_callSi (W.runV (As := [.int z_18]) (rest := []) ⟨hx, hb, hml, hown, hts⟩ (c_X13_isClause l D T h0 [.int (q 0), .int (q 1), .int (q 2), .int (q 3), .int (q 4), .int (q 5), .int (q 6), .int (q 7), .ref (a 8), .ref (a 9), .ref (a 10), .ref (a 11), .ref (a 12), .ref (a 13), .int 0, .long l_7, .long l_8, .ref (a 17), .ref (a 18), .ref (a 19), .ref (a 20), .ref (a 21), .ref (a 22), .ref (a 23), .int (q 24), .ref (a 25), .int (q 26), .ref (a 27), .int (q 28), .int (q 29), .int (q 30), .int (q 31), .int (q 32), .int (q 33), .ref (a 34), .ref (a 35), .ref (a 36), .ref (a 37), .ref (a 38), .ref (a 39), .ref (a 40), .int (q 41), .ref (a 42), .int (q 43), .int (q 44)] z_18 (q 7) rfl (by omega)) (cwV 1 hts gX13_bagBest_X13_isClause rfl rfl rfl hv_X13_isClause ⟨Nat.le_of_ble_eq_true rfl, Nat.le_of_ble_eq_true rfl⟩) (pR_V (q := (RX13, TX13, 45)) (ci := 10) (q0 := 0) hP hE rfl rfl [0] rfl) rfl rfl hl.1 rfl (lv_room (Nat.le_of_ble_eq_true rfl)) dX13_bagBest_65 ⟨Nat.le_of_ble_eq_true rfl, Nat.le_of_ble_eq_true rfl⟩) (fun r_19 hr_19 => ?_)
        rcases bool_post hr_19 with ⟨c_20, rfl⟩ | ⟨c_20, rfl⟩
        · refine lv_if_eq (tgt := 122) hx hb dX13_bagBest_68 (by decide +kernel) (fun c9 => absurd c9 (by decide +kernel)) (fun _ => ?_)
          refine lv_iload hx hb dX13_bagBest_71 (lv_at hl 2 rfl) ?_
          refine lv_aload_n hx hb dX13_bagBest_73 rfl (lv_at hl 4 rfl) ?_
          refine lv_iload hx hb dX13_bagBest_74 (lv_at hl 0 rfl) ?_
          refine lv_iload_n hx hb dX13_bagBest_76 rfl (lv_at hl 6 rfl) ?_
          refine lv_iload_n hx hb dX13_bagBest_77 rfl (lv_at hl 7 rfl) ?_
          refine vp_callSi (W.runV (As := [.int z_18, .int x2, .int x3]) (rest := [.int ov]) ⟨hx, hb, hml, hown, hts⟩ (c_X13_isMuchAt l D T h0 [.int (q 0), .int (q 1), .int (q 2), .int (q 3), .int (q 4), .int (q 5), .int (q 6), .int (q 7), .ref (a 8), .ref (a 9), .ref (a 10), .ref (a 11), .ref (a 12), .ref (a 13), .int 0, .long l_7, .long l_8, .ref (a 17), .ref (a 18), .ref (a 19), .ref (a 20), .ref (a 21), .ref (a 22), .ref (a 23), .int (q 24), .ref (a 25), .int (q 26), .ref (a 27), .int (q 28), .int (q 29), .int (q 30), .int (q 31), .int (q 32), .int (q 33), .ref (a 34), .ref (a 35), .ref (a 36), .ref (a 37), .ref (a 38), .ref (a 39), .ref (a 40), .int (q 41), .ref (a 42), .int (q 43), .int (q 44)] (a 22) f_14 z_18 x2 x3 rfl hZ (by omega) (by omega) (by omega)) (cwV 3 hts gX13_bagBest_X13_isMuchAt rfl rfl rfl hv_X13_isMuchAt ⟨Nat.le_of_ble_eq_true rfl, Nat.le_of_ble_eq_true rfl⟩) (pR_V (q := (RX13, TX13, 45)) (ci := 10) (q0 := 0) hP hE rfl rfl [0, 10] rfl) rfl rfl hl.1 rfl (lv_room (Nat.le_of_ble_eq_true rfl)) dX13_bagBest_78 ⟨Nat.le_of_ble_eq_true rfl, Nat.le_of_ble_eq_true rfl⟩) (fun r_21 hr_21 => ?_)
          have hv9 : tabW f_12 f_13 f_14 z_18 x2 x3 = (VALW (lqW (q 0) (q 1) (q 2) (q 3) (q 4) (q 5) (q 6)) f8 f9 f10 f11 f_9) z_18 x2 x3 := hTV z_18 x2 x3 ⟨⟨(by omega), (by omega)⟩, (by omega), (by omega)⟩ (by omega) (by omega)
          have hq9 : 1 ≤ (f_13 (slN z_18 x2 x3)).toInt := hW1 _ (by have h9 := slN_b (c := z_18) (x := (q 7)) (t := x2) (k := x3) (by omega) ⟨⟨(by omega), (by omega)⟩, (by omega), (by omega)⟩; omega)
          have hz9 : r_21.toInt = 0 ↔ ¬ ((VALW (lqW (q 0) (q 1) (q 2) (q 3) (q 4) (q 5) (q 6)) f8 f9 f10 f11 f_9) z_18 x2 x3).2.toInt = 0 := mz_iff hv9 hr_21.2 hq9
          refine lv_ior hx hb dX13_bagBest_81 ?_
          refine lv_topi (fun z_22 ez_22 => ?_)
          have hBz_22 : isB z_22 := by rw [ez_22]; exact isB.or hBo hr_21.1
          have ho9 : z_22.toInt = 0 ↔ (ov.toInt = 0 ∧ r_21.toInt = 0) := by rw [ez_22]; exact or_iff hBo hr_21.1
          refine lv_istore (lv' := [(5, .int z_22), (7, .int z_18), (6, .int ii), (4, .int be), (0, .ref h0), (1, .int x1), (2, .int x2), (3, .int x3)]) hx hb dX13_bagBest_82 hl (by decide +kernel) rfl (fun ls hl => ?_)
          refine lv_iload hx hb dX13_bagBest_84 (lv_at hl 3 rfl) ?_
          refine lv_iconst (v := (-1)) hx hb dX13_bagBest_86 (by decide +kernel) ?_
          refine lv_icmp_eq (tgt := 113) hx hb dX13_bagBest_87 (by decide +kernel) (fun c_23 => ?_) (fun c_23 => ?_)
          · rw [fa_eq] at c_23
            try rw [ti_n1] at c_23
            refine lv_iload hx hb dX13_bagBest_113 (lv_at hl 2 rfl) ?_
            refine lv_goto (tgt := 120) hx hb dX13_bagBest_115 (by decide +kernel) ?_
            refine lv_istore (lv' := [(4, .int ii), (5, .int z_22), (7, .int z_18), (6, .int ii), (0, .ref h0), (1, .int x1), (2, .int x2), (3, .int x3)]) hx hb dX13_bagBest_120 hl (by decide +kernel) rfl (fun ls hl => ?_)
            obtain ⟨z_24, ez_24⟩ : ∃ y : Int32, y = ii + 1 := ⟨_, rfl⟩
            refine lv_iinc (v := z_24) (lv' := [(6, .int z_24), (4, .int ii), (5, .int z_22), (7, .int z_18), (0, .ref h0), (1, .int x1), (2, .int x2), (3, .int x3)]) hx hb dX13_bagBest_122 hl (k := 3) rfl (by rw [ez_24]; rfl) (by decide +kernel) rfl (fun ls hl => ?_)
            refine lv_goto (tgt := 37) hx hb dX13_bagBest_125 (by decide +kernel) ?_
            have hi9 : z_24.toInt = ii.toInt + 1 := by rw [ez_24]; exact inc1 (i := ii) (n := 1000) (by omega) (by decide +kernel)
            exact ih (z_24, z_22, ii) ls ⟨lv_sub hl [0, 2, 1, 4, 5, 6, 7] rfl, ⟨⟨(by (try dsimp only); omega), (by (try dsimp only); omega), (by (try dsimp only); omega)⟩, hBz_22, (Or.inr ⟨(by (try dsimp only); omega), (by (try dsimp only); rw [← ez_18]; omega)⟩), bbJ_step hbb (by omega) hi9 (by rw [← hgz]; omega) (by rw [← hgz]; exact hz9) ho9 (fun _ => VAL_low (l := lqW (q 0) (q 1) (q 2) (q 3) (q 4) (q 5) (q 6)) hL.1 hL.2 31 _ _ _) (Or.inl ⟨rfl, Or.inl (by omega)⟩)⟩⟩ (by (try dsimp only); omega)
          · rw [fa_eq] at c_23
            try rw [ti_n1] at c_23
            refine lv_aload_n hx hb dX13_bagBest_90 rfl (lv_at hl 4 rfl) ?_
            refine lv_iload hx hb dX13_bagBest_91 (lv_at hl 1 rfl) ?_
            refine lv_aload_n hx hb dX13_bagBest_93 rfl (lv_at hl 4 rfl) ?_
            refine va_get (D := D) (ci := 10) (v := .ref (a 12)) (C := RX13) (T := TX13) (N := 45) hx hb hts in_X13_bagBest_X13 hown hE.1 hP 0 rfl rfl 12 (by decide +kernel) (hts (.fieldLink RX13 41 "ClauseBookModel" "bag" "[I") (List.mem_of_getElem? (i := 3) rfl)) (fun _ h9 => h9) rfl dX13_bagBest_94 ?_
            refine lv_bipush (v := 12) hx hb dX13_bagBest_97 (by decide +kernel) ?_
            refine lv_iload_n hx hb dX13_bagBest_99 rfl (lv_at hl 5 rfl) ?_
            refine lv_imul hx hb dX13_bagBest_100 ?_
            refine lv_iload hx hb dX13_bagBest_101 (lv_at hl 3 rfl) ?_
            refine lv_iadd hx hb dX13_bagBest_103 ?_
            refine va_iald hx hb hE.1 hP 11 0 rfl rfl (by rw [vp_in_iff]; first | omega | (rw [fb_addI (by omega) (by omega)]; omega)) dX13_bagBest_104 ?_
            refine lv_topi (fun z_25 ez_25 => ?_)
            have hqz_25 : 0 ≤ z_25.toInt ∧ z_25.toInt < (q 7).toInt := by rw [ez_25]; omega
            have hgb : z_25 = gbB f12 x1 be.toNatClampNeg := by show z_25 = f12 (12 * x1.toNatClampNeg + be.toNatClampNeg); rw [ez_25, ix12 (by omega) (by omega)]
            have hv8 : tabW f_12 f_13 f_14 z_25 x2 x3 = (VALW (lqW (q 0) (q 1) (q 2) (q 3) (q 4) (q 5) (q 6)) f8 f9 f10 f11 f_9) z_25 x2 x3 := hTV z_25 x2 x3 ⟨⟨(by omega), (by omega)⟩, (by omega), (by omega)⟩ (by omega) (by omega)
            have hq8 : 1 ≤ (f_13 (slN z_25 x2 x3)).toInt := hW1 _ (by have h9 := slN_b (c := z_25) (x := (q 7)) (t := x2) (k := x3) (by omega) ⟨⟨(by omega), (by omega)⟩, (by omega), (by omega)⟩; omega)
            refine lv_iload_n hx hb dX13_bagBest_105 rfl (lv_at hl 6 rfl) ?_
            refine lv_iload_n hx hb dX13_bagBest_106 rfl (lv_at hl 7 rfl) ?_
            refine vp_callSi (W.runV (As := [.int z_18, .int z_25, .int x2, .int x3]) (rest := []) ⟨hx, hb, hml, hown, hts⟩ (c_X13_comparedAt l D T h0 [.int (q 0), .int (q 1), .int (q 2), .int (q 3), .int (q 4), .int (q 5), .int (q 6), .int (q 7), .ref (a 8), .ref (a 9), .ref (a 10), .ref (a 11), .ref (a 12), .ref (a 13), .int 0, .long l_7, .long l_8, .ref (a 17), .ref (a 18), .ref (a 19), .ref (a 20), .ref (a 21), .ref (a 22), .ref (a 23), .int (q 24), .ref (a 25), .int (q 26), .ref (a 27), .int (q 28), .int (q 29), .int (q 30), .int (q 31), .int (q 32), .int (q 33), .ref (a 34), .ref (a 35), .ref (a 36), .ref (a 37), .ref (a 38), .ref (a 39), .ref (a 40), .int (q 41), .ref (a 42), .int (q 43), .int (q 44)] (a 20) f_12 (a 21) f_13 z_18 z_25 x2 x3 rfl rfl (by omega) (by omega) (by omega) (by omega) (fun j hj => hW1 j (by omega)) (fun j hj => hW1 j (by omega))) (cwV 4 hts gX13_bagBest_X13_comparedAt rfl rfl rfl hv_X13_comparedAt ⟨Nat.le_of_ble_eq_true rfl, Nat.le_of_ble_eq_true rfl⟩) (pR_V (q := (RX13, TX13, 45)) (ci := 10) (q0 := 0) hP hE rfl rfl [0, 8, 9] rfl) rfl rfl hl.1 rfl (lv_room (Nat.le_of_ble_eq_true rfl)) dX13_bagBest_107 ⟨Nat.le_of_ble_eq_true rfl, Nat.le_of_ble_eq_true rfl⟩) (fun r_26 hr_26 => ?_)
            have hc9 : ¬ ((VALW (lqW (q 0) (q 1) (q 2) (q 3) (q 4) (q 5) (q 6)) f8 f9 f10 f11 f_9) (gbB f12 x1 ii.toNatClampNeg) x2 x3).2.toInt = 0 → ¬ ((VALW (lqW (q 0) (q 1) (q 2) (q 3) (q 4) (q 5) (q 6)) f8 f9 f10 f11 f_9) (gbB f12 x1 be.toNatClampNeg) x2 x3).2.toInt = 0 → cmpP ((VALW (lqW (q 0) (q 1) (q 2) (q 3) (q 4) (q 5) (q 6)) f8 f9 f10 f11 f_9) (gbB f12 x1 ii.toNatClampNeg) x2 x3) ((VALW (lqW (q 0) (q 1) (q 2) (q 3) (q 4) (q 5) (q 6)) f8 f9 f10 f11 f_9) (gbB f12 x1 be.toNatClampNeg) x2 x3) = r_26.toInt := by rw [← hgz, ← hgb]; exact fun h8 h7 => cm_of hv9 hv8 hq9 hq8 hr_26 h8 h7
            refine lv_if_le (tgt := 118) hx hb dX13_bagBest_110 (by decide +kernel) (fun c_27 => ?_) (fun c_27 => ?_)
            · rw [fa_le] at c_27
              try rw [ti_0] at c_27
              refine lv_iload hx hb dX13_bagBest_118 (lv_at hl 3 rfl) ?_
              refine lv_istore (lv' := [(4, .int be), (5, .int z_22), (7, .int z_18), (6, .int ii), (0, .ref h0), (1, .int x1), (2, .int x2), (3, .int x3)]) hx hb dX13_bagBest_120 hl (by decide +kernel) rfl (fun ls hl => ?_)
              obtain ⟨z_28, ez_28⟩ : ∃ y : Int32, y = ii + 1 := ⟨_, rfl⟩
              refine lv_iinc (v := z_28) (lv' := [(6, .int z_28), (4, .int be), (5, .int z_22), (7, .int z_18), (0, .ref h0), (1, .int x1), (2, .int x2), (3, .int x3)]) hx hb dX13_bagBest_122 hl (k := 3) rfl (by rw [ez_28]; rfl) (by decide +kernel) rfl (fun ls hl => ?_)
              refine lv_goto (tgt := 37) hx hb dX13_bagBest_125 (by decide +kernel) ?_
              have hi9 : z_28.toInt = ii.toInt + 1 := by rw [ez_28]; exact inc1 (i := ii) (n := 1000) (by omega) (by decide +kernel)
              exact ih (z_28, z_22, be) ls ⟨lv_sub hl [0, 2, 1, 4, 5, 6, 7] rfl, ⟨⟨(by (try dsimp only); omega), (by (try dsimp only); omega), (by (try dsimp only); omega)⟩, hBz_22, hbe, bbJ_step hbb (by omega) hi9 (by rw [← hgz]; omega) (by rw [← hgz]; exact hz9) ho9 (fun _ => VAL_low (l := lqW (q 0) (q 1) (q 2) (q 3) (q 4) (q 5) (q 6)) hL.1 hL.2 31 _ _ _) (Or.inr ⟨rfl, by omega, fun h9 h8 => by rw [hc9 h9 h8]; omega⟩)⟩⟩ (by (try dsimp only); omega)
            · rw [fa_le] at c_27
              try rw [ti_0] at c_27
              refine lv_iload hx hb dX13_bagBest_113 (lv_at hl 2 rfl) ?_
              refine lv_goto (tgt := 120) hx hb dX13_bagBest_115 (by decide +kernel) ?_
              refine lv_istore (lv' := [(4, .int ii), (5, .int z_22), (7, .int z_18), (6, .int ii), (0, .ref h0), (1, .int x1), (2, .int x2), (3, .int x3)]) hx hb dX13_bagBest_120 hl (by decide +kernel) rfl (fun ls hl => ?_)
              obtain ⟨z_29, ez_29⟩ : ∃ y : Int32, y = ii + 1 := ⟨_, rfl⟩
              refine lv_iinc (v := z_29) (lv' := [(6, .int z_29), (4, .int ii), (5, .int z_22), (7, .int z_18), (0, .ref h0), (1, .int x1), (2, .int x2), (3, .int x3)]) hx hb dX13_bagBest_122 hl (k := 3) rfl (by rw [ez_29]; rfl) (by decide +kernel) rfl (fun ls hl => ?_)
              refine lv_goto (tgt := 37) hx hb dX13_bagBest_125 (by decide +kernel) ?_
              have hi9 : z_29.toInt = ii.toInt + 1 := by rw [ez_29]; exact inc1 (i := ii) (n := 1000) (by omega) (by decide +kernel)
              exact ih (z_29, z_22, ii) ls ⟨lv_sub hl [0, 2, 1, 4, 5, 6, 7] rfl, ⟨⟨(by (try dsimp only); omega), (by (try dsimp only); omega), (by (try dsimp only); omega)⟩, hBz_22, (Or.inr ⟨(by (try dsimp only); omega), (by (try dsimp only); rw [← ez_18]; omega)⟩), bbJ_step hbb (by omega) hi9 (by rw [← hgz]; omega) (by rw [← hgz]; exact hz9) ho9 (fun _ => VAL_low (l := lqW (q 0) (q 1) (q 2) (q 3) (q 4) (q 5) (q 6)) hL.1 hL.2 31 _ _ _) (Or.inl ⟨rfl, Or.inr ⟨by omega, fun h9 h8 => by rw [hc9 h9 h8]; omega⟩⟩)⟩⟩ (by (try dsimp only); omega)
        · refine lv_if_eq (tgt := 122) hx hb dX13_bagBest_68 (by decide +kernel) (fun _ => ?_) (fun c9 => absurd c9 (by decide +kernel))
          obtain ⟨z_30, ez_30⟩ : ∃ y : Int32, y = ii + 1 := ⟨_, rfl⟩
          refine lv_iinc (v := z_30) (lv' := [(6, .int z_30), (7, .int z_18), (5, .int ov), (4, .int be), (0, .ref h0), (1, .int x1), (2, .int x2), (3, .int x3)]) hx hb dX13_bagBest_122 hl (k := 1) rfl (by rw [ez_30]; rfl) (by decide +kernel) rfl (fun ls hl => ?_)
          refine lv_goto (tgt := 37) hx hb dX13_bagBest_125 (by decide +kernel) ?_
          have hi9 : z_30.toInt = ii.toInt + 1 := by rw [ez_30]; exact inc1 (i := ii) (n := 1000) (by omega) (by decide +kernel)
          exact ih (z_30, ov, be) ls ⟨lv_sub hl [0, 2, 3, 4, 5, 6, 7] rfl, ⟨⟨(by (try dsimp only); omega), (by (try dsimp only); omega), (by (try dsimp only); omega)⟩, hBo, hbe, bbJ_skip hbb hi9 (by rw [← hgz]; omega)⟩⟩ (by (try dsimp only); omega)
    · refine lv_if_ne (tgt := 18) hx hb dX13_bagBest_12 (by decide +kernel) (fun c9 => absurd c9 (by decide +kernel)) (fun _ => ?_)
      refine lv_bipush (v := (-2)) hx hb dX13_bagBest_15 (by decide +kernel) ?_
      exact W.iret hx hb hr (fun t ht hW => ⟨⟨_, ((q 14), v, w, f17, f18, f19, f20, f21, f22), rfl, ⟨(show isB (q 14) from hB), (show ∀ j : Nat, isB (f22 j) from hZ), (show (0 ≤ x1.toInt ∧ x1.toInt ≤ 2) ∧ spK x2 x3 → ∀ j : Nat, (j : Int) < (q 7).toInt → mesP f8 f9 f10 f11 f17 f18 f19 j from (fun h9 => by exfalso; obtain ⟨h1, h2, h3⟩ := h9; omega)), (show bbQ (VALW (lqW (q 0) (q 1) (q 2) (q 3) (q 4) (q 5) (q 6)) f8 f9 f10 f11 f17) (q 7) (f13 (x1.toNatClampNeg)) (gbB f12 x1) (0 ≤ x1.toInt ∧ x1.toInt ≤ 2) x2 x3 ((-2) : Int32) from (Or.inl ⟨(fun h9 => by obtain ⟨h1, h2, h3⟩ := h9; omega), (by decide +kernel)⟩))⟩, by rw [ht]; exact hP.sub [0, 1, 2, 3, 4, 5, 6, 7, 8, 9, 10, 11, 12] rfl, hD.sub [0, 1, 2, 3, 4, 5, 6, 7, 8, 9, 10, 11, 12] (by decide +kernel) rfl⟩, hS.F ht⟩) hS.2.2 dX13_bagBest_17
  · refine lv_if_eq (tgt := 15) hx hb dX13_bagBest_4 (by decide +kernel) (fun _ => ?_) (fun c9 => absurd c9 (by decide +kernel))
    refine lv_bipush (v := (-2)) hx hb dX13_bagBest_15 (by decide +kernel) ?_
    exact W.iret hx hb hr (fun t ht hW => ⟨⟨_, ((q 14), v, w, f17, f18, f19, f20, f21, f22), rfl, ⟨(show isB (q 14) from hB), (show ∀ j : Nat, isB (f22 j) from hZ), (show (0 ≤ x1.toInt ∧ x1.toInt ≤ 2) ∧ spK x2 x3 → ∀ j : Nat, (j : Int) < (q 7).toInt → mesP f8 f9 f10 f11 f17 f18 f19 j from (fun h9 => by exfalso; obtain ⟨h1, h2, h3⟩ := h9; omega)), (show bbQ (VALW (lqW (q 0) (q 1) (q 2) (q 3) (q 4) (q 5) (q 6)) f8 f9 f10 f11 f17) (q 7) (f13 (x1.toNatClampNeg)) (gbB f12 x1) (0 ≤ x1.toInt ∧ x1.toInt ≤ 2) x2 x3 ((-2) : Int32) from (Or.inl ⟨(fun h9 => by obtain ⟨h1, h2, h3⟩ := h9; omega), (by decide +kernel)⟩))⟩, by rw [ht]; exact hP.sub [0, 1, 2, 3, 4, 5, 6, 7, 8, 9, 10, 11, 12] rfl, hD.sub [0, 1, 2, 3, 4, 5, 6, 7, 8, 9, 10, 11, 12] (by decide +kernel) rfl⟩, hS.F ht⟩) hS.2.2 dX13_bagBest_17
theorem dX13_isNamed_0 : decode cX13_isNamed 0 = .ok (.iconst 0, 1) := by decide +kernel
theorem dX13_isNamed_1 : decode cX13_isNamed 1 = .ok (.istore_n 2, 1) := by decide +kernel
theorem dX13_isNamed_12 : decode cX13_isNamed 12 = .ok (.iload_n 2, 1) := by decide +kernel
theorem dX13_isNamed_13 : decode cX13_isNamed 13 = .ok (.aload_n 0, 1) := by decide +kernel
theorem dX13_isNamed_14 : decode cX13_isNamed 14 = .ok (.getfield 28, 3) := by decide +kernel
theorem dX13_isNamed_17 : decode cX13_isNamed 17 = .ok (.iload_n 3, 1) := by decide +kernel
theorem dX13_isNamed_18 : decode cX13_isNamed 18 = .ok (.iaload, 1) := by decide +kernel
theorem dX13_isNamed_19 : decode cX13_isNamed 19 = .ok (.invokestatic 210, 3) := by decide +kernel
theorem dX13_isNamed_2 : decode cX13_isNamed 2 = .ok (.iconst 0, 1) := by decide +kernel
theorem dX13_isNamed_22 : decode cX13_isNamed 22 = .ok (.ifCond .le 13, 3) := by decide +kernel
theorem dX13_isNamed_25 : decode cX13_isNamed 25 = .ok (.aload_n 0, 1) := by decide +kernel
theorem dX13_isNamed_26 : decode cX13_isNamed 26 = .ok (.getfield 35, 3) := by decide +kernel
theorem dX13_isNamed_29 : decode cX13_isNamed 29 = .ok (.iload_n 3, 1) := by decide +kernel
theorem dX13_isNamed_3 : decode cX13_isNamed 3 = .ok (.istore_n 3, 1) := by decide +kernel
theorem dX13_isNamed_30 : decode cX13_isNamed 30 = .ok (.iaload, 1) := by decide +kernel
theorem dX13_isNamed_31 : decode cX13_isNamed 31 = .ok (.iload_n 1, 1) := by decide +kernel
theorem dX13_isNamed_32 : decode cX13_isNamed 32 = .ok (.if_icmp .eq 26, 3) := by decide +kernel
theorem dX13_isNamed_35 : decode cX13_isNamed 35 = .ok (.aload_n 0, 1) := by decide +kernel
theorem dX13_isNamed_36 : decode cX13_isNamed 36 = .ok (.getfield 28, 3) := by decide +kernel
theorem dX13_isNamed_39 : decode cX13_isNamed 39 = .ok (.iload_n 3, 1) := by decide +kernel
theorem dX13_isNamed_4 : decode cX13_isNamed 4 = .ok (.iload_n 3, 1) := by decide +kernel
theorem dX13_isNamed_40 : decode cX13_isNamed 40 = .ok (.iaload, 1) := by decide +kernel
theorem dX13_isNamed_41 : decode cX13_isNamed 41 = .ok (.invokestatic 210, 3) := by decide +kernel
theorem dX13_isNamed_44 : decode cX13_isNamed 44 = .ok (.iconst 1, 1) := by decide +kernel
theorem dX13_isNamed_45 : decode cX13_isNamed 45 = .ok (.if_icmp .le 17, 3) := by decide +kernel
theorem dX13_isNamed_48 : decode cX13_isNamed 48 = .ok (.aload_n 0, 1) := by decide +kernel
theorem dX13_isNamed_49 : decode cX13_isNamed 49 = .ok (.getfield 38, 3) := by decide +kernel
theorem dX13_isNamed_5 : decode cX13_isNamed 5 = .ok (.aload_n 0, 1) := by decide +kernel
theorem dX13_isNamed_52 : decode cX13_isNamed 52 = .ok (.iload_n 3, 1) := by decide +kernel
theorem dX13_isNamed_53 : decode cX13_isNamed 53 = .ok (.iaload, 1) := by decide +kernel
theorem dX13_isNamed_54 : decode cX13_isNamed 54 = .ok (.iload_n 1, 1) := by decide +kernel
theorem dX13_isNamed_55 : decode cX13_isNamed 55 = .ok (.if_icmp .ne 7, 3) := by decide +kernel
theorem dX13_isNamed_58 : decode cX13_isNamed 58 = .ok (.iconst 1, 1) := by decide +kernel
theorem dX13_isNamed_59 : decode cX13_isNamed 59 = .ok (.goto 4, 3) := by decide +kernel
theorem dX13_isNamed_6 : decode cX13_isNamed 6 = .ok (.getfield 205, 3) := by decide +kernel
theorem dX13_isNamed_62 : decode cX13_isNamed 62 = .ok (.iconst 0, 1) := by decide +kernel
theorem dX13_isNamed_63 : decode cX13_isNamed 63 = .ok (.ior, 1) := by decide +kernel
theorem dX13_isNamed_64 : decode cX13_isNamed 64 = .ok (.istore_n 2, 1) := by decide +kernel
theorem dX13_isNamed_65 : decode cX13_isNamed 65 = .ok (.iinc 3 1, 3) := by decide +kernel
theorem dX13_isNamed_68 : decode cX13_isNamed 68 = .ok (.goto (-64), 3) := by decide +kernel
theorem dX13_isNamed_71 : decode cX13_isNamed 71 = .ok (.iload_n 2, 1) := by decide +kernel
theorem dX13_isNamed_72 : decode cX13_isNamed 72 = .ok (.ireturn, 1) := by decide +kernel
theorem dX13_isNamed_9 : decode cX13_isNamed 9 = .ok (.if_icmp .ge 62, 3) := by decide +kernel
set_option maxRecDepth 20000 in
theorem ggX13_isNamed_X13_names : GoodIn wsX13_isNamed wsX13_names := goodIn_r _ [8] rfl (by decide +kernel)
set_option maxRecDepth 20000 in
theorem gX13_isNamed_X13_names : GoodIn wsX13_isNamed (va_wsS RX13 210 yX13_names wsX13_names) := goodIn_app (goodIn_of _ (by decide +kernel)) ggX13_isNamed_X13_names
set_option maxRecDepth 20000 in
theorem in_X13_isNamed_X13 : ∀ w ∈ wsX130, w ∈ wsX13_isNamed := sub_r [9, 10, 11, 12, 13, 14, 15, 16, 17, 18, 19, 20, 21, 22, 23, 24, 25, 26, 27, 28, 29, 30, 31, 32, 33, 34, 35, 36, 37, 38, 39, 40, 41, 42, 43, 44, 45, 46, 47, 48, 49, 50, 51, 52, 53] rfl
set_option maxHeartbeats 4000000 in
set_option maxRecDepth 100000 in
theorem c_X13_isNamed (l : Launch) (D : va_G) (T : Nat → ClassId) (h0 : Nat) (fs0 : List Value) (h1 : Nat) (f1 : Nat → Int32) (h2 : Nat) (f2 : Nat → Int32) (h3 : Nat) (f3 : Nat → Int32) (x1 : Int32) (n : Int32) (e0_7 : fs0[7]? = some (.int n)) (e0_8 : fs0[8]? = some (.ref h1)) (e0_10 : fs0[10]? = some (.ref h2)) (e0_11 : fs0[11]? = some (.ref h3)) (hn : 0 ≤ n.toInt ∧ n.toInt ≤ 24) (hokR : okR f1 f2 f3) : Met l yX13_isNamed wsX13_isNamed ({ frames := 1, cells := 0, slots := 0, locals := 20 }) (pR [.ref h0, .int x1] D T [(h0, .inr (10, fs0)), (h1, .inl (T 0, 24, .inl f1)), (h2, .inl (T 0, 24, .inl f2)), (h3, .inl (T 0, 24, .inl f3))]) (vp_Si (fun r => isB r)) 0 0 (fun _ => False) := by
  refine Met.ofW (cc := cX13_isNamed) (maxL := 4) (ret := (some .boolean)) (by decide +kernel) rfl ?_
  intro p e s m args below meth c s₁ B hml hv
  obtain ⟨rfl, hP, hE⟩ := hv
  have hx := B.exec
  have hb := B.bytes
  have hr := B.returns
  have hts := atoms_spec (ws := wsX13_isNamed) B.pre
  have hown : s.vm.findClass RX13 = some m.cls := findClass_of_methodNamed B.named
  have hlocks := B.notSynchronized
  have hP : va_P D vwCl [(h0, .inr (10, fs0)), (h1, .inl (T 0, 24, .inl f1)), (h2, .inl (T 0, 24, .inl f2)), (h3, .inl (T 0, 24, .inl f3))] s.heap := hP
  have hl := lv_entry ([.ref h0, .int x1]) (n := 4) (Nat.le_of_ble_eq_true rfl)
  rw [lg_entry_eq]
  generalize (lg_sl ([.ref h0, .int x1]) ++ List.replicate (4 - (lg_sl ([.ref h0, .int x1])).length) Slot.unset).toArray = ls at hl ⊢
  have hl : lv_has ls 4 [(0, .ref h0), (1, .int x1)] := hl
  refine lv_iconst (v := 0) hx hb dX13_isNamed_0 (by decide +kernel) ?_
  refine lv_istore_n (lv' := [(2, .int 0), (0, .ref h0), (1, .int x1)]) hx hb dX13_isNamed_1 rfl hl (by decide +kernel) rfl (fun ls hl => ?_)
  refine lv_iconst (v := 0) hx hb dX13_isNamed_2 (by decide +kernel) ?_
  refine lv_istore_n (lv' := [(3, .int 0), (2, .int 0), (0, .ref h0), (1, .int x1)]) hx hb dX13_isNamed_3 rfl hl (by decide +kernel) rfl (fun ls hl => ?_)
  refine loopR (σ := (Int32) × (Int32)) (fun x9 ls => lv_has ls 4 [(3, .int x9.1), (2, .int x9.2), (0, .ref h0), (1, .int x1)] ∧ (0 ≤ x9.1.toInt ∧ isB x9.2)) (fun x9 => (24 - x9.1.toInt).toNat) (fun x9 ls hI ih => ?_) (0, 0) ls ⟨lv_sub hl [0, 1, 2, 3] rfl, ⟨(by (try dsimp only); decide), isB0⟩⟩
  obtain ⟨yy, is⟩ := x9
  obtain ⟨hl, hinv⟩ := hI
  have hl : lv_has ls 4 [(3, .int yy), (2, .int is), (0, .ref h0), (1, .int x1)] := hl
  have hinv : 0 ≤ yy.toInt ∧ isB is := hinv
  obtain ⟨hyy, hBi⟩ := hinv
  refine lv_iload_n hx hb dX13_isNamed_4 rfl (lv_at hl 0 rfl) ?_
  refine lv_aload_n hx hb dX13_isNamed_5 rfl (lv_at hl 2 rfl) ?_
  refine va_get (D := D) (ci := 10) (v := .int n) (C := RX13) (T := TX13) (N := 45) hx hb hts in_X13_isNamed_X13 hown hE.1 hP 0 rfl rfl 7 (by decide +kernel) (hts (.fieldLink RX13 205 "ClauseBookModel" "many" "I") (List.mem_of_getElem? (i := 1) rfl)) (fun _ h9 => h9) e0_7 dX13_isNamed_6 ?_
  refine lv_icmp_ge (tgt := 71) hx hb dX13_isNamed_9 (by decide +kernel) (fun c_1 => ?_) (fun c_1 => ?_)
  · rw [fa_le] at c_1
    refine lv_iload_n hx hb dX13_isNamed_71 rfl (lv_at hl 1 rfl) ?_
    exact W.zret hx hb hr (isB.nar hBi) (fun t ht hW => ⟨_, rfl, hBi, ht⟩) (fun _ h => by cases h) dX13_isNamed_72
  · rw [fa_le] at c_1
    refine lv_iload_n hx hb dX13_isNamed_12 rfl (lv_at hl 1 rfl) ?_
    refine lv_aload_n hx hb dX13_isNamed_13 rfl (lv_at hl 2 rfl) ?_
    refine va_get (D := D) (ci := 10) (v := .ref h1) (C := RX13) (T := TX13) (N := 45) hx hb hts in_X13_isNamed_X13 hown hE.1 hP 0 rfl rfl 8 (by decide +kernel) (hts (.fieldLink RX13 28 "ClauseBookModel" "kind" "[I") (List.mem_of_getElem? (i := 2) rfl)) (fun _ h9 => h9) e0_8 dX13_isNamed_14 ?_
    refine lv_iload_n hx hb dX13_isNamed_17 rfl (lv_at hl 0 rfl) ?_
    refine va_iald hx hb hE.1 hP 1 0 rfl rfl (by rw [vp_in_iff]; first | omega | (subst_vars; omega)) dX13_isNamed_18 ?_
    refine lv_topi (fun z_2 ez_2 => ?_)
    have hkz_2 : 0 ≤ z_2.toInt ∧ z_2.toInt ≤ 12 := by rw [ez_2]; exact (hokR _ (in24 (x := yy) (by omega)).1).1
    refine vp_callSi (W.runS (As := [.int z_2]) (rest := [.int is]) ⟨hx, hb, hml, hown, hts⟩ (c_X13_names l D T z_2 (by omega)) (va_cwS 1 hts gX13_isNamed_X13_names rfl rfl rfl hs_X13_names ⟨Nat.le_of_ble_eq_true rfl, Nat.le_of_ble_eq_true rfl⟩) (pR_S hP hE [] rfl) rfl rfl hl.1 rfl (lv_room (Nat.le_of_ble_eq_true rfl)) dX13_isNamed_19 ⟨Nat.le_of_ble_eq_true rfl, Nat.le_of_ble_eq_true rfl⟩) (fun r_3 hr_3 => ?_)
    refine lv_if_le (tgt := 35) hx hb dX13_isNamed_22 (by decide +kernel) (fun c_4 => ?_) (fun c_4 => ?_)
    · rw [fa_le] at c_4
      try rw [ti_0] at c_4
      refine lv_aload_n hx hb dX13_isNamed_35 rfl (lv_at hl 2 rfl) ?_
      refine va_get (D := D) (ci := 10) (v := .ref h1) (C := RX13) (T := TX13) (N := 45) hx hb hts in_X13_isNamed_X13 hown hE.1 hP 0 rfl rfl 8 (by decide +kernel) (hts (.fieldLink RX13 28 "ClauseBookModel" "kind" "[I") (List.mem_of_getElem? (i := 2) rfl)) (fun _ h9 => h9) e0_8 dX13_isNamed_36 ?_
      refine lv_iload_n hx hb dX13_isNamed_39 rfl (lv_at hl 0 rfl) ?_
      refine va_iald hx hb hE.1 hP 1 0 rfl rfl (by rw [vp_in_iff]; first | omega | (subst_vars; omega)) dX13_isNamed_40 ?_
      refine lv_topi (fun z_5 ez_5 => ?_)
      have hkz_5 : 0 ≤ z_5.toInt ∧ z_5.toInt ≤ 12 := by rw [ez_5]; exact (hokR _ (in24 (x := yy) (by omega)).1).1
      refine vp_callSi (W.runS (As := [.int z_5]) (rest := [.int is]) ⟨hx, hb, hml, hown, hts⟩ (c_X13_names l D T z_5 (by omega)) (va_cwS 1 hts gX13_isNamed_X13_names rfl rfl rfl hs_X13_names ⟨Nat.le_of_ble_eq_true rfl, Nat.le_of_ble_eq_true rfl⟩) (pR_S hP hE [] rfl) rfl rfl hl.1 rfl (lv_room (Nat.le_of_ble_eq_true rfl)) dX13_isNamed_41 ⟨Nat.le_of_ble_eq_true rfl, Nat.le_of_ble_eq_true rfl⟩) (fun r_6 hr_6 => ?_)
      refine lv_iconst (v := 1) hx hb dX13_isNamed_44 (by decide +kernel) ?_
      refine lv_icmp_le (tgt := 62) hx hb dX13_isNamed_45 (by decide +kernel) (fun c_7 => ?_) (fun c_7 => ?_)
      · rw [fa_le] at c_7
        try rw [ti_1] at c_7
        refine lv_iconst (v := 0) hx hb dX13_isNamed_62 (by decide +kernel) ?_
        refine lv_ior hx hb dX13_isNamed_63 ?_
        refine lv_topi (fun z_8 ez_8 => ?_)
        have hBz_8 : isB z_8 := by rw [ez_8]; exact isB.or hBi isB0
        refine lv_istore_n (lv' := [(2, .int z_8), (3, .int yy), (0, .ref h0), (1, .int x1)]) hx hb dX13_isNamed_64 rfl hl (by decide +kernel) rfl (fun ls hl => ?_)
        obtain ⟨z_9, ez_9⟩ : ∃ y : Int32, y = yy + 1 := ⟨_, rfl⟩
        refine lv_iinc (v := z_9) (lv' := [(3, .int z_9), (2, .int z_8), (0, .ref h0), (1, .int x1)]) hx hb dX13_isNamed_65 hl (k := 1) rfl (by rw [ez_9]; rfl) (by decide +kernel) rfl (fun ls hl => ?_)
        refine lv_goto (tgt := 4) hx hb dX13_isNamed_68 (by decide +kernel) ?_
        exact ih (z_9, z_8) ls ⟨lv_sub hl [0, 1, 2, 3] rfl, ⟨(by subst_vars; (try dsimp only); rw [inc1 (i := yy) (n := 1000) (by omega) (by decide +kernel)]; omega), hBz_8⟩⟩ (by subst_vars; (try dsimp only); rw [inc1 (i := yy) (n := 1000) (by omega) (by decide +kernel)]; omega)
      · rw [fa_le] at c_7
        try rw [ti_1] at c_7
        refine lv_aload_n hx hb dX13_isNamed_48 rfl (lv_at hl 2 rfl) ?_
        refine va_get (D := D) (ci := 10) (v := .ref h3) (C := RX13) (T := TX13) (N := 45) hx hb hts in_X13_isNamed_X13 hown hE.1 hP 0 rfl rfl 11 (by decide +kernel) (hts (.fieldLink RX13 38 "ClauseBookModel" "two" "[I") (List.mem_of_getElem? (i := 4) rfl)) (fun _ h9 => h9) e0_11 dX13_isNamed_49 ?_
        refine lv_iload_n hx hb dX13_isNamed_52 rfl (lv_at hl 0 rfl) ?_
        refine va_iald hx hb hE.1 hP 3 0 rfl rfl (by rw [vp_in_iff]; first | omega | (subst_vars; omega)) dX13_isNamed_53 ?_
        refine lv_topi (fun z_10 ez_10 => ?_)
        refine lv_iload_n hx hb dX13_isNamed_54 rfl (lv_at hl 3 rfl) ?_
        refine lv_icmp_ne (tgt := 62) hx hb dX13_isNamed_55 (by decide +kernel) (fun c_11 => ?_) (fun c_11 => ?_)
        · rw [fa_eq] at c_11
          refine lv_iconst (v := 0) hx hb dX13_isNamed_62 (by decide +kernel) ?_
          refine lv_ior hx hb dX13_isNamed_63 ?_
          refine lv_topi (fun z_12 ez_12 => ?_)
          have hBz_12 : isB z_12 := by rw [ez_12]; exact isB.or hBi isB0
          refine lv_istore_n (lv' := [(2, .int z_12), (3, .int yy), (0, .ref h0), (1, .int x1)]) hx hb dX13_isNamed_64 rfl hl (by decide +kernel) rfl (fun ls hl => ?_)
          obtain ⟨z_13, ez_13⟩ : ∃ y : Int32, y = yy + 1 := ⟨_, rfl⟩
          refine lv_iinc (v := z_13) (lv' := [(3, .int z_13), (2, .int z_12), (0, .ref h0), (1, .int x1)]) hx hb dX13_isNamed_65 hl (k := 1) rfl (by rw [ez_13]; rfl) (by decide +kernel) rfl (fun ls hl => ?_)
          refine lv_goto (tgt := 4) hx hb dX13_isNamed_68 (by decide +kernel) ?_
          exact ih (z_13, z_12) ls ⟨lv_sub hl [0, 1, 2, 3] rfl, ⟨(by subst_vars; (try dsimp only); rw [inc1 (i := yy) (n := 1000) (by omega) (by decide +kernel)]; omega), hBz_12⟩⟩ (by subst_vars; (try dsimp only); rw [inc1 (i := yy) (n := 1000) (by omega) (by decide +kernel)]; omega)
        · rw [fa_eq] at c_11
          refine lv_iconst (v := 1) hx hb dX13_isNamed_58 (by decide +kernel) ?_
          refine lv_goto (tgt := 63) hx hb dX13_isNamed_59 (by decide +kernel) ?_
          refine lv_ior hx hb dX13_isNamed_63 ?_
          refine lv_topi (fun z_14 ez_14 => ?_)
          have hBz_14 : isB z_14 := by rw [ez_14]; exact isB.or hBi isB1
          refine lv_istore_n (lv' := [(2, .int z_14), (3, .int yy), (0, .ref h0), (1, .int x1)]) hx hb dX13_isNamed_64 rfl hl (by decide +kernel) rfl (fun ls hl => ?_)
          obtain ⟨z_15, ez_15⟩ : ∃ y : Int32, y = yy + 1 := ⟨_, rfl⟩
          refine lv_iinc (v := z_15) (lv' := [(3, .int z_15), (2, .int z_14), (0, .ref h0), (1, .int x1)]) hx hb dX13_isNamed_65 hl (k := 1) rfl (by rw [ez_15]; rfl) (by decide +kernel) rfl (fun ls hl => ?_)
          refine lv_goto (tgt := 4) hx hb dX13_isNamed_68 (by decide +kernel) ?_
          exact ih (z_15, z_14) ls ⟨lv_sub hl [0, 1, 2, 3] rfl, ⟨(by subst_vars; (try dsimp only); rw [inc1 (i := yy) (n := 1000) (by omega) (by decide +kernel)]; omega), hBz_14⟩⟩ (by subst_vars; (try dsimp only); rw [inc1 (i := yy) (n := 1000) (by omega) (by decide +kernel)]; omega)
    · rw [fa_le] at c_4
      try rw [ti_0] at c_4
      refine lv_aload_n hx hb dX13_isNamed_25 rfl (lv_at hl 2 rfl) ?_
      refine va_get (D := D) (ci := 10) (v := .ref h2) (C := RX13) (T := TX13) (N := 45) hx hb hts in_X13_isNamed_X13 hown hE.1 hP 0 rfl rfl 10 (by decide +kernel) (hts (.fieldLink RX13 35 "ClauseBookModel" "one" "[I") (List.mem_of_getElem? (i := 3) rfl)) (fun _ h9 => h9) e0_10 dX13_isNamed_26 ?_
      refine lv_iload_n hx hb dX13_isNamed_29 rfl (lv_at hl 0 rfl) ?_
      refine va_iald hx hb hE.1 hP 2 0 rfl rfl (by rw [vp_in_iff]; first | omega | (subst_vars; omega)) dX13_isNamed_30 ?_
      refine lv_topi (fun z_16 ez_16 => ?_)
      refine lv_iload_n hx hb dX13_isNamed_31 rfl (lv_at hl 3 rfl) ?_
      refine lv_icmp_eq (tgt := 58) hx hb dX13_isNamed_32 (by decide +kernel) (fun c_17 => ?_) (fun c_17 => ?_)
      · rw [fa_eq] at c_17
        refine lv_iconst (v := 1) hx hb dX13_isNamed_58 (by decide +kernel) ?_
        refine lv_goto (tgt := 63) hx hb dX13_isNamed_59 (by decide +kernel) ?_
        refine lv_ior hx hb dX13_isNamed_63 ?_
        refine lv_topi (fun z_18 ez_18 => ?_)
        have hBz_18 : isB z_18 := by rw [ez_18]; exact isB.or hBi isB1
        refine lv_istore_n (lv' := [(2, .int z_18), (3, .int yy), (0, .ref h0), (1, .int x1)]) hx hb dX13_isNamed_64 rfl hl (by decide +kernel) rfl (fun ls hl => ?_)
        obtain ⟨z_19, ez_19⟩ : ∃ y : Int32, y = yy + 1 := ⟨_, rfl⟩
        refine lv_iinc (v := z_19) (lv' := [(3, .int z_19), (2, .int z_18), (0, .ref h0), (1, .int x1)]) hx hb dX13_isNamed_65 hl (k := 1) rfl (by rw [ez_19]; rfl) (by decide +kernel) rfl (fun ls hl => ?_)
        refine lv_goto (tgt := 4) hx hb dX13_isNamed_68 (by decide +kernel) ?_
        exact ih (z_19, z_18) ls ⟨lv_sub hl [0, 1, 2, 3] rfl, ⟨(by subst_vars; (try dsimp only); rw [inc1 (i := yy) (n := 1000) (by omega) (by decide +kernel)]; omega), hBz_18⟩⟩ (by subst_vars; (try dsimp only); rw [inc1 (i := yy) (n := 1000) (by omega) (by decide +kernel)]; omega)
      · rw [fa_eq] at c_17
        refine lv_aload_n hx hb dX13_isNamed_35 rfl (lv_at hl 2 rfl) ?_
        refine va_get (D := D) (ci := 10) (v := .ref h1) (C := RX13) (T := TX13) (N := 45) hx hb hts in_X13_isNamed_X13 hown hE.1 hP 0 rfl rfl 8 (by decide +kernel) (hts (.fieldLink RX13 28 "ClauseBookModel" "kind" "[I") (List.mem_of_getElem? (i := 2) rfl)) (fun _ h9 => h9) e0_8 dX13_isNamed_36 ?_
        refine lv_iload_n hx hb dX13_isNamed_39 rfl (lv_at hl 0 rfl) ?_
        refine va_iald hx hb hE.1 hP 1 0 rfl rfl (by rw [vp_in_iff]; first | omega | (subst_vars; omega)) dX13_isNamed_40 ?_
        refine lv_topi (fun z_20 ez_20 => ?_)
        have hkz_20 : 0 ≤ z_20.toInt ∧ z_20.toInt ≤ 12 := by rw [ez_20]; exact (hokR _ (in24 (x := yy) (by omega)).1).1
        refine vp_callSi (W.runS (As := [.int z_20]) (rest := [.int is]) ⟨hx, hb, hml, hown, hts⟩ (c_X13_names l D T z_20 (by omega)) (va_cwS 1 hts gX13_isNamed_X13_names rfl rfl rfl hs_X13_names ⟨Nat.le_of_ble_eq_true rfl, Nat.le_of_ble_eq_true rfl⟩) (pR_S hP hE [] rfl) rfl rfl hl.1 rfl (lv_room (Nat.le_of_ble_eq_true rfl)) dX13_isNamed_41 ⟨Nat.le_of_ble_eq_true rfl, Nat.le_of_ble_eq_true rfl⟩) (fun r_21 hr_21 => ?_)
        refine lv_iconst (v := 1) hx hb dX13_isNamed_44 (by decide +kernel) ?_
        refine lv_icmp_le (tgt := 62) hx hb dX13_isNamed_45 (by decide +kernel) (fun c_22 => ?_) (fun c_22 => ?_)
        · rw [fa_le] at c_22
          try rw [ti_1] at c_22
          refine lv_iconst (v := 0) hx hb dX13_isNamed_62 (by decide +kernel) ?_
          refine lv_ior hx hb dX13_isNamed_63 ?_
          refine lv_topi (fun z_23 ez_23 => ?_)
          have hBz_23 : isB z_23 := by rw [ez_23]; exact isB.or hBi isB0
          refine lv_istore_n (lv' := [(2, .int z_23), (3, .int yy), (0, .ref h0), (1, .int x1)]) hx hb dX13_isNamed_64 rfl hl (by decide +kernel) rfl (fun ls hl => ?_)
          obtain ⟨z_24, ez_24⟩ : ∃ y : Int32, y = yy + 1 := ⟨_, rfl⟩
          refine lv_iinc (v := z_24) (lv' := [(3, .int z_24), (2, .int z_23), (0, .ref h0), (1, .int x1)]) hx hb dX13_isNamed_65 hl (k := 1) rfl (by rw [ez_24]; rfl) (by decide +kernel) rfl (fun ls hl => ?_)
          refine lv_goto (tgt := 4) hx hb dX13_isNamed_68 (by decide +kernel) ?_
          exact ih (z_24, z_23) ls ⟨lv_sub hl [0, 1, 2, 3] rfl, ⟨(by subst_vars; (try dsimp only); rw [inc1 (i := yy) (n := 1000) (by omega) (by decide +kernel)]; omega), hBz_23⟩⟩ (by subst_vars; (try dsimp only); rw [inc1 (i := yy) (n := 1000) (by omega) (by decide +kernel)]; omega)
        · rw [fa_le] at c_22
          try rw [ti_1] at c_22
          refine lv_aload_n hx hb dX13_isNamed_48 rfl (lv_at hl 2 rfl) ?_
          refine va_get (D := D) (ci := 10) (v := .ref h3) (C := RX13) (T := TX13) (N := 45) hx hb hts in_X13_isNamed_X13 hown hE.1 hP 0 rfl rfl 11 (by decide +kernel) (hts (.fieldLink RX13 38 "ClauseBookModel" "two" "[I") (List.mem_of_getElem? (i := 4) rfl)) (fun _ h9 => h9) e0_11 dX13_isNamed_49 ?_
          refine lv_iload_n hx hb dX13_isNamed_52 rfl (lv_at hl 0 rfl) ?_
          refine va_iald hx hb hE.1 hP 3 0 rfl rfl (by rw [vp_in_iff]; first | omega | (subst_vars; omega)) dX13_isNamed_53 ?_
          refine lv_topi (fun z_25 ez_25 => ?_)
          refine lv_iload_n hx hb dX13_isNamed_54 rfl (lv_at hl 3 rfl) ?_
          refine lv_icmp_ne (tgt := 62) hx hb dX13_isNamed_55 (by decide +kernel) (fun c_26 => ?_) (fun c_26 => ?_)
          · rw [fa_eq] at c_26
            refine lv_iconst (v := 0) hx hb dX13_isNamed_62 (by decide +kernel) ?_
            refine lv_ior hx hb dX13_isNamed_63 ?_
            refine lv_topi (fun z_27 ez_27 => ?_)
            have hBz_27 : isB z_27 := by rw [ez_27]; exact isB.or hBi isB0
            refine lv_istore_n (lv' := [(2, .int z_27), (3, .int yy), (0, .ref h0), (1, .int x1)]) hx hb dX13_isNamed_64 rfl hl (by decide +kernel) rfl (fun ls hl => ?_)
            obtain ⟨z_28, ez_28⟩ : ∃ y : Int32, y = yy + 1 := ⟨_, rfl⟩
            refine lv_iinc (v := z_28) (lv' := [(3, .int z_28), (2, .int z_27), (0, .ref h0), (1, .int x1)]) hx hb dX13_isNamed_65 hl (k := 1) rfl (by rw [ez_28]; rfl) (by decide +kernel) rfl (fun ls hl => ?_)
            refine lv_goto (tgt := 4) hx hb dX13_isNamed_68 (by decide +kernel) ?_
            exact ih (z_28, z_27) ls ⟨lv_sub hl [0, 1, 2, 3] rfl, ⟨(by subst_vars; (try dsimp only); rw [inc1 (i := yy) (n := 1000) (by omega) (by decide +kernel)]; omega), hBz_27⟩⟩ (by subst_vars; (try dsimp only); rw [inc1 (i := yy) (n := 1000) (by omega) (by decide +kernel)]; omega)
          · rw [fa_eq] at c_26
            refine lv_iconst (v := 1) hx hb dX13_isNamed_58 (by decide +kernel) ?_
            refine lv_goto (tgt := 63) hx hb dX13_isNamed_59 (by decide +kernel) ?_
            refine lv_ior hx hb dX13_isNamed_63 ?_
            refine lv_topi (fun z_29 ez_29 => ?_)
            have hBz_29 : isB z_29 := by rw [ez_29]; exact isB.or hBi isB1
            refine lv_istore_n (lv' := [(2, .int z_29), (3, .int yy), (0, .ref h0), (1, .int x1)]) hx hb dX13_isNamed_64 rfl hl (by decide +kernel) rfl (fun ls hl => ?_)
            obtain ⟨z_30, ez_30⟩ : ∃ y : Int32, y = yy + 1 := ⟨_, rfl⟩
            refine lv_iinc (v := z_30) (lv' := [(3, .int z_30), (2, .int z_29), (0, .ref h0), (1, .int x1)]) hx hb dX13_isNamed_65 hl (k := 1) rfl (by rw [ez_30]; rfl) (by decide +kernel) rfl (fun ls hl => ?_)
            refine lv_goto (tgt := 4) hx hb dX13_isNamed_68 (by decide +kernel) ?_
            exact ih (z_30, z_29) ls ⟨lv_sub hl [0, 1, 2, 3] rfl, ⟨(by subst_vars; (try dsimp only); rw [inc1 (i := yy) (n := 1000) (by omega) (by decide +kernel)]; omega), hBz_29⟩⟩ (by subst_vars; (try dsimp only); rw [inc1 (i := yy) (n := 1000) (by omega) (by decide +kernel)]; omega)
theorem dX13_count_0 : decode cX13_count 0 = .ok (.iconst 0, 1) := by decide +kernel
theorem dX13_count_1 : decode cX13_count 1 = .ok (.istore_n 2, 1) := by decide +kernel
theorem dX13_count_10 : decode cX13_count 10 = .ok (.getfield 205, 3) := by decide +kernel
theorem dX13_count_100 : decode cX13_count 100 = .ok (.goto (-58), 3) := by decide +kernel
theorem dX13_count_103 : decode cX13_count 103 = .ok (.iload_n 1, 1) := by decide +kernel
theorem dX13_count_104 : decode cX13_count 104 = .ok (.ifCond .ne 10, 3) := by decide +kernel
theorem dX13_count_107 : decode cX13_count 107 = .ok (.aload_n 0, 1) := by decide +kernel
theorem dX13_count_108 : decode cX13_count 108 = .ok (.getfield 205, 3) := by decide +kernel
theorem dX13_count_111 : decode cX13_count 111 = .ok (.goto 35, 3) := by decide +kernel
theorem dX13_count_114 : decode cX13_count 114 = .ok (.iload_n 1, 1) := by decide +kernel
theorem dX13_count_115 : decode cX13_count 115 = .ok (.iconst 1, 1) := by decide +kernel
theorem dX13_count_116 : decode cX13_count 116 = .ok (.if_icmp .ne 10, 3) := by decide +kernel
theorem dX13_count_119 : decode cX13_count 119 = .ok (.aload_n 0, 1) := by decide +kernel
theorem dX13_count_120 : decode cX13_count 120 = .ok (.getfield 181, 3) := by decide +kernel
theorem dX13_count_123 : decode cX13_count 123 = .ok (.goto 23, 3) := by decide +kernel
theorem dX13_count_126 : decode cX13_count 126 = .ok (.iload_n 1, 1) := by decide +kernel
theorem dX13_count_127 : decode cX13_count 127 = .ok (.iconst 2, 1) := by decide +kernel
theorem dX13_count_128 : decode cX13_count 128 = .ok (.if_icmp .ne 7, 3) := by decide +kernel
theorem dX13_count_13 : decode cX13_count 13 = .ok (.if_icmp .ge 26, 3) := by decide +kernel
theorem dX13_count_131 : decode cX13_count 131 = .ok (.iload_n 2, 1) := by decide +kernel
theorem dX13_count_132 : decode cX13_count 132 = .ok (.goto 14, 3) := by decide +kernel
theorem dX13_count_135 : decode cX13_count 135 = .ok (.iload_n 1, 1) := by decide +kernel
theorem dX13_count_136 : decode cX13_count 136 = .ok (.iconst 3, 1) := by decide +kernel
theorem dX13_count_137 : decode cX13_count 137 = .ok (.if_icmp .ne 7, 3) := by decide +kernel
theorem dX13_count_140 : decode cX13_count 140 = .ok (.iload_n 3, 1) := by decide +kernel
theorem dX13_count_141 : decode cX13_count 141 = .ok (.goto 5, 3) := by decide +kernel
theorem dX13_count_144 : decode cX13_count 144 = .ok (.bipush (-2), 2) := by decide +kernel
theorem dX13_count_146 : decode cX13_count 146 = .ok (.ireturn, 1) := by decide +kernel
theorem dX13_count_16 : decode cX13_count 16 = .ok (.iload_n 2, 1) := by decide +kernel
theorem dX13_count_17 : decode cX13_count 17 = .ok (.aload_n 0, 1) := by decide +kernel
theorem dX13_count_18 : decode cX13_count 18 = .ok (.iload 4, 2) := by decide +kernel
theorem dX13_count_2 : decode cX13_count 2 = .ok (.iconst 0, 1) := by decide +kernel
theorem dX13_count_20 : decode cX13_count 20 = .ok (.invokevirtual 443, 3) := by decide +kernel
theorem dX13_count_23 : decode cX13_count 23 = .ok (.ifCond .eq 7, 3) := by decide +kernel
theorem dX13_count_26 : decode cX13_count 26 = .ok (.iconst 0, 1) := by decide +kernel
theorem dX13_count_27 : decode cX13_count 27 = .ok (.goto 4, 3) := by decide +kernel
theorem dX13_count_3 : decode cX13_count 3 = .ok (.istore_n 3, 1) := by decide +kernel
theorem dX13_count_30 : decode cX13_count 30 = .ok (.iconst 1, 1) := by decide +kernel
theorem dX13_count_31 : decode cX13_count 31 = .ok (.iadd, 1) := by decide +kernel
theorem dX13_count_32 : decode cX13_count 32 = .ok (.istore_n 2, 1) := by decide +kernel
theorem dX13_count_33 : decode cX13_count 33 = .ok (.iinc 4 1, 3) := by decide +kernel
theorem dX13_count_36 : decode cX13_count 36 = .ok (.goto (-29), 3) := by decide +kernel
theorem dX13_count_39 : decode cX13_count 39 = .ok (.iconst 0, 1) := by decide +kernel
theorem dX13_count_4 : decode cX13_count 4 = .ok (.iconst 0, 1) := by decide +kernel
theorem dX13_count_40 : decode cX13_count 40 = .ok (.istore 4, 2) := by decide +kernel
theorem dX13_count_42 : decode cX13_count 42 = .ok (.iload 4, 2) := by decide +kernel
theorem dX13_count_44 : decode cX13_count 44 = .ok (.iconst 3, 1) := by decide +kernel
theorem dX13_count_45 : decode cX13_count 45 = .ok (.if_icmp .ge 58, 3) := by decide +kernel
theorem dX13_count_48 : decode cX13_count 48 = .ok (.iconst 0, 1) := by decide +kernel
theorem dX13_count_49 : decode cX13_count 49 = .ok (.istore 5, 2) := by decide +kernel
theorem dX13_count_5 : decode cX13_count 5 = .ok (.istore 4, 2) := by decide +kernel
theorem dX13_count_51 : decode cX13_count 51 = .ok (.iload 5, 2) := by decide +kernel
theorem dX13_count_53 : decode cX13_count 53 = .ok (.aload_n 0, 1) := by decide +kernel
theorem dX13_count_54 : decode cX13_count 54 = .ok (.getfield 44, 3) := by decide +kernel
theorem dX13_count_57 : decode cX13_count 57 = .ok (.iload 4, 2) := by decide +kernel
theorem dX13_count_59 : decode cX13_count 59 = .ok (.iaload, 1) := by decide +kernel
theorem dX13_count_60 : decode cX13_count 60 = .ok (.if_icmp .ge 37, 3) := by decide +kernel
theorem dX13_count_63 : decode cX13_count 63 = .ok (.iload_n 3, 1) := by decide +kernel
theorem dX13_count_64 : decode cX13_count 64 = .ok (.aload_n 0, 1) := by decide +kernel
theorem dX13_count_65 : decode cX13_count 65 = .ok (.aload_n 0, 1) := by decide +kernel
theorem dX13_count_66 : decode cX13_count 66 = .ok (.getfield 41, 3) := by decide +kernel
theorem dX13_count_69 : decode cX13_count 69 = .ok (.bipush 12, 2) := by decide +kernel
theorem dX13_count_7 : decode cX13_count 7 = .ok (.iload 4, 2) := by decide +kernel
theorem dX13_count_71 : decode cX13_count 71 = .ok (.iload 4, 2) := by decide +kernel
theorem dX13_count_73 : decode cX13_count 73 = .ok (.imul, 1) := by decide +kernel
theorem dX13_count_74 : decode cX13_count 74 = .ok (.iload 5, 2) := by decide +kernel
theorem dX13_count_76 : decode cX13_count 76 = .ok (.iadd, 1) := by decide +kernel
theorem dX13_count_77 : decode cX13_count 77 = .ok (.iaload, 1) := by decide +kernel
theorem dX13_count_78 : decode cX13_count 78 = .ok (.invokevirtual 233, 3) := by decide +kernel
theorem dX13_count_81 : decode cX13_count 81 = .ok (.ifCond .eq 7, 3) := by decide +kernel
theorem dX13_count_84 : decode cX13_count 84 = .ok (.iconst 1, 1) := by decide +kernel
theorem dX13_count_85 : decode cX13_count 85 = .ok (.goto 4, 3) := by decide +kernel
theorem dX13_count_88 : decode cX13_count 88 = .ok (.iconst 0, 1) := by decide +kernel
theorem dX13_count_89 : decode cX13_count 89 = .ok (.iadd, 1) := by decide +kernel
theorem dX13_count_9 : decode cX13_count 9 = .ok (.aload_n 0, 1) := by decide +kernel
theorem dX13_count_90 : decode cX13_count 90 = .ok (.istore_n 3, 1) := by decide +kernel
theorem dX13_count_91 : decode cX13_count 91 = .ok (.iinc 5 1, 3) := by decide +kernel
theorem dX13_count_94 : decode cX13_count 94 = .ok (.goto (-43), 3) := by decide +kernel
theorem dX13_count_97 : decode cX13_count 97 = .ok (.iinc 4 1, 3) := by decide +kernel
set_option maxRecDepth 20000 in
theorem ggX13_count_X13_isClause : GoodIn wsX13_count wsX13_isClause := goodIn_r _ [19, 1, 20, 21, 8, 22, 23, 24, 25, 26, 27, 28, 29, 30, 31, 32, 33, 34, 35, 36, 37, 38, 39, 40, 41, 42, 43, 44, 45, 46, 47, 48, 49, 50, 51, 52, 53, 54, 55, 56, 57, 58, 59, 60, 61, 62, 63, 64, 65, 66, 67] rfl (by decide +kernel)
set_option maxRecDepth 20000 in
theorem ggX13_count_X13_isNamed : GoodIn wsX13_count wsX13_isNamed := goodIn_r _ [9, 1, 10, 11, 12, 13, 14, 8, 15, 23, 24, 25, 26, 27, 28, 29, 30, 31, 32, 33, 34, 35, 36, 37, 38, 39, 40, 41, 42, 43, 44, 45, 46, 47, 48, 49, 50, 51, 52, 53, 54, 55, 56, 57, 58, 59, 60, 61, 62, 63, 64, 65, 66, 67] rfl (by decide +kernel)
set_option maxRecDepth 20000 in
theorem gX13_count_X13_isClause : GoodIn wsX13_count (wsV RX13 233 RX13 yX13_isClause wsX13_isClause) := goodIn_app (goodIn_r _ [16, 17, 18, 8] rfl (by decide +kernel)) ggX13_count_X13_isClause
set_option maxRecDepth 20000 in
theorem gX13_count_X13_isNamed : GoodIn wsX13_count (wsV RX13 443 RX13 yX13_isNamed wsX13_isNamed) := goodIn_app (goodIn_r _ [5, 6, 7, 8] rfl (by decide +kernel)) ggX13_count_X13_isNamed
theorem hv_X13_isNamed : yX13_isNamed.cls = RX13 ∧ yX13_isNamed.cls ≠ "java/lang/invoke/MethodHandle" ∧ yX13_isNamed.cls ≠ "java/lang/invoke/VarHandle" ∧ (parseMethodDescriptor yX13_isNamed.desc).map (fun d => d.parameters.length) = some 1 := by decide +kernel
set_option maxRecDepth 20000 in
theorem in_X13_count_X13 : ∀ w ∈ wsX130, w ∈ wsX13_count := sub_r [23, 24, 25, 26, 27, 28, 29, 30, 31, 32, 33, 34, 35, 36, 37, 38, 39, 40, 41, 42, 43, 44, 45, 46, 47, 48, 49, 50, 51, 52, 53, 54, 55, 56, 57, 58, 59, 60, 61, 62, 63, 64, 65, 66, 67] rfl
set_option maxHeartbeats 4000000 in
set_option maxRecDepth 100000 in
theorem c_X13_count (l : Launch) (D : va_G) (T : Nat → ClassId) (sz : Nat) (h0 : Nat) (q : Nat → Int32) (v : Int64) (w : Int64) (a : Nat → Nat) (f8 : Nat → Int32) (f10 : Nat → Int32) (f11 : Nat → Int32) (f12 : Nat → Int32) (f13 : Nat → Int32) (x1 : Int32) (hm : 0 ≤ (q 7).toInt ∧ (q 7).toInt ≤ 24) (hokR : okR f8 f10 f11) (hbg : ∀ k : Nat, k < 3 → 0 ≤ (f13 k).toInt ∧ (f13 k).toInt ≤ 12) : Met l yX13_count wsX13_count ({ frames := 2, cells := 0, slots := 0, locals := 46 }) (pW [.ref h0, .int x1] D T [(h0, .inr (10, (Value.int (q 0) :: Value.int (q 1) :: Value.int (q 2) :: Value.int (q 3) :: Value.int (q 4) :: Value.int (q 5) :: Value.int (q 6) :: Value.int (q 7) :: Value.ref (a 8) :: Value.ref (a 9) :: Value.ref (a 10) :: Value.ref (a 11) :: Value.ref (a 12) :: Value.ref (a 13) :: Value.int (q 14) :: Value.long v :: Value.long w :: Value.ref (a 17) :: Value.ref (a 18) :: Value.ref (a 19) :: Value.ref (a 20) :: Value.ref (a 21) :: Value.ref (a 22) :: Value.ref (a 23) :: Value.int (q 24) :: Value.ref (a 25) :: Value.int (q 26) :: Value.ref (a 27) :: Value.int (q 28) :: Value.int (q 29) :: Value.int (q 30) :: Value.int (q 31) :: Value.int (q 32) :: Value.int (q 33) :: Value.ref (a 34) :: Value.ref (a 35) :: Value.ref (a 36) :: Value.ref (a 37) :: Value.ref (a 38) :: Value.ref (a 39) :: Value.ref (a 40) :: Value.int (q 41) :: Value.ref (a 42) :: Value.int (q 43) :: Value.int (q 44) :: []))), ((a 8), .inl (T 0, 24, .inl f8)), ((a 10), .inl (T 0, 24, .inl f10)), ((a 11), .inl (T 0, 24, .inl f11)), ((a 12), .inl (T 0, 36, .inl f12)), ((a 13), .inl (T 0, 3, .inl f13))] sz) (va_Qi (fun (r : Int32) (u : Unit) => True) (bW D (va_A [(h0, .inr (10, (Value.int (q 0) :: Value.int (q 1) :: Value.int (q 2) :: Value.int (q 3) :: Value.int (q 4) :: Value.int (q 5) :: Value.int (q 6) :: Value.int (q 7) :: Value.ref (a 8) :: Value.ref (a 9) :: Value.ref (a 10) :: Value.ref (a 11) :: Value.ref (a 12) :: Value.ref (a 13) :: Value.int (q 14) :: Value.long v :: Value.long w :: Value.ref (a 17) :: Value.ref (a 18) :: Value.ref (a 19) :: Value.ref (a 20) :: Value.ref (a 21) :: Value.ref (a 22) :: Value.ref (a 23) :: Value.int (q 24) :: Value.ref (a 25) :: Value.int (q 26) :: Value.ref (a 27) :: Value.int (q 28) :: Value.int (q 29) :: Value.int (q 30) :: Value.int (q 31) :: Value.int (q 32) :: Value.int (q 33) :: Value.ref (a 34) :: Value.ref (a 35) :: Value.ref (a 36) :: Value.ref (a 37) :: Value.ref (a 38) :: Value.ref (a 39) :: Value.ref (a 40) :: Value.int (q 41) :: Value.ref (a 42) :: Value.int (q 43) :: Value.int (q 44) :: []))), ((a 8), .inl (T 0, 24, .inl f8)), ((a 10), .inl (T 0, 24, .inl f10)), ((a 11), .inl (T 0, 24, .inl f11)), ((a 12), .inl (T 0, 36, .inl f12)), ((a 13), .inl (T 0, 3, .inl f13))] sz) (fun (u : Unit) => [(h0, .inr (10, (Value.int (q 0) :: Value.int (q 1) :: Value.int (q 2) :: Value.int (q 3) :: Value.int (q 4) :: Value.int (q 5) :: Value.int (q 6) :: Value.int (q 7) :: Value.ref (a 8) :: Value.ref (a 9) :: Value.ref (a 10) :: Value.ref (a 11) :: Value.ref (a 12) :: Value.ref (a 13) :: Value.int (q 14) :: Value.long v :: Value.long w :: Value.ref (a 17) :: Value.ref (a 18) :: Value.ref (a 19) :: Value.ref (a 20) :: Value.ref (a 21) :: Value.ref (a 22) :: Value.ref (a 23) :: Value.int (q 24) :: Value.ref (a 25) :: Value.int (q 26) :: Value.ref (a 27) :: Value.int (q 28) :: Value.int (q 29) :: Value.int (q 30) :: Value.int (q 31) :: Value.int (q 32) :: Value.int (q 33) :: Value.ref (a 34) :: Value.ref (a 35) :: Value.ref (a 36) :: Value.ref (a 37) :: Value.ref (a 38) :: Value.ref (a 39) :: Value.ref (a 40) :: Value.int (q 41) :: Value.ref (a 42) :: Value.int (q 43) :: Value.int (q 44) :: []))), ((a 8), .inl (T 0, 24, .inl f8)), ((a 10), .inl (T 0, 24, .inl f10)), ((a 11), .inl (T 0, 24, .inl f11)), ((a 12), .inl (T 0, 36, .inl f12)), ((a 13), .inl (T 0, 3, .inl f13))])) (va_A [(h0, .inr (10, (Value.int (q 0) :: Value.int (q 1) :: Value.int (q 2) :: Value.int (q 3) :: Value.int (q 4) :: Value.int (q 5) :: Value.int (q 6) :: Value.int (q 7) :: Value.ref (a 8) :: Value.ref (a 9) :: Value.ref (a 10) :: Value.ref (a 11) :: Value.ref (a 12) :: Value.ref (a 13) :: Value.int (q 14) :: Value.long v :: Value.long w :: Value.ref (a 17) :: Value.ref (a 18) :: Value.ref (a 19) :: Value.ref (a 20) :: Value.ref (a 21) :: Value.ref (a 22) :: Value.ref (a 23) :: Value.int (q 24) :: Value.ref (a 25) :: Value.int (q 26) :: Value.ref (a 27) :: Value.int (q 28) :: Value.int (q 29) :: Value.int (q 30) :: Value.int (q 31) :: Value.int (q 32) :: Value.int (q 33) :: Value.ref (a 34) :: Value.ref (a 35) :: Value.ref (a 36) :: Value.ref (a 37) :: Value.ref (a 38) :: Value.ref (a 39) :: Value.ref (a 40) :: Value.int (q 41) :: Value.ref (a 42) :: Value.int (q 43) :: Value.int (q 44) :: []))), ((a 8), .inl (T 0, 24, .inl f8)), ((a 10), .inl (T 0, 24, .inl f10)), ((a 11), .inl (T 0, 24, .inl f11)), ((a 12), .inl (T 0, 36, .inl f12)), ((a 13), .inl (T 0, 3, .inl f13))] sz)) 0 0 (va_A [(h0, .inr (10, (Value.int (q 0) :: Value.int (q 1) :: Value.int (q 2) :: Value.int (q 3) :: Value.int (q 4) :: Value.int (q 5) :: Value.int (q 6) :: Value.int (q 7) :: Value.ref (a 8) :: Value.ref (a 9) :: Value.ref (a 10) :: Value.ref (a 11) :: Value.ref (a 12) :: Value.ref (a 13) :: Value.int (q 14) :: Value.long v :: Value.long w :: Value.ref (a 17) :: Value.ref (a 18) :: Value.ref (a 19) :: Value.ref (a 20) :: Value.ref (a 21) :: Value.ref (a 22) :: Value.ref (a 23) :: Value.int (q 24) :: Value.ref (a 25) :: Value.int (q 26) :: Value.ref (a 27) :: Value.int (q 28) :: Value.int (q 29) :: Value.int (q 30) :: Value.int (q 31) :: Value.int (q 32) :: Value.int (q 33) :: Value.ref (a 34) :: Value.ref (a 35) :: Value.ref (a 36) :: Value.ref (a 37) :: Value.ref (a 38) :: Value.ref (a 39) :: Value.ref (a 40) :: Value.int (q 41) :: Value.ref (a 42) :: Value.int (q 43) :: Value.int (q 44) :: []))), ((a 8), .inl (T 0, 24, .inl f8)), ((a 10), .inl (T 0, 24, .inl f10)), ((a 11), .inl (T 0, 24, .inl f11)), ((a 12), .inl (T 0, 36, .inl f12)), ((a 13), .inl (T 0, 3, .inl f13))] sz) := by
  refine Met.ofW (cc := cX13_count) (maxL := 6) (ret := (some .int)) (by decide +kernel) rfl ?_
  intro p e s m args below meth c s₁ B hml hv
  obtain ⟨rfl, hsz, hP, hE, hD0⟩ := hv
  have hx := B.exec
  have hb := B.bytes
  have hr := B.returns
  have hts := atoms_spec (ws := wsX13_count) B.pre
  have hown : s.vm.findClass RX13 = some m.cls := findClass_of_methodNamed B.named
  have hlocks := B.notSynchronized
  subst hsz
  have hD := hD0.self (sz := s.heap.size)
  generalize hAe : va_A [(h0, .inr (10, (Value.int (q 0) :: Value.int (q 1) :: Value.int (q 2) :: Value.int (q 3) :: Value.int (q 4) :: Value.int (q 5) :: Value.int (q 6) :: Value.int (q 7) :: Value.ref (a 8) :: Value.ref (a 9) :: Value.ref (a 10) :: Value.ref (a 11) :: Value.ref (a 12) :: Value.ref (a 13) :: Value.int (q 14) :: Value.long v :: Value.long w :: Value.ref (a 17) :: Value.ref (a 18) :: Value.ref (a 19) :: Value.ref (a 20) :: Value.ref (a 21) :: Value.ref (a 22) :: Value.ref (a 23) :: Value.int (q 24) :: Value.ref (a 25) :: Value.int (q 26) :: Value.ref (a 27) :: Value.int (q 28) :: Value.int (q 29) :: Value.int (q 30) :: Value.int (q 31) :: Value.int (q 32) :: Value.int (q 33) :: Value.ref (a 34) :: Value.ref (a 35) :: Value.ref (a 36) :: Value.ref (a 37) :: Value.ref (a 38) :: Value.ref (a 39) :: Value.ref (a 40) :: Value.int (q 41) :: Value.ref (a 42) :: Value.int (q 43) :: Value.int (q 44) :: []))), ((a 8), .inl (T 0, 24, .inl f8)), ((a 10), .inl (T 0, 24, .inl f10)), ((a 11), .inl (T 0, 24, .inl f11)), ((a 12), .inl (T 0, 36, .inl f12)), ((a 13), .inl (T 0, 3, .inl f13))] s.heap.size = A at hD ⊢
  have hA : ∀ q : Nat, s.heap.size ≤ q → A q := fun q h => by rw [← hAe]; exact Or.inr h
  have hS : va_S A s.heap s.heap [] := va_S.rf
  have hP : va_P D vwCl [(h0, .inr (10, (Value.int (q 0) :: Value.int (q 1) :: Value.int (q 2) :: Value.int (q 3) :: Value.int (q 4) :: Value.int (q 5) :: Value.int (q 6) :: Value.int (q 7) :: Value.ref (a 8) :: Value.ref (a 9) :: Value.ref (a 10) :: Value.ref (a 11) :: Value.ref (a 12) :: Value.ref (a 13) :: Value.int (q 14) :: Value.long v :: Value.long w :: Value.ref (a 17) :: Value.ref (a 18) :: Value.ref (a 19) :: Value.ref (a 20) :: Value.ref (a 21) :: Value.ref (a 22) :: Value.ref (a 23) :: Value.int (q 24) :: Value.ref (a 25) :: Value.int (q 26) :: Value.ref (a 27) :: Value.int (q 28) :: Value.int (q 29) :: Value.int (q 30) :: Value.int (q 31) :: Value.int (q 32) :: Value.int (q 33) :: Value.ref (a 34) :: Value.ref (a 35) :: Value.ref (a 36) :: Value.ref (a 37) :: Value.ref (a 38) :: Value.ref (a 39) :: Value.ref (a 40) :: Value.int (q 41) :: Value.ref (a 42) :: Value.int (q 43) :: Value.int (q 44) :: []))), ((a 8), .inl (T 0, 24, .inl f8)), ((a 10), .inl (T 0, 24, .inl f10)), ((a 11), .inl (T 0, 24, .inl f11)), ((a 12), .inl (T 0, 36, .inl f12)), ((a 13), .inl (T 0, 3, .inl f13))] s.heap := hP
  have hl := lv_entry ([.ref h0, .int x1]) (n := 6) (Nat.le_of_ble_eq_true rfl)
  rw [lg_entry_eq]
  generalize (lg_sl ([.ref h0, .int x1]) ++ List.replicate (6 - (lg_sl ([.ref h0, .int x1])).length) Slot.unset).toArray = ls at hl ⊢
  have hl : lv_has ls 6 [(0, .ref h0), (1, .int x1)] := hl
  clear hD0
  refine lv_iconst (v := 0) hx hb dX13_count_0 (by decide +kernel) ?_
  refine lv_istore_n (lv' := [(2, .int 0), (0, .ref h0), (1, .int x1)]) hx hb dX13_count_1 rfl hl (by decide +kernel) rfl (fun ls hl => ?_)
  refine lv_iconst (v := 0) hx hb dX13_count_2 (by decide +kernel) ?_
  refine lv_istore_n (lv' := [(3, .int 0), (2, .int 0), (0, .ref h0), (1, .int x1)]) hx hb dX13_count_3 rfl hl (by decide +kernel) rfl (fun ls hl => ?_)
  refine lv_iconst (v := 0) hx hb dX13_count_4 (by decide +kernel) ?_
  refine lv_istore (lv' := [(4, .int 0), (3, .int 0), (2, .int 0), (0, .ref h0), (1, .int x1)]) hx hb dX13_count_5 hl (by decide +kernel) rfl (fun ls hl => ?_)
  refine loopR (σ := (Int32) × (Int32)) (fun x9 ls => lv_has ls 6 [(4, .int x9.1), (3, .int 0), (2, .int x9.2), (0, .ref h0), (1, .int x1)] ∧ (0 ≤ x9.1.toInt)) (fun x9 => (24 - x9.1.toInt).toNat) (fun x9 ls hI ih => ?_) (0, 0) ls ⟨lv_sub hl [0, 1, 2, 3, 4] rfl, (by (try dsimp only); decide)⟩
  obtain ⟨xx, al⟩ := x9
  obtain ⟨hl, hinv⟩ := hI
  have hl : lv_has ls 6 [(4, .int xx), (3, .int 0), (2, .int al), (0, .ref h0), (1, .int x1)] := hl
  have hinv : 0 ≤ xx.toInt := hinv
  refine lv_iload hx hb dX13_count_7 (lv_at hl 0 rfl) ?_
  refine lv_aload_n hx hb dX13_count_9 rfl (lv_at hl 3 rfl) ?_
  refine va_get (D := D) (ci := 10) (v := .int (q 7)) (C := RX13) (T := TX13) (N := 45) hx hb hts in_X13_count_X13 hown hE.1 hP 0 rfl rfl 7 (by decide +kernel) (hts (.fieldLink RX13 205 "ClauseBookModel" "many" "I") (List.mem_of_getElem? (i := 1) rfl)) (fun _ h9 => h9) rfl dX13_count_10 ?_
  refine lv_icmp_ge (tgt := 39) hx hb dX13_count_13 (by decide +kernel) (fun c_1 => ?_) (fun c_1 => ?_)
  · rw [fa_le] at c_1
    refine lv_iconst (v := 0) hx hb dX13_count_39 (by decide +kernel) ?_
    refine lv_istore (lv' := [(4, .int 0), (3, .int 0), (2, .int al), (0, .ref h0), (1, .int x1)]) hx hb dX13_count_40 hl (by decide +kernel) rfl (fun ls hl => ?_)
    refine loopR (σ := (Int32) × (Int32)) (fun x9 ls => lv_has ls 6 [(4, .int x9.1), (3, .int x9.2), (2, .int al), (0, .ref h0), (1, .int x1)] ∧ (0 ≤ x9.1.toInt)) (fun x9 => (3 - x9.1.toInt).toNat) (fun x9 ls hI iho => ?_) (0, 0) ls ⟨lv_sub hl [0, 1, 2, 3, 4] rfl, (by (try dsimp only); decide)⟩
    obtain ⟨bb, li⟩ := x9
    obtain ⟨hl, hinv⟩ := hI
    have hl : lv_has ls 6 [(4, .int bb), (3, .int li), (2, .int al), (0, .ref h0), (1, .int x1)] := hl
    have hinv : 0 ≤ bb.toInt := hinv
    refine lv_iload hx hb dX13_count_42 (lv_at hl 0 rfl) ?_
    refine lv_iconst (v := 3) hx hb dX13_count_44 (by decide +kernel) ?_
    refine lv_icmp_ge (tgt := 103) hx hb dX13_count_45 (by decide +kernel) (fun c_2 => ?_) (fun c_2 => ?_)
    · rw [fa_le] at c_2
      try rw [ti_3] at c_2
      refine lv_iload_n hx hb dX13_count_103 rfl (lv_at hl 4 rfl) ?_
      refine lv_if_ne (tgt := 114) hx hb dX13_count_104 (by decide +kernel) (fun c_3 => ?_) (fun c_3 => ?_)
      · rw [fa_eq] at c_3
        try rw [ti_0] at c_3
        refine lv_iload_n hx hb dX13_count_114 rfl (lv_at hl 4 rfl) ?_
        refine lv_iconst (v := 1) hx hb dX13_count_115 (by decide +kernel) ?_
        refine lv_icmp_ne (tgt := 126) hx hb dX13_count_116 (by decide +kernel) (fun c_4 => ?_) (fun c_4 => ?_)
        · rw [fa_eq] at c_4
          try rw [ti_1] at c_4
          refine lv_iload_n hx hb dX13_count_126 rfl (lv_at hl 4 rfl) ?_
          refine lv_iconst (v := 2) hx hb dX13_count_127 (by decide +kernel) ?_
          refine lv_icmp_ne (tgt := 135) hx hb dX13_count_128 (by decide +kernel) (fun c_5 => ?_) (fun c_5 => ?_)
          · rw [fa_eq] at c_5
            try rw [ti_2] at c_5
            refine lv_iload_n hx hb dX13_count_135 rfl (lv_at hl 4 rfl) ?_
            refine lv_iconst (v := 3) hx hb dX13_count_136 (by decide +kernel) ?_
            refine lv_icmp_ne (tgt := 144) hx hb dX13_count_137 (by decide +kernel) (fun c_6 => ?_) (fun c_6 => ?_)
            · rw [fa_eq] at c_6
              try rw [ti_3] at c_6
              refine lv_bipush (v := (-2)) hx hb dX13_count_144 (by decide +kernel) ?_
              exact W.iret hx hb hr (fun t ht hW => ⟨⟨_, (), rfl, trivial, by rw [ht]; exact hP.sub [0, 1, 2, 3, 4, 5] rfl, hD.sub [0, 1, 2, 3, 4, 5] (by decide +kernel) rfl⟩, hS.F ht⟩) hS.2.2 dX13_count_146
            · rw [fa_eq] at c_6
              try rw [ti_3] at c_6
              refine lv_iload_n hx hb dX13_count_140 rfl (lv_at hl 1 rfl) ?_
              refine lv_goto (tgt := 146) hx hb dX13_count_141 (by decide +kernel) ?_
              exact W.iret hx hb hr (fun t ht hW => ⟨⟨_, (), rfl, trivial, by rw [ht]; exact hP.sub [0, 1, 2, 3, 4, 5] rfl, hD.sub [0, 1, 2, 3, 4, 5] (by decide +kernel) rfl⟩, hS.F ht⟩) hS.2.2 dX13_count_146
          · rw [fa_eq] at c_5
            try rw [ti_2] at c_5
            refine lv_iload_n hx hb dX13_count_131 rfl (lv_at hl 2 rfl) ?_
            refine lv_goto (tgt := 146) hx hb dX13_count_132 (by decide +kernel) ?_
            exact W.iret hx hb hr (fun t ht hW => ⟨⟨_, (), rfl, trivial, by rw [ht]; exact hP.sub [0, 1, 2, 3, 4, 5] rfl, hD.sub [0, 1, 2, 3, 4, 5] (by decide +kernel) rfl⟩, hS.F ht⟩) hS.2.2 dX13_count_146
        · rw [fa_eq] at c_4
          try rw [ti_1] at c_4
          refine lv_aload_n hx hb dX13_count_119 rfl (lv_at hl 3 rfl) ?_
          refine va_get (D := D) (ci := 10) (v := .int (q 0)) (C := RX13) (T := TX13) (N := 45) hx hb hts in_X13_count_X13 hown hE.1 hP 0 rfl rfl 0 (by decide +kernel) (hts (.fieldLink RX13 181 "ClauseBookModel" "start" "I") (List.mem_of_getElem? (i := 4) rfl)) (fun _ h9 => h9) rfl dX13_count_120 ?_
          refine lv_goto (tgt := 146) hx hb dX13_count_123 (by decide +kernel) ?_
          exact W.iret hx hb hr (fun t ht hW => ⟨⟨_, (), rfl, trivial, by rw [ht]; exact hP.sub [0, 1, 2, 3, 4, 5] rfl, hD.sub [0, 1, 2, 3, 4, 5] (by decide +kernel) rfl⟩, hS.F ht⟩) hS.2.2 dX13_count_146
      · rw [fa_eq] at c_3
        try rw [ti_0] at c_3
        refine lv_aload_n hx hb dX13_count_107 rfl (lv_at hl 3 rfl) ?_
        refine va_get (D := D) (ci := 10) (v := .int (q 7)) (C := RX13) (T := TX13) (N := 45) hx hb hts in_X13_count_X13 hown hE.1 hP 0 rfl rfl 7 (by decide +kernel) (hts (.fieldLink RX13 205 "ClauseBookModel" "many" "I") (List.mem_of_getElem? (i := 1) rfl)) (fun _ h9 => h9) rfl dX13_count_108 ?_
        refine lv_goto (tgt := 146) hx hb dX13_count_111 (by decide +kernel) ?_
        exact W.iret hx hb hr (fun t ht hW => ⟨⟨_, (), rfl, trivial, by rw [ht]; exact hP.sub [0, 1, 2, 3, 4, 5] rfl, hD.sub [0, 1, 2, 3, 4, 5] (by decide +kernel) rfl⟩, hS.F ht⟩) hS.2.2 dX13_count_146
    · rw [fa_le] at c_2
      try rw [ti_3] at c_2
      refine lv_iconst (v := 0) hx hb dX13_count_48 (by decide +kernel) ?_
      refine lv_istore (lv' := [(5, .int 0), (4, .int bb), (3, .int li), (2, .int al), (0, .ref h0), (1, .int x1)]) hx hb dX13_count_49 hl (by decide +kernel) rfl (fun ls hl => ?_)
      refine loopR (σ := (Int32) × (Int32)) (fun x9 ls => lv_has ls 6 [(5, .int x9.1), (4, .int bb), (3, .int x9.2), (2, .int al), (0, .ref h0), (1, .int x1)] ∧ (0 ≤ x9.1.toInt)) (fun x9 => (12 - x9.1.toInt).toNat) (fun x9 ls hI ih => ?_) (0, li) ls ⟨lv_sub hl [0, 1, 2, 3, 4, 5] rfl, (by (try dsimp only); decide)⟩
      obtain ⟨ii, lj⟩ := x9
      obtain ⟨hl, hinv⟩ := hI
      have hl : lv_has ls 6 [(5, .int ii), (4, .int bb), (3, .int lj), (2, .int al), (0, .ref h0), (1, .int x1)] := hl
      have hinv : 0 ≤ ii.toInt := hinv
      have h12bb : (12 * bb).toInt = 12 * bb.toInt := by rw [fb_mulI (by rw [ti_12]; omega) (by rw [ti_12]; omega), ti_12]
      refine lv_iload hx hb dX13_count_51 (lv_at hl 0 rfl) ?_
      refine lv_aload_n hx hb dX13_count_53 rfl (lv_at hl 4 rfl) ?_
      refine va_get (D := D) (ci := 10) (v := .ref (a 13)) (C := RX13) (T := TX13) (N := 45) hx hb hts in_X13_count_X13 hown hE.1 hP 0 rfl rfl 13 (by decide +kernel) (hts (.fieldLink RX13 44 "ClauseBookModel" "bagged" "[I") (List.mem_of_getElem? (i := 2) rfl)) (fun _ h9 => h9) rfl dX13_count_54 ?_
      refine lv_iload hx hb dX13_count_57 (lv_at hl 1 rfl) ?_
      refine va_iald hx hb hE.1 hP 5 0 rfl rfl (by rw [vp_in_iff]; first | omega | (rw [fb_addI (by omega) (by omega)]; omega)) dX13_count_59 ?_
      refine lv_topi (fun z_7 ez_7 => ?_)
      have hbz_7 : 0 ≤ z_7.toInt ∧ z_7.toInt ≤ 12 := by rw [ez_7]; exact hbg _ (tn3 (by omega) (by omega))
      refine lv_icmp_ge (tgt := 97) hx hb dX13_count_60 (by decide +kernel) (fun c_8 => ?_) (fun c_8 => ?_)
      · rw [fa_le] at c_8
        obtain ⟨z_9, ez_9⟩ : ∃ y : Int32, y = bb + 1 := ⟨_, rfl⟩
        refine lv_iinc (v := z_9) (lv' := [(4, .int z_9), (5, .int ii), (3, .int lj), (2, .int al), (0, .ref h0), (1, .int x1)]) hx hb dX13_count_97 hl (k := 1) rfl (by rw [ez_9]; rfl) (by decide +kernel) rfl (fun ls hl => ?_)
        refine lv_goto (tgt := 42) hx hb dX13_count_100 (by decide +kernel) ?_
        exact iho (z_9, lj) ls ⟨lv_sub hl [0, 2, 3, 4, 5] rfl, (by subst_vars; (try dsimp only); rw [inc1 (i := bb) (n := 1000) (by omega) (by decide +kernel)]; omega)⟩ (by subst_vars; (try dsimp only); rw [inc1 (i := bb) (n := 1000) (by omega) (by decide +kernel)]; omega)
      · rw [fa_le] at c_8
        refine lv_iload_n hx hb dX13_count_63 rfl (lv_at hl 2 rfl) ?_
        refine lv_aload_n hx hb dX13_count_64 rfl (lv_at hl 4 rfl) ?_
        refine lv_aload_n hx hb dX13_count_65 rfl (lv_at hl 4 rfl) ?_
        refine va_get (D := D) (ci := 10) (v := .ref (a 12)) (C := RX13) (T := TX13) (N := 45) hx hb hts in_X13_count_X13 hown hE.1 hP 0 rfl rfl 12 (by decide +kernel) (hts (.fieldLink RX13 41 "ClauseBookModel" "bag" "[I") (List.mem_of_getElem? (i := 3) rfl)) (fun _ h9 => h9) rfl dX13_count_66 ?_
        refine lv_bipush (v := 12) hx hb dX13_count_69 (by decide +kernel) ?_
        refine lv_iload hx hb dX13_count_71 (lv_at hl 1 rfl) ?_
        refine lv_imul hx hb dX13_count_73 ?_
        refine lv_iload hx hb dX13_count_74 (lv_at hl 0 rfl) ?_
        refine lv_iadd hx hb dX13_count_76 ?_
        refine va_iald hx hb hE.1 hP 4 0 rfl rfl (by rw [vp_in_iff]; first | omega | (rw [fb_addI (by omega) (by omega)]; omega)) dX13_count_77 ?_
        refine lv_topi (fun z_10 ez_10 => ?_)
        refine vp_callSi (W.runV (As := [.int z_10]) (rest := [.int lj]) ⟨hx, hb, hml, hown, hts⟩ (c_X13_isClause l D T h0 [.int (q 0), .int (q 1), .int (q 2), .int (q 3), .int (q 4), .int (q 5), .int (q 6), .int (q 7), .ref (a 8), .ref (a 9), .ref (a 10), .ref (a 11), .ref (a 12), .ref (a 13), .int (q 14), .long v, .long w, .ref (a 17), .ref (a 18), .ref (a 19), .ref (a 20), .ref (a 21), .ref (a 22), .ref (a 23), .int (q 24), .ref (a 25), .int (q 26), .ref (a 27), .int (q 28), .int (q 29), .int (q 30), .int (q 31), .int (q 32), .int (q 33), .ref (a 34), .ref (a 35), .ref (a 36), .ref (a 37), .ref (a 38), .ref (a 39), .ref (a 40), .int (q 41), .ref (a 42), .int (q 43), .int (q 44)] z_10 (q 7) rfl (by omega)) (cwV 1 hts gX13_count_X13_isClause rfl rfl rfl hv_X13_isClause ⟨Nat.le_of_ble_eq_true rfl, Nat.le_of_ble_eq_true rfl⟩) (pR_V (q := (RX13, TX13, 45)) (ci := 10) (q0 := 0) hP hE rfl rfl [0] rfl) rfl rfl hl.1 rfl (lv_room (Nat.le_of_ble_eq_true rfl)) dX13_count_78 ⟨Nat.le_of_ble_eq_true rfl, Nat.le_of_ble_eq_true rfl⟩) (fun r_11 hr_11 => ?_)
        rcases bool_post hr_11 with ⟨c_12, rfl⟩ | ⟨c_12, rfl⟩
        · refine lv_if_eq (tgt := 88) hx hb dX13_count_81 (by decide +kernel) (fun c9 => absurd c9 (by decide +kernel)) (fun _ => ?_)
          refine lv_iconst (v := 1) hx hb dX13_count_84 (by decide +kernel) ?_
          refine lv_goto (tgt := 89) hx hb dX13_count_85 (by decide +kernel) ?_
          refine lv_iadd hx hb dX13_count_89 ?_
          refine lv_topi (fun z_13 ez_13 => ?_)
          refine lv_istore_n (lv' := [(3, .int z_13), (5, .int ii), (4, .int bb), (2, .int al), (0, .ref h0), (1, .int x1)]) hx hb dX13_count_90 rfl hl (by decide +kernel) rfl (fun ls hl => ?_)
          obtain ⟨z_14, ez_14⟩ : ∃ y : Int32, y = ii + 1 := ⟨_, rfl⟩
          refine lv_iinc (v := z_14) (lv' := [(5, .int z_14), (3, .int z_13), (4, .int bb), (2, .int al), (0, .ref h0), (1, .int x1)]) hx hb dX13_count_91 hl (k := 1) rfl (by rw [ez_14]; rfl) (by decide +kernel) rfl (fun ls hl => ?_)
          refine lv_goto (tgt := 51) hx hb dX13_count_94 (by decide +kernel) ?_
          exact ih (z_14, z_13) ls ⟨lv_sub hl [0, 2, 1, 3, 4, 5] rfl, (by subst_vars; (try dsimp only); rw [inc1 (i := ii) (n := 1000) (by omega) (by decide +kernel)]; omega)⟩ (by subst_vars; (try dsimp only); rw [inc1 (i := ii) (n := 1000) (by omega) (by decide +kernel)]; omega)
        · refine lv_if_eq (tgt := 88) hx hb dX13_count_81 (by decide +kernel) (fun _ => ?_) (fun c9 => absurd c9 (by decide +kernel))
          refine lv_iconst (v := 0) hx hb dX13_count_88 (by decide +kernel) ?_
          refine lv_iadd hx hb dX13_count_89 ?_
          refine lv_topi (fun z_15 ez_15 => ?_)
          refine lv_istore_n (lv' := [(3, .int z_15), (5, .int ii), (4, .int bb), (2, .int al), (0, .ref h0), (1, .int x1)]) hx hb dX13_count_90 rfl hl (by decide +kernel) rfl (fun ls hl => ?_)
          obtain ⟨z_16, ez_16⟩ : ∃ y : Int32, y = ii + 1 := ⟨_, rfl⟩
          refine lv_iinc (v := z_16) (lv' := [(5, .int z_16), (3, .int z_15), (4, .int bb), (2, .int al), (0, .ref h0), (1, .int x1)]) hx hb dX13_count_91 hl (k := 1) rfl (by rw [ez_16]; rfl) (by decide +kernel) rfl (fun ls hl => ?_)
          refine lv_goto (tgt := 51) hx hb dX13_count_94 (by decide +kernel) ?_
          exact ih (z_16, z_15) ls ⟨lv_sub hl [0, 2, 1, 3, 4, 5] rfl, (by subst_vars; (try dsimp only); rw [inc1 (i := ii) (n := 1000) (by omega) (by decide +kernel)]; omega)⟩ (by subst_vars; (try dsimp only); rw [inc1 (i := ii) (n := 1000) (by omega) (by decide +kernel)]; omega)
  · rw [fa_le] at c_1
    refine lv_iload_n hx hb dX13_count_16 rfl (lv_at hl 2 rfl) ?_
    refine lv_aload_n hx hb dX13_count_17 rfl (lv_at hl 3 rfl) ?_
    refine lv_iload hx hb dX13_count_18 (lv_at hl 0 rfl) ?_
    refine vp_callSi (W.runV (As := [.int xx]) (rest := [.int al]) ⟨hx, hb, hml, hown, hts⟩ (c_X13_isNamed l D T h0 [.int (q 0), .int (q 1), .int (q 2), .int (q 3), .int (q 4), .int (q 5), .int (q 6), .int (q 7), .ref (a 8), .ref (a 9), .ref (a 10), .ref (a 11), .ref (a 12), .ref (a 13), .int (q 14), .long v, .long w, .ref (a 17), .ref (a 18), .ref (a 19), .ref (a 20), .ref (a 21), .ref (a 22), .ref (a 23), .int (q 24), .ref (a 25), .int (q 26), .ref (a 27), .int (q 28), .int (q 29), .int (q 30), .int (q 31), .int (q 32), .int (q 33), .ref (a 34), .ref (a 35), .ref (a 36), .ref (a 37), .ref (a 38), .ref (a 39), .ref (a 40), .int (q 41), .ref (a 42), .int (q 43), .int (q 44)] (a 8) f8 (a 10) f10 (a 11) f11 xx (q 7) rfl rfl rfl rfl (by omega) hokR) (cwV 1 hts gX13_count_X13_isNamed rfl rfl rfl hv_X13_isNamed ⟨Nat.le_of_ble_eq_true rfl, Nat.le_of_ble_eq_true rfl⟩) (pR_V (q := (RX13, TX13, 45)) (ci := 10) (q0 := 0) hP hE rfl rfl [0, 1, 2, 3] rfl) rfl rfl hl.1 rfl (lv_room (Nat.le_of_ble_eq_true rfl)) dX13_count_20 ⟨Nat.le_of_ble_eq_true rfl, Nat.le_of_ble_eq_true rfl⟩) (fun r_17 hr_17 => ?_)
    refine lv_if_eq (tgt := 30) hx hb dX13_count_23 (by decide +kernel) (fun c_18 => ?_) (fun c_18 => ?_)
    · rw [fa_eq] at c_18
      try rw [ti_0] at c_18
      refine lv_iconst (v := 1) hx hb dX13_count_30 (by decide +kernel) ?_
      refine lv_iadd hx hb dX13_count_31 ?_
      refine lv_topi (fun z_19 ez_19 => ?_)
      refine lv_istore_n (lv' := [(2, .int z_19), (4, .int xx), (3, .int 0), (0, .ref h0), (1, .int x1)]) hx hb dX13_count_32 rfl hl (by decide +kernel) rfl (fun ls hl => ?_)
      obtain ⟨z_20, ez_20⟩ : ∃ y : Int32, y = xx + 1 := ⟨_, rfl⟩
      refine lv_iinc (v := z_20) (lv' := [(4, .int z_20), (2, .int z_19), (3, .int 0), (0, .ref h0), (1, .int x1)]) hx hb dX13_count_33 hl (k := 1) rfl (by rw [ez_20]; rfl) (by decide +kernel) rfl (fun ls hl => ?_)
      refine lv_goto (tgt := 7) hx hb dX13_count_36 (by decide +kernel) ?_
      exact ih (z_20, z_19) ls ⟨lv_sub hl [0, 2, 1, 3, 4] rfl, (by subst_vars; (try dsimp only); rw [inc1 (i := xx) (n := 1000) (by omega) (by decide +kernel)]; omega)⟩ (by subst_vars; (try dsimp only); rw [inc1 (i := xx) (n := 1000) (by omega) (by decide +kernel)]; omega)
    · rw [fa_eq] at c_18
      try rw [ti_0] at c_18
      refine lv_iconst (v := 0) hx hb dX13_count_26 (by decide +kernel) ?_
      refine lv_goto (tgt := 31) hx hb dX13_count_27 (by decide +kernel) ?_
      refine lv_iadd hx hb dX13_count_31 ?_
      refine lv_topi (fun z_21 ez_21 => ?_)
      refine lv_istore_n (lv' := [(2, .int z_21), (4, .int xx), (3, .int 0), (0, .ref h0), (1, .int x1)]) hx hb dX13_count_32 rfl hl (by decide +kernel) rfl (fun ls hl => ?_)
      obtain ⟨z_22, ez_22⟩ : ∃ y : Int32, y = xx + 1 := ⟨_, rfl⟩
      refine lv_iinc (v := z_22) (lv' := [(4, .int z_22), (2, .int z_21), (3, .int 0), (0, .ref h0), (1, .int x1)]) hx hb dX13_count_33 hl (k := 1) rfl (by rw [ez_22]; rfl) (by decide +kernel) rfl (fun ls hl => ?_)
      refine lv_goto (tgt := 7) hx hb dX13_count_36 (by decide +kernel) ?_
      exact ih (z_22, z_21) ls ⟨lv_sub hl [0, 2, 1, 3, 4] rfl, (by subst_vars; (try dsimp only); rw [inc1 (i := xx) (n := 1000) (by omega) (by decide +kernel)]; omega)⟩ (by subst_vars; (try dsimp only); rw [inc1 (i := xx) (n := 1000) (by omega) (by decide +kernel)]; omega)
end
