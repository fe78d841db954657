theorem okR_up {fk fc fd : Nat → Int32} {x k c' d' : Int32} (h : okR fk fc fd) (hx : 0 ≤ x.toInt ∧ x.toInt < 24) (hk : 0 ≤ k.toInt ∧ k.toInt ≤ 12) (hc : 1 ≤ (nmT (k.toNatClampNeg)).toInt → 0 ≤ c'.toInt ∧ c'.toInt < x.toInt) (hd : (nmT (k.toNatClampNeg)).toInt = 2 → 0 ≤ d'.toInt ∧ d'.toInt < x.toInt) : okR (upd fk x.toNatClampNeg k) (upd fc x.toNatClampNeg c') (upd fd x.toNatClampNeg d') := by
  intro j hj
  have h2 := (in24 hx).2
  by_cases e : j = x.toNatClampNeg
  · simp only [upd, if_pos e]
    exact ⟨hk, fun h3 => by have := hc h3; omega, fun h3 => by have := hd h3; omega⟩
  · simp only [upd, if_neg e]
    exact h j hj
theorem okR_nm {fk fc fd : Nat → Int32} {x c' d' : Int32} (h : okR fk fc fd) (hx : 0 ≤ x.toInt ∧ x.toInt < 24) (hc : 1 ≤ (nmT ((fk x.toNatClampNeg).toNatClampNeg)).toInt → 0 ≤ c'.toInt ∧ c'.toInt < x.toInt) (hd : (nmT ((fk x.toNatClampNeg).toNatClampNeg)).toInt = 2 → 0 ≤ d'.toInt ∧ d'.toInt < x.toInt) : okR fk (upd fc x.toNatClampNeg c') (upd fd x.toNatClampNeg d') := by
  intro j hj
  have h2 := (in24 hx).2
  by_cases e : j = x.toNatClampNeg
  · subst e
    simp only [upd, if_pos]
    exact ⟨(h _ hj).1, fun h3 => by have := hc h3; omega, fun h3 => by have := hd h3; omega⟩
  · simp only [upd, if_neg e]
    exact h j hj
theorem dX13_comes_0 : decode cX13_comes 0 = .ok (.aload_n 0, 1) := by decide +kernel
theorem dX13_comes_1 : decode cX13_comes 1 = .ok (.getfield 28, 3) := by decide +kernel
theorem dX13_comes_10 : decode cX13_comes 10 = .ok (.aload_n 0, 1) := by decide +kernel
theorem dX13_comes_11 : decode cX13_comes 11 = .ok (.getfield 32, 3) := by decide +kernel
theorem dX13_comes_14 : decode cX13_comes 14 = .ok (.aload_n 0, 1) := by decide +kernel
theorem dX13_comes_15 : decode cX13_comes 15 = .ok (.getfield 205, 3) := by decide +kernel
theorem dX13_comes_18 : decode cX13_comes 18 = .ok (.iload_n 2, 1) := by decide +kernel
theorem dX13_comes_19 : decode cX13_comes 19 = .ok (.iastore, 1) := by decide +kernel
theorem dX13_comes_20 : decode cX13_comes 20 = .ok (.aload_n 0, 1) := by decide +kernel
theorem dX13_comes_21 : decode cX13_comes 21 = .ok (.getfield 35, 3) := by decide +kernel
theorem dX13_comes_24 : decode cX13_comes 24 = .ok (.aload_n 0, 1) := by decide +kernel
theorem dX13_comes_25 : decode cX13_comes 25 = .ok (.getfield 205, 3) := by decide +kernel
theorem dX13_comes_28 : decode cX13_comes 28 = .ok (.iload_n 3, 1) := by decide +kernel
theorem dX13_comes_29 : decode cX13_comes 29 = .ok (.iastore, 1) := by decide +kernel
theorem dX13_comes_30 : decode cX13_comes 30 = .ok (.aload_n 0, 1) := by decide +kernel
theorem dX13_comes_31 : decode cX13_comes 31 = .ok (.getfield 38, 3) := by decide +kernel
theorem dX13_comes_34 : decode cX13_comes 34 = .ok (.aload_n 0, 1) := by decide +kernel
theorem dX13_comes_35 : decode cX13_comes 35 = .ok (.getfield 205, 3) := by decide +kernel
theorem dX13_comes_38 : decode cX13_comes 38 = .ok (.iload 4, 2) := by decide +kernel
theorem dX13_comes_4 : decode cX13_comes 4 = .ok (.aload_n 0, 1) := by decide +kernel
theorem dX13_comes_40 : decode cX13_comes 40 = .ok (.iastore, 1) := by decide +kernel
theorem dX13_comes_41 : decode cX13_comes 41 = .ok (.aload_n 0, 1) := by decide +kernel
theorem dX13_comes_42 : decode cX13_comes 42 = .ok (.dup, 1) := by decide +kernel
theorem dX13_comes_43 : decode cX13_comes 43 = .ok (.getfield 205, 3) := by decide +kernel
theorem dX13_comes_46 : decode cX13_comes 46 = .ok (.iconst 1, 1) := by decide +kernel
theorem dX13_comes_47 : decode cX13_comes 47 = .ok (.iadd, 1) := by decide +kernel
theorem dX13_comes_48 : decode cX13_comes 48 = .ok (.putfield 205, 3) := by decide +kernel
theorem dX13_comes_5 : decode cX13_comes 5 = .ok (.getfield 205, 3) := by decide +kernel
theorem dX13_comes_51 : decode cX13_comes 51 = .ok (.aload_n 0, 1) := by decide +kernel
theorem dX13_comes_52 : decode cX13_comes 52 = .ok (.getfield 205, 3) := by decide +kernel
theorem dX13_comes_55 : decode cX13_comes 55 = .ok (.iconst 1, 1) := by decide +kernel
theorem dX13_comes_56 : decode cX13_comes 56 = .ok (.isub, 1) := by decide +kernel
theorem dX13_comes_57 : decode cX13_comes 57 = .ok (.ireturn, 1) := by decide +kernel
theorem dX13_comes_8 : decode cX13_comes 8 = .ok (.iload_n 1, 1) := by decide +kernel
theorem dX13_comes_9 : decode cX13_comes 9 = .ok (.iastore, 1) := by decide +kernel
set_option maxRecDepth 20000 in
theorem in_X13_comes_X13 : ∀ w ∈ wsX130, w ∈ wsX13_comes := sub_r [6, 7, 8, 9, 10, 11, 12, 13, 14, 15, 16, 17, 18, 19, 20, 21, 22, 23, 24, 25, 26, 27, 28, 29, 30, 31, 32, 33, 34, 35, 36, 37, 38, 39, 40, 41, 42, 43, 44, 45, 46, 47, 48, 49, 50] rfl
set_option maxHeartbeats 4000000 in
set_option maxRecDepth 100000 in
theorem c_X13_comes (l : Launch) (D : va_G) (T : Nat → ClassId) (sz : Nat) (h0 : Nat) (q : Nat → Int32) (v : Int64) (w : Int64) (a : Nat → Nat) (f8 : Nat → Int32) (f9 : Nat → Int32) (f10 : Nat → Int32) (f11 : Nat → Int32) (x1 : Int32) (x2 : Int32) (x3 : Int32) (x4 : Int32) (hm : 0 ≤ (q 7).toInt ∧ (q 7).toInt < 24) (hokR : okR f8 f10 f11) (hk : 0 ≤ x1.toInt ∧ x1.toInt ≤ 12) (hc9 : 1 ≤ (nmT (x1.toNatClampNeg)).toInt → 0 ≤ x3.toInt ∧ x3.toInt < (q 7).toInt) (hd9 : (nmT (x1.toNatClampNeg)).toInt = 2 → 0 ≤ x4.toInt ∧ x4.toInt < (q 7).toInt) : Met l yX13_comes wsX13_comes ({ frames := 0, cells := 0, slots := 0, locals := 0 }) (pW [.ref h0, .int x1, .int x2, .int x3, .int x4] D T [(h0, .inr (10, (Value.int (q 0) :: Value.int (q 1) :: Value.int (q 2) :: Value.int (q 3) :: Value.int (q 4) :: Value.int (q 5) :: Value.int (q 6) :: Value.int (q 7) :: Value.ref (a 8) :: Value.ref (a 9) :: Value.ref (a 10) :: Value.ref (a 11) :: Value.ref (a 12) :: Value.ref (a 13) :: Value.int (q 14) :: Value.long v :: Value.long w :: Value.ref (a 17) :: Value.ref (a 18) :: Value.ref (a 19) :: Value.ref (a 20) :: Value.ref (a 21) :: Value.ref (a 22) :: Value.ref (a 23) :: Value.int (q 24) :: Value.ref (a 25) :: Value.int (q 26) :: Value.ref (a 27) :: Value.int (q 28) :: Value.int (q 29) :: Value.int (q 30) :: Value.int (q 31) :: Value.int (q 32) :: Value.int (q 33) :: Value.ref (a 34) :: Value.ref (a 35) :: Value.ref (a 36) :: Value.ref (a 37) :: Value.ref (a 38) :: Value.ref (a 39) :: Value.ref (a 40) :: Value.int (q 41) :: Value.ref (a 42) :: Value.int (q 43) :: Value.int (q 44) :: []))), ((a 8), .inl (T 0, 24, .inl f8)), ((a 9), .inl (T 0, 24, .inl f9)), ((a 10), .inl (T 0, 24, .inl f10)), ((a 11), .inl (T 0, 24, .inl f11))] sz) (va_Qi (fun (r : Int32) (u : (Int32) × (Nat → Int32) × (Nat → Int32) × (Nat → Int32) × (Nat → Int32)) => (okR u.2.1 u.2.2.2.1 u.2.2.2.2) ∧ (r.toInt = (q 7).toInt ∧ u.1.toInt = (q 7).toInt + 1) ∧ (u.2.1 = upd f8 ((q 7).toNatClampNeg) x1 ∧ u.2.2.1 = upd f9 ((q 7).toNatClampNeg) x2 ∧ u.2.2.2.1 = upd f10 ((q 7).toNatClampNeg) x3 ∧ u.2.2.2.2 = upd f11 ((q 7).toNatClampNeg) x4)) (bW D (va_A [(h0, .inr (10, (Value.int (q 0) :: Value.int (q 1) :: Value.int (q 2) :: Value.int (q 3) :: Value.int (q 4) :: Value.int (q 5) :: Value.int (q 6) :: Value.int (q 7) :: Value.ref (a 8) :: Value.ref (a 9) :: Value.ref (a 10) :: Value.ref (a 11) :: Value.ref (a 12) :: Value.ref (a 13) :: Value.int (q 14) :: Value.long v :: Value.long w :: Value.ref (a 17) :: Value.ref (a 18) :: Value.ref (a 19) :: Value.ref (a 20) :: Value.ref (a 21) :: Value.ref (a 22) :: Value.ref (a 23) :: Value.int (q 24) :: Value.ref (a 25) :: Value.int (q 26) :: Value.ref (a 27) :: Value.int (q 28) :: Value.int (q 29) :: Value.int (q 30) :: Value.int (q 31) :: Value.int (q 32) :: Value.int (q 33) :: Value.ref (a 34) :: Value.ref (a 35) :: Value.ref (a 36) :: Value.ref (a 37) :: Value.ref (a 38) :: Value.ref (a 39) :: Value.ref (a 40) :: Value.int (q 41) :: Value.ref (a 42) :: Value.int (q 43) :: Value.int (q 44) :: []))), ((a 8), .inl (T 0, 24, .inl f8)), ((a 9), .inl (T 0, 24, .inl f9)), ((a 10), .inl (T 0, 24, .inl f10)), ((a 11), .inl (T 0, 24, .inl f11))] sz) (fun (u : (Int32) × (Nat → Int32) × (Nat → Int32) × (Nat → Int32) × (Nat → Int32)) => [(h0, .inr (10, (Value.int (q 0) :: Value.int (q 1) :: Value.int (q 2) :: Value.int (q 3) :: Value.int (q 4) :: Value.int (q 5) :: Value.int (q 6) :: Value.int u.1 :: Value.ref (a 8) :: Value.ref (a 9) :: Value.ref (a 10) :: Value.ref (a 11) :: Value.ref (a 12) :: Value.ref (a 13) :: Value.int (q 14) :: Value.long v :: Value.long w :: Value.ref (a 17) :: Value.ref (a 18) :: Value.ref (a 19) :: Value.ref (a 20) :: Value.ref (a 21) :: Value.ref (a 22) :: Value.ref (a 23) :: Value.int (q 24) :: Value.ref (a 25) :: Value.int (q 26) :: Value.ref (a 27) :: Value.int (q 28) :: Value.int (q 29) :: Value.int (q 30) :: Value.int (q 31) :: Value.int (q 32) :: Value.int (q 33) :: Value.ref (a 34) :: Value.ref (a 35) :: Value.ref (a 36) :: Value.ref (a 37) :: Value.ref (a 38) :: Value.ref (a 39) :: Value.ref (a 40) :: Value.int (q 41) :: Value.ref (a 42) :: Value.int (q 43) :: Value.int (q 44) :: []))), ((a 8), .inl (T 0, 24, .inl u.2.1)), ((a 9), .inl (T 0, 24, .inl u.2.2.1)), ((a 10), .inl (T 0, 24, .inl u.2.2.2.1)), ((a 11), .inl (T 0, 24, .inl u.2.2.2.2))])) (va_A [(h0, .inr (10, (Value.int (q 0) :: Value.int (q 1) :: Value.int (q 2) :: Value.int (q 3) :: Value.int (q 4) :: Value.int (q 5) :: Value.int (q 6) :: Value.int (q 7) :: Value.ref (a 8) :: Value.ref (a 9) :: Value.ref (a 10) :: Value.ref (a 11) :: Value.ref (a 12) :: Value.ref (a 13) :: Value.int (q 14) :: Value.long v :: Value.long w :: Value.ref (a 17) :: Value.ref (a 18) :: Value.ref (a 19) :: Value.ref (a 20) :: Value.ref (a 21) :: Value.ref (a 22) :: Value.ref (a 23) :: Value.int (q 24) :: Value.ref (a 25) :: Value.int (q 26) :: Value.ref (a 27) :: Value.int (q 28) :: Value.int (q 29) :: Value.int (q 30) :: Value.int (q 31) :: Value.int (q 32) :: Value.int (q 33) :: Value.ref (a 34) :: Value.ref (a 35) :: Value.ref (a 36) :: Value.ref (a 37) :: Value.ref (a 38) :: Value.ref (a 39) :: Value.ref (a 40) :: Value.int (q 41) :: Value.ref (a 42) :: Value.int (q 43) :: Value.int (q 44) :: []))), ((a 8), .inl (T 0, 24, .inl f8)), ((a 9), .inl (T 0, 24, .inl f9)), ((a 10), .inl (T 0, 24, .inl f10)), ((a 11), .inl (T 0, 24, .inl f11))] sz)) 0 0 (va_A [(h0, .inr (10, (Value.int (q 0) :: Value.int (q 1) :: Value.int (q 2) :: Value.int (q 3) :: Value.int (q 4) :: Value.int (q 5) :: Value.int (q 6) :: Value.int (q 7) :: Value.ref (a 8) :: Value.ref (a 9) :: Value.ref (a 10) :: Value.ref (a 11) :: Value.ref (a 12) :: Value.ref (a 13) :: Value.int (q 14) :: Value.long v :: Value.long w :: Value.ref (a 17) :: Value.ref (a 18) :: Value.ref (a 19) :: Value.ref (a 20) :: Value.ref (a 21) :: Value.ref (a 22) :: Value.ref (a 23) :: Value.int (q 24) :: Value.ref (a 25) :: Value.int (q 26) :: Value.ref (a 27) :: Value.int (q 28) :: Value.int (q 29) :: Value.int (q 30) :: Value.int (q 31) :: Value.int (q 32) :: Value.int (q 33) :: Value.ref (a 34) :: Value.ref (a 35) :: Value.ref (a 36) :: Value.ref (a 37) :: Value.ref (a 38) :: Value.ref (a 39) :: Value.ref (a 40) :: Value.int (q 41) :: Value.ref (a 42) :: Value.int (q 43) :: Value.int (q 44) :: []))), ((a 8), .inl (T 0, 24, .inl f8)), ((a 9), .inl (T 0, 24, .inl f9)), ((a 10), .inl (T 0, 24, .inl f10)), ((a 11), .inl (T 0, 24, .inl f11))] sz) := by
  refine Met.ofW (cc := cX13_comes) (maxL := 5) (ret := (some .int)) (by decide +kernel) rfl ?_
  intro p e s m args below meth c s₁ B hml hv
  obtain ⟨rfl, hsz, hP, hE, hD0⟩ := hv
  have hx := B.exec
  have hb := B.bytes
  have hr := B.returns
  have hts := atoms_spec (ws := wsX13_comes) B.pre
  have hown : s.vm.findClass RX13 = some m.cls := findClass_of_methodNamed B.named
  have hlocks := B.notSynchronized
  subst hsz
  have hD := hD0.self (sz := s.heap.size)
  generalize hAe : va_A [(h0, .inr (10, (Value.int (q 0) :: Value.int (q 1) :: Value.int (q 2) :: Value.int (q 3) :: Value.int (q 4) :: Value.int (q 5) :: Value.int (q 6) :: Value.int (q 7) :: Value.ref (a 8) :: Value.ref (a 9) :: Value.ref (a 10) :: Value.ref (a 11) :: Value.ref (a 12) :: Value.ref (a 13) :: Value.int (q 14) :: Value.long v :: Value.long w :: Value.ref (a 17) :: Value.ref (a 18) :: Value.ref (a 19) :: Value.ref (a 20) :: Value.ref (a 21) :: Value.ref (a 22) :: Value.ref (a 23) :: Value.int (q 24) :: Value.ref (a 25) :: Value.int (q 26) :: Value.ref (a 27) :: Value.int (q 28) :: Value.int (q 29) :: Value.int (q 30) :: Value.int (q 31) :: Value.int (q 32) :: Value.int (q 33) :: Value.ref (a 34) :: Value.ref (a 35) :: Value.ref (a 36) :: Value.ref (a 37) :: Value.ref (a 38) :: Value.ref (a 39) :: Value.ref (a 40) :: Value.int (q 41) :: Value.ref (a 42) :: Value.int (q 43) :: Value.int (q 44) :: []))), ((a 8), .inl (T 0, 24, .inl f8)), ((a 9), .inl (T 0, 24, .inl f9)), ((a 10), .inl (T 0, 24, .inl f10)), ((a 11), .inl (T 0, 24, .inl f11))] s.heap.size = A at hD ⊢
  have hA : ∀ q : Nat, s.heap.size ≤ q → A q := fun q h => by rw [← hAe]; exact Or.inr h
  have hS : va_S A s.heap s.heap [] := va_S.rf
  have hP : va_P D vwCl [(h0, .inr (10, (Value.int (q 0) :: Value.int (q 1) :: Value.int (q 2) :: Value.int (q 3) :: Value.int (q 4) :: Value.int (q 5) :: Value.int (q 6) :: Value.int (q 7) :: Value.ref (a 8) :: Value.ref (a 9) :: Value.ref (a 10) :: Value.ref (a 11) :: Value.ref (a 12) :: Value.ref (a 13) :: Value.int (q 14) :: Value.long v :: Value.long w :: Value.ref (a 17) :: Value.ref (a 18) :: Value.ref (a 19) :: Value.ref (a 20) :: Value.ref (a 21) :: Value.ref (a 22) :: Value.ref (a 23) :: Value.int (q 24) :: Value.ref (a 25) :: Value.int (q 26) :: Value.ref (a 27) :: Value.int (q 28) :: Value.int (q 29) :: Value.int (q 30) :: Value.int (q 31) :: Value.int (q 32) :: Value.int (q 33) :: Value.ref (a 34) :: Value.ref (a 35) :: Value.ref (a 36) :: Value.ref (a 37) :: Value.ref (a 38) :: Value.ref (a 39) :: Value.ref (a 40) :: Value.int (q 41) :: Value.ref (a 42) :: Value.int (q 43) :: Value.int (q 44) :: []))), ((a 8), .inl (T 0, 24, .inl f8)), ((a 9), .inl (T 0, 24, .inl f9)), ((a 10), .inl (T 0, 24, .inl f10)), ((a 11), .inl (T 0, 24, .inl f11))] s.heap := hP
  have hl := lv_entry ([.ref h0, .int x1, .int x2, .int x3, .int x4]) (n := 5) (Nat.le_of_ble_eq_true rfl)
  rw [lg_entry_eq]
  generalize (lg_sl ([.ref h0, .int x1, .int x2, .int x3, .int x4]) ++ List.replicate (5 - (lg_sl ([.ref h0, .int x1, .int x2, .int x3, .int x4])).length) Slot.unset).toArray = ls at hl ⊢
  have hl : lv_has ls 5 [(0, .ref h0), (1, .int x1), (2, .int x2), (3, .int x3), (4, .int x4)] := hl
  clear hD0
  refine lv_aload_n hx hb dX13_comes_0 rfl (lv_at hl 0 rfl) ?_
  refine va_get (D := D) (ci := 10) (v := .ref (a 8)) (C := RX13) (T := TX13) (N := 45) hx hb hts in_X13_comes_X13 hown hE.1 hP 0 rfl rfl 8 (by decide +kernel) (hts (.fieldLink RX13 28 "ClauseBookModel" "kind" "[I") (List.mem_of_getElem? (i := 1) rfl)) (fun _ h9 => h9) rfl dX13_comes_1 ?_
  refine lv_aload_n hx hb dX13_comes_4 rfl (lv_at hl 0 rfl) ?_
  refine va_get (D := D) (ci := 10) (v := .int (q 7)) (C := RX13) (T := TX13) (N := 45) hx hb hts in_X13_comes_X13 hown hE.1 hP 0 rfl rfl 7 (by decide +kernel) (hts (.fieldLink RX13 205 "ClauseBookModel" "many" "I") (List.mem_of_getElem? (i := 2) rfl)) (fun _ h9 => h9) rfl dX13_comes_5 ?_
  refine lv_iload_n hx hb dX13_comes_8 rfl (lv_at hl 1 rfl) ?_
  refine va_iast hx hb hE.1 hP hD hS 1 0 rfl rfl (by rw [vp_in_iff]; first | omega | (subst_vars; omega)) dX13_comes_9 (fun H locs hP hD hS => ?_)
  obtain ⟨hP, hD⟩ := wPD [(h0, .inr (10, (Value.int (q 0) :: Value.int (q 1) :: Value.int (q 2) :: Value.int (q 3) :: Value.int (q 4) :: Value.int (q 5) :: Value.int (q 6) :: Value.int (q 7) :: Value.ref (a 8) :: Value.ref (a 9) :: Value.ref (a 10) :: Value.ref (a 11) :: Value.ref (a 12) :: Value.ref (a 13) :: Value.int (q 14) :: Value.long v :: Value.long w :: Value.ref (a 17) :: Value.ref (a 18) :: Value.ref (a 19) :: Value.ref (a 20) :: Value.ref (a 21) :: Value.ref (a 22) :: Value.ref (a 23) :: Value.int (q 24) :: Value.ref (a 25) :: Value.int (q 26) :: Value.ref (a 27) :: Value.int (q 28) :: Value.int (q 29) :: Value.int (q 30) :: Value.int (q 31) :: Value.int (q 32) :: Value.int (q 33) :: Value.ref (a 34) :: Value.ref (a 35) :: Value.ref (a 36) :: Value.ref (a 37) :: Value.ref (a 38) :: Value.ref (a 39) :: Value.ref (a 40) :: Value.int (q 41) :: Value.ref (a 42) :: Value.int (q 43) :: Value.int (q 44) :: []))), ((a 8), .inl (T 0, 24, .inl (upd f8 ((q 7).toNatClampNeg) x1))), ((a 9), .inl (T 0, 24, .inl f9)), ((a 10), .inl (T 0, 24, .inl f10)), ((a 11), .inl (T 0, 24, .inl f11))] hP hD rfl
  refine lv_aload_n hx hb dX13_comes_10 rfl (lv_at hl 0 rfl) ?_
  refine va_get (D := D) (ci := 10) (v := .ref (a 9)) (C := RX13) (T := TX13) (N := 45) hx hb hts in_X13_comes_X13 hown hE.1 hP 0 rfl rfl 9 (by decide +kernel) (hts (.fieldLink RX13 32 "ClauseBookModel" "number" "[I") (List.mem_of_getElem? (i := 3) rfl)) (fun _ h9 => h9) rfl dX13_comes_11 ?_
  refine lv_aload_n hx hb dX13_comes_14 rfl (lv_at hl 0 rfl) ?_
  refine va_get (D := D) (ci := 10) (v := .int (q 7)) (C := RX13) (T := TX13) (N := 45) hx hb hts in_X13_comes_X13 hown hE.1 hP 0 rfl rfl 7 (by decide +kernel) (hts (.fieldLink RX13 205 "ClauseBookModel" "many" "I") (List.mem_of_getElem? (i := 2) rfl)) (fun _ h9 => h9) rfl dX13_comes_15 ?_
  refine lv_iload_n hx hb dX13_comes_18 rfl (lv_at hl 2 rfl) ?_
  refine va_iast hx hb hE.1 hP hD hS 2 0 rfl rfl (by rw [vp_in_iff]; first | omega | (subst_vars; omega)) dX13_comes_19 (fun H locs hP hD hS => ?_)
  obtain ⟨hP, hD⟩ := wPD [(h0, .inr (10, (Value.int (q 0) :: Value.int (q 1) :: Value.int (q 2) :: Value.int (q 3) :: Value.int (q 4) :: Value.int (q 5) :: Value.int (q 6) :: Value.int (q 7) :: Value.ref (a 8) :: Value.ref (a 9) :: Value.ref (a 10) :: Value.ref (a 11) :: Value.ref (a 12) :: Value.ref (a 13) :: Value.int (q 14) :: Value.long v :: Value.long w :: Value.ref (a 17) :: Value.ref (a 18) :: Value.ref (a 19) :: Value.ref (a 20) :: Value.ref (a 21) :: Value.ref (a 22) :: Value.ref (a 23) :: Value.int (q 24) :: Value.ref (a 25) :: Value.int (q 26) :: Value.ref (a 27) :: Value.int (q 28) :: Value.int (q 29) :: Value.int (q 30) :: Value.int (q 31) :: Value.int (q 32) :: Value.int (q 33) :: Value.ref (a 34) :: Value.ref (a 35) :: Value.ref (a 36) :: Value.ref (a 37) :: Value.ref (a 38) :: Value.ref (a 39) :: Value.ref (a 40) :: Value.int (q 41) :: Value.ref (a 42) :: Value.int (q 43) :: Value.int (q 44) :: []))), ((a 8), .inl (T 0, 24, .inl (upd f8 ((q 7).toNatClampNeg) x1))), ((a 9), .inl (T 0, 24, .inl (upd f9 ((q 7).toNatClampNeg) x2))), ((a 10), .inl (T 0, 24, .inl f10)), ((a 11), .inl (T 0, 24, .inl f11))] hP hD rfl
  refine lv_aload_n hx hb dX13_comes_20 rfl (lv_at hl 0 rfl) ?_
  refine va_get (D := D) (ci := 10) (v := .ref (a 10)) (C := RX13) (T := TX13) (N := 45) hx hb hts in_X13_comes_X13 hown hE.1 hP 0 rfl rfl 10 (by decide +kernel) (hts (.fieldLink RX13 35 "ClauseBookModel" "one" "[I") (List.mem_of_getElem? (i := 4) rfl)) (fun _ h9 => h9) rfl dX13_comes_21 ?_
  refine lv_aload_n hx hb dX13_comes_24 rfl (lv_at hl 0 rfl) ?_
  refine va_get (D := D) (ci := 10) (v := .int (q 7)) (C := RX13) (T := TX13) (N := 45) hx hb hts in_X13_comes_X13 hown hE.1 hP 0 rfl rfl 7 (by decide +kernel) (hts (.fieldLink RX13 205 "ClauseBookModel" "many" "I") (List.mem_of_getElem? (i := 2) rfl)) (fun _ h9 => h9) rfl dX13_comes_25 ?_
  refine lv_iload_n hx hb dX13_comes_28 rfl (lv_at hl 3 rfl) ?_
  refine va_iast hx hb hE.1 hP hD hS 3 0 rfl rfl (by rw [vp_in_iff]; first | omega | (subst_vars; omega)) dX13_comes_29 (fun H locs hP hD hS => ?_)
  obtain ⟨hP, hD⟩ := wPD [(h0, .inr (10, (Value.int (q 0) :: Value.int (q 1) :: Value.int (q 2) :: Value.int (q 3) :: Value.int (q 4) :: Value.int (q 5) :: Value.int (q 6) :: Value.int (q 7) :: Value.ref (a 8) :: Value.ref (a 9) :: Value.ref (a 10) :: Value.ref (a 11) :: Value.ref (a 12) :: Value.ref (a 13) :: Value.int (q 14) :: Value.long v :: Value.long w :: Value.ref (a 17) :: Value.ref (a 18) :: Value.ref (a 19) :: Value.ref (a 20) :: Value.ref (a 21) :: Value.ref (a 22) :: Value.ref (a 23) :: Value.int (q 24) :: Value.ref (a 25) :: Value.int (q 26) :: Value.ref (a 27) :: Value.int (q 28) :: Value.int (q 29) :: Value.int (q 30) :: Value.int (q 31) :: Value.int (q 32) :: Value.int (q 33) :: Value.ref (a 34) :: Value.ref (a 35) :: Value.ref (a 36) :: Value.ref (a 37) :: Value.ref (a 38) :: Value.ref (a 39) :: Value.ref (a 40) :: Value.int (q 41) :: Value.ref (a 42) :: Value.int (q 43) :: Value.int (q 44) :: []))), ((a 8), .inl (T 0, 24, .inl (upd f8 ((q 7).toNatClampNeg) x1))), ((a 9), .inl (T 0, 24, .inl (upd f9 ((q 7).toNatClampNeg) x2))), ((a 10), .inl (T 0, 24, .inl (upd f10 ((q 7).toNatClampNeg) x3))), ((a 11), .inl (T 0, 24, .inl f11))] hP hD rfl
  refine lv_aload_n hx hb dX13_comes_30 rfl (lv_at hl 0 rfl) ?_
  refine va_get (D := D) (ci := 10) (v := .ref (a 11)) (C := RX13) (T := TX13) (N := 45) hx hb hts in_X13_comes_X13 hown hE.1 hP 0 rfl rfl 11 (by decide +kernel) (hts (.fieldLink RX13 38 "ClauseBookModel" "two" "[I") (List.mem_of_getElem? (i := 5) rfl)) (fun _ h9 => h9) rfl dX13_comes_31 ?_
  refine lv_aload_n hx hb dX13_comes_34 rfl (lv_at hl 0 rfl) ?_
  refine va_get (D := D) (ci := 10) (v := .int (q 7)) (C := RX13) (T := TX13) (N := 45) hx hb hts in_X13_comes_X13 hown hE.1 hP 0 rfl rfl 7 (by decide +kernel) (hts (.fieldLink RX13 205 "ClauseBookModel" "many" "I") (List.mem_of_getElem? (i := 2) rfl)) (fun _ h9 => h9) rfl dX13_comes_35 ?_
  refine lv_iload hx hb dX13_comes_38 (lv_at hl 4 rfl) ?_
  refine va_iast hx hb hE.1 hP hD hS 4 0 rfl rfl (by rw [vp_in_iff]; first | omega | (subst_vars; omega)) dX13_comes_40 (fun H locs hP hD hS => ?_)
  obtain ⟨hP, hD⟩ := wPD [(h0, .inr (10, (Value.int (q 0) :: Value.int (q 1) :: Value.int (q 2) :: Value.int (q 3) :: Value.int (q 4) :: Value.int (q 5) :: Value.int (q 6) :: Value.int (q 7) :: Value.ref (a 8) :: Value.ref (a 9) :: Value.ref (a 10) :: Value.ref (a 11) :: Value.ref (a 12) :: Value.ref (a 13) :: Value.int (q 14) :: Value.long v :: Value.long w :: Value.ref (a 17) :: Value.ref (a 18) :: Value.ref (a 19) :: Value.ref (a 20) :: Value.ref (a 21) :: Value.ref (a 22) :: Value.ref (a 23) :: Value.int (q 24) :: Value.ref (a 25) :: Value.int (q 26) :: Value.ref (a 27) :: Value.int (q 28) :: Value.int (q 29) :: Value.int (q 30) :: Value.int (q 31) :: Value.int (q 32) :: Value.int (q 33) :: Value.ref (a 34) :: Value.ref (a 35) :: Value.ref (a 36) :: Value.ref (a 37) :: Value.ref (a 38) :: Value.ref (a 39) :: Value.ref (a 40) :: Value.int (q 41) :: Value.ref (a 42) :: Value.int (q 43) :: Value.int (q 44) :: []))), ((a 8), .inl (T 0, 24, .inl (upd f8 ((q 7).toNatClampNeg) x1))), ((a 9), .inl (T 0, 24, .inl (upd f9 ((q 7).toNatClampNeg) x2))), ((a 10), .inl (T 0, 24, .inl (upd f10 ((q 7).toNatClampNeg) x3))), ((a 11), .inl (T 0, 24, .inl (upd f11 ((q 7).toNatClampNeg) x4)))] hP hD rfl
  refine lv_aload_n hx hb dX13_comes_41 rfl (lv_at hl 0 rfl) ?_
  refine lv_dup hx hb dX13_comes_42 rfl ?_
  refine va_get (D := D) (ci := 10) (v := .int (q 7)) (C := RX13) (T := TX13) (N := 45) hx hb hts in_X13_comes_X13 hown hE.1 hP 0 rfl rfl 7 (by decide +kernel) (hts (.fieldLink RX13 205 "ClauseBookModel" "many" "I") (List.mem_of_getElem? (i := 2) rfl)) (fun _ h9 => h9) rfl dX13_comes_43 ?_
  refine lv_iconst (v := 1) hx hb dX13_comes_46 (by decide +kernel) ?_
  refine lv_iadd hx hb dX13_comes_47 ?_
  refine lv_topi (fun z_1 ez_1 => ?_)
  refine va_put (D := D) (ci := 10) (v := .int z_1) (ty := .int) (C := RX13) (T := TX13) (N := 45) hx hb hts in_X13_comes_X13 tyX13 tyX13_ok nmX13 hown hE.1 hP hD hS 0 rfl rfl 7 (by decide +kernel) (hts (.fieldLink RX13 205 "ClauseBookModel" "many" "I") (List.mem_of_getElem? (i := 2) rfl)) (fun _ h9 => h9) rfl (by decide +kernel) rfl rfl (Nat.le_of_ble_eq_true rfl) dX13_comes_48 (fun H locs hP hD hS => ?_)
  obtain ⟨hP, hD⟩ := wPD [(h0, .inr (10, (Value.int (q 0) :: Value.int (q 1) :: Value.int (q 2) :: Value.int (q 3) :: Value.int (q 4) :: Value.int (q 5) :: Value.int (q 6) :: Value.int z_1 :: Value.ref (a 8) :: Value.ref (a 9) :: Value.ref (a 10) :: Value.ref (a 11) :: Value.ref (a 12) :: Value.ref (a 13) :: Value.int (q 14) :: Value.long v :: Value.long w :: Value.ref (a 17) :: Value.ref (a 18) :: Value.ref (a 19) :: Value.ref (a 20) :: Value.ref (a 21) :: Value.ref (a 22) :: Value.ref (a 23) :: Value.int (q 24) :: Value.ref (a 25) :: Value.int (q 26) :: Value.ref (a 27) :: Value.int (q 28) :: Value.int (q 29) :: Value.int (q 30) :: Value.int (q 31) :: Value.int (q 32) :: Value.int (q 33) :: Value.ref (a 34) :: Value.ref (a 35) :: Value.ref (a 36) :: Value.ref (a 37) :: Value.ref (a 38) :: Value.ref (a 39) :: Value.ref (a 40) :: Value.int (q 41) :: Value.ref (a 42) :: Value.int (q 43) :: Value.int (q 44) :: []))), ((a 8), .inl (T 0, 24, .inl (upd f8 ((q 7).toNatClampNeg) x1))), ((a 9), .inl (T 0, 24, .inl (upd f9 ((q 7).toNatClampNeg) x2))), ((a 10), .inl (T 0, 24, .inl (upd f10 ((q 7).toNatClampNeg) x3))), ((a 11), .inl (T 0, 24, .inl (upd f11 ((q 7).toNatClampNeg) x4)))] hP hD rfl
  have hz9 : z_1.toInt = (q 7).toInt + 1 := by rw [ez_1]; exact inc1 (n := 1000) (by omega) (by decide +kernel)
  have hz8 := dec1 (i := z_1) (by omega)
  have hokR := okR_up hokR (by omega) hk hc9 hd9
  refine lv_aload_n hx hb dX13_comes_51 rfl (lv_at hl 0 rfl) ?_
  refine va_get (D := D) (ci := 10) (v := .int z_1) (C := RX13) (T := TX13) (N := 45) hx hb hts in_X13_comes_X13 hown hE.1 hP 0 rfl rfl 7 (by decide +kernel) (hts (.fieldLink RX13 205 "ClauseBookModel" "many" "I") (List.mem_of_getElem? (i := 2) rfl)) (fun _ h9 => h9) rfl dX13_comes_52 ?_
  refine lv_iconst (v := 1) hx hb dX13_comes_55 (by decide +kernel) ?_
  refine lv_isub hx hb dX13_comes_56 ?_
  exact W.iret hx hb hr (fun t ht hW => ⟨⟨_, (z_1, (upd f8 ((q 7).toNatClampNeg) x1), (upd f9 ((q 7).toNatClampNeg) x2), (upd f10 ((q 7).toNatClampNeg) x3), (upd f11 ((q 7).toNatClampNeg) x4)), rfl, ⟨(show okR (upd f8 ((q 7).toNatClampNeg) x1) (upd f10 ((q 7).toNatClampNeg) x3) (upd f11 ((q 7).toNatClampNeg) x4) from hokR), (show (z_1 - 1).toInt = (q 7).toInt ∧ z_1.toInt = (q 7).toInt + 1 from (by first | omega | (subst_vars; omega))), (show (upd f8 ((q 7).toNatClampNeg) x1) = upd f8 ((q 7).toNatClampNeg) x1 ∧ (upd f9 ((q 7).toNatClampNeg) x2) = upd f9 ((q 7).toNatClampNeg) x2 ∧ (upd f10 ((q 7).toNatClampNeg) x3) = upd f10 ((q 7).toNatClampNeg) x3 ∧ (upd f11 ((q 7).toNatClampNeg) x4) = upd f11 ((q 7).toNatClampNeg) x4 from ⟨rfl, rfl, rfl, rfl⟩)⟩, by rw [ht]; exact hP.sub [0, 1, 2, 3, 4] rfl, hD.sub [0, 1, 2, 3, 4] (by decide +kernel) rfl⟩, hS.F ht⟩) hS.2.2 dX13_comes_57
theorem dX13_clause_0 : decode cX13_clause 0 = .ok (.iload_n 1, 1) := by decide +kernel
theorem dX13_clause_1 : decode cX13_clause 1 = .ok (.i2l, 1) := by decide +kernel
theorem dX13_clause_12 : decode cX13_clause 12 = .ok (.iload_n 1, 1) := by decide +kernel
theorem dX13_clause_13 : decode cX13_clause 13 = .ok (.iload_n 2, 1) := by decide +kernel
theorem dX13_clause_14 : decode cX13_clause 14 = .ok (.invokestatic 216, 3) := by decide +kernel
theorem dX13_clause_17 : decode cX13_clause 17 = .ok (.ifCond .eq 17, 3) := by decide +kernel
theorem dX13_clause_2 : decode cX13_clause 2 = .ok (.lconst 0, 1) := by decide +kernel
theorem dX13_clause_20 : decode cX13_clause 20 = .ok (.iload_n 1, 1) := by decide +kernel
theorem dX13_clause_21 : decode cX13_clause 21 = .ok (.iload_n 3, 1) := by decide +kernel
theorem dX13_clause_22 : decode cX13_clause 22 = .ok (.iload 4, 2) := by decide +kernel
theorem dX13_clause_24 : decode cX13_clause 24 = .ok (.aload_n 0, 1) := by decide +kernel
theorem dX13_clause_25 : decode cX13_clause 25 = .ok (.getfield 205, 3) := by decide +kernel
theorem dX13_clause_28 : decode cX13_clause 28 = .ok (.invokestatic 219, 3) := by decide +kernel
theorem dX13_clause_3 : decode cX13_clause 3 = .ok (.ldc2_w 214, 3) := by decide +kernel
theorem dX13_clause_31 : decode cX13_clause 31 = .ok (.ifCond .ne 6, 3) := by decide +kernel
theorem dX13_clause_34 : decode cX13_clause 34 = .ok (.bipush (-2), 2) := by decide +kernel
theorem dX13_clause_36 : decode cX13_clause 36 = .ok (.ireturn, 1) := by decide +kernel
theorem dX13_clause_37 : decode cX13_clause 37 = .ok (.aload_n 0, 1) := by decide +kernel
theorem dX13_clause_38 : decode cX13_clause 38 = .ok (.getfield 205, 3) := by decide +kernel
theorem dX13_clause_41 : decode cX13_clause 41 = .ok (.bipush 24, 2) := by decide +kernel
theorem dX13_clause_43 : decode cX13_clause 43 = .ok (.if_icmp .ne 8, 3) := by decide +kernel
theorem dX13_clause_46 : decode cX13_clause 46 = .ok (.bipush (-4), 2) := by decide +kernel
theorem dX13_clause_48 : decode cX13_clause 48 = .ok (.goto 12, 3) := by decide +kernel
theorem dX13_clause_51 : decode cX13_clause 51 = .ok (.aload_n 0, 1) := by decide +kernel
theorem dX13_clause_52 : decode cX13_clause 52 = .ok (.iload_n 1, 1) := by decide +kernel
theorem dX13_clause_53 : decode cX13_clause 53 = .ok (.iload_n 2, 1) := by decide +kernel
theorem dX13_clause_54 : decode cX13_clause 54 = .ok (.iload_n 3, 1) := by decide +kernel
theorem dX13_clause_55 : decode cX13_clause 55 = .ok (.iload 4, 2) := by decide +kernel
theorem dX13_clause_57 : decode cX13_clause 57 = .ok (.invokevirtual 223, 3) := by decide +kernel
theorem dX13_clause_6 : decode cX13_clause 6 = .ok (.invokestatic 175, 3) := by decide +kernel
theorem dX13_clause_60 : decode cX13_clause 60 = .ok (.ireturn, 1) := by decide +kernel
theorem dX13_clause_9 : decode cX13_clause 9 = .ok (.ifCond .eq 25, 3) := by decide +kernel
set_option maxRecDepth 20000 in
theorem ggX13_clause_X13_areNamed : GoodIn wsX13_clause wsX13_areNamed := goodIn_r _ [17, 18, 19, 5, 20, 3, 4, 6] rfl (by decide +kernel)
set_option maxRecDepth 20000 in
theorem ggX13_clause_X13_comes : GoodIn wsX13_clause wsX13_comes := goodIn_r _ [24, 25, 2, 26, 27, 28, 29, 30, 31, 32, 33, 34, 35, 36, 37, 38, 39, 40, 41, 42, 43, 44, 45, 46, 47, 48, 49, 50, 51, 52, 53, 54, 55, 56, 57, 58, 59, 60, 61, 62, 63, 64, 65, 66, 67, 68, 69, 70, 71, 72, 73] rfl (by decide +kernel)
set_option maxRecDepth 20000 in
theorem ggX13_clause_X13_in : GoodIn wsX13_clause wsX13_in := goodIn_r _ [6] rfl (by decide +kernel)
set_option maxRecDepth 20000 in
theorem ggX13_clause_X13_isNumber : GoodIn wsX13_clause wsX13_isNumber := goodIn_r _ [9, 10, 11, 12, 13, 14, 3, 4, 5, 6] rfl (by decide +kernel)
set_option maxRecDepth 20000 in
theorem gX13_clause_X13_areNamed : GoodIn wsX13_clause (va_wsS RX13 219 yX13_areNamed wsX13_areNamed) := goodIn_app (goodIn_of _ (by decide +kernel)) ggX13_clause_X13_areNamed
set_option maxRecDepth 20000 in
theorem gX13_clause_X13_comes : GoodIn wsX13_clause (wsV RX13 223 RX13 yX13_comes wsX13_comes) := goodIn_app (goodIn_r _ [21, 22, 23, 5] rfl (by decide +kernel)) ggX13_clause_X13_comes
set_option maxRecDepth 20000 in
theorem gX13_clause_X13_in : GoodIn wsX13_clause (va_wsS RX13 175 yX13_in wsX13_in) := goodIn_app (goodIn_of _ (by decide +kernel)) ggX13_clause_X13_in
set_option maxRecDepth 20000 in
theorem gX13_clause_X13_isNumber : GoodIn wsX13_clause (va_wsS RX13 216 yX13_isNumber wsX13_isNumber) := goodIn_app (goodIn_of _ (by decide +kernel)) ggX13_clause_X13_isNumber
theorem hs_X13_areNamed : yX13_areNamed.cls ≠ "java/lang/invoke/MethodHandle" ∧ yX13_areNamed.cls ≠ "java/lang/invoke/VarHandle" ∧ (parseMethodDescriptor yX13_areNamed.desc).map (fun d => d.parameters.length) = some 4 := by decide +kernel
theorem hs_X13_isNumber : yX13_isNumber.cls ≠ "java/lang/invoke/MethodHandle" ∧ yX13_isNumber.cls ≠ "java/lang/invoke/VarHandle" ∧ (parseMethodDescriptor yX13_isNumber.desc).map (fun d => d.parameters.length) = some 2 := by decide +kernel
theorem hv_X13_comes : yX13_comes.cls = RX13 ∧ yX13_comes.cls ≠ "java/lang/invoke/MethodHandle" ∧ yX13_comes.cls ≠ "java/lang/invoke/VarHandle" ∧ (parseMethodDescriptor yX13_comes.desc).map (fun d => d.parameters.length) = some 4 := by decide +kernel
set_option maxRecDepth 20000 in
theorem in_X13_clause_X13 : ∀ w ∈ wsX130, w ∈ wsX13_clause := sub_r [29, 30, 31, 32, 33, 34, 35, 36, 37, 38, 39, 40, 41, 42, 43, 44, 45, 46, 47, 48, 49, 50, 51, 52, 53, 54, 55, 56, 57, 58, 59, 60, 61, 62, 63, 64, 65, 66, 67, 68, 69, 70, 71, 72, 73] rfl
set_option maxHeartbeats 4000000 in
set_option maxRecDepth 100000 in
theorem c_X13_clause (l : Launch) (D : va_G) (T : Nat → ClassId) (sz : Nat) (h0 : Nat) (q : Nat → Int32) (v : Int64) (w : Int64) (a : Nat → Nat) (f8 : Nat → Int32) (f9 : Nat → Int32) (f10 : Nat → Int32) (f11 : Nat → Int32) (x1 : Int32) (x2 : Int32) (x3 : Int32) (x4 : Int32) (hm : 0 ≤ (q 7).toInt ∧ (q 7).toInt ≤ 24) (hokR : okR f8 f10 f11) : Met l yX13_clause wsX13_clause ({ frames := 2, cells := 0, slots := 0, locals := 48 }) (pW [.ref h0, .int x1, .int x2, .int x3, .int x4] D T [(h0, .inr (10, (Value.int (q 0) :: Value.int (q 1) :: Value.int (q 2) :: Value.int (q 3) :: Value.int (q 4) :: Value.int (q 5) :: Value.int (q 6) :: Value.int (q 7) :: Value.ref (a 8) :: Value.ref (a 9) :: Value.ref (a 10) :: Value.ref (a 11) :: Value.ref (a 12) :: Value.ref (a 13) :: Value.int (q 14) :: Value.long v :: Value.long w :: Value.ref (a 17) :: Value.ref (a 18) :: Value.ref (a 19) :: Value.ref (a 20) :: Value.ref (a 21) :: Value.ref (a 22) :: Value.ref (a 23) :: Value.int (q 24) :: Value.ref (a 25) :: Value.int (q 26) :: Value.ref (a 27) :: Value.int (q 28) :: Value.int (q 29) :: Value.int (q 30) :: Value.int (q 31) :: Value.int (q 32) :: Value.int (q 33) :: Value.ref (a 34) :: Value.ref (a 35) :: Value.ref (a 36) :: Value.ref (a 37) :: Value.ref (a 38) :: Value.ref (a 39) :: Value.ref (a 40) :: Value.int (q 41) :: Value.ref (a 42) :: Value.int (q 43) :: Value.int (q 44) :: []))), ((a 8), .inl (T 0, 24, .inl f8)), ((a 9), .inl (T 0, 24, .inl f9)), ((a 10), .inl (T 0, 24, .inl f10)), ((a 11), .inl (T 0, 24, .inl f11))] sz) (va_Qi (fun (r : Int32) (u : (Int32) × (Nat → Int32) × (Nat → Int32) × (Nat → Int32) × (Nat → Int32)) => (okR u.2.1 u.2.2.2.1 u.2.2.2.2) ∧ (0 ≤ u.1.toInt ∧ u.1.toInt ≤ 24) ∧ (clauseR (q 7) x1 x2 x3 x4 r u.1 f8 f9 f10 f11 u.2.1 u.2.2.1 u.2.2.2.1 u.2.2.2.2 )) (bW D (va_A [(h0, .inr (10, (Value.int (q 0) :: Value.int (q 1) :: Value.int (q 2) :: Value.int (q 3) :: Value.int (q 4) :: Value.int (q 5) :: Value.int (q 6) :: Value.int (q 7) :: Value.ref (a 8) :: Value.ref (a 9) :: Value.ref (a 10) :: Value.ref (a 11) :: Value.ref (a 12) :: Value.ref (a 13) :: Value.int (q 14) :: Value.long v :: Value.long w :: Value.ref (a 17) :: Value.ref (a 18) :: Value.ref (a 19) :: Value.ref (a 20) :: Value.ref (a 21) :: Value.ref (a 22) :: Value.ref (a 23) :: Value.int (q 24) :: Value.ref (a 25) :: Value.int (q 26) :: Value.ref (a 27) :: Value.int (q 28) :: Value.int (q 29) :: Value.int (q 30) :: Value.int (q 31) :: Value.int (q 32) :: Value.int (q 33) :: Value.ref (a 34) :: Value.ref (a 35) :: Value.ref (a 36) :: Value.ref (a 37) :: Value.ref (a 38) :: Value.ref (a 39) :: Value.ref (a 40) :: Value.int (q 41) :: Value.ref (a 42) :: Value.int (q 43) :: Value.int (q 44) :: []))), ((a 8), .inl (T 0, 24, .inl f8)), ((a 9), .inl (T 0, 24, .inl f9)), ((a 10), .inl (T 0, 24, .inl f10)), ((a 11), .inl (T 0, 24, .inl f11))] sz) (fun (u : (Int32) × (Nat → Int32) × (Nat → Int32) × (Nat → Int32) × (Nat → Int32)) => [(h0, .inr (10, (Value.int (q 0) :: Value.int (q 1) :: Value.int (q 2) :: Value.int (q 3) :: Value.int (q 4) :: Value.int (q 5) :: Value.int (q 6) :: Value.int u.1 :: Value.ref (a 8) :: Value.ref (a 9) :: Value.ref (a 10) :: Value.ref (a 11) :: Value.ref (a 12) :: Value.ref (a 13) :: Value.int (q 14) :: Value.long v :: Value.long w :: Value.ref (a 17) :: Value.ref (a 18) :: Value.ref (a 19) :: Value.ref (a 20) :: Value.ref (a 21) :: Value.ref (a 22) :: Value.ref (a 23) :: Value.int (q 24) :: Value.ref (a 25) :: Value.int (q 26) :: Value.ref (a 27) :: Value.int (q 28) :: Value.int (q 29) :: Value.int (q 30) :: Value.int (q 31) :: Value.int (q 32) :: Value.int (q 33) :: Value.ref (a 34) :: Value.ref (a 35) :: Value.ref (a 36) :: Value.ref (a 37) :: Value.ref (a 38) :: Value.ref (a 39) :: Value.ref (a 40) :: Value.int (q 41) :: Value.ref (a 42) :: Value.int (q 43) :: Value.int (q 44) :: []))), ((a 8), .inl (T 0, 24, .inl u.2.1)), ((a 9), .inl (T 0, 24, .inl u.2.2.1)), ((a 10), .inl (T 0, 24, .inl u.2.2.2.1)), ((a 11), .inl (T 0, 24, .inl u.2.2.2.2))])) (va_A [(h0, .inr (10, (Value.int (q 0) :: Value.int (q 1) :: Value.int (q 2) :: Value.int (q 3) :: Value.int (q 4) :: Value.int (q 5) :: Value.int (q 6) :: Value.int (q 7) :: Value.ref (a 8) :: Value.ref (a 9) :: Value.ref (a 10) :: Value.ref (a 11) :: Value.ref (a 12) :: Value.ref (a 13) :: Value.int (q 14) :: Value.long v :: Value.long w :: Value.ref (a 17) :: Value.ref (a 18) :: Value.ref (a 19) :: Value.ref (a 20) :: Value.ref (a 21) :: Value.ref (a 22) :: Value.ref (a 23) :: Value.int (q 24) :: Value.ref (a 25) :: Value.int (q 26) :: Value.ref (a 27) :: Value.int (q 28) :: Value.int (q 29) :: Value.int (q 30) :: Value.int (q 31) :: Value.int (q 32) :: Value.int (q 33) :: Value.ref (a 34) :: Value.ref (a 35) :: Value.ref (a 36) :: Value.ref (a 37) :: Value.ref (a 38) :: Value.ref (a 39) :: Value.ref (a 40) :: Value.int (q 41) :: Value.ref (a 42) :: Value.int (q 43) :: Value.int (q 44) :: []))), ((a 8), .inl (T 0, 24, .inl f8)), ((a 9), .inl (T 0, 24, .inl f9)), ((a 10), .inl (T 0, 24, .inl f10)), ((a 11), .inl (T 0, 24, .inl f11))] sz)) 0 0 (va_A [(h0, .inr (10, (Value.int (q 0) :: Value.int (q 1) :: Value.int (q 2) :: Value.int (q 3) :: Value.int (q 4) :: Value.int (q 5) :: Value.int (q 6) :: Value.int (q 7) :: Value.ref (a 8) :: Value.ref (a 9) :: Value.ref (a 10) :: Value.ref (a 11) :: Value.ref (a 12) :: Value.ref (a 13) :: Value.int (q 14) :: Value.long v :: Value.long w :: Value.ref (a 17) :: Value.ref (a 18) :: Value.ref (a 19) :: Value.ref (a 20) :: Value.ref (a 21) :: Value.ref (a 22) :: Value.ref (a 23) :: Value.int (q 24) :: Value.ref (a 25) :: Value.int (q 26) :: Value.ref (a 27) :: Value.int (q 28) :: Value.int (q 29) :: Value.int (q 30) :: Value.int (q 31) :: Value.int (q 32) :: Value.int (q 33) :: Value.ref (a 34) :: Value.ref (a 35) :: Value.ref (a 36) :: Value.ref (a 37) :: Value.ref (a 38) :: Value.ref (a 39) :: Value.ref (a 40) :: Value.int (q 41) :: Value.ref (a 42) :: Value.int (q 43) :: Value.int (q 44) :: []))), ((a 8), .inl (T 0, 24, .inl f8)), ((a 9), .inl (T 0, 24, .inl f9)), ((a 10), .inl (T 0, 24, .inl f10)), ((a 11), .inl (T 0, 24, .inl f11))] sz) := by
  refine Met.ofW (cc := cX13_clause) (maxL := 5) (ret := (some .int)) (by decide +kernel) rfl ?_
  intro p e s m args below meth c s₁ B hml hv
  obtain ⟨rfl, hsz, hP, hE, hD0⟩ := hv
  have hx := B.exec
  have hb := B.bytes
  have hr := B.returns
  have hts := atoms_spec (ws := wsX13_clause) B.pre
  have hown : s.vm.findClass RX13 = some m.cls := findClass_of_methodNamed B.named
  have hlocks := B.notSynchronized
  subst hsz
  have hD := hD0.self (sz := s.heap.size)
  generalize hAe : va_A [(h0, .inr (10, (Value.int (q 0) :: Value.int (q 1) :: Value.int (q 2) :: Value.int (q 3) :: Value.int (q 4) :: Value.int (q 5) :: Value.int (q 6) :: Value.int (q 7) :: Value.ref (a 8) :: Value.ref (a 9) :: Value.ref (a 10) :: Value.ref (a 11) :: Value.ref (a 12) :: Value.ref (a 13) :: Value.int (q 14) :: Value.long v :: Value.long w :: Value.ref (a 17) :: Value.ref (a 18) :: Value.ref (a 19) :: Value.ref (a 20) :: Value.ref (a 21) :: Value.ref (a 22) :: Value.ref (a 23) :: Value.int (q 24) :: Value.ref (a 25) :: Value.int (q 26) :: Value.ref (a 27) :: Value.int (q 28) :: Value.int (q 29) :: Value.int (q 30) :: Value.int (q 31) :: Value.int (q 32) :: Value.int (q 33) :: Value.ref (a 34) :: Value.ref (a 35) :: Value.ref (a 36) :: Value.ref (a 37) :: Value.ref (a 38) :: Value.ref (a 39) :: Value.ref (a 40) :: Value.int (q 41) :: Value.ref (a 42) :: Value.int (q 43) :: Value.int (q 44) :: []))), ((a 8), .inl (T 0, 24, .inl f8)), ((a 9), .inl (T 0, 24, .inl f9)), ((a 10), .inl (T 0, 24, .inl f10)), ((a 11), .inl (T 0, 24, .inl f11))] s.heap.size = A at hD ⊢
  have hA : ∀ q : Nat, s.heap.size ≤ q → A q := fun q h => by rw [← hAe]; exact Or.inr h
  have hS : va_S A s.heap s.heap [] := va_S.rf
  have hP : va_P D vwCl [(h0, .inr (10, (Value.int (q 0) :: Value.int (q 1) :: Value.int (q 2) :: Value.int (q 3) :: Value.int (q 4) :: Value.int (q 5) :: Value.int (q 6) :: Value.int (q 7) :: Value.ref (a 8) :: Value.ref (a 9) :: Value.ref (a 10) :: Value.ref (a 11) :: Value.ref (a 12) :: Value.ref (a 13) :: Value.int (q 14) :: Value.long v :: Value.long w :: Value.ref (a 17) :: Value.ref (a 18) :: Value.ref (a 19) :: Value.ref (a 20) :: Value.ref (a 21) :: Value.ref (a 22) :: Value.ref (a 23) :: Value.int (q 24) :: Value.ref (a 25) :: Value.int (q 26) :: Value.ref (a 27) :: Value.int (q 28) :: Value.int (q 29) :: Value.int (q 30) :: Value.int (q 31) :: Value.int (q 32) :: Value.int (q 33) :: Value.ref (a 34) :: Value.ref (a 35) :: Value.ref (a 36) :: Value.ref (a 37) :: Value.ref (a 38) :: Value.ref (a 39) :: Value.ref (a 40) :: Value.int (q 41) :: Value.ref (a 42) :: Value.int (q 43) :: Value.int (q 44) :: []))), ((a 8), .inl (T 0, 24, .inl f8)), ((a 9), .inl (T 0, 24, .inl f9)), ((a 10), .inl (T 0, 24, .inl f10)), ((a 11), .inl (T 0, 24, .inl f11))] s.heap := hP
  have hl := lv_entry ([.ref h0, .int x1, .int x2, .int x3, .int x4]) (n := 5) (Nat.le_of_ble_eq_true rfl)
  rw [lg_entry_eq]
  generalize (lg_sl ([.ref h0, .int x1, .int x2, .int x3, .int x4]) ++ List.replicate (5 - (lg_sl ([.ref h0, .int x1, .int x2, .int x3, .int x4])).length) Slot.unset).toArray = ls at hl ⊢
  have hl : lv_has ls 5 [(0, .ref h0), (1, .int x1), (2, .int x2), (3, .int x3), (4, .int x4)] := hl
  clear hD0
  refine lv_iload_n hx hb dX13_clause_0 rfl (lv_at hl 1 rfl) ?_
  refine lv_i2l hx hb dX13_clause_1 rfl ?_
  refine lv_lconst (v := 0) hx hb dX13_clause_2 (by decide +kernel) ?_
  refine lv_ldc2 (v := 12) hx hb hown (hts (.constantLong RX13 214 (12)) (List.mem_of_getElem? (i := 1) rfl)) dX13_clause_3 ?_
  refine vp_callSi (W.runS (As := [.long (x1.toInt64), .long 0, .long 12]) (rest := []) ⟨hx, hb, hml, hown, hts⟩ (c_X13_in l D T (x1.toInt64) 0 12 x1.toInt 0 12 ((Int32.toInt_toInt64 _).trans rfl) (by decide +kernel) (by decide +kernel)) (va_cwS 3 hts gX13_clause_X13_in rfl rfl rfl hs_X13_in ⟨Nat.le_of_ble_eq_true rfl, Nat.le_of_ble_eq_true rfl⟩) (pR_S hP hE [] rfl) rfl rfl hl.1 rfl (lv_room (Nat.le_of_ble_eq_true rfl)) dX13_clause_6 ⟨Nat.le_of_ble_eq_true rfl, Nat.le_of_ble_eq_true rfl⟩) (fun r_1 hr_1 => ?_)
  rcases bool_post hr_1 with ⟨c_2, rfl⟩ | ⟨c_2, rfl⟩
  · refine lv_if_eq (tgt := 34) hx hb dX13_clause_9 (by decide +kernel) (fun c9 => absurd c9 (by decide +kernel)) (fun _ => ?_)
    refine lv_iload_n hx hb dX13_clause_12 rfl (lv_at hl 1 rfl) ?_
    refine lv_iload_n hx hb dX13_clause_13 rfl (lv_at hl 2 rfl) ?_
    refine vp_callSi (W.runS (As := [.int x1, .int x2]) (rest := []) ⟨hx, hb, hml, hown, hts⟩ (c_X13_isNumber l D T x1 x2 (by omega)) (va_cwS 2 hts gX13_clause_X13_isNumber rfl rfl rfl hs_X13_isNumber ⟨Nat.le_of_ble_eq_true rfl, Nat.le_of_ble_eq_true rfl⟩) (pR_S hP hE [] rfl) rfl rfl hl.1 rfl (lv_room (Nat.le_of_ble_eq_true rfl)) dX13_clause_14 ⟨Nat.le_of_ble_eq_true rfl, Nat.le_of_ble_eq_true rfl⟩) (fun r_3 hr_3 => ?_)
    rcases bool_post hr_3 with ⟨c_4, rfl⟩ | ⟨c_4, rfl⟩
    · refine lv_if_eq (tgt := 34) hx hb dX13_clause_17 (by decide +kernel) (fun c9 => absurd c9 (by decide +kernel)) (fun _ => ?_)
      refine lv_iload_n hx hb dX13_clause_20 rfl (lv_at hl 1 rfl) ?_
      refine lv_iload_n hx hb dX13_clause_21 rfl (lv_at hl 3 rfl) ?_
      refine lv_iload hx hb dX13_clause_22 (lv_at hl 4 rfl) ?_
      refine lv_aload_n hx hb dX13_clause_24 rfl (lv_at hl 0 rfl) ?_
      refine va_get (D := D) (ci := 10) (v := .int (q 7)) (C := RX13) (T := TX13) (N := 45) hx hb hts in_X13_clause_X13 hown hE.1 hP 0 rfl rfl 7 (by decide +kernel) (hts (.fieldLink RX13 205 "ClauseBookModel" "many" "I") (List.mem_of_getElem? (i := 2) rfl)) (fun _ h9 => h9) rfl dX13_clause_25 ?_
      refine vp_callSi (W.runS (As := [.int x1, .int x3, .int x4, .int (q 7)]) (rest := []) ⟨hx, hb, hml, hown, hts⟩ (c_X13_areNamed l D T x1 x3 x4 (q 7) (by omega) (by omega)) (va_cwS 4 hts gX13_clause_X13_areNamed rfl rfl rfl hs_X13_areNamed ⟨Nat.le_of_ble_eq_true rfl, Nat.le_of_ble_eq_true rfl⟩) (pR_S hP hE [] rfl) rfl rfl hl.1 rfl (lv_room (Nat.le_of_ble_eq_true rfl)) dX13_clause_28 ⟨Nat.le_of_ble_eq_true rfl, Nat.le_of_ble_eq_true rfl⟩) (fun r_5 hr_5 => ?_)
      rcases bool_post hr_5 with ⟨c_6, rfl⟩ | ⟨c_6, rfl⟩
      · refine lv_if_ne (tgt := 37) hx hb dX13_clause_31 (by decide +kernel) (fun _ => ?_) (fun c9 => absurd c9 (by decide +kernel))
        have ha9 : mayP (x1.toNatClampNeg) x3 x4 (q 7) := by assumption
        refine lv_aload_n hx hb dX13_clause_37 rfl (lv_at hl 0 rfl) ?_
        refine va_get (D := D) (ci := 10) (v := .int (q 7)) (C := RX13) (T := TX13) (N := 45) hx hb hts in_X13_clause_X13 hown hE.1 hP 0 rfl rfl 7 (by decide +kernel) (hts (.fieldLink RX13 205 "ClauseBookModel" "many" "I") (List.mem_of_getElem? (i := 2) rfl)) (fun _ h9 => h9) rfl dX13_clause_38 ?_
        refine lv_bipush (v := 24) hx hb dX13_clause_41 (by decide +kernel) ?_
        refine lv_icmp_ne (tgt := 51) hx hb dX13_clause_43 (by decide +kernel) (fun c_7 => ?_) (fun c_7 => ?_)
        · rw [fa_eq] at c_7
          try rw [ti_24] at c_7
          refine lv_aload_n hx hb dX13_clause_51 rfl (lv_at hl 0 rfl) ?_
          refine lv_iload_n hx hb dX13_clause_52 rfl (lv_at hl 1 rfl) ?_
          refine lv_iload_n hx hb dX13_clause_53 rfl (lv_at hl 2 rfl) ?_
          refine lv_iload_n hx hb dX13_clause_54 rfl (lv_at hl 3 rfl) ?_
          refine lv_iload hx hb dX13_clause_55 (lv_at hl 4 rfl) ?_
          have hFc := va_free (wc := [(h0, .inr (10, (Value.int (q 0) :: Value.int (q 1) :: Value.int (q 2) :: Value.int (q 3) :: Value.int (q 4) :: Value.int (q 5) :: Value.int (q 6) :: Value.int (q 7) :: Value.ref (a 8) :: Value.ref (a 9) :: Value.ref (a 10) :: Value.ref (a 11) :: Value.ref (a 12) :: Value.ref (a 13) :: Value.int (q 14) :: Value.long v :: Value.long w :: Value.ref (a 17) :: Value.ref (a 18) :: Value.ref (a 19) :: Value.ref (a 20) :: Value.ref (a 21) :: Value.ref (a 22) :: Value.ref (a 23) :: Value.int (q 24) :: Value.ref (a 25) :: Value.int (q 26) :: Value.ref (a 27) :: Value.int (q 28) :: Value.int (q 29) :: Value.int (q 30) :: Value.int (q 31) :: Value.int (q 32) :: Value.int (q 33) :: Value.ref (a 34) :: Value.ref (a 35) :: Value.ref (a 36) :: Value.ref (a 37) :: Value.ref (a 38) :: Value.ref (a 39) :: Value.ref (a 40) :: Value.int (q 41) :: Value.ref (a 42) :: Value.int (q 43) :: Value.int (q 44) :: []))), ((a 8), .inl (T 0, 24, .inl f8)), ((a 9), .inl (T 0, 24, .inl f9)), ((a 10), .inl (T 0, 24, .inl f10)), ((a 11), .inl (T 0, 24, .inl f11))]) hD hS hA [0, 1, 2, 3, 4] rfl
          refine va_calli (va_runV (As := [.int x1, .int x2, .int x3, .int x4]) (rest := []) ⟨hx, hb, hml, hown, hts⟩ (c_X13_comes l D T _ h0 q v w a f8 f9 f10 f11 x1 x2 x3 x4 (show 0 ≤ (q 7).toInt ∧ (q 7).toInt < 24 from (by omega)) (show okR f8 f10 f11 from hokR) (show 0 ≤ x1.toInt ∧ x1.toInt ≤ 12 from (by omega)) (show 1 ≤ (nmT (x1.toNatClampNeg)).toInt → 0 ≤ x3.toInt ∧ x3.toInt < (q 7).toInt from ha9.1.1) (show (nmT (x1.toNatClampNeg)).toInt = 2 → 0 ≤ x4.toInt ∧ x4.toInt < (q 7).toInt from ha9.2.1)) (cwV 4 hts gX13_clause_X13_comes rfl rfl rfl hv_X13_comes ⟨Nat.le_of_ble_eq_true rfl, Nat.le_of_ble_eq_true rfl⟩) (pW_V (q := (RX13, TX13, 45)) (ci := 10) (q0 := 0) hP hE hD rfl rfl [0, 1, 2, 3, 4] (by decide +kernel) rfl rfl) rfl rfl hl.1 rfl (lv_room (Nat.le_of_ble_eq_true rfl)) dX13_clause_57 ⟨Nat.le_of_ble_eq_true rfl, Nat.le_of_ble_eq_true rfl⟩) hS (fun q _ h => hFc q h) hFc (fun r_8 u_9 t H1 locs ht hvm hr_8 hB hz1 hk1 hS => ?_)
          obtain ⟨n_10, f_11, f_12, f_13, f_14⟩ := u_9
          obtain ⟨hi0_r_8, hi1_r_8, hi2_r_8⟩ := hr_8
          have hokR : okR f_11 f_13 f_14 := hi0_r_8
          have hcr : r_8.toInt = (q 7).toInt ∧ n_10.toInt = (q 7).toInt + 1 := hi1_r_8
          have hcm : f_11 = upd f8 ((q 7).toNatClampNeg) x1 ∧ f_12 = upd f9 ((q 7).toNatClampNeg) x2 ∧ f_13 = upd f10 ((q 7).toNatClampNeg) x3 ∧ f_14 = upd f11 ((q 7).toNatClampNeg) x4 := hi2_r_8
          obtain ⟨hP1, hD1⟩ := hB
          rw [ht] at hP1
          obtain ⟨hP, hD⟩ := va_repl [(h0, .inr (10, (Value.int (q 0) :: Value.int (q 1) :: Value.int (q 2) :: Value.int (q 3) :: Value.int (q 4) :: Value.int (q 5) :: Value.int (q 6) :: Value.int n_10 :: Value.ref (a 8) :: Value.ref (a 9) :: Value.ref (a 10) :: Value.ref (a 11) :: Value.ref (a 12) :: Value.ref (a 13) :: Value.int (q 14) :: Value.long v :: Value.long w :: Value.ref (a 17) :: Value.ref (a 18) :: Value.ref (a 19) :: Value.ref (a 20) :: Value.ref (a 21) :: Value.ref (a 22) :: Value.ref (a 23) :: Value.int (q 24) :: Value.ref (a 25) :: Value.int (q 26) :: Value.ref (a 27) :: Value.int (q 28) :: Value.int (q 29) :: Value.int (q 30) :: Value.int (q 31) :: Value.int (q 32) :: Value.int (q 33) :: Value.ref (a 34) :: Value.ref (a 35) :: Value.ref (a 36) :: Value.ref (a 37) :: Value.ref (a 38) :: Value.ref (a 39) :: Value.ref (a 40) :: Value.int (q 41) :: Value.ref (a 42) :: Value.int (q 43) :: Value.int (q 44) :: []))), ((a 8), .inl (T 0, 24, .inl f_11)), ((a 9), .inl (T 0, 24, .inl f_12)), ((a 10), .inl (T 0, 24, .inl f_13)), ((a 11), .inl (T 0, 24, .inl f_14))] hP hD [0, 1, 2, 3, 4] [0, 1, 2, 3, 4] rfl (by decide +kernel) rfl rfl rfl hk1 hP1
          clear hP1 hD1 hFc
          generalize H1 = H at hP hS ⊢
          exact W.iret hx hb hr (fun t ht hW => ⟨⟨_, (n_10, f_11, f_12, f_13, f_14), rfl, ⟨(show okR f_11 f_13 f_14 from hokR), (show 0 ≤ n_10.toInt ∧ n_10.toInt ≤ 24 from (by first | omega | (subst_vars; omega))), (show clauseR (q 7) x1 x2 x3 x4 r_8 n_10 f8 f9 f10 f11 f_11 f_12 f_13 f_14  from (Or.inr (Or.inr ⟨⟨by omega, by omega, ha9⟩, (by omega), hcr.1, hcr.2, hcm.1, hcm.2.1, hcm.2.2.1, hcm.2.2.2⟩)))⟩, by rw [ht]; exact hP.sub [0, 1, 2, 3, 4] rfl, hD.sub [0, 1, 2, 3, 4] (by decide +kernel) rfl⟩, hS.F ht⟩) hS.2.2 dX13_clause_60
        · rw [fa_eq] at c_7
          try rw [ti_24] at c_7
          refine lv_bipush (v := (-4)) hx hb dX13_clause_46 (by decide +kernel) ?_
          refine lv_goto (tgt := 60) hx hb dX13_clause_48 (by decide +kernel) ?_
          exact W.iret hx hb hr (fun t ht hW => ⟨⟨_, ((q 7), f8, f9, f10, f11), rfl, ⟨(show okR f8 f10 f11 from hokR), (show 0 ≤ (q 7).toInt ∧ (q 7).toInt ≤ 24 from (by first | omega | (subst_vars; omega))), (show clauseR (q 7) x1 x2 x3 x4 ((-4) : Int32) (q 7) f8 f9 f10 f11 f8 f9 f10 f11  from (Or.inr (Or.inl ⟨⟨by omega, by omega, ha9⟩, (by omega), (by decide +kernel), ⟨rfl, rfl, rfl, rfl, rfl⟩⟩)))⟩, by rw [ht]; exact hP.sub [0, 1, 2, 3, 4] rfl, hD.sub [0, 1, 2, 3, 4] (by decide +kernel) rfl⟩, hS.F ht⟩) hS.2.2 dX13_clause_60
      · refine lv_if_ne (tgt := 37) hx hb dX13_clause_31 (by decide +kernel) (fun c9 => absurd c9 (by decide +kernel)) (fun _ => ?_)
        refine lv_bipush (v := (-2)) hx hb dX13_clause_34 (by decide +kernel) ?_
        exact W.iret hx hb hr (fun t ht hW => ⟨⟨_, ((q 7), f8, f9, f10, f11), rfl, ⟨(show okR f8 f10 f11 from hokR), (show 0 ≤ (q 7).toInt ∧ (q 7).toInt ≤ 24 from (by first | omega | (subst_vars; omega))), (show clauseR (q 7) x1 x2 x3 x4 ((-2) : Int32) (q 7) f8 f9 f10 f11 f8 f9 f10 f11  from (Or.inl ⟨(fun h9 => by have h8 := h9.1; have h7 := h9.2.1; have h6 := h9.2.2; first | exact absurd h6 (by assumption) | omega), (by decide +kernel), ⟨rfl, rfl, rfl, rfl, rfl⟩⟩))⟩, by rw [ht]; exact hP.sub [0, 1, 2, 3, 4] rfl, hD.sub [0, 1, 2, 3, 4] (by decide +kernel) rfl⟩, hS.F ht⟩) hS.2.2 dX13_clause_36
    · refine lv_if_eq (tgt := 34) hx hb dX13_clause_17 (by decide +kernel) (fun _ => ?_) (fun c9 => absurd c9 (by decide +kernel))
      refine lv_bipush (v := (-2)) hx hb dX13_clause_34 (by decide +kernel) ?_
      exact W.iret hx hb hr (fun t ht hW => ⟨⟨_, ((q 7), f8, f9, f10, f11), rfl, ⟨(show okR f8 f10 f11 from hokR), (show 0 ≤ (q 7).toInt ∧ (q 7).toInt ≤ 24 from (by first | omega | (subst_vars; omega))), (show clauseR (q 7) x1 x2 x3 x4 ((-2) : Int32) (q 7) f8 f9 f10 f11 f8 f9 f10 f11  from (Or.inl ⟨(fun h9 => by have h8 := h9.1; have h7 := h9.2.1; have h6 := h9.2.2; first | exact absurd h6 (by assumption) | omega), (by decide +kernel), ⟨rfl, rfl, rfl, rfl, rfl⟩⟩))⟩, by rw [ht]; exact hP.sub [0, 1, 2, 3, 4] rfl, hD.sub [0, 1, 2, 3, 4] (by decide +kernel) rfl⟩, hS.F ht⟩) hS.2.2 dX13_clause_36
  · refine lv_if_eq (tgt := 34) hx hb dX13_clause_9 (by decide +kernel) (fun _ => ?_) (fun c9 => absurd c9 (by decide +kernel))
    refine lv_bipush (v := (-2)) hx hb dX13_clause_34 (by decide +kernel) ?_
    exact W.iret hx hb hr (fun t ht hW => ⟨⟨_, ((q 7), f8, f9, f10, f11), rfl, ⟨(show okR f8 f10 f11 from hokR), (show 0 ≤ (q 7).toInt ∧ (q 7).toInt ≤ 24 from (by first | omega | (subst_vars; omega))), (show clauseR (q 7) x1 x2 x3 x4 ((-2) : Int32) (q 7) f8 f9 f10 f11 f8 f9 f10 f11  from (Or.inl ⟨(fun h9 => by have h8 := h9.1; have h7 := h9.2.1; have h6 := h9.2.2; first | exact absurd h6 (by assumption) | omega), (by decide +kernel), ⟨rfl, rfl, rfl, rfl, rfl⟩⟩))⟩, by rw [ht]; exact hP.sub [0, 1, 2, 3, 4] rfl, hD.sub [0, 1, 2, 3, 4] (by decide +kernel) rfl⟩, hS.F ht⟩) hS.2.2 dX13_clause_36
theorem dX13_swap_0 : decode cX13_swap 0 = .ok (.aload_n 0, 1) := by decide +kernel
theorem dX13_swap_1 : decode cX13_swap 1 = .ok (.iload_n 1, 1) := by decide +kernel
theorem dX13_swap_12 : decode cX13_swap 12 = .ok (.iload_n 1, 1) := by decide +kernel
theorem dX13_swap_13 : decode cX13_swap 13 = .ok (.iaload, 1) := by decide +kernel
theorem dX13_swap_14 : decode cX13_swap 14 = .ok (.iload_n 2, 1) := by decide +kernel
theorem dX13_swap_15 : decode cX13_swap 15 = .ok (.iload_n 3, 1) := by decide +kernel
theorem dX13_swap_16 : decode cX13_swap 16 = .ok (.iload_n 1, 1) := by decide +kernel
theorem dX13_swap_17 : decode cX13_swap 17 = .ok (.invokestatic 219, 3) := by decide +kernel
theorem dX13_swap_2 : decode cX13_swap 2 = .ok (.invokevirtual 233, 3) := by decide +kernel
theorem dX13_swap_20 : decode cX13_swap 20 = .ok (.ifCond .ne 6, 3) := by decide +kernel
theorem dX13_swap_23 : decode cX13_swap 23 = .ok (.bipush (-2), 2) := by decide +kernel
theorem dX13_swap_25 : decode cX13_swap 25 = .ok (.ireturn, 1) := by decide +kernel
theorem dX13_swap_26 : decode cX13_swap 26 = .ok (.aload_n 0, 1) := by decide +kernel
theorem dX13_swap_27 : decode cX13_swap 27 = .ok (.getfield 35, 3) := by decide +kernel
theorem dX13_swap_30 : decode cX13_swap 30 = .ok (.iload_n 1, 1) := by decide +kernel
theorem dX13_swap_31 : decode cX13_swap 31 = .ok (.iload_n 2, 1) := by decide +kernel
theorem dX13_swap_32 : decode cX13_swap 32 = .ok (.iastore, 1) := by decide +kernel
theorem dX13_swap_33 : decode cX13_swap 33 = .ok (.aload_n 0, 1) := by decide +kernel
theorem dX13_swap_34 : decode cX13_swap 34 = .ok (.getfield 38, 3) := by decide +kernel
theorem dX13_swap_37 : decode cX13_swap 37 = .ok (.iload_n 1, 1) := by decide +kernel
theorem dX13_swap_38 : decode cX13_swap 38 = .ok (.iload_n 3, 1) := by decide +kernel
theorem dX13_swap_39 : decode cX13_swap 39 = .ok (.iastore, 1) := by decide +kernel
theorem dX13_swap_40 : decode cX13_swap 40 = .ok (.iconst 1, 1) := by decide +kernel
theorem dX13_swap_41 : decode cX13_swap 41 = .ok (.ireturn, 1) := by decide +kernel
theorem dX13_swap_5 : decode cX13_swap 5 = .ok (.ifCond .eq 18, 3) := by decide +kernel
theorem dX13_swap_8 : decode cX13_swap 8 = .ok (.aload_n 0, 1) := by decide +kernel
theorem dX13_swap_9 : decode cX13_swap 9 = .ok (.getfield 28, 3) := by decide +kernel
set_option maxRecDepth 20000 in
theorem ggX13_swap_X13_areNamed : GoodIn wsX13_swap wsX13_areNamed := goodIn_r _ [15, 16, 17, 7, 18, 10, 11, 12] rfl (by decide +kernel)
set_option maxRecDepth 20000 in
theorem ggX13_swap_X13_isClause : GoodIn wsX13_swap wsX13_isClause := goodIn_r _ [8, 9, 10, 11, 7, 12, 19, 20, 21, 22, 23, 24, 25, 26, 27, 28, 29, 30, 31, 32, 33, 34, 35, 36, 37, 38, 39, 40, 41, 42, 43, 44, 45, 46, 47, 48, 49, 50, 51, 52, 53, 54, 55, 56, 57, 58, 59, 60, 61, 62, 63] rfl (by decide +kernel)
set_option maxRecDepth 20000 in
theorem gX13_swap_X13_areNamed : GoodIn wsX13_swap (va_wsS RX13 219 yX13_areNamed wsX13_areNamed) := goodIn_app (goodIn_of _ (by decide +kernel)) ggX13_swap_X13_areNamed
set_option maxRecDepth 20000 in
theorem gX13_swap_X13_isClause : GoodIn wsX13_swap (wsV RX13 233 RX13 yX13_isClause wsX13_isClause) := goodIn_app (goodIn_r _ [4, 5, 6, 7] rfl (by decide +kernel)) ggX13_swap_X13_isClause
set_option maxRecDepth 20000 in
theorem in_X13_swap_X13 : ∀ w ∈ wsX130, w ∈ wsX13_swap := sub_r [19, 20, 21, 22, 23, 24, 25, 26, 27, 28, 29, 30, 31, 32, 33, 34, 35, 36, 37, 38, 39, 40, 41, 42, 43, 44, 45, 46, 47, 48, 49, 50, 51, 52, 53, 54, 55, 56, 57, 58, 59, 60, 61, 62, 63] rfl
set_option maxHeartbeats 4000000 in
set_option maxRecDepth 100000 in
theorem c_X13_swap (l : Launch) (D : va_G) (T : Nat → ClassId) (sz : Nat) (h0 : Nat) (q : Nat → Int32) (v : Int64) (w : Int64) (a : Nat → Nat) (f8 : Nat → Int32) (f10 : Nat → Int32) (f11 : Nat → Int32) (x1 : Int32) (x2 : Int32) (x3 : Int32) (hm : 0 ≤ (q 7).toInt ∧ (q 7).toInt ≤ 24) (hokR : okR f8 f10 f11) : Met l yX13_swap wsX13_swap ({ frames := 2, cells := 0, slots := 0, locals := 48 }) (pW [.ref h0, .int x1, .int x2, .int x3] D T [(h0, .inr (10, (Value.int (q 0) :: Value.int (q 1) :: Value.int (q 2) :: Value.int (q 3) :: Value.int (q 4) :: Value.int (q 5) :: Value.int (q 6) :: Value.int (q 7) :: Value.ref (a 8) :: Value.ref (a 9) :: Value.ref (a 10) :: Value.ref (a 11) :: Value.ref (a 12) :: Value.ref (a 13) :: Value.int (q 14) :: Value.long v :: Value.long w :: Value.ref (a 17) :: Value.ref (a 18) :: Value.ref (a 19) :: Value.ref (a 20) :: Value.ref (a 21) :: Value.ref (a 22) :: Value.ref (a 23) :: Value.int (q 24) :: Value.ref (a 25) :: Value.int (q 26) :: Value.ref (a 27) :: Value.int (q 28) :: Value.int (q 29) :: Value.int (q 30) :: Value.int (q 31) :: Value.int (q 32) :: Value.int (q 33) :: Value.ref (a 34) :: Value.ref (a 35) :: Value.ref (a 36) :: Value.ref (a 37) :: Value.ref (a 38) :: Value.ref (a 39) :: Value.ref (a 40) :: Value.int (q 41) :: Value.ref (a 42) :: Value.int (q 43) :: Value.int (q 44) :: []))), ((a 8), .inl (T 0, 24, .inl f8)), ((a 10), .inl (T 0, 24, .inl f10)), ((a 11), .inl (T 0, 24, .inl f11))] sz) (va_Qi (fun (r : Int32) (u : (Nat → Int32) × (Nat → Int32)) => (okR f8 u.1 u.2) ∧ (swapR (q 7) x1 x2 x3 r f8 f10 f11 u.1 u.2)) (bW D (va_A [(h0, .inr (10, (Value.int (q 0) :: Value.int (q 1) :: Value.int (q 2) :: Value.int (q 3) :: Value.int (q 4) :: Value.int (q 5) :: Value.int (q 6) :: Value.int (q 7) :: Value.ref (a 8) :: Value.ref (a 9) :: Value.ref (a 10) :: Value.ref (a 11) :: Value.ref (a 12) :: Value.ref (a 13) :: Value.int (q 14) :: Value.long v :: Value.long w :: Value.ref (a 17) :: Value.ref (a 18) :: Value.ref (a 19) :: Value.ref (a 20) :: Value.ref (a 21) :: Value.ref (a 22) :: Value.ref (a 23) :: Value.int (q 24) :: Value.ref (a 25) :: Value.int (q 26) :: Value.ref (a 27) :: Value.int (q 28) :: Value.int (q 29) :: Value.int (q 30) :: Value.int (q 31) :: Value.int (q 32) :: Value.int (q 33) :: Value.ref (a 34) :: Value.ref (a 35) :: Value.ref (a 36) :: Value.ref (a 37) :: Value.ref (a 38) :: Value.ref (a 39) :: Value.ref (a 40) :: Value.int (q 41) :: Value.ref (a 42) :: Value.int (q 43) :: Value.int (q 44) :: []))), ((a 8), .inl (T 0, 24, .inl f8)), ((a 10), .inl (T 0, 24, .inl f10)), ((a 11), .inl (T 0, 24, .inl f11))] sz) (fun (u : (Nat → Int32) × (Nat → Int32)) => [(h0, .inr (10, (Value.int (q 0) :: Value.int (q 1) :: Value.int (q 2) :: Value.int (q 3) :: Value.int (q 4) :: Value.int (q 5) :: Value.int (q 6) :: Value.int (q 7) :: Value.ref (a 8) :: Value.ref (a 9) :: Value.ref (a 10) :: Value.ref (a 11) :: Value.ref (a 12) :: Value.ref (a 13) :: Value.int (q 14) :: Value.long v :: Value.long w :: Value.ref (a 17) :: Value.ref (a 18) :: Value.ref (a 19) :: Value.ref (a 20) :: Value.ref (a 21) :: Value.ref (a 22) :: Value.ref (a 23) :: Value.int (q 24) :: Value.ref (a 25) :: Value.int (q 26) :: Value.ref (a 27) :: Value.int (q 28) :: Value.int (q 29) :: Value.int (q 30) :: Value.int (q 31) :: Value.int (q 32) :: Value.int (q 33) :: Value.ref (a 34) :: Value.ref (a 35) :: Value.ref (a 36) :: Value.ref (a 37) :: Value.ref (a 38) :: Value.ref (a 39) :: Value.ref (a 40) :: Value.int (q 41) :: Value.ref (a 42) :: Value.int (q 43) :: Value.int (q 44) :: []))), ((a 8), .inl (T 0, 24, .inl f8)), ((a 10), .inl (T 0, 24, .inl u.1)), ((a 11), .inl (T 0, 24, .inl u.2))])) (va_A [(h0, .inr (10, (Value.int (q 0) :: Value.int (q 1) :: Value.int (q 2) :: Value.int (q 3) :: Value.int (q 4) :: Value.int (q 5) :: Value.int (q 6) :: Value.int (q 7) :: Value.ref (a 8) :: Value.ref (a 9) :: Value.ref (a 10) :: Value.ref (a 11) :: Value.ref (a 12) :: Value.ref (a 13) :: Value.int (q 14) :: Value.long v :: Value.long w :: Value.ref (a 17) :: Value.ref (a 18) :: Value.ref (a 19) :: Value.ref (a 20) :: Value.ref (a 21) :: Value.ref (a 22) :: Value.ref (a 23) :: Value.int (q 24) :: Value.ref (a 25) :: Value.int (q 26) :: Value.ref (a 27) :: Value.int (q 28) :: Value.int (q 29) :: Value.int (q 30) :: Value.int (q 31) :: Value.int (q 32) :: Value.int (q 33) :: Value.ref (a 34) :: Value.ref (a 35) :: Value.ref (a 36) :: Value.ref (a 37) :: Value.ref (a 38) :: Value.ref (a 39) :: Value.ref (a 40) :: Value.int (q 41) :: Value.ref (a 42) :: Value.int (q 43) :: Value.int (q 44) :: []))), ((a 8), .inl (T 0, 24, .inl f8)), ((a 10), .inl (T 0, 24, .inl f10)), ((a 11), .inl (T 0, 24, .inl f11))] sz)) 0 0 (va_A [(h0, .inr (10, (Value.int (q 0) :: Value.int (q 1) :: Value.int (q 2) :: Value.int (q 3) :: Value.int (q 4) :: Value.int (q 5) :: Value.int (q 6) :: Value.int (q 7) :: Value.ref (a 8) :: Value.ref (a 9) :: Value.ref (a 10) :: Value.ref (a 11) :: Value.ref (a 12) :: Value.ref (a 13) :: Value.int (q 14) :: Value.long v :: Value.long w :: Value.ref (a 17) :: Value.ref (a 18) :: Value.ref (a 19) :: Value.ref (a 20) :: Value.ref (a 21) :: Value.ref (a 22) :: Value.ref (a 23) :: Value.int (q 24) :: Value.ref (a 25) :: Value.int (q 26) :: Value.ref (a 27) :: Value.int (q 28) :: Value.int (q 29) :: Value.int (q 30) :: Value.int (q 31) :: Value.int (q 32) :: Value.int (q 33) :: Value.ref (a 34) :: Value.ref (a 35) :: Value.ref (a 36) :: Value.ref (a 37) :: Value.ref (a 38) :: Value.ref (a 39) :: Value.ref (a 40) :: Value.int (q 41) :: Value.ref (a 42) :: Value.int (q 43) :: Value.int (q 44) :: []))), ((a 8), .inl (T 0, 24, .inl f8)), ((a 10), .inl (T 0, 24, .inl f10)), ((a 11), .inl (T 0, 24, .inl f11))] sz) := by
  refine Met.ofW (cc := cX13_swap) (maxL := 4) (ret := (some .int)) (by decide +kernel) rfl ?_
  intro p e s m args below meth c s₁ B hml hv
  obtain ⟨rfl, hsz, hP, hE, hD0⟩ := hv
  have hx := B.exec
  have hb := B.bytes
  have hr := B.returns
  have hts := atoms_spec (ws := wsX13_swap) B.pre
  have hown : s.vm.findClass RX13 = some m.cls := findClass_of_methodNamed B.named
  have hlocks := B.notSynchronized
  subst hsz
  have hD := hD0.self (sz := s.heap.size)
  generalize hAe : va_A [(h0, .inr (10, (Value.int (q 0) :: Value.int (q 1) :: Value.int (q 2) :: Value.int (q 3) :: Value.int (q 4) :: Value.int (q 5) :: Value.int (q 6) :: Value.int (q 7) :: Value.ref (a 8) :: Value.ref (a 9) :: Value.ref (a 10) :: Value.ref (a 11) :: Value.ref (a 12) :: Value.ref (a 13) :: Value.int (q 14) :: Value.long v :: Value.long w :: Value.ref (a 17) :: Value.ref (a 18) :: Value.ref (a 19) :: Value.ref (a 20) :: Value.ref (a 21) :: Value.ref (a 22) :: Value.ref (a 23) :: Value.int (q 24) :: Value.ref (a 25) :: Value.int (q 26) :: Value.ref (a 27) :: Value.int (q 28) :: Value.int (q 29) :: Value.int (q 30) :: Value.int (q 31) :: Value.int (q 32) :: Value.int (q 33) :: Value.ref (a 34) :: Value.ref (a 35) :: Value.ref (a 36) :: Value.ref (a 37) :: Value.ref (a 38) :: Value.ref (a 39) :: Value.ref (a 40) :: Value.int (q 41) :: Value.ref (a 42) :: Value.int (q 43) :: Value.int (q 44) :: []))), ((a 8), .inl (T 0, 24, .inl f8)), ((a 10), .inl (T 0, 24, .inl f10)), ((a 11), .inl (T 0, 24, .inl f11))] s.heap.size = A at hD ⊢
  have hA : ∀ q : Nat, s.heap.size ≤ q → A q := fun q h => by rw [← hAe]; exact Or.inr h
  have hS : va_S A s.heap s.heap [] := va_S.rf
  have hP : va_P D vwCl [(h0, .inr (10, (Value.int (q 0) :: Value.int (q 1) :: Value.int (q 2) :: Value.int (q 3) :: Value.int (q 4) :: Value.int (q 5) :: Value.int (q 6) :: Value.int (q 7) :: Value.ref (a 8) :: Value.ref (a 9) :: Value.ref (a 10) :: Value.ref (a 11) :: Value.ref (a 12) :: Value.ref (a 13) :: Value.int (q 14) :: Value.long v :: Value.long w :: Value.ref (a 17) :: Value.ref (a 18) :: Value.ref (a 19) :: Value.ref (a 20) :: Value.ref (a 21) :: Value.ref (a 22) :: Value.ref (a 23) :: Value.int (q 24) :: Value.ref (a 25) :: Value.int (q 26) :: Value.ref (a 27) :: Value.int (q 28) :: Value.int (q 29) :: Value.int (q 30) :: Value.int (q 31) :: Value.int (q 32) :: Value.int (q 33) :: Value.ref (a 34) :: Value.ref (a 35) :: Value.ref (a 36) :: Value.ref (a 37) :: Value.ref (a 38) :: Value.ref (a 39) :: Value.ref (a 40) :: Value.int (q 41) :: Value.ref (a 42) :: Value.int (q 43) :: Value.int (q 44) :: []))), ((a 8), .inl (T 0, 24, .inl f8)), ((a 10), .inl (T 0, 24, .inl f10)), ((a 11), .inl (T 0, 24, .inl f11))] s.heap := hP
  have hl := lv_entry ([.ref h0, .int x1, .int x2, .int x3]) (n := 4) (Nat.le_of_ble_eq_true rfl)
  rw [lg_entry_eq]
  generalize (lg_sl ([.ref h0, .int x1, .int x2, .int x3]) ++ List.replicate (4 - (lg_sl ([.ref h0, .int x1, .int x2, .int x3])).length) Slot.unset).toArray = ls at hl ⊢
  have hl : lv_has ls 4 [(0, .ref h0), (1, .int x1), (2, .int x2), (3, .int x3)] := hl
  clear hD0
  refine lv_aload_n hx hb dX13_swap_0 rfl (lv_at hl 0 rfl) ?_
  refine lv_iload_n hx hb dX13_swap_1 rfl (lv_at hl 1 rfl) ?_
  refine vp_callSi (W.runV (As := [.int x1]) (rest := []) ⟨hx, hb, hml, hown, hts⟩ (c_X13_isClause l D T h0 [.int (q 0), .int (q 1), .int (q 2), .int (q 3), .int (q 4), .int (q 5), .int (q 6), .int (q 7), .ref (a 8), .ref (a 9), .ref (a 10), .ref (a 11), .ref (a 12), .ref (a 13), .int (q 14), .long v, .long w, .ref (a 17), .ref (a 18), .ref (a 19), .ref (a 20), .ref (a 21), .ref (a 22), .ref (a 23), .int (q 24), .ref (a 25), .int (q 26), .ref (a 27), .int (q 28), .int (q 29), .int (q 30), .int (q 31), .int (q 32), .int (q 33), .ref (a 34), .ref (a 35), .ref (a 36), .ref (a 37), .ref (a 38), .ref (a 39), .ref (a 40), .int (q 41), .ref (a 42), .int (q 43), .int (q 44)] x1 (q 7) rfl (by omega)) (cwV 1 hts gX13_swap_X13_isClause rfl rfl rfl hv_X13_isClause ⟨Nat.le_of_ble_eq_true rfl, Nat.le_of_ble_eq_true rfl⟩) (pR_V (q := (RX13, TX13, 45)) (ci := 10) (q0 := 0) hP hE rfl rfl [0] rfl) rfl rfl hl.1 rfl (lv_room (Nat.le_of_ble_eq_true rfl)) dX13_swap_2 ⟨Nat.le_of_ble_eq_true rfl, Nat.le_of_ble_eq_true rfl⟩) (fun r_1 hr_1 => ?_)
  rcases bool_post hr_1 with ⟨c_2, rfl⟩ | ⟨c_2, rfl⟩
  · refine lv_if_eq (tgt := 23) hx hb dX13_swap_5 (by decide +kernel) (fun c9 => absurd c9 (by decide +kernel)) (fun _ => ?_)
    refine lv_aload_n hx hb dX13_swap_8 rfl (lv_at hl 0 rfl) ?_
    refine va_get (D := D) (ci := 10) (v := .ref (a 8)) (C := RX13) (T := TX13) (N := 45) hx hb hts in_X13_swap_X13 hown hE.1 hP 0 rfl rfl 8 (by decide +kernel) (hts (.fieldLink RX13 28 "ClauseBookModel" "kind" "[I") (List.mem_of_getElem? (i := 1) rfl)) (fun _ h9 => h9) rfl dX13_swap_9 ?_
    refine lv_iload_n hx hb dX13_swap_12 rfl (lv_at hl 1 rfl) ?_
    refine va_iald hx hb hE.1 hP 1 0 rfl rfl (by rw [vp_in_iff]; first | omega | (subst_vars; omega)) dX13_swap_13 ?_
    refine lv_topi (fun z_3 ez_3 => ?_)
    have hkz_3 : 0 ≤ z_3.toInt ∧ z_3.toInt ≤ 12 := by rw [ez_3]; exact (hokR _ (in24 (x := x1) (by omega)).1).1
    have hcz_3 : 1 ≤ (nmT (z_3.toNatClampNeg)).toInt → 0 ≤ (f10 (x1.toNatClampNeg)).toInt ∧ (f10 (x1.toNatClampNeg)).toInt < x1.toInt := by
      rw [ez_3]
      intro h1
      have h := (hokR _ (in24 (x := x1) (by omega)).1).2.1 h1
      have h2 := (in24 (x := x1) (by omega)).2
      omega
    have hdz_3 : (nmT (z_3.toNatClampNeg)).toInt = 2 → 0 ≤ (f11 (x1.toNatClampNeg)).toInt ∧ (f11 (x1.toNatClampNeg)).toInt < x1.toInt := by
      rw [ez_3]
      intro h1
      have h := (hokR _ (in24 (x := x1) (by omega)).1).2.2 h1
      have h2 := (in24 (x := x1) (by omega)).2
      omega
    refine lv_iload_n hx hb dX13_swap_14 rfl (lv_at hl 2 rfl) ?_
    refine lv_iload_n hx hb dX13_swap_15 rfl (lv_at hl 3 rfl) ?_
    refine lv_iload_n hx hb dX13_swap_16 rfl (lv_at hl 1 rfl) ?_
    refine vp_callSi (W.runS (As := [.int z_3, .int x2, .int x3, .int x1]) (rest := []) ⟨hx, hb, hml, hown, hts⟩ (c_X13_areNamed l D T z_3 x2 x3 x1 (by omega) (by omega)) (va_cwS 4 hts gX13_swap_X13_areNamed rfl rfl rfl hs_X13_areNamed ⟨Nat.le_of_ble_eq_true rfl, Nat.le_of_ble_eq_true rfl⟩) (pR_S hP hE [] rfl) rfl rfl hl.1 rfl (lv_room (Nat.le_of_ble_eq_true rfl)) dX13_swap_17 ⟨Nat.le_of_ble_eq_true rfl, Nat.le_of_ble_eq_true rfl⟩) (fun r_4 hr_4 => ?_)
    rcases bool_post hr_4 with ⟨c_5, rfl⟩ | ⟨c_5, rfl⟩
    · refine lv_if_ne (tgt := 26) hx hb dX13_swap_20 (by decide +kernel) (fun _ => ?_) (fun c9 => absurd c9 (by decide +kernel))
      have ha9 : mayP (z_3.toNatClampNeg) x2 x3 x1 := by assumption
      rw [ez_3] at ha9
      have hokR := okR_nm (c' := x2) (d' := x3) hokR (by omega) ha9.1.1 ha9.2.1
      refine lv_aload_n hx hb dX13_swap_26 rfl (lv_at hl 0 rfl) ?_
      refine va_get (D := D) (ci := 10) (v := .ref (a 10)) (C := RX13) (T := TX13) (N := 45) hx hb hts in_X13_swap_X13 hown hE.1 hP 0 rfl rfl 10 (by decide +kernel) (hts (.fieldLink RX13 35 "ClauseBookModel" "one" "[I") (List.mem_of_getElem? (i := 2) rfl)) (fun _ h9 => h9) rfl dX13_swap_27 ?_
      refine lv_iload_n hx hb dX13_swap_30 rfl (lv_at hl 1 rfl) ?_
      refine lv_iload_n hx hb dX13_swap_31 rfl (lv_at hl 2 rfl) ?_
      refine va_iast hx hb hE.1 hP hD hS 2 0 rfl rfl (by rw [vp_in_iff]; first | omega | (subst_vars; omega)) dX13_swap_32 (fun H locs hP hD hS => ?_)
      obtain ⟨hP, hD⟩ := wPD [(h0, .inr (10, (Value.int (q 0) :: Value.int (q 1) :: Value.int (q 2) :: Value.int (q 3) :: Value.int (q 4) :: Value.int (q 5) :: Value.int (q 6) :: Value.int (q 7) :: Value.ref (a 8) :: Value.ref (a 9) :: Value.ref (a 10) :: Value.ref (a 11) :: Value.ref (a 12) :: Value.ref (a 13) :: Value.int (q 14) :: Value.long v :: Value.long w :: Value.ref (a 17) :: Value.ref (a 18) :: Value.ref (a 19) :: Value.ref (a 20) :: Value.ref (a 21) :: Value.ref (a 22) :: Value.ref (a 23) :: Value.int (q 24) :: Value.ref (a 25) :: Value.int (q 26) :: Value.ref (a 27) :: Value.int (q 28) :: Value.int (q 29) :: Value.int (q 30) :: Value.int (q 31) :: Value.int (q 32) :: Value.int (q 33) :: Value.ref (a 34) :: Value.ref (a 35) :: Value.ref (a 36) :: Value.ref (a 37) :: Value.ref (a 38) :: Value.ref (a 39) :: Value.ref (a 40) :: Value.int (q 41) :: Value.ref (a 42) :: Value.int (q 43) :: Value.int (q 44) :: []))), ((a 8), .inl (T 0, 24, .inl f8)), ((a 10), .inl (T 0, 24, .inl (upd f10 (x1.toNatClampNeg) x2))), ((a 11), .inl (T 0, 24, .inl f11))] hP hD rfl
      refine lv_aload_n hx hb dX13_swap_33 rfl (lv_at hl 0 rfl) ?_
      refine va_get (D := D) (ci := 10) (v := .ref (a 11)) (C := RX13) (T := TX13) (N := 45) hx hb hts in_X13_swap_X13 hown hE.1 hP 0 rfl rfl 11 (by decide +kernel) (hts (.fieldLink RX13 38 "ClauseBookModel" "two" "[I") (List.mem_of_getElem? (i := 3) rfl)) (fun _ h9 => h9) rfl dX13_swap_34 ?_
      refine lv_iload_n hx hb dX13_swap_37 rfl (lv_at hl 1 rfl) ?_
      refine lv_iload_n hx hb dX13_swap_38 rfl (lv_at hl 3 rfl) ?_
      refine va_iast hx hb hE.1 hP hD hS 3 0 rfl rfl (by rw [vp_in_iff]; first | omega | (subst_vars; omega)) dX13_swap_39 (fun H locs hP hD hS => ?_)
      obtain ⟨hP, hD⟩ := wPD [(h0, .inr (10, (Value.int (q 0) :: Value.int (q 1) :: Value.int (q 2) :: Value.int (q 3) :: Value.int (q 4) :: Value.int (q 5) :: Value.int (q 6) :: Value.int (q 7) :: Value.ref (a 8) :: Value.ref (a 9) :: Value.ref (a 10) :: Value.ref (a 11) :: Value.ref (a 12) :: Value.ref (a 13) :: Value.int (q 14) :: Value.long v :: Value.long w :: Value.ref (a 17) :: Value.ref (a 18) :: Value.ref (a 19) :: Value.ref (a 20) :: Value.ref (a 21) :: Value.ref (a 22) :: Value.ref (a 23) :: Value.int (q 24) :: Value.ref (a 25) :: Value.int (q 26) :: Value.ref (a 27) :: Value.int (q 28) :: Value.int (q 29) :: Value.int (q 30) :: Value.int (q 31) :: Value.int (q 32) :: Value.int (q 33) :: Value.ref (a 34) :: Value.ref (a 35) :: Value.ref (a 36) :: Value.ref (a 37) :: Value.ref (a 38) :: Value.ref (a 39) :: Value.ref (a 40) :: Value.int (q 41) :: Value.ref (a 42) :: Value.int (q 43) :: Value.int (q 44) :: []))), ((a 8), .inl (T 0, 24, .inl f8)), ((a 10), .inl (T 0, 24, .inl (upd f10 (x1.toNatClampNeg) x2))), ((a 11), .inl (T 0, 24, .inl (upd f11 (x1.toNatClampNeg) x3)))] hP hD rfl
      refine lv_iconst (v := 1) hx hb dX13_swap_40 (by decide +kernel) ?_
      exact W.iret hx hb hr (fun t ht hW => ⟨⟨_, ((upd f10 (x1.toNatClampNeg) x2), (upd f11 (x1.toNatClampNeg) x3)), rfl, ⟨(show okR f8 (upd f10 (x1.toNatClampNeg) x2) (upd f11 (x1.toNatClampNeg) x3) from hokR), (show swapR (q 7) x1 x2 x3 (1 : Int32) f8 f10 f11 (upd f10 (x1.toNatClampNeg) x2) (upd f11 (x1.toNatClampNeg) x3) from (Or.inr ⟨⟨by omega, ha9⟩, (by decide +kernel), rfl, rfl⟩))⟩, by rw [ht]; exact hP.sub [0, 1, 2, 3] rfl, hD.sub [0, 1, 2, 3] (by decide +kernel) rfl⟩, hS.F ht⟩) hS.2.2 dX13_swap_41
    · refine lv_if_ne (tgt := 26) hx hb dX13_swap_20 (by decide +kernel) (fun c9 => absurd c9 (by decide +kernel)) (fun _ => ?_)
      refine lv_bipush (v := (-2)) hx hb dX13_swap_23 (by decide +kernel) ?_
      exact W.iret hx hb hr (fun t ht hW => ⟨⟨_, (f10, f11), rfl, ⟨(show okR f8 f10 f11 from hokR), (show swapR (q 7) x1 x2 x3 ((-2) : Int32) f8 f10 f11 f10 f11 from (Or.inl ⟨(fun h9 => by have h8 := h9.1; have h6 := h9.2; first | (rw [← ez_3] at h6; exact absurd h6 (by assumption)) | omega), (by decide +kernel), rfl, rfl⟩))⟩, by rw [ht]; exact hP.sub [0, 1, 2, 3] rfl, hD.sub [0, 1, 2, 3] (by decide +kernel) rfl⟩, hS.F ht⟩) hS.2.2 dX13_swap_25
  · refine lv_if_eq (tgt := 23) hx hb dX13_swap_5 (by decide +kernel) (fun _ => ?_) (fun c9 => absurd c9 (by decide +kernel))
    refine lv_bipush (v := (-2)) hx hb dX13_swap_23 (by decide +kernel) ?_
    exact W.iret hx hb hr (fun t ht hW => ⟨⟨_, (f10, f11), rfl, ⟨(show okR f8 f10 f11 from hokR), (show swapR (q 7) x1 x2 x3 ((-2) : Int32) f8 f10 f11 f10 f11 from (Or.inl ⟨(fun h9 => by have h8 := h9.1; have h6 := h9.2; first | (rw [← ez_3] at h6; exact absurd h6 (by assumption)) | omega), (by decide +kernel), rfl, rfl⟩))⟩, by rw [ht]; exact hP.sub [0, 1, 2, 3] rfl, hD.sub [0, 1, 2, 3] (by decide +kernel) rfl⟩, hS.F ht⟩) hS.2.2 dX13_swap_25
theorem dX13_drop_0 : decode cX13_drop 0 = .ok (.aload_n 0, 1) := by decide +kernel
theorem dX13_drop_1 : decode cX13_drop 1 = .ok (.getfield 205, 3) := by decide +kernel
theorem dX13_drop_10 : decode cX13_drop 10 = .ok (.aload_n 0, 1) := by decide +kernel
theorem dX13_drop_11 : decode cX13_drop 11 = .ok (.dup, 1) := by decide +kernel
theorem dX13_drop_12 : decode cX13_drop 12 = .ok (.getfield 205, 3) := by decide +kernel
theorem dX13_drop_15 : decode cX13_drop 15 = .ok (.iconst 1, 1) := by decide +kernel
theorem dX13_drop_16 : decode cX13_drop 16 = .ok (.isub, 1) := by decide +kernel
theorem dX13_drop_17 : decode cX13_drop 17 = .ok (.putfield 205, 3) := by decide +kernel
theorem dX13_drop_20 : decode cX13_drop 20 = .ok (.aload_n 0, 1) := by decide +kernel
theorem dX13_drop_21 : decode cX13_drop 21 = .ok (.getfield 205, 3) := by decide +kernel
theorem dX13_drop_24 : decode cX13_drop 24 = .ok (.ireturn, 1) := by decide +kernel
theorem dX13_drop_4 : decode cX13_drop 4 = .ok (.ifCond .ne 6, 3) := by decide +kernel
theorem dX13_drop_7 : decode cX13_drop 7 = .ok (.bipush (-3), 2) := by decide +kernel
theorem dX13_drop_9 : decode cX13_drop 9 = .ok (.ireturn, 1) := by decide +kernel
set_option maxRecDepth 20000 in
theorem in_X13_drop_X13 : ∀ w ∈ wsX130, w ∈ wsX13_drop := sub_r [2, 3, 4, 5, 6, 7, 8, 9, 10, 11, 12, 13, 14, 15, 16, 17, 18, 19, 20, 21, 22, 23, 24, 25, 26, 27, 28, 29, 30, 31, 32, 33, 34, 35, 36, 37, 38, 39, 40, 41, 42, 43, 44, 45, 46] rfl
set_option maxHeartbeats 4000000 in
set_option maxRecDepth 100000 in
theorem c_X13_drop (l : Launch) (D : va_G) (T : Nat → ClassId) (sz : Nat) (h0 : Nat) (q : Nat → Int32) (v : Int64) (w : Int64) (a : Nat → Nat) (hm : 0 ≤ (q 7).toInt ∧ (q 7).toInt ≤ 24) : Met l yX13_drop wsX13_drop ({ frames := 0, cells := 0, slots := 0, locals := 0 }) (pW [.ref h0] D T [(h0, .inr (10, (Value.int (q 0) :: Value.int (q 1) :: Value.int (q 2) :: Value.int (q 3) :: Value.int (q 4) :: Value.int (q 5) :: Value.int (q 6) :: Value.int (q 7) :: Value.ref (a 8) :: Value.ref (a 9) :: Value.ref (a 10) :: Value.ref (a 11) :: Value.ref (a 12) :: Value.ref (a 13) :: Value.int (q 14) :: Value.long v :: Value.long w :: Value.ref (a 17) :: Value.ref (a 18) :: Value.ref (a 19) :: Value.ref (a 20) :: Value.ref (a 21) :: Value.ref (a 22) :: Value.ref (a 23) :: Value.int (q 24) :: Value.ref (a 25) :: Value.int (q 26) :: Value.ref (a 27) :: Value.int (q 28) :: Value.int (q 29) :: Value.int (q 30) :: Value.int (q 31) :: Value.int (q 32) :: Value.int (q 33) :: Value.ref (a 34) :: Value.ref (a 35) :: Value.ref (a 36) :: Value.ref (a 37) :: Value.ref (a 38) :: Value.ref (a 39) :: Value.ref (a 40) :: Value.int (q 41) :: Value.ref (a 42) :: Value.int (q 43) :: Value.int (q 44) :: [])))] sz) (va_Qi (fun (r : Int32) (u : (Int32)) => (0 ≤ u.toInt ∧ u.toInt ≤ 24) ∧ (dropC (q 7) r u)) (bW D (va_A [(h0, .inr (10, (Value.int (q 0) :: Value.int (q 1) :: Value.int (q 2) :: Value.int (q 3) :: Value.int (q 4) :: Value.int (q 5) :: Value.int (q 6) :: Value.int (q 7) :: Value.ref (a 8) :: Value.ref (a 9) :: Value.ref (a 10) :: Value.ref (a 11) :: Value.ref (a 12) :: Value.ref (a 13) :: Value.int (q 14) :: Value.long v :: Value.long w :: Value.ref (a 17) :: Value.ref (a 18) :: Value.ref (a 19) :: Value.ref (a 20) :: Value.ref (a 21) :: Value.ref (a 22) :: Value.ref (a 23) :: Value.int (q 24) :: Value.ref (a 25) :: Value.int (q 26) :: Value.ref (a 27) :: Value.int (q 28) :: Value.int (q 29) :: Value.int (q 30) :: Value.int (q 31) :: Value.int (q 32) :: Value.int (q 33) :: Value.ref (a 34) :: Value.ref (a 35) :: Value.ref (a 36) :: Value.ref (a 37) :: Value.ref (a 38) :: Value.ref (a 39) :: Value.ref (a 40) :: Value.int (q 41) :: Value.ref (a 42) :: Value.int (q 43) :: Value.int (q 44) :: [])))] sz) (fun (u : (Int32)) => [(h0, .inr (10, (Value.int (q 0) :: Value.int (q 1) :: Value.int (q 2) :: Value.int (q 3) :: Value.int (q 4) :: Value.int (q 5) :: Value.int (q 6) :: Value.int u :: Value.ref (a 8) :: Value.ref (a 9) :: Value.ref (a 10) :: Value.ref (a 11) :: Value.ref (a 12) :: Value.ref (a 13) :: Value.int (q 14) :: Value.long v :: Value.long w :: Value.ref (a 17) :: Value.ref (a 18) :: Value.ref (a 19) :: Value.ref (a 20) :: Value.ref (a 21) :: Value.ref (a 22) :: Value.ref (a 23) :: Value.int (q 24) :: Value.ref (a 25) :: Value.int (q 26) :: Value.ref (a 27) :: Value.int (q 28) :: Value.int (q 29) :: Value.int (q 30) :: Value.int (q 31) :: Value.int (q 32) :: Value.int (q 33) :: Value.ref (a 34) :: Value.ref (a 35) :: Value.ref (a 36) :: Value.ref (a 37) :: Value.ref (a 38) :: Value.ref (a 39) :: Value.ref (a 40) :: Value.int (q 41) :: Value.ref (a 42) :: Value.int (q 43) :: Value.int (q 44) :: [])))])) (va_A [(h0, .inr (10, (Value.int (q 0) :: Value.int (q 1) :: Value.int (q 2) :: Value.int (q 3) :: Value.int (q 4) :: Value.int (q 5) :: Value.int (q 6) :: Value.int (q 7) :: Value.ref (a 8) :: Value.ref (a 9) :: Value.ref (a 10) :: Value.ref (a 11) :: Value.ref (a 12) :: Value.ref (a 13) :: Value.int (q 14) :: Value.long v :: Value.long w :: Value.ref (a 17) :: Value.ref (a 18) :: Value.ref (a 19) :: Value.ref (a 20) :: Value.ref (a 21) :: Value.ref (a 22) :: Value.ref (a 23) :: Value.int (q 24) :: Value.ref (a 25) :: Value.int (q 26) :: Value.ref (a 27) :: Value.int (q 28) :: Value.int (q 29) :: Value.int (q 30) :: Value.int (q 31) :: Value.int (q 32) :: Value.int (q 33) :: Value.ref (a 34) :: Value.ref (a 35) :: Value.ref (a 36) :: Value.ref (a 37) :: Value.ref (a 38) :: Value.ref (a 39) :: Value.ref (a 40) :: Value.int (q 41) :: Value.ref (a 42) :: Value.int (q 43) :: Value.int (q 44) :: [])))] sz)) 0 0 (va_A [(h0, .inr (10, (Value.int (q 0) :: Value.int (q 1) :: Value.int (q 2) :: Value.int (q 3) :: Value.int (q 4) :: Value.int (q 5) :: Value.int (q 6) :: Value.int (q 7) :: Value.ref (a 8) :: Value.ref (a 9) :: Value.ref (a 10) :: Value.ref (a 11) :: Value.ref (a 12) :: Value.ref (a 13) :: Value.int (q 14) :: Value.long v :: Value.long w :: Value.ref (a 17) :: Value.ref (a 18) :: Value.ref (a 19) :: Value.ref (a 20) :: Value.ref (a 21) :: Value.ref (a 22) :: Value.ref (a 23) :: Value.int (q 24) :: Value.ref (a 25) :: Value.int (q 26) :: Value.ref (a 27) :: Value.int (q 28) :: Value.int (q 29) :: Value.int (q 30) :: Value.int (q 31) :: Value.int (q 32) :: Value.int (q 33) :: Value.ref (a 34) :: Value.ref (a 35) :: Value.ref (a 36) :: Value.ref (a 37) :: Value.ref (a 38) :: Value.ref (a 39) :: Value.ref (a 40) :: Value.int (q 41) :: Value.ref (a 42) :: Value.int (q 43) :: Value.int (q 44) :: [])))] sz) := by
  refine Met.ofW (cc := cX13_drop) (maxL := 1) (ret := (some .int)) (by decide +kernel) rfl ?_
  intro p e s m args below meth c s₁ B hml hv
  obtain ⟨rfl, hsz, hP, hE, hD0⟩ := hv
  have hx := B.exec
  have hb := B.bytes
  have hr := B.returns
  have hts := atoms_spec (ws := wsX13_drop) B.pre
  have hown : s.vm.findClass RX13 = some m.cls := findClass_of_methodNamed B.named
  have hlocks := B.notSynchronized
  subst hsz
  have hD := hD0.self (sz := s.heap.size)
  generalize hAe : va_A [(h0, .inr (10, (Value.int (q 0) :: Value.int (q 1) :: Value.int (q 2) :: Value.int (q 3) :: Value.int (q 4) :: Value.int (q 5) :: Value.int (q 6) :: Value.int (q 7) :: Value.ref (a 8) :: Value.ref (a 9) :: Value.ref (a 10) :: Value.ref (a 11) :: Value.ref (a 12) :: Value.ref (a 13) :: Value.int (q 14) :: Value.long v :: Value.long w :: Value.ref (a 17) :: Value.ref (a 18) :: Value.ref (a 19) :: Value.ref (a 20) :: Value.ref (a 21) :: Value.ref (a 22) :: Value.ref (a 23) :: Value.int (q 24) :: Value.ref (a 25) :: Value.int (q 26) :: Value.ref (a 27) :: Value.int (q 28) :: Value.int (q 29) :: Value.int (q 30) :: Value.int (q 31) :: Value.int (q 32) :: Value.int (q 33) :: Value.ref (a 34) :: Value.ref (a 35) :: Value.ref (a 36) :: Value.ref (a 37) :: Value.ref (a 38) :: Value.ref (a 39) :: Value.ref (a 40) :: Value.int (q 41) :: Value.ref (a 42) :: Value.int (q 43) :: Value.int (q 44) :: [])))] s.heap.size = A at hD ⊢
  have hA : ∀ q : Nat, s.heap.size ≤ q → A q := fun q h => by rw [← hAe]; exact Or.inr h
  have hS : va_S A s.heap s.heap [] := va_S.rf
  have hP : va_P D vwCl [(h0, .inr (10, (Value.int (q 0) :: Value.int (q 1) :: Value.int (q 2) :: Value.int (q 3) :: Value.int (q 4) :: Value.int (q 5) :: Value.int (q 6) :: Value.int (q 7) :: Value.ref (a 8) :: Value.ref (a 9) :: Value.ref (a 10) :: Value.ref (a 11) :: Value.ref (a 12) :: Value.ref (a 13) :: Value.int (q 14) :: Value.long v :: Value.long w :: Value.ref (a 17) :: Value.ref (a 18) :: Value.ref (a 19) :: Value.ref (a 20) :: Value.ref (a 21) :: Value.ref (a 22) :: Value.ref (a 23) :: Value.int (q 24) :: Value.ref (a 25) :: Value.int (q 26) :: Value.ref (a 27) :: Value.int (q 28) :: Value.int (q 29) :: Value.int (q 30) :: Value.int (q 31) :: Value.int (q 32) :: Value.int (q 33) :: Value.ref (a 34) :: Value.ref (a 35) :: Value.ref (a 36) :: Value.ref (a 37) :: Value.ref (a 38) :: Value.ref (a 39) :: Value.ref (a 40) :: Value.int (q 41) :: Value.ref (a 42) :: Value.int (q 43) :: Value.int (q 44) :: [])))] s.heap := hP
  have hl := lv_entry ([.ref h0]) (n := 1) (Nat.le_of_ble_eq_true rfl)
  rw [lg_entry_eq]
  generalize (lg_sl ([.ref h0]) ++ List.replicate (1 - (lg_sl ([.ref h0])).length) Slot.unset).toArray = ls at hl ⊢
  have hl : lv_has ls 1 [(0, .ref h0)] := hl
  clear hD0
  refine lv_aload_n hx hb dX13_drop_0 rfl (lv_at hl 0 rfl) ?_
  refine va_get (D := D) (ci := 10) (v := .int (q 7)) (C := RX13) (T := TX13) (N := 45) hx hb hts in_X13_drop_X13 hown hE.1 hP 0 rfl rfl 7 (by decide +kernel) (hts (.fieldLink RX13 205 "ClauseBookModel" "many" "I") (List.mem_of_getElem? (i := 1) rfl)) (fun _ h9 => h9) rfl dX13_drop_1 ?_
  refine lv_if_ne (tgt := 10) hx hb dX13_drop_4 (by decide +kernel) (fun c_1 => ?_) (fun c_1 => ?_)
  · rw [fa_eq] at c_1
    try rw [ti_0] at c_1
    refine lv_aload_n hx hb dX13_drop_10 rfl (lv_at hl 0 rfl) ?_
    refine lv_dup hx hb dX13_drop_11 rfl ?_
    refine va_get (D := D) (ci := 10) (v := .int (q 7)) (C := RX13) (T := TX13) (N := 45) hx hb hts in_X13_drop_X13 hown hE.1 hP 0 rfl rfl 7 (by decide +kernel) (hts (.fieldLink RX13 205 "ClauseBookModel" "many" "I") (List.mem_of_getElem? (i := 1) rfl)) (fun _ h9 => h9) rfl dX13_drop_12 ?_
    refine lv_iconst (v := 1) hx hb dX13_drop_15 (by decide +kernel) ?_
    refine lv_isub hx hb dX13_drop_16 ?_
    refine lv_topi (fun z_2 ez_2 => ?_)
    refine va_put (D := D) (ci := 10) (v := .int z_2) (ty := .int) (C := RX13) (T := TX13) (N := 45) hx hb hts in_X13_drop_X13 tyX13 tyX13_ok nmX13 hown hE.1 hP hD hS 0 rfl rfl 7 (by decide +kernel) (hts (.fieldLink RX13 205 "ClauseBookModel" "many" "I") (List.mem_of_getElem? (i := 1) rfl)) (fun _ h9 => h9) rfl (by decide +kernel) rfl rfl (Nat.le_of_ble_eq_true rfl) dX13_drop_17 (fun H locs hP hD hS => ?_)
    obtain ⟨hP, hD⟩ := wPD [(h0, .inr (10, (Value.int (q 0) :: Value.int (q 1) :: Value.int (q 2) :: Value.int (q 3) :: Value.int (q 4) :: Value.int (q 5) :: Value.int (q 6) :: Value.int z_2 :: Value.ref (a 8) :: Value.ref (a 9) :: Value.ref (a 10) :: Value.ref (a 11) :: Value.ref (a 12) :: Value.ref (a 13) :: Value.int (q 14) :: Value.long v :: Value.long w :: Value.ref (a 17) :: Value.ref (a 18) :: Value.ref (a 19) :: Value.ref (a 20) :: Value.ref (a 21) :: Value.ref (a 22) :: Value.ref (a 23) :: Value.int (q 24) :: Value.ref (a 25) :: Value.int (q 26) :: Value.ref (a 27) :: Value.int (q 28) :: Value.int (q 29) :: Value.int (q 30) :: Value.int (q 31) :: Value.int (q 32) :: Value.int (q 33) :: Value.ref (a 34) :: Value.ref (a 35) :: Value.ref (a 36) :: Value.ref (a 37) :: Value.ref (a 38) :: Value.ref (a 39) :: Value.ref (a 40) :: Value.int (q 41) :: Value.ref (a 42) :: Value.int (q 43) :: Value.int (q 44) :: [])))] hP hD rfl
    have hz9 : z_2.toInt = (q 7).toInt - 1 := by rw [ez_2]; exact dec1 (by omega)
    refine lv_aload_n hx hb dX13_drop_20 rfl (lv_at hl 0 rfl) ?_
    refine va_get (D := D) (ci := 10) (v := .int z_2) (C := RX13) (T := TX13) (N := 45) hx hb hts in_X13_drop_X13 hown hE.1 hP 0 rfl rfl 7 (by decide +kernel) (hts (.fieldLink RX13 205 "ClauseBookModel" "many" "I") (List.mem_of_getElem? (i := 1) rfl)) (fun _ h9 => h9) rfl dX13_drop_21 ?_
    exact W.iret hx hb hr (fun t ht hW => ⟨⟨_, z_2, rfl, ⟨(show 0 ≤ z_2.toInt ∧ z_2.toInt ≤ 24 from (by first | omega | (subst_vars; omega))), (show dropC (q 7) z_2 z_2 from (Or.inr ⟨(by omega), rfl, hz9⟩))⟩, by rw [ht]; exact hP.sub [0] rfl, hD.sub [0] (by decide +kernel) rfl⟩, hS.F ht⟩) hS.2.2 dX13_drop_24
  · rw [fa_eq] at c_1
    try rw [ti_0] at c_1
    refine lv_bipush (v := (-3)) hx hb dX13_drop_7 (by decide +kernel) ?_
    exact W.iret hx hb hr (fun t ht hW => ⟨⟨_, (q 7), rfl, ⟨(show 0 ≤ (q 7).toInt ∧ (q 7).toInt ≤ 24 from (by first | omega | (subst_vars; omega))), (show dropC (q 7) ((-3) : Int32) (q 7) from (Or.inl ⟨(by omega), (by decide +kernel), rfl⟩))⟩, by rw [ht]; exact hP.sub [0] rfl, hD.sub [0] (by decide +kernel) rfl⟩, hS.F ht⟩) hS.2.2 dX13_drop_9
theorem dX13_clauseOf_0 : decode cX13_clauseOf 0 = .ok (.aload_n 0, 1) := by decide +kernel
theorem dX13_clauseOf_1 : decode cX13_clauseOf 1 = .ok (.iload_n 1, 1) := by decide +kernel
theorem dX13_clauseOf_10 : decode cX13_clauseOf 10 = .ok (.ireturn, 1) := by decide +kernel
theorem dX13_clauseOf_101 : decode cX13_clauseOf 101 = .ok (.iload_n 1, 1) := by decide +kernel
theorem dX13_clauseOf_102 : decode cX13_clauseOf 102 = .ok (.iaload, 1) := by decide +kernel
theorem dX13_clauseOf_103 : decode cX13_clauseOf 103 = .ok (.invokestatic 210, 3) := by decide +kernel
theorem dX13_clauseOf_106 : decode cX13_clauseOf 106 = .ok (.iconst 1, 1) := by decide +kernel
theorem dX13_clauseOf_107 : decode cX13_clauseOf 107 = .ok (.if_icmp .le 12, 3) := by decide +kernel
theorem dX13_clauseOf_11 : decode cX13_clauseOf 11 = .ok (.aload_n 0, 1) := by decide +kernel
theorem dX13_clauseOf_110 : decode cX13_clauseOf 110 = .ok (.aload_n 0, 1) := by decide +kernel
theorem dX13_clauseOf_111 : decode cX13_clauseOf 111 = .ok (.getfield 38, 3) := by decide +kernel
theorem dX13_clauseOf_114 : decode cX13_clauseOf 114 = .ok (.iload_n 1, 1) := by decide +kernel
theorem dX13_clauseOf_115 : decode cX13_clauseOf 115 = .ok (.iaload, 1) := by decide +kernel
theorem dX13_clauseOf_116 : decode cX13_clauseOf 116 = .ok (.goto 4, 3) := by decide +kernel
theorem dX13_clauseOf_119 : decode cX13_clauseOf 119 = .ok (.iconst (-1), 1) := by decide +kernel
theorem dX13_clauseOf_12 : decode cX13_clauseOf 12 = .ok (.invokevirtual 236, 3) := by decide +kernel
theorem dX13_clauseOf_120 : decode cX13_clauseOf 120 = .ok (.ireturn, 1) := by decide +kernel
theorem dX13_clauseOf_121 : decode cX13_clauseOf 121 = .ok (.aload_n 0, 1) := by decide +kernel
theorem dX13_clauseOf_122 : decode cX13_clauseOf 122 = .ok (.getfield 47, 3) := by decide +kernel
theorem dX13_clauseOf_125 : decode cX13_clauseOf 125 = .ok (.iload_n 1, 1) := by decide +kernel
theorem dX13_clauseOf_126 : decode cX13_clauseOf 126 = .ok (.iaload, 1) := by decide +kernel
theorem dX13_clauseOf_127 : decode cX13_clauseOf 127 = .ok (.ireturn, 1) := by decide +kernel
theorem dX13_clauseOf_128 : decode cX13_clauseOf 128 = .ok (.aload_n 0, 1) := by decide +kernel
theorem dX13_clauseOf_129 : decode cX13_clauseOf 129 = .ok (.getfield 50, 3) := by decide +kernel
theorem dX13_clauseOf_132 : decode cX13_clauseOf 132 = .ok (.iload_n 1, 1) := by decide +kernel
theorem dX13_clauseOf_133 : decode cX13_clauseOf 133 = .ok (.iaload, 1) := by decide +kernel
theorem dX13_clauseOf_134 : decode cX13_clauseOf 134 = .ok (.ireturn, 1) := by decide +kernel
theorem dX13_clauseOf_135 : decode cX13_clauseOf 135 = .ok (.aload_n 0, 1) := by decide +kernel
theorem dX13_clauseOf_136 : decode cX13_clauseOf 136 = .ok (.getfield 53, 3) := by decide +kernel
theorem dX13_clauseOf_139 : decode cX13_clauseOf 139 = .ok (.iload_n 1, 1) := by decide +kernel
theorem dX13_clauseOf_140 : decode cX13_clauseOf 140 = .ok (.iaload, 1) := by decide +kernel
theorem dX13_clauseOf_141 : decode cX13_clauseOf 141 = .ok (.ireturn, 1) := by decide +kernel
theorem dX13_clauseOf_142 : decode cX13_clauseOf 142 = .ok (.bipush (-2), 2) := by decide +kernel
theorem dX13_clauseOf_144 : decode cX13_clauseOf 144 = .ok (.ireturn, 1) := by decide +kernel
theorem dX13_clauseOf_15 : decode cX13_clauseOf 15 = .ok (.iload_n 2, 1) := by decide +kernel
theorem dX13_clauseOf_16 : decode cX13_clauseOf 16 = .ok (.tableswitch 126 0 6 #[44, 51, 58, 81, 105, 112, 119], 44) := by decide +kernel
theorem dX13_clauseOf_2 : decode cX13_clauseOf 2 = .ok (.invokevirtual 233, 3) := by decide +kernel
theorem dX13_clauseOf_5 : decode cX13_clauseOf 5 = .ok (.ifCond .ne 6, 3) := by decide +kernel
theorem dX13_clauseOf_60 : decode cX13_clauseOf 60 = .ok (.aload_n 0, 1) := by decide +kernel
theorem dX13_clauseOf_61 : decode cX13_clauseOf 61 = .ok (.getfield 28, 3) := by decide +kernel
theorem dX13_clauseOf_64 : decode cX13_clauseOf 64 = .ok (.iload_n 1, 1) := by decide +kernel
theorem dX13_clauseOf_65 : decode cX13_clauseOf 65 = .ok (.iaload, 1) := by decide +kernel
theorem dX13_clauseOf_66 : decode cX13_clauseOf 66 = .ok (.ireturn, 1) := by decide +kernel
theorem dX13_clauseOf_67 : decode cX13_clauseOf 67 = .ok (.aload_n 0, 1) := by decide +kernel
theorem dX13_clauseOf_68 : decode cX13_clauseOf 68 = .ok (.getfield 32, 3) := by decide +kernel
theorem dX13_clauseOf_71 : decode cX13_clauseOf 71 = .ok (.iload_n 1, 1) := by decide +kernel
theorem dX13_clauseOf_72 : decode cX13_clauseOf 72 = .ok (.iaload, 1) := by decide +kernel
theorem dX13_clauseOf_73 : decode cX13_clauseOf 73 = .ok (.ireturn, 1) := by decide +kernel
theorem dX13_clauseOf_74 : decode cX13_clauseOf 74 = .ok (.aload_n 0, 1) := by decide +kernel
theorem dX13_clauseOf_75 : decode cX13_clauseOf 75 = .ok (.getfield 28, 3) := by decide +kernel
theorem dX13_clauseOf_78 : decode cX13_clauseOf 78 = .ok (.iload_n 1, 1) := by decide +kernel
theorem dX13_clauseOf_79 : decode cX13_clauseOf 79 = .ok (.iaload, 1) := by decide +kernel
theorem dX13_clauseOf_8 : decode cX13_clauseOf 8 = .ok (.bipush (-2), 2) := by decide +kernel
theorem dX13_clauseOf_80 : decode cX13_clauseOf 80 = .ok (.invokestatic 210, 3) := by decide +kernel
theorem dX13_clauseOf_83 : decode cX13_clauseOf 83 = .ok (.ifCond .le 12, 3) := by decide +kernel
theorem dX13_clauseOf_86 : decode cX13_clauseOf 86 = .ok (.aload_n 0, 1) := by decide +kernel
theorem dX13_clauseOf_87 : decode cX13_clauseOf 87 = .ok (.getfield 35, 3) := by decide +kernel
theorem dX13_clauseOf_90 : decode cX13_clauseOf 90 = .ok (.iload_n 1, 1) := by decide +kernel
theorem dX13_clauseOf_91 : decode cX13_clauseOf 91 = .ok (.iaload, 1) := by decide +kernel
theorem dX13_clauseOf_92 : decode cX13_clauseOf 92 = .ok (.goto 4, 3) := by decide +kernel
theorem dX13_clauseOf_95 : decode cX13_clauseOf 95 = .ok (.iconst (-1), 1) := by decide +kernel
theorem dX13_clauseOf_96 : decode cX13_clauseOf 96 = .ok (.ireturn, 1) := by decide +kernel
theorem dX13_clauseOf_97 : decode cX13_clauseOf 97 = .ok (.aload_n 0, 1) := by decide +kernel
theorem dX13_clauseOf_98 : decode cX13_clauseOf 98 = .ok (.getfield 28, 3) := by decide +kernel
set_option maxRecDepth 20000 in
theorem ggX13_clauseOf_X13_isClause : GoodIn wsX13_clauseOf wsX13_isClause := goodIn_r _ [12, 13, 14, 15, 11, 16, 31, 32, 33, 34, 35, 36, 37, 38, 39, 40, 41, 42, 43, 44, 45, 46, 47, 48, 49, 50, 51, 52, 53, 54, 55, 56, 57, 58, 59, 60, 61, 62, 63, 64, 65, 66, 67, 68, 69, 70, 71, 72, 73, 74, 75] rfl (by decide +kernel)
set_option maxRecDepth 40000 in
theorem ggX13_clauseOf_X13_laysParts_0 : GoodIn wsX13_clauseOf [.code yX13_laysParts cX13_laysParts 5 none] := goodIn_r _ [20] rfl (by decide +kernel)
set_option maxRecDepth 40000 in
theorem ggX13_clauseOf_X13_laysParts_1 : GoodIn wsX13_clauseOf [.fieldLink RX13 205 "ClauseBookModel" "many" "I", .fieldLink RX13 28 "ClauseBookModel" "kind" "[I", .fieldLink RX13 35 "ClauseBookModel" "one" "[I", .fieldLink RX13 38 "ClauseBookModel" "two" "[I", .fieldLink RX13 47 "ClauseBookModel" "end" "[I", .methodLink RX13 227 Lib.Math.max.name, .static Lib.Math.max.name, .initialized "java/lang/Math", .code Lib.Math.max.name Lib.Math.max.code 2 (some .int), .fieldLink RX13 32 "ClauseBookModel" "number" "[I", .methodLink RX13 230 Lib.Math.min.name, .static Lib.Math.min.name, .code Lib.Math.min.name Lib.Math.min.code 2 (some .int), .fieldLink RX13 50 "ClauseBookModel" "parts" "[I", .fieldLink RX13 53 "ClauseBookModel" "deep" "[I", .methodLink RX13 210 yX13_names, .static yX13_names, .initialized RX13, .code yX13_names cX13_names 1 (some .int)] := goodIn_r _ [13, 1, 3, 4, 5, 21, 22, 23, 24, 2, 25, 26, 27, 6, 7, 28, 29, 11, 30] rfl (by decide +kernel)
set_option maxRecDepth 40000 in
theorem ggX13_clauseOf_X13_laysParts_2 : GoodIn wsX13_clauseOf wsX130 := goodIn_r _ [31, 32, 33, 34, 35, 36, 37, 38, 39, 40, 41, 42, 43, 44, 45, 46, 47, 48, 49, 50, 51, 52, 53, 54, 55, 56, 57, 58, 59, 60, 61, 62, 63, 64, 65, 66, 67, 68, 69, 70, 71, 72, 73, 74, 75] rfl (by decide +kernel)
set_option maxRecDepth 40000 in
theorem ggX13_clauseOf_X13_laysParts : GoodIn wsX13_clauseOf wsX13_laysParts := (goodIn_app ggX13_clauseOf_X13_laysParts_0 (goodIn_app ggX13_clauseOf_X13_laysParts_1 ggX13_clauseOf_X13_laysParts_2))
set_option maxRecDepth 20000 in
theorem ggX13_clauseOf_X13_names : GoodIn wsX13_clauseOf wsX13_names := goodIn_r _ [30] rfl (by decide +kernel)
set_option maxRecDepth 20000 in
theorem gX13_clauseOf_X13_isClause : GoodIn wsX13_clauseOf (wsV RX13 233 RX13 yX13_isClause wsX13_isClause) := goodIn_app (goodIn_r _ [8, 9, 10, 11] rfl (by decide +kernel)) ggX13_clauseOf_X13_isClause
set_option maxRecDepth 20000 in
theorem gX13_clauseOf_X13_laysParts : GoodIn wsX13_clauseOf (wsV RX13 236 RX13 yX13_laysParts wsX13_laysParts) := goodIn_app (goodIn_r _ [17, 18, 19, 11] rfl (by decide +kernel)) ggX13_clauseOf_X13_laysParts
set_option maxRecDepth 20000 in
theorem gX13_clauseOf_X13_names : GoodIn wsX13_clauseOf (va_wsS RX13 210 yX13_names wsX13_names) := goodIn_app (goodIn_of _ (by decide +kernel)) ggX13_clauseOf_X13_names
set_option maxRecDepth 20000 in
theorem in_X13_clauseOf_X13 : ∀ w ∈ wsX130, w ∈ wsX13_clauseOf := sub_r [31, 32, 33, 34, 35, 36, 37, 38, 39, 40, 41, 42, 43, 44, 45, 46, 47, 48, 49, 50, 51, 52, 53, 54, 55, 56, 57, 58, 59, 60, 61, 62, 63, 64, 65, 66, 67, 68, 69, 70, 71, 72, 73, 74, 75] rfl
set_option maxHeartbeats 4000000 in
set_option maxRecDepth 100000 in
theorem c_X13_clauseOf (l : Launch) (D : va_G) (T : Nat → ClassId) (sz : Nat) (h0 : Nat) (q : Nat → Int32) (v : Int64) (w : Int64) (a : Nat → Nat) (f8 : Nat → Int32) (f9 : Nat → Int32) (f10 : Nat → Int32) (f11 : Nat → Int32) (f17 : Nat → Int32) (f18 : Nat → Int32) (f19 : Nat → Int32) (x1 : Int32) (x2 : Int32) (hm : 0 ≤ (q 7).toInt ∧ (q 7).toInt ≤ 24) (hokR : okR f8 f10 f11) : Met l yX13_clauseOf wsX13_clauseOf ({ frames := 2, cells := 0, slots := 0, locals := 64 }) (pW [.ref h0, .int x1, .int x2] D T [(h0, .inr (10, (Value.int (q 0) :: Value.int (q 1) :: Value.int (q 2) :: Value.int (q 3) :: Value.int (q 4) :: Value.int (q 5) :: Value.int (q 6) :: Value.int (q 7) :: Value.ref (a 8) :: Value.ref (a 9) :: Value.ref (a 10) :: Value.ref (a 11) :: Value.ref (a 12) :: Value.ref (a 13) :: Value.int (q 14) :: Value.long v :: Value.long w :: Value.ref (a 17) :: Value.ref (a 18) :: Value.ref (a 19) :: Value.ref (a 20) :: Value.ref (a 21) :: Value.ref (a 22) :: Value.ref (a 23) :: Value.int (q 24) :: Value.ref (a 25) :: Value.int (q 26) :: Value.ref (a 27) :: Value.int (q 28) :: Value.int (q 29) :: Value.int (q 30) :: Value.int (q 31) :: Value.int (q 32) :: Value.int (q 33) :: Value.ref (a 34) :: Value.ref (a 35) :: Value.ref (a 36) :: Value.ref (a 37) :: Value.ref (a 38) :: Value.ref (a 39) :: Value.ref (a 40) :: Value.int (q 41) :: Value.ref (a 42) :: Value.int (q 43) :: Value.int (q 44) :: []))), ((a 8), .inl (T 0, 24, .inl f8)), ((a 9), .inl (T 0, 24, .inl f9)), ((a 10), .inl (T 0, 24, .inl f10)), ((a 11), .inl (T 0, 24, .inl f11)), ((a 17), .inl (T 0, 24, .inl f17)), ((a 18), .inl (T 0, 24, .inl f18)), ((a 19), .inl (T 0, 24, .inl f19))] sz) (va_Qi (fun (r : Int32) (u : (Nat → Int32) × (Nat → Int32) × (Nat → Int32)) => (clOR (q 7) x1 x2 r f8 f9 f10 f11)) (bW D (va_A [(h0, .inr (10, (Value.int (q 0) :: Value.int (q 1) :: Value.int (q 2) :: Value.int (q 3) :: Value.int (q 4) :: Value.int (q 5) :: Value.int (q 6) :: Value.int (q 7) :: Value.ref (a 8) :: Value.ref (a 9) :: Value.ref (a 10) :: Value.ref (a 11) :: Value.ref (a 12) :: Value.ref (a 13) :: Value.int (q 14) :: Value.long v :: Value.long w :: Value.ref (a 17) :: Value.ref (a 18) :: Value.ref (a 19) :: Value.ref (a 20) :: Value.ref (a 21) :: Value.ref (a 22) :: Value.ref (a 23) :: Value.int (q 24) :: Value.ref (a 25) :: Value.int (q 26) :: Value.ref (a 27) :: Value.int (q 28) :: Value.int (q 29) :: Value.int (q 30) :: Value.int (q 31) :: Value.int (q 32) :: Value.int (q 33) :: Value.ref (a 34) :: Value.ref (a 35) :: Value.ref (a 36) :: Value.ref (a 37) :: Value.ref (a 38) :: Value.ref (a 39) :: Value.ref (a 40) :: Value.int (q 41) :: Value.ref (a 42) :: Value.int (q 43) :: Value.int (q 44) :: []))), ((a 8), .inl (T 0, 24, .inl f8)), ((a 9), .inl (T 0, 24, .inl f9)), ((a 10), .inl (T 0, 24, .inl f10)), ((a 11), .inl (T 0, 24, .inl f11)), ((a 17), .inl (T 0, 24, .inl f17)), ((a 18), .inl (T 0, 24, .inl f18)), ((a 19), .inl (T 0, 24, .inl f19))] sz) (fun (u : (Nat → Int32) × (Nat → Int32) × (Nat → Int32)) => [(h0, .inr (10, (Value.int (q 0) :: Value.int (q 1) :: Value.int (q 2) :: Value.int (q 3) :: Value.int (q 4) :: Value.int (q 5) :: Value.int (q 6) :: Value.int (q 7) :: Value.ref (a 8) :: Value.ref (a 9) :: Value.ref (a 10) :: Value.ref (a 11) :: Value.ref (a 12) :: Value.ref (a 13) :: Value.int (q 14) :: Value.long v :: Value.long w :: Value.ref (a 17) :: Value.ref (a 18) :: Value.ref (a 19) :: Value.ref (a 20) :: Value.ref (a 21) :: Value.ref (a 22) :: Value.ref (a 23) :: Value.int (q 24) :: Value.ref (a 25) :: Value.int (q 26) :: Value.ref (a 27) :: Value.int (q 28) :: Value.int (q 29) :: Value.int (q 30) :: Value.int (q 31) :: Value.int (q 32) :: Value.int (q 33) :: Value.ref (a 34) :: Value.ref (a 35) :: Value.ref (a 36) :: Value.ref (a 37) :: Value.ref (a 38) :: Value.ref (a 39) :: Value.ref (a 40) :: Value.int (q 41) :: Value.ref (a 42) :: Value.int (q 43) :: Value.int (q 44) :: []))), ((a 8), .inl (T 0, 24, .inl f8)), ((a 9), .inl (T 0, 24, .inl f9)), ((a 10), .inl (T 0, 24, .inl f10)), ((a 11), .inl (T 0, 24, .inl f11)), ((a 17), .inl (T 0, 24, .inl u.1)), ((a 18), .inl (T 0, 24, .inl u.2.1)), ((a 19), .inl (T 0, 24, .inl u.2.2))])) (va_A [(h0, .inr (10, (Value.int (q 0) :: Value.int (q 1) :: Value.int (q 2) :: Value.int (q 3) :: Value.int (q 4) :: Value.int (q 5) :: Value.int (q 6) :: Value.int (q 7) :: Value.ref (a 8) :: Value.ref (a 9) :: Value.ref (a 10) :: Value.ref (a 11) :: Value.ref (a 12) :: Value.ref (a 13) :: Value.int (q 14) :: Value.long v :: Value.long w :: Value.ref (a 17) :: Value.ref (a 18) :: Value.ref (a 19) :: Value.ref (a 20) :: Value.ref (a 21) :: Value.ref (a 22) :: Value.ref (a 23) :: Value.int (q 24) :: Value.ref (a 25) :: Value.int (q 26) :: Value.ref (a 27) :: Value.int (q 28) :: Value.int (q 29) :: Value.int (q 30) :: Value.int (q 31) :: Value.int (q 32) :: Value.int (q 33) :: Value.ref (a 34) :: Value.ref (a 35) :: Value.ref (a 36) :: Value.ref (a 37) :: Value.ref (a 38) :: Value.ref (a 39) :: Value.ref (a 40) :: Value.int (q 41) :: Value.ref (a 42) :: Value.int (q 43) :: Value.int (q 44) :: []))), ((a 8), .inl (T 0, 24, .inl f8)), ((a 9), .inl (T 0, 24, .inl f9)), ((a 10), .inl (T 0, 24, .inl f10)), ((a 11), .inl (T 0, 24, .inl f11)), ((a 17), .inl (T 0, 24, .inl f17)), ((a 18), .inl (T 0, 24, .inl f18)), ((a 19), .inl (T 0, 24, .inl f19))] sz)) 0 0 (va_A [(h0, .inr (10, (Value.int (q 0) :: Value.int (q 1) :: Value.int (q 2) :: Value.int (q 3) :: Value.int (q 4) :: Value.int (q 5) :: Value.int (q 6) :: Value.int (q 7) :: Value.ref (a 8) :: Value.ref (a 9) :: Value.ref (a 10) :: Value.ref (a 11) :: Value.ref (a 12) :: Value.ref (a 13) :: Value.int (q 14) :: Value.long v :: Value.long w :: Value.ref (a 17) :: Value.ref (a 18) :: Value.ref (a 19) :: Value.ref (a 20) :: Value.ref (a 21) :: Value.ref (a 22) :: Value.ref (a 23) :: Value.int (q 24) :: Value.ref (a 25) :: Value.int (q 26) :: Value.ref (a 27) :: Value.int (q 28) :: Value.int (q 29) :: Value.int (q 30) :: Value.int (q 31) :: Value.int (q 32) :: Value.int (q 33) :: Value.ref (a 34) :: Value.ref (a 35) :: Value.ref (a 36) :: Value.ref (a 37) :: Value.ref (a 38) :: Value.ref (a 39) :: Value.ref (a 40) :: Value.int (q 41) :: Value.ref (a 42) :: Value.int (q 43) :: Value.int (q 44) :: []))), ((a 8), .inl (T 0, 24, .inl f8)), ((a 9), .inl (T 0, 24, .inl f9)), ((a 10), .inl (T 0, 24, .inl f10)), ((a 11), .inl (T 0, 24, .inl f11)), ((a 17), .inl (T 0, 24, .inl f17)), ((a 18), .inl (T 0, 24, .inl f18)), ((a 19), .inl (T 0, 24, .inl f19))] sz) := by
  refine Met.ofW (cc := cX13_clauseOf) (maxL := 3) (ret := (some .int)) (by decide +kernel) rfl ?_
  intro p e s m args below meth c s₁ B hml hv
  obtain ⟨rfl, hsz, hP, hE, hD0⟩ := hv
  have hx := B.exec
  have hb := B.bytes
  have hr := B.returns
  have hts := atoms_spec (ws := wsX13_clauseOf) B.pre
  have hown : s.vm.findClass RX13 = some m.cls := findClass_of_methodNamed B.named
  have hlocks := B.notSynchronized
  subst hsz
  have hD := hD0.self (sz := s.heap.size)
  generalize hAe : va_A [(h0, .inr (10, (Value.int (q 0) :: Value.int (q 1) :: Value.int (q 2) :: Value.int (q 3) :: Value.int (q 4) :: Value.int (q 5) :: Value.int (q 6) :: Value.int (q 7) :: Value.ref (a 8) :: Value.ref (a 9) :: Value.ref (a 10) :: Value.ref (a 11) :: Value.ref (a 12) :: Value.ref (a 13) :: Value.int (q 14) :: Value.long v :: Value.long w :: Value.ref (a 17) :: Value.ref (a 18) :: Value.ref (a 19) :: Value.ref (a 20) :: Value.ref (a 21) :: Value.ref (a 22) :: Value.ref (a 23) :: Value.int (q 24) :: Value.ref (a 25) :: Value.int (q 26) :: Value.ref (a 27) :: Value.int (q 28) :: Value.int (q 29) :: Value.int (q 30) :: Value.int (q 31) :: Value.int (q 32) :: Value.int (q 33) :: Value.ref (a 34) :: Value.ref (a 35) :: Value.ref (a 36) :: Value.ref (a 37) :: Value.ref (a 38) :: Value.ref (a 39) :: Value.ref (a 40) :: Value.int (q 41) :: Value.ref (a 42) :: Value.int (q 43) :: Value.int (q 44) :: []))), ((a 8), .inl (T 0, 24, .inl f8)), ((a 9), .inl (T 0, 24, .inl f9)), ((a 10), .inl (T 0, 24, .inl f10)), ((a 11), .inl (T 0, 24, .inl f11)), ((a 17), .inl (T 0, 24, .inl f17)), ((a 18), .inl (T 0, 24, .inl f18)), ((a 19), .inl (T 0, 24, .inl f19))] s.heap.size = A at hD ⊢
  have hA : ∀ q : Nat, s.heap.size ≤ q → A q := fun q h => by rw [← hAe]; exact Or.inr h
  have hS : va_S A s.heap s.heap [] := va_S.rf
  have hP : va_P D vwCl [(h0, .inr (10, (Value.int (q 0) :: Value.int (q 1) :: Value.int (q 2) :: Value.int (q 3) :: Value.int (q 4) :: Value.int (q 5) :: Value.int (q 6) :: Value.int (q 7) :: Value.ref (a 8) :: Value.ref (a 9) :: Value.ref (a 10) :: Value.ref (a 11) :: Value.ref (a 12) :: Value.ref (a 13) :: Value.int (q 14) :: Value.long v :: Value.long w :: Value.ref (a 17) :: Value.ref (a 18) :: Value.ref (a 19) :: Value.ref (a 20) :: Value.ref (a 21) :: Value.ref (a 22) :: Value.ref (a 23) :: Value.int (q 24) :: Value.ref (a 25) :: Value.int (q 26) :: Value.ref (a 27) :: Value.int (q 28) :: Value.int (q 29) :: Value.int (q 30) :: Value.int (q 31) :: Value.int (q 32) :: Value.int (q 33) :: Value.ref (a 34) :: Value.ref (a 35) :: Value.ref (a 36) :: Value.ref (a 37) :: Value.ref (a 38) :: Value.ref (a 39) :: Value.ref (a 40) :: Value.int (q 41) :: Value.ref (a 42) :: Value.int (q 43) :: Value.int (q 44) :: []))), ((a 8), .inl (T 0, 24, .inl f8)), ((a 9), .inl (T 0, 24, .inl f9)), ((a 10), .inl (T 0, 24, .inl f10)), ((a 11), .inl (T 0, 24, .inl f11)), ((a 17), .inl (T 0, 24, .inl f17)), ((a 18), .inl (T 0, 24, .inl f18)), ((a 19), .inl (T 0, 24, .inl f19))] s.heap := hP
  have hl := lv_entry ([.ref h0, .int x1, .int x2]) (n := 3) (Nat.le_of_ble_eq_true rfl)
  rw [lg_entry_eq]
  generalize (lg_sl ([.ref h0, .int x1, .int x2]) ++ List.replicate (3 - (lg_sl ([.ref h0, .int x1, .int x2])).length) Slot.unset).toArray = ls at hl ⊢
  have hl : lv_has ls 3 [(0, .ref h0), (1, .int x1), (2, .int x2)] := hl
  clear hD0
  refine lv_aload_n hx hb dX13_clauseOf_0 rfl (lv_at hl 0 rfl) ?_
  refine lv_iload_n hx hb dX13_clauseOf_1 rfl (lv_at hl 1 rfl) ?_
  refine vp_callSi (W.runV (As := [.int x1]) (rest := []) ⟨hx, hb, hml, hown, hts⟩ (c_X13_isClause l D T h0 [.int (q 0), .int (q 1), .int (q 2), .int (q 3), .int (q 4), .int (q 5), .int (q 6), .int (q 7), .ref (a 8), .ref (a 9), .ref (a 10), .ref (a 11), .ref (a 12), .ref (a 13), .int (q 14), .long v, .long w, .ref (a 17), .ref (a 18), .ref (a 19), .ref (a 20), .ref (a 21), .ref (a 22), .ref (a 23), .int (q 24), .ref (a 25), .int (q 26), .ref (a 27), .int (q 28), .int (q 29), .int (q 30), .int (q 31), .int (q 32), .int (q 33), .ref (a 34), .ref (a 35), .ref (a 36), .ref (a 37), .ref (a 38), .ref (a 39), .ref (a 40), .int (q 41), .ref (a 42), .int (q 43), .int (q 44)] x1 (q 7) rfl (by omega)) (cwV 1 hts gX13_clauseOf_X13_isClause rfl rfl rfl hv_X13_isClause ⟨Nat.le_of_ble_eq_true rfl, Nat.le_of_ble_eq_true rfl⟩) (pR_V (q := (RX13, TX13, 45)) (ci := 10) (q0 := 0) hP hE rfl rfl [0] rfl) rfl rfl hl.1 rfl (lv_room (Nat.le_of_ble_eq_true rfl)) dX13_clauseOf_2 ⟨Nat.le_of_ble_eq_true rfl, Nat.le_of_ble_eq_true rfl⟩) (fun r_1 hr_1 => ?_)
  rcases bool_post hr_1 with ⟨c_2, rfl⟩ | ⟨c_2, rfl⟩
  · refine lv_if_ne (tgt := 11) hx hb dX13_clauseOf_5 (by decide +kernel) (fun _ => ?_) (fun c9 => absurd c9 (by decide +kernel))
    refine lv_aload_n hx hb dX13_clauseOf_11 rfl (lv_at hl 0 rfl) ?_
    have hFc := va_free (wc := [(h0, .inr (10, (Value.int (q 0) :: Value.int (q 1) :: Value.int (q 2) :: Value.int (q 3) :: Value.int (q 4) :: Value.int (q 5) :: Value.int (q 6) :: Value.int (q 7) :: Value.ref (a 8) :: Value.ref (a 9) :: Value.ref (a 10) :: Value.ref (a 11) :: Value.ref (a 12) :: Value.ref (a 13) :: Value.int (q 14) :: Value.long v :: Value.long w :: Value.ref (a 17) :: Value.ref (a 18) :: Value.ref (a 19) :: Value.ref (a 20) :: Value.ref (a 21) :: Value.ref (a 22) :: Value.ref (a 23) :: Value.int (q 24) :: Value.ref (a 25) :: Value.int (q 26) :: Value.ref (a 27) :: Value.int (q 28) :: Value.int (q 29) :: Value.int (q 30) :: Value.int (q 31) :: Value.int (q 32) :: Value.int (q 33) :: Value.ref (a 34) :: Value.ref (a 35) :: Value.ref (a 36) :: Value.ref (a 37) :: Value.ref (a 38) :: Value.ref (a 39) :: Value.ref (a 40) :: Value.int (q 41) :: Value.ref (a 42) :: Value.int (q 43) :: Value.int (q 44) :: []))), ((a 8), .inl (T 0, 24, .inl f8)), ((a 9), .inl (T 0, 24, .inl f9)), ((a 10), .inl (T 0, 24, .inl f10)), ((a 11), .inl (T 0, 24, .inl f11)), ((a 17), .inl (T 0, 24, .inl f17)), ((a 18), .inl (T 0, 24, .inl f18)), ((a 19), .inl (T 0, 24, .inl f19))]) hD hS hA [0, 1, 2, 3, 4, 5, 6, 7] rfl
    refine va_callv (va_runV (As := []) (rest := []) ⟨hx, hb, hml, hown, hts⟩ (c_X13_laysParts l D T _ h0 q v w a f8 f9 f10 f11 f17 f18 f19 (show 0 ≤ (q 7).toInt ∧ (q 7).toInt ≤ 24 from (by omega)) (show okR f8 f10 f11 from hokR)) (cwV 0 hts gX13_clauseOf_X13_laysParts rfl rfl rfl hv_X13_laysParts ⟨Nat.le_of_ble_eq_true rfl, Nat.le_of_ble_eq_true rfl⟩) (pW_V (q := (RX13, TX13, 45)) (ci := 10) (q0 := 0) hP hE hD rfl rfl [0, 1, 2, 3, 4, 5, 6, 7] (by decide +kernel) rfl rfl) rfl rfl hl.1 rfl (lv_room (Nat.le_of_ble_eq_true rfl)) dX13_clauseOf_12 ⟨Nat.le_of_ble_eq_true rfl, Nat.le_of_ble_eq_true rfl⟩) hS (fun q _ h => hFc q h) hFc (fun u_4 t H1 locs ht hvm hr_3 hB hz1 hk1 hS => ?_)
    obtain ⟨f_5, f_6, f_7⟩ := u_4
    obtain ⟨hi0_r_3, hi1_r_3⟩ := hr_3
    have hEE : okE f8 f10 f_5 (q 7).toInt := hi0_r_3
    have hMEr : ∀ j : Nat, (j : Int) < (q 7).toInt → mesP f8 f9 f10 f11 f_5 f_6 f_7 j := hi1_r_3
    obtain ⟨hP1, hD1⟩ := hB
    rw [ht] at hP1
    obtain ⟨hP, hD⟩ := va_repl [(h0, .inr (10, (Value.int (q 0) :: Value.int (q 1) :: Value.int (q 2) :: Value.int (q 3) :: Value.int (q 4) :: Value.int (q 5) :: Value.int (q 6) :: Value.int (q 7) :: Value.ref (a 8) :: Value.ref (a 9) :: Value.ref (a 10) :: Value.ref (a 11) :: Value.ref (a 12) :: Value.ref (a 13) :: Value.int (q 14) :: Value.long v :: Value.long w :: Value.ref (a 17) :: Value.ref (a 18) :: Value.ref (a 19) :: Value.ref (a 20) :: Value.ref (a 21) :: Value.ref (a 22) :: Value.ref (a 23) :: Value.int (q 24) :: Value.ref (a 25) :: Value.int (q 26) :: Value.ref (a 27) :: Value.int (q 28) :: Value.int (q 29) :: Value.int (q 30) :: Value.int (q 31) :: Value.int (q 32) :: Value.int (q 33) :: Value.ref (a 34) :: Value.ref (a 35) :: Value.ref (a 36) :: Value.ref (a 37) :: Value.ref (a 38) :: Value.ref (a 39) :: Value.ref (a 40) :: Value.int (q 41) :: Value.ref (a 42) :: Value.int (q 43) :: Value.int (q 44) :: []))), ((a 8), .inl (T 0, 24, .inl f8)), ((a 9), .inl (T 0, 24, .inl f9)), ((a 10), .inl (T 0, 24, .inl f10)), ((a 11), .inl (T 0, 24, .inl f11)), ((a 17), .inl (T 0, 24, .inl f_5)), ((a 18), .inl (T 0, 24, .inl f_6)), ((a 19), .inl (T 0, 24, .inl f_7))] hP hD [0, 1, 2, 3, 4, 5, 6, 7] [0, 1, 2, 3, 4, 5, 6, 7] rfl (by decide +kernel) rfl rfl rfl hk1 hP1
    clear hP1 hD1 hFc
    generalize H1 = H at hP hS ⊢
    refine lv_iload_n hx hb dX13_clauseOf_15 rfl (lv_at hl 2 rfl) ?_
    by_cases k_8 : x2 = 0
    · subst k_8
      refine lv_tableIn (off := 44) (tgt := 60) hx hb dX13_clauseOf_16 (by decide +kernel) (by decide +kernel) (by decide +kernel) (by decide +kernel) ?_
      refine lv_aload_n hx hb dX13_clauseOf_60 rfl (lv_at hl 0 rfl) ?_
      refine va_get (D := D) (ci := 10) (v := .ref (a 8)) (C := RX13) (T := TX13) (N := 45) hx hb hts in_X13_clauseOf_X13 hown hE.1 hP 0 rfl rfl 8 (by decide +kernel) (hts (.fieldLink RX13 28 "ClauseBookModel" "kind" "[I") (List.mem_of_getElem? (i := 1) rfl)) (fun _ h9 => h9) rfl dX13_clauseOf_61 ?_
      refine lv_iload_n hx hb dX13_clauseOf_64 rfl (lv_at hl 1 rfl) ?_
      refine va_iald hx hb hE.1 hP 1 0 rfl rfl (by rw [vp_in_iff]; first | omega | (subst_vars; omega)) dX13_clauseOf_65 ?_
      refine lv_topi (fun z_9 ez_9 => ?_)
      exact W.iret hx hb hr (fun t ht hW => ⟨⟨_, (f_5, f_6, f_7), rfl, (show clOR (q 7) x1 (0 : Int32) z_9 f8 f9 f10 f11 from (Or.inr ⟨_, _, _, hMEr, (Or.inr ⟨(by omega), (Or.inl ⟨(by decide +kernel), ez_9⟩)⟩)⟩)), by rw [ht]; exact hP.sub [0, 1, 2, 3, 4, 5, 6, 7] rfl, hD.sub [0, 1, 2, 3, 4, 5, 6, 7] (by decide +kernel) rfl⟩, hS.F ht⟩) hS.2.2 dX13_clauseOf_66
    by_cases k_10 : x2 = 1
    · subst k_10
      refine lv_tableIn (off := 51) (tgt := 67) hx hb dX13_clauseOf_16 (by decide +kernel) (by decide +kernel) (by decide +kernel) (by decide +kernel) ?_
      refine lv_aload_n hx hb dX13_clauseOf_67 rfl (lv_at hl 0 rfl) ?_
      refine va_get (D := D) (ci := 10) (v := .ref (a 9)) (C := RX13) (T := TX13) (N := 45) hx hb hts in_X13_clauseOf_X13 hown hE.1 hP 0 rfl rfl 9 (by decide +kernel) (hts (.fieldLink RX13 32 "ClauseBookModel" "number" "[I") (List.mem_of_getElem? (i := 2) rfl)) (fun _ h9 => h9) rfl dX13_clauseOf_68 ?_
      refine lv_iload_n hx hb dX13_clauseOf_71 rfl (lv_at hl 1 rfl) ?_
      refine va_iald hx hb hE.1 hP 2 0 rfl rfl (by rw [vp_in_iff]; first | omega | (subst_vars; omega)) dX13_clauseOf_72 ?_
      refine lv_topi (fun z_11 ez_11 => ?_)
      exact W.iret hx hb hr (fun t ht hW => ⟨⟨_, (f_5, f_6, f_7), rfl, (show clOR (q 7) x1 (1 : Int32) z_11 f8 f9 f10 f11 from (Or.inr ⟨_, _, _, hMEr, (Or.inr ⟨(by omega), (Or.inr (Or.inl ⟨(by decide +kernel), ez_11⟩))⟩)⟩)), by rw [ht]; exact hP.sub [0, 1, 2, 3, 4, 5, 6, 7] rfl, hD.sub [0, 1, 2, 3, 4, 5, 6, 7] (by decide +kernel) rfl⟩, hS.F ht⟩) hS.2.2 dX13_clauseOf_73
    by_cases k_12 : x2 = 2
    · subst k_12
      refine lv_tableIn (off := 58) (tgt := 74) hx hb dX13_clauseOf_16 (by decide +kernel) (by decide +kernel) (by decide +kernel) (by decide +kernel) ?_
      refine lv_aload_n hx hb dX13_clauseOf_74 rfl (lv_at hl 0 rfl) ?_
      refine va_get (D := D) (ci := 10) (v := .ref (a 8)) (C := RX13) (T := TX13) (N := 45) hx hb hts in_X13_clauseOf_X13 hown hE.1 hP 0 rfl rfl 8 (by decide +kernel) (hts (.fieldLink RX13 28 "ClauseBookModel" "kind" "[I") (List.mem_of_getElem? (i := 1) rfl)) (fun _ h9 => h9) rfl dX13_clauseOf_75 ?_
      refine lv_iload_n hx hb dX13_clauseOf_78 rfl (lv_at hl 1 rfl) ?_
      refine va_iald hx hb hE.1 hP 1 0 rfl rfl (by rw [vp_in_iff]; first | omega | (subst_vars; omega)) dX13_clauseOf_79 ?_
      refine lv_topi (fun z_13 ez_13 => ?_)
      have hkz_13 : 0 ≤ z_13.toInt ∧ z_13.toInt ≤ 12 := by rw [ez_13]; exact (hokR _ (in24 (x := x1) (by omega)).1).1
      have hcz_13 : 1 ≤ (nmT (z_13.toNatClampNeg)).toInt → 0 ≤ (f10 (x1.toNatClampNeg)).toInt ∧ (f10 (x1.toNatClampNeg)).toInt < x1.toInt := by
        rw [ez_13]
        intro h1
        have h := (hokR _ (in24 (x := x1) (by omega)).1).2.1 h1
        have h2 := (in24 (x := x1) (by omega)).2
        omega
      have hdz_13 : (nmT (z_13.toNatClampNeg)).toInt = 2 → 0 ≤ (f11 (x1.toNatClampNeg)).toInt ∧ (f11 (x1.toNatClampNeg)).toInt < x1.toInt := by
        rw [ez_13]
        intro h1
        have h := (hokR _ (in24 (x := x1) (by omega)).1).2.2 h1
        have h2 := (in24 (x := x1) (by omega)).2
        omega
      refine vp_callSi (W.runS (As := [.int z_13]) (rest := []) ⟨hx, hb, hml, hown, hts⟩ (c_X13_names l D T z_13 (by omega)) (va_cwS 1 hts gX13_clauseOf_X13_names rfl rfl rfl hs_X13_names ⟨Nat.le_of_ble_eq_true rfl, Nat.le_of_ble_eq_true rfl⟩) (pR_S hP hE [] rfl) rfl rfl hl.1 rfl (lv_room (Nat.le_of_ble_eq_true rfl)) dX13_clauseOf_80 ⟨Nat.le_of_ble_eq_true rfl, Nat.le_of_ble_eq_true rfl⟩) (fun r_14 hr_14 => ?_)
      refine lv_if_le (tgt := 95) hx hb dX13_clauseOf_83 (by decide +kernel) (fun c_15 => ?_) (fun c_15 => ?_)
      · rw [fa_le] at c_15
        try rw [ti_0] at c_15
        refine lv_iconst (v := (-1)) hx hb dX13_clauseOf_95 (by decide +kernel) ?_
        exact W.iret hx hb hr (fun t ht hW => ⟨⟨_, (f_5, f_6, f_7), rfl, (show clOR (q 7) x1 (2 : Int32) ((-1) : Int32) f8 f9 f10 f11 from (Or.inr ⟨_, _, _, hMEr, (Or.inr ⟨(by omega), (Or.inr (Or.inr (Or.inl ⟨(by decide +kernel), (by exact (if_neg (by rw [← ez_13]; omega)).symm)⟩)))⟩)⟩)), by rw [ht]; exact hP.sub [0, 1, 2, 3, 4, 5, 6, 7] rfl, hD.sub [0, 1, 2, 3, 4, 5, 6, 7] (by decide +kernel) rfl⟩, hS.F ht⟩) hS.2.2 dX13_clauseOf_96
      · rw [fa_le] at c_15
        try rw [ti_0] at c_15
        refine lv_aload_n hx hb dX13_clauseOf_86 rfl (lv_at hl 0 rfl) ?_
        refine va_get (D := D) (ci := 10) (v := .ref (a 10)) (C := RX13) (T := TX13) (N := 45) hx hb hts in_X13_clauseOf_X13 hown hE.1 hP 0 rfl rfl 10 (by decide +kernel) (hts (.fieldLink RX13 35 "ClauseBookModel" "one" "[I") (List.mem_of_getElem? (i := 3) rfl)) (fun _ h9 => h9) rfl dX13_clauseOf_87 ?_
        refine lv_iload_n hx hb dX13_clauseOf_90 rfl (lv_at hl 1 rfl) ?_
        refine va_iald hx hb hE.1 hP 3 0 rfl rfl (by rw [vp_in_iff]; first | omega | (subst_vars; omega)) dX13_clauseOf_91 ?_
        refine lv_topi (fun z_16 ez_16 => ?_)
        refine lv_goto (tgt := 96) hx hb dX13_clauseOf_92 (by decide +kernel) ?_
        exact W.iret hx hb hr (fun t ht hW => ⟨⟨_, (f_5, f_6, f_7), rfl, (show clOR (q 7) x1 (2 : Int32) z_16 f8 f9 f10 f11 from (Or.inr ⟨_, _, _, hMEr, (Or.inr ⟨(by omega), (Or.inr (Or.inr (Or.inl ⟨(by decide +kernel), (by exact ez_16.trans (if_pos (by rw [← ez_13]; omega)).symm)⟩)))⟩)⟩)), by rw [ht]; exact hP.sub [0, 1, 2, 3, 4, 5, 6, 7] rfl, hD.sub [0, 1, 2, 3, 4, 5, 6, 7] (by decide +kernel) rfl⟩, hS.F ht⟩) hS.2.2 dX13_clauseOf_96
    by_cases k_17 : x2 = 3
    · subst k_17
      refine lv_tableIn (off := 81) (tgt := 97) hx hb dX13_clauseOf_16 (by decide +kernel) (by decide +kernel) (by decide +kernel) (by decide +kernel) ?_
      refine lv_aload_n hx hb dX13_clauseOf_97 rfl (lv_at hl 0 rfl) ?_
      refine va_get (D := D) (ci := 10) (v := .ref (a 8)) (C := RX13) (T := TX13) (N := 45) hx hb hts in_X13_clauseOf_X13 hown hE.1 hP 0 rfl rfl 8 (by decide +kernel) (hts (.fieldLink RX13 28 "ClauseBookModel" "kind" "[I") (List.mem_of_getElem? (i := 1) rfl)) (fun _ h9 => h9) rfl dX13_clauseOf_98 ?_
      refine lv_iload_n hx hb dX13_clauseOf_101 rfl (lv_at hl 1 rfl) ?_
      refine va_iald hx hb hE.1 hP 1 0 rfl rfl (by rw [vp_in_iff]; first | omega | (subst_vars; omega)) dX13_clauseOf_102 ?_
      refine lv_topi (fun z_18 ez_18 => ?_)
      have hkz_18 : 0 ≤ z_18.toInt ∧ z_18.toInt ≤ 12 := by rw [ez_18]; exact (hokR _ (in24 (x := x1) (by omega)).1).1
      have hcz_18 : 1 ≤ (nmT (z_18.toNatClampNeg)).toInt → 0 ≤ (f10 (x1.toNatClampNeg)).toInt ∧ (f10 (x1.toNatClampNeg)).toInt < x1.toInt := by
        rw [ez_18]
        intro h1
        have h := (hokR _ (in24 (x := x1) (by omega)).1).2.1 h1
        have h2 := (in24 (x := x1) (by omega)).2
        omega
      have hdz_18 : (nmT (z_18.toNatClampNeg)).toInt = 2 → 0 ≤ (f11 (x1.toNatClampNeg)).toInt ∧ (f11 (x1.toNatClampNeg)).toInt < x1.toInt := by
        rw [ez_18]
        intro h1
        have h := (hokR _ (in24 (x := x1) (by omega)).1).2.2 h1
        have h2 := (in24 (x := x1) (by omega)).2
        omega
      refine vp_callSi (W.runS (As := [.int z_18]) (rest := []) ⟨hx, hb, hml, hown, hts⟩ (c_X13_names l D T z_18 (by omega)) (va_cwS 1 hts gX13_clauseOf_X13_names rfl rfl rfl hs_X13_names ⟨Nat.le_of_ble_eq_true rfl, Nat.le_of_ble_eq_true rfl⟩) (pR_S hP hE [] rfl) rfl rfl hl.1 rfl (lv_room (Nat.le_of_ble_eq_true rfl)) dX13_clauseOf_103 ⟨Nat.le_of_ble_eq_true rfl, Nat.le_of_ble_eq_true rfl⟩) (fun r_19 hr_19 => ?_)
      refine lv_iconst (v := 1) hx hb dX13_clauseOf_106 (by decide +kernel) ?_
      refine lv_icmp_le (tgt := 119) hx hb dX13_clauseOf_107 (by decide +kernel) (fun c_20 => ?_) (fun c_20 => ?_)
      · rw [fa_le] at c_20
        try rw [ti_1] at c_20
        refine lv_iconst (v := (-1)) hx hb dX13_clauseOf_119 (by decide +kernel) ?_
        exact W.iret hx hb hr (fun t ht hW => ⟨⟨_, (f_5, f_6, f_7), rfl, (show clOR (q 7) x1 (3 : Int32) ((-1) : Int32) f8 f9 f10 f11 from (Or.inr ⟨_, _, _, hMEr, (Or.inr ⟨(by omega), (Or.inr (Or.inr (Or.inr (Or.inl ⟨(by decide +kernel), (by exact (if_neg (by rw [← ez_18]; omega)).symm)⟩))))⟩)⟩)), by rw [ht]; exact hP.sub [0, 1, 2, 3, 4, 5, 6, 7] rfl, hD.sub [0, 1, 2, 3, 4, 5, 6, 7] (by decide +kernel) rfl⟩, hS.F ht⟩) hS.2.2 dX13_clauseOf_120
      · rw [fa_le] at c_20
        try rw [ti_1] at c_20
        refine lv_aload_n hx hb dX13_clauseOf_110 rfl (lv_at hl 0 rfl) ?_
        refine va_get (D := D) (ci := 10) (v := .ref (a 11)) (C := RX13) (T := TX13) (N := 45) hx hb hts in_X13_clauseOf_X13 hown hE.1 hP 0 rfl rfl 11 (by decide +kernel) (hts (.fieldLink RX13 38 "ClauseBookModel" "two" "[I") (List.mem_of_getElem? (i := 4) rfl)) (fun _ h9 => h9) rfl dX13_clauseOf_111 ?_
        refine lv_iload_n hx hb dX13_clauseOf_114 rfl (lv_at hl 1 rfl) ?_
        refine va_iald hx hb hE.1 hP 4 0 rfl rfl (by rw [vp_in_iff]; first | omega | (subst_vars; omega)) dX13_clauseOf_115 ?_
        refine lv_topi (fun z_21 ez_21 => ?_)
        refine lv_goto (tgt := 120) hx hb dX13_clauseOf_116 (by decide +kernel) ?_
        exact W.iret hx hb hr (fun t ht hW => ⟨⟨_, (f_5, f_6, f_7), rfl, (show clOR (q 7) x1 (3 : Int32) z_21 f8 f9 f10 f11 from (Or.inr ⟨_, _, _, hMEr, (Or.inr ⟨(by omega), (Or.inr (Or.inr (Or.inr (Or.inl ⟨(by decide +kernel), (by exact ez_21.trans (if_pos (by rw [← ez_18]; omega)).symm)⟩))))⟩)⟩)), by rw [ht]; exact hP.sub [0, 1, 2, 3, 4, 5, 6, 7] rfl, hD.sub [0, 1, 2, 3, 4, 5, 6, 7] (by decide +kernel) rfl⟩, hS.F ht⟩) hS.2.2 dX13_clauseOf_120
    by_cases k_22 : x2 = 4
    · subst k_22
      refine lv_tableIn (off := 105) (tgt := 121) hx hb dX13_clauseOf_16 (by decide +kernel) (by decide +kernel) (by decide +kernel) (by decide +kernel) ?_
      refine lv_aload_n hx hb dX13_clauseOf_121 rfl (lv_at hl 0 rfl) ?_
      refine va_get (D := D) (ci := 10) (v := .ref (a 17)) (C := RX13) (T := TX13) (N := 45) hx hb hts in_X13_clauseOf_X13 hown hE.1 hP 0 rfl rfl 17 (by decide +kernel) (hts (.fieldLink RX13 47 "ClauseBookModel" "end" "[I") (List.mem_of_getElem? (i := 5) rfl)) (fun _ h9 => h9) rfl dX13_clauseOf_122 ?_
      refine lv_iload_n hx hb dX13_clauseOf_125 rfl (lv_at hl 1 rfl) ?_
      refine va_iald hx hb hE.1 hP 5 0 rfl rfl (by rw [vp_in_iff]; first | omega | (subst_vars; omega)) dX13_clauseOf_126 ?_
      refine lv_topi (fun z_23 ez_23 => ?_)
      exact W.iret hx hb hr (fun t ht hW => ⟨⟨_, (f_5, f_6, f_7), rfl, (show clOR (q 7) x1 (4 : Int32) z_23 f8 f9 f10 f11 from (Or.inr ⟨_, _, _, hMEr, (Or.inr ⟨(by omega), (Or.inr (Or.inr (Or.inr (Or.inr (Or.inl ⟨(by decide +kernel), ez_23⟩)))))⟩)⟩)), by rw [ht]; exact hP.sub [0, 1, 2, 3, 4, 5, 6, 7] rfl, hD.sub [0, 1, 2, 3, 4, 5, 6, 7] (by decide +kernel) rfl⟩, hS.F ht⟩) hS.2.2 dX13_clauseOf_127
    by_cases k_24 : x2 = 5
    · subst k_24
      refine lv_tableIn (off := 112) (tgt := 128) hx hb dX13_clauseOf_16 (by decide +kernel) (by decide +kernel) (by decide +kernel) (by decide +kernel) ?_
      refine lv_aload_n hx hb dX13_clauseOf_128 rfl (lv_at hl 0 rfl) ?_
      refine va_get (D := D) (ci := 10) (v := .ref (a 18)) (C := RX13) (T := TX13) (N := 45) hx hb hts in_X13_clauseOf_X13 hown hE.1 hP 0 rfl rfl 18 (by decide +kernel) (hts (.fieldLink RX13 50 "ClauseBookModel" "parts" "[I") (List.mem_of_getElem? (i := 6) rfl)) (fun _ h9 => h9) rfl dX13_clauseOf_129 ?_
      refine lv_iload_n hx hb dX13_clauseOf_132 rfl (lv_at hl 1 rfl) ?_
      refine va_iald hx hb hE.1 hP 6 0 rfl rfl (by rw [vp_in_iff]; first | omega | (subst_vars; omega)) dX13_clauseOf_133 ?_
      refine lv_topi (fun z_25 ez_25 => ?_)
      exact W.iret hx hb hr (fun t ht hW => ⟨⟨_, (f_5, f_6, f_7), rfl, (show clOR (q 7) x1 (5 : Int32) z_25 f8 f9 f10 f11 from (Or.inr ⟨_, _, _, hMEr, (Or.inr ⟨(by omega), (Or.inr (Or.inr (Or.inr (Or.inr (Or.inr (Or.inl ⟨(by decide +kernel), ez_25⟩))))))⟩)⟩)), by rw [ht]; exact hP.sub [0, 1, 2, 3, 4, 5, 6, 7] rfl, hD.sub [0, 1, 2, 3, 4, 5, 6, 7] (by decide +kernel) rfl⟩, hS.F ht⟩) hS.2.2 dX13_clauseOf_134
    by_cases k_26 : x2 = 6
    · subst k_26
      refine lv_tableIn (off := 119) (tgt := 135) hx hb dX13_clauseOf_16 (by decide +kernel) (by decide +kernel) (by decide +kernel) (by decide +kernel) ?_
      refine lv_aload_n hx hb dX13_clauseOf_135 rfl (lv_at hl 0 rfl) ?_
      refine va_get (D := D) (ci := 10) (v := .ref (a 19)) (C := RX13) (T := TX13) (N := 45) hx hb hts in_X13_clauseOf_X13 hown hE.1 hP 0 rfl rfl 19 (by decide +kernel) (hts (.fieldLink RX13 53 "ClauseBookModel" "deep" "[I") (List.mem_of_getElem? (i := 7) rfl)) (fun _ h9 => h9) rfl dX13_clauseOf_136 ?_
      refine lv_iload_n hx hb dX13_clauseOf_139 rfl (lv_at hl 1 rfl) ?_
      refine va_iald hx hb hE.1 hP 7 0 rfl rfl (by rw [vp_in_iff]; first | omega | (subst_vars; omega)) dX13_clauseOf_140 ?_
      refine lv_topi (fun z_27 ez_27 => ?_)
      exact W.iret hx hb hr (fun t ht hW => ⟨⟨_, (f_5, f_6, f_7), rfl, (show clOR (q 7) x1 (6 : Int32) z_27 f8 f9 f10 f11 from (Or.inr ⟨_, _, _, hMEr, (Or.inr ⟨(by omega), (Or.inr (Or.inr (Or.inr (Or.inr (Or.inr (Or.inr (Or.inl ⟨(by decide +kernel), ez_27⟩)))))))⟩)⟩)), by rw [ht]; exact hP.sub [0, 1, 2, 3, 4, 5, 6, 7] rfl, hD.sub [0, 1, 2, 3, 4, 5, 6, 7] (by decide +kernel) rfl⟩, hS.F ht⟩) hS.2.2 dX13_clauseOf_141
    rw [fa_eq] at k_8 k_10 k_12 k_17 k_22 k_24 k_26
    try simp only [ti_0, ti_1, ti_2, ti_3, ti_4, ti_5, ti_6] at k_8 k_10 k_12 k_17 k_22 k_24 k_26
    refine lv_tableOut (tgt := 142) hx hb dX13_clauseOf_16 (by omega) (by decide +kernel) ?_
    refine lv_bipush (v := (-2)) hx hb dX13_clauseOf_142 (by decide +kernel) ?_
    exact W.iret hx hb hr (fun t ht hW => ⟨⟨_, (f_5, f_6, f_7), rfl, (show clOR (q 7) x1 x2 ((-2) : Int32) f8 f9 f10 f11 from (Or.inr ⟨_, _, _, hMEr, (Or.inr ⟨(by omega), (Or.inr (Or.inr (Or.inr (Or.inr (Or.inr (Or.inr (Or.inr (⟨(by omega), (by decide +kernel)⟩))))))))⟩)⟩)), by rw [ht]; exact hP.sub [0, 1, 2, 3, 4, 5, 6, 7] rfl, hD.sub [0, 1, 2, 3, 4, 5, 6, 7] (by decide +kernel) rfl⟩, hS.F ht⟩) hS.2.2 dX13_clauseOf_144
  · refine lv_if_ne (tgt := 11) hx hb dX13_clauseOf_5 (by decide +kernel) (fun c9 => absurd c9 (by decide +kernel)) (fun _ => ?_)
    refine lv_bipush (v := (-2)) hx hb dX13_clauseOf_8 (by decide +kernel) ?_
    exact W.iret hx hb hr (fun t ht hW => ⟨⟨_, (f17, f18, f19), rfl, (show clOR (q 7) x1 x2 ((-2) : Int32) f8 f9 f10 f11 from (Or.inl ⟨by omega, by decide⟩)), by rw [ht]; exact hP.sub [0, 1, 2, 3, 4, 5, 6, 7] rfl, hD.sub [0, 1, 2, 3, 4, 5, 6, 7] (by decide +kernel) rfl⟩, hS.F ht⟩) hS.2.2 dX13_clauseOf_10
theorem dX13_start_0 : decode cX13_start 0 = .ok (.iload_n 1, 1) := by decide +kernel
theorem dX13_start_1 : decode cX13_start 1 = .ok (.i2l, 1) := by decide +kernel
theorem dX13_start_11 : decode cX13_start 11 = .ok (.ifCond .eq 27, 3) := by decide +kernel
theorem dX13_start_14 : decode cX13_start 14 = .ok (.iload_n 2, 1) := by decide +kernel
theorem dX13_start_15 : decode cX13_start 15 = .ok (.i2l, 1) := by decide +kernel
theorem dX13_start_16 : decode cX13_start 16 = .ok (.lconst 0, 1) := by decide +kernel
theorem dX13_start_17 : decode cX13_start 17 = .ok (.ldc2_w 179, 3) := by decide +kernel
theorem dX13_start_2 : decode cX13_start 2 = .ok (.ldc2_w 171, 3) := by decide +kernel
theorem dX13_start_20 : decode cX13_start 20 = .ok (.invokestatic 175, 3) := by decide +kernel
theorem dX13_start_23 : decode cX13_start 23 = .ok (.ifCond .eq 15, 3) := by decide +kernel
theorem dX13_start_26 : decode cX13_start 26 = .ok (.iload_n 3, 1) := by decide +kernel
theorem dX13_start_27 : decode cX13_start 27 = .ok (.i2l, 1) := by decide +kernel
theorem dX13_start_28 : decode cX13_start 28 = .ok (.lconst 0, 1) := by decide +kernel
theorem dX13_start_29 : decode cX13_start 29 = .ok (.ldc2_w 179, 3) := by decide +kernel
theorem dX13_start_32 : decode cX13_start 32 = .ok (.invokestatic 175, 3) := by decide +kernel
theorem dX13_start_35 : decode cX13_start 35 = .ok (.ifCond .ne 6, 3) := by decide +kernel
theorem dX13_start_38 : decode cX13_start 38 = .ok (.bipush (-2), 2) := by decide +kernel
theorem dX13_start_40 : decode cX13_start 40 = .ok (.ireturn, 1) := by decide +kernel
theorem dX13_start_41 : decode cX13_start 41 = .ok (.aload_n 0, 1) := by decide +kernel
theorem dX13_start_42 : decode cX13_start 42 = .ok (.iload_n 1, 1) := by decide +kernel
theorem dX13_start_43 : decode cX13_start 43 = .ok (.putfield 181, 3) := by decide +kernel
theorem dX13_start_46 : decode cX13_start 46 = .ok (.aload_n 0, 1) := by decide +kernel
theorem dX13_start_47 : decode cX13_start 47 = .ok (.iload_n 2, 1) := by decide +kernel
theorem dX13_start_48 : decode cX13_start 48 = .ok (.putfield 7, 3) := by decide +kernel
theorem dX13_start_5 : decode cX13_start 5 = .ok (.ldc2_w 173, 3) := by decide +kernel
theorem dX13_start_51 : decode cX13_start 51 = .ok (.aload_n 0, 1) := by decide +kernel
theorem dX13_start_52 : decode cX13_start 52 = .ok (.iload_n 3, 1) := by decide +kernel
theorem dX13_start_53 : decode cX13_start 53 = .ok (.putfield 13, 3) := by decide +kernel
theorem dX13_start_56 : decode cX13_start 56 = .ok (.iconst 1, 1) := by decide +kernel
theorem dX13_start_57 : decode cX13_start 57 = .ok (.ireturn, 1) := by decide +kernel
theorem dX13_start_8 : decode cX13_start 8 = .ok (.invokestatic 175, 3) := by decide +kernel
set_option maxRecDepth 20000 in
theorem ggX13_start_X13_in : GoodIn wsX13_start wsX13_in := goodIn_r _ [10] rfl (by decide +kernel)
set_option maxRecDepth 20000 in
theorem gX13_start_X13_in : GoodIn wsX13_start (va_wsS RX13 175 yX13_in wsX13_in) := goodIn_app (goodIn_of _ (by decide +kernel)) ggX13_start_X13_in
set_option maxRecDepth 20000 in
theorem in_X13_start_X13 : ∀ w ∈ wsX130, w ∈ wsX13_start := sub_r [11, 12, 13, 14, 15, 16, 17, 18, 19, 20, 21, 22, 23, 24, 25, 26, 27, 28, 29, 30, 31, 32, 33, 34, 35, 36, 37, 38, 39, 40, 41, 42, 43, 44, 45, 46, 47, 48, 49, 50, 51, 52, 53, 54, 55] rfl
set_option maxHeartbeats 4000000 in
set_option maxRecDepth 100000 in
theorem c_X13_start (l : Launch) (D : va_G) (T : Nat → ClassId) (sz : Nat) (h0 : Nat) (q : Nat → Int32) (v : Int64) (w : Int64) (a : Nat → Nat) (x1 : Int32) (x2 : Int32) (x3 : Int32)  : Met l yX13_start wsX13_start ({ frames := 1, cells := 0, slots := 0, locals := 25 }) (pW [.ref h0, .int x1, .int x2, .int x3] D T [(h0, .inr (10, (Value.int (q 0) :: Value.int (q 1) :: Value.int (q 2) :: Value.int (q 3) :: Value.int (q 4) :: Value.int (q 5) :: Value.int (q 6) :: Value.int (q 7) :: Value.ref (a 8) :: Value.ref (a 9) :: Value.ref (a 10) :: Value.ref (a 11) :: Value.ref (a 12) :: Value.ref (a 13) :: Value.int (q 14) :: Value.long v :: Value.long w :: Value.ref (a 17) :: Value.ref (a 18) :: Value.ref (a 19) :: Value.ref (a 20) :: Value.ref (a 21) :: Value.ref (a 22) :: Value.ref (a 23) :: Value.int (q 24) :: Value.ref (a 25) :: Value.int (q 26) :: Value.ref (a 27) :: Value.int (q 28) :: Value.int (q 29) :: Value.int (q 30) :: Value.int (q 31) :: Value.int (q 32) :: Value.int (q 33) :: Value.ref (a 34) :: Value.ref (a 35) :: Value.ref (a 36) :: Value.ref (a 37) :: Value.ref (a 38) :: Value.ref (a 39) :: Value.ref (a 40) :: Value.int (q 41) :: Value.ref (a 42) :: Value.int (q 43) :: Value.int (q 44) :: [])))] sz) (va_Qi (fun (r : Int32) (u : (Int32) × (Int32) × (Int32)) => (r = sp_start x1 x2 x3) ∧ ((r = 1 → u.1 = x1 ∧ u.2.1 = x2 ∧ u.2.2 = x3) ∧ (¬ r = 1 → u.1 = (q 0) ∧ u.2.1 = (q 1) ∧ u.2.2 = (q 2)))) (bW D (va_A [(h0, .inr (10, (Value.int (q 0) :: Value.int (q 1) :: Value.int (q 2) :: Value.int (q 3) :: Value.int (q 4) :: Value.int (q 5) :: Value.int (q 6) :: Value.int (q 7) :: Value.ref (a 8) :: Value.ref (a 9) :: Value.ref (a 10) :: Value.ref (a 11) :: Value.ref (a 12) :: Value.ref (a 13) :: Value.int (q 14) :: Value.long v :: Value.long w :: Value.ref (a 17) :: Value.ref (a 18) :: Value.ref (a 19) :: Value.ref (a 20) :: Value.ref (a 21) :: Value.ref (a 22) :: Value.ref (a 23) :: Value.int (q 24) :: Value.ref (a 25) :: Value.int (q 26) :: Value.ref (a 27) :: Value.int (q 28) :: Value.int (q 29) :: Value.int (q 30) :: Value.int (q 31) :: Value.int (q 32) :: Value.int (q 33) :: Value.ref (a 34) :: Value.ref (a 35) :: Value.ref (a 36) :: Value.ref (a 37) :: Value.ref (a 38) :: Value.ref (a 39) :: Value.ref (a 40) :: Value.int (q 41) :: Value.ref (a 42) :: Value.int (q 43) :: Value.int (q 44) :: [])))] sz) (fun (u : (Int32) × (Int32) × (Int32)) => [(h0, .inr (10, (Value.int u.1 :: Value.int u.2.1 :: Value.int u.2.2 :: Value.int (q 3) :: Value.int (q 4) :: Value.int (q 5) :: Value.int (q 6) :: Value.int (q 7) :: Value.ref (a 8) :: Value.ref (a 9) :: Value.ref (a 10) :: Value.ref (a 11) :: Value.ref (a 12) :: Value.ref (a 13) :: Value.int (q 14) :: Value.long v :: Value.long w :: Value.ref (a 17) :: Value.ref (a 18) :: Value.ref (a 19) :: Value.ref (a 20) :: Value.ref (a 21) :: Value.ref (a 22) :: Value.ref (a 23) :: Value.int (q 24) :: Value.ref (a 25) :: Value.int (q 26) :: Value.ref (a 27) :: Value.int (q 28) :: Value.int (q 29) :: Value.int (q 30) :: Value.int (q 31) :: Value.int (q 32) :: Value.int (q 33) :: Value.ref (a 34) :: Value.ref (a 35) :: Value.ref (a 36) :: Value.ref (a 37) :: Value.ref (a 38) :: Value.ref (a 39) :: Value.ref (a 40) :: Value.int (q 41) :: Value.ref (a 42) :: Value.int (q 43) :: Value.int (q 44) :: [])))])) (va_A [(h0, .inr (10, (Value.int (q 0) :: Value.int (q 1) :: Value.int (q 2) :: Value.int (q 3) :: Value.int (q 4) :: Value.int (q 5) :: Value.int (q 6) :: Value.int (q 7) :: Value.ref (a 8) :: Value.ref (a 9) :: Value.ref (a 10) :: Value.ref (a 11) :: Value.ref (a 12) :: Value.ref (a 13) :: Value.int (q 14) :: Value.long v :: Value.long w :: Value.ref (a 17) :: Value.ref (a 18) :: Value.ref (a 19) :: Value.ref (a 20) :: Value.ref (a 21) :: Value.ref (a 22) :: Value.ref (a 23) :: Value.int (q 24) :: Value.ref (a 25) :: Value.int (q 26) :: Value.ref (a 27) :: Value.int (q 28) :: Value.int (q 29) :: Value.int (q 30) :: Value.int (q 31) :: Value.int (q 32) :: Value.int (q 33) :: Value.ref (a 34) :: Value.ref (a 35) :: Value.ref (a 36) :: Value.ref (a 37) :: Value.ref (a 38) :: Value.ref (a 39) :: Value.ref (a 40) :: Value.int (q 41) :: Value.ref (a 42) :: Value.int (q 43) :: Value.int (q 44) :: [])))] sz)) 0 0 (va_A [(h0, .inr (10, (Value.int (q 0) :: Value.int (q 1) :: Value.int (q 2) :: Value.int (q 3) :: Value.int (q 4) :: Value.int (q 5) :: Value.int (q 6) :: Value.int (q 7) :: Value.ref (a 8) :: Value.ref (a 9) :: Value.ref (a 10) :: Value.ref (a 11) :: Value.ref (a 12) :: Value.ref (a 13) :: Value.int (q 14) :: Value.long v :: Value.long w :: Value.ref (a 17) :: Value.ref (a 18) :: Value.ref (a 19) :: Value.ref (a 20) :: Value.ref (a 21) :: Value.ref (a 22) :: Value.ref (a 23) :: Value.int (q 24) :: Value.ref (a 25) :: Value.int (q 26) :: Value.ref (a 27) :: Value.int (q 28) :: Value.int (q 29) :: Value.int (q 30) :: Value.int (q 31) :: Value.int (q 32) :: Value.int (q 33) :: Value.ref (a 34) :: Value.ref (a 35) :: Value.ref (a 36) :: Value.ref (a 37) :: Value.ref (a 38) :: Value.ref (a 39) :: Value.ref (a 40) :: Value.int (q 41) :: Value.ref (a 42) :: Value.int (q 43) :: Value.int (q 44) :: [])))] sz) := by
  refine Met.ofW (cc := cX13_start) (maxL := 4) (ret := (some .int)) (by decide +kernel) rfl ?_
  intro p e s m args below meth c s₁ B hml hv
  obtain ⟨rfl, hsz, hP, hE, hD0⟩ := hv
  have hx := B.exec
  have hb := B.bytes
  have hr := B.returns
  have hts := atoms_spec (ws := wsX13_start) B.pre
  have hown : s.vm.findClass RX13 = some m.cls := findClass_of_methodNamed B.named
  have hlocks := B.notSynchronized
  subst hsz
  have hD := hD0.self (sz := s.heap.size)
  generalize hAe : va_A [(h0, .inr (10, (Value.int (q 0) :: Value.int (q 1) :: Value.int (q 2) :: Value.int (q 3) :: Value.int (q 4) :: Value.int (q 5) :: Value.int (q 6) :: Value.int (q 7) :: Value.ref (a 8) :: Value.ref (a 9) :: Value.ref (a 10) :: Value.ref (a 11) :: Value.ref (a 12) :: Value.ref (a 13) :: Value.int (q 14) :: Value.long v :: Value.long w :: Value.ref (a 17) :: Value.ref (a 18) :: Value.ref (a 19) :: Value.ref (a 20) :: Value.ref (a 21) :: Value.ref (a 22) :: Value.ref (a 23) :: Value.int (q 24) :: Value.ref (a 25) :: Value.int (q 26) :: Value.ref (a 27) :: Value.int (q 28) :: Value.int (q 29) :: Value.int (q 30) :: Value.int (q 31) :: Value.int (q 32) :: Value.int (q 33) :: Value.ref (a 34) :: Value.ref (a 35) :: Value.ref (a 36) :: Value.ref (a 37) :: Value.ref (a 38) :: Value.ref (a 39) :: Value.ref (a 40) :: Value.int (q 41) :: Value.ref (a 42) :: Value.int (q 43) :: Value.int (q 44) :: [])))] s.heap.size = A at hD ⊢
  have hA : ∀ q : Nat, s.heap.size ≤ q → A q := fun q h => by rw [← hAe]; exact Or.inr h
  have hS : va_S A s.heap s.heap [] := va_S.rf
  have hP : va_P D vwCl [(h0, .inr (10, (Value.int (q 0) :: Value.int (q 1) :: Value.int (q 2) :: Value.int (q 3) :: Value.int (q 4) :: Value.int (q 5) :: Value.int (q 6) :: Value.int (q 7) :: Value.ref (a 8) :: Value.ref (a 9) :: Value.ref (a 10) :: Value.ref (a 11) :: Value.ref (a 12) :: Value.ref (a 13) :: Value.int (q 14) :: Value.long v :: Value.long w :: Value.ref (a 17) :: Value.ref (a 18) :: Value.ref (a 19) :: Value.ref (a 20) :: Value.ref (a 21) :: Value.ref (a 22) :: Value.ref (a 23) :: Value.int (q 24) :: Value.ref (a 25) :: Value.int (q 26) :: Value.ref (a 27) :: Value.int (q 28) :: Value.int (q 29) :: Value.int (q 30) :: Value.int (q 31) :: Value.int (q 32) :: Value.int (q 33) :: Value.ref (a 34) :: Value.ref (a 35) :: Value.ref (a 36) :: Value.ref (a 37) :: Value.ref (a 38) :: Value.ref (a 39) :: Value.ref (a 40) :: Value.int (q 41) :: Value.ref (a 42) :: Value.int (q 43) :: Value.int (q 44) :: [])))] s.heap := hP
  have hl := lv_entry ([.ref h0, .int x1, .int x2, .int x3]) (n := 4) (Nat.le_of_ble_eq_true rfl)
  rw [lg_entry_eq]
  generalize (lg_sl ([.ref h0, .int x1, .int x2, .int x3]) ++ List.replicate (4 - (lg_sl ([.ref h0, .int x1, .int x2, .int x3])).length) Slot.unset).toArray = ls at hl ⊢
  have hl : lv_has ls 4 [(0, .ref h0), (1, .int x1), (2, .int x2), (3, .int x3)] := hl
  clear hD0
  refine lv_iload_n hx hb dX13_start_0 rfl (lv_at hl 1 rfl) ?_
  refine lv_i2l hx hb dX13_start_1 rfl ?_
  refine lv_ldc2 (v := (-99)) hx hb hown (hts (.constantLong RX13 171 (-99)) (List.mem_of_getElem? (i := 1) rfl)) dX13_start_2 ?_
  refine lv_ldc2 (v := 99) hx hb hown (hts (.constantLong RX13 173 (99)) (List.mem_of_getElem? (i := 2) rfl)) dX13_start_5 ?_
  refine vp_callSi (W.runS (As := [.long (x1.toInt64), .long (-99), .long 99]) (rest := []) ⟨hx, hb, hml, hown, hts⟩ (c_X13_in l D T (x1.toInt64) (-99) 99 x1.toInt (-99) 99 ((Int32.toInt_toInt64 _).trans rfl) (by decide +kernel) (by decide +kernel)) (va_cwS 3 hts gX13_start_X13_in rfl rfl rfl hs_X13_in ⟨Nat.le_of_ble_eq_true rfl, Nat.le_of_ble_eq_true rfl⟩) (pR_S hP hE [] rfl) rfl rfl hl.1 rfl (lv_room (Nat.le_of_ble_eq_true rfl)) dX13_start_8 ⟨Nat.le_of_ble_eq_true rfl, Nat.le_of_ble_eq_true rfl⟩) (fun r_1 hr_1 => ?_)
  rcases bool_post hr_1 with ⟨c_2, rfl⟩ | ⟨c_2, rfl⟩
  · refine lv_if_eq (tgt := 38) hx hb dX13_start_11 (by decide +kernel) (fun c9 => absurd c9 (by decide +kernel)) (fun _ => ?_)
    refine lv_iload_n hx hb dX13_start_14 rfl (lv_at hl 2 rfl) ?_
    refine lv_i2l hx hb dX13_start_15 rfl ?_
    refine lv_lconst (v := 0) hx hb dX13_start_16 (by decide +kernel) ?_
    refine lv_ldc2 (v := 9) hx hb hown (hts (.constantLong RX13 179 (9)) (List.mem_of_getElem? (i := 3) rfl)) dX13_start_17 ?_
    refine vp_callSi (W.runS (As := [.long (x2.toInt64), .long 0, .long 9]) (rest := []) ⟨hx, hb, hml, hown, hts⟩ (c_X13_in l D T (x2.toInt64) 0 9 x2.toInt 0 9 ((Int32.toInt_toInt64 _).trans rfl) (by decide +kernel) (by decide +kernel)) (va_cwS 3 hts gX13_start_X13_in rfl rfl rfl hs_X13_in ⟨Nat.le_of_ble_eq_true rfl, Nat.le_of_ble_eq_true rfl⟩) (pR_S hP hE [] rfl) rfl rfl hl.1 rfl (lv_room (Nat.le_of_ble_eq_true rfl)) dX13_start_20 ⟨Nat.le_of_ble_eq_true rfl, Nat.le_of_ble_eq_true rfl⟩) (fun r_3 hr_3 => ?_)
    rcases bool_post hr_3 with ⟨c_4, rfl⟩ | ⟨c_4, rfl⟩
    · refine lv_if_eq (tgt := 38) hx hb dX13_start_23 (by decide +kernel) (fun c9 => absurd c9 (by decide +kernel)) (fun _ => ?_)
      refine lv_iload_n hx hb dX13_start_26 rfl (lv_at hl 3 rfl) ?_
      refine lv_i2l hx hb dX13_start_27 rfl ?_
      refine lv_lconst (v := 0) hx hb dX13_start_28 (by decide +kernel) ?_
      refine lv_ldc2 (v := 9) hx hb hown (hts (.constantLong RX13 179 (9)) (List.mem_of_getElem? (i := 3) rfl)) dX13_start_29 ?_
      refine vp_callSi (W.runS (As := [.long (x3.toInt64), .long 0, .long 9]) (rest := []) ⟨hx, hb, hml, hown, hts⟩ (c_X13_in l D T (x3.toInt64) 0 9 x3.toInt 0 9 ((Int32.toInt_toInt64 _).trans rfl) (by decide +kernel) (by decide +kernel)) (va_cwS 3 hts gX13_start_X13_in rfl rfl rfl hs_X13_in ⟨Nat.le_of_ble_eq_true rfl, Nat.le_of_ble_eq_true rfl⟩) (pR_S hP hE [] rfl) rfl rfl hl.1 rfl (lv_room (Nat.le_of_ble_eq_true rfl)) dX13_start_32 ⟨Nat.le_of_ble_eq_true rfl, Nat.le_of_ble_eq_true rfl⟩) (fun r_5 hr_5 => ?_)
      rcases bool_post hr_5 with ⟨c_6, rfl⟩ | ⟨c_6, rfl⟩
      · refine lv_if_ne (tgt := 41) hx hb dX13_start_35 (by decide +kernel) (fun _ => ?_) (fun c9 => absurd c9 (by decide +kernel))
        refine lv_aload_n hx hb dX13_start_41 rfl (lv_at hl 0 rfl) ?_
        refine lv_iload_n hx hb dX13_start_42 rfl (lv_at hl 1 rfl) ?_
        refine va_put (D := D) (ci := 10) (v := .int x1) (ty := .int) (C := RX13) (T := TX13) (N := 45) hx hb hts in_X13_start_X13 tyX13 tyX13_ok nmX13 hown hE.1 hP hD hS 0 rfl rfl 0 (by decide +kernel) (hts (.fieldLink RX13 181 "ClauseBookModel" "start" "I") (List.mem_of_getElem? (i := 4) rfl)) (fun _ h9 => h9) rfl (by decide +kernel) rfl rfl (Nat.le_of_ble_eq_true rfl) dX13_start_43 (fun H locs hP hD hS => ?_)
        obtain ⟨hP, hD⟩ := wPD [(h0, .inr (10, (Value.int x1 :: Value.int (q 1) :: Value.int (q 2) :: Value.int (q 3) :: Value.int (q 4) :: Value.int (q 5) :: Value.int (q 6) :: Value.int (q 7) :: Value.ref (a 8) :: Value.ref (a 9) :: Value.ref (a 10) :: Value.ref (a 11) :: Value.ref (a 12) :: Value.ref (a 13) :: Value.int (q 14) :: Value.long v :: Value.long w :: Value.ref (a 17) :: Value.ref (a 18) :: Value.ref (a 19) :: Value.ref (a 20) :: Value.ref (a 21) :: Value.ref (a 22) :: Value.ref (a 23) :: Value.int (q 24) :: Value.ref (a 25) :: Value.int (q 26) :: Value.ref (a 27) :: Value.int (q 28) :: Value.int (q 29) :: Value.int (q 30) :: Value.int (q 31) :: Value.int (q 32) :: Value.int (q 33) :: Value.ref (a 34) :: Value.ref (a 35) :: Value.ref (a 36) :: Value.ref (a 37) :: Value.ref (a 38) :: Value.ref (a 39) :: Value.ref (a 40) :: Value.int (q 41) :: Value.ref (a 42) :: Value.int (q 43) :: Value.int (q 44) :: [])))] hP hD rfl
        refine lv_aload_n hx hb dX13_start_46 rfl (lv_at hl 0 rfl) ?_
        refine lv_iload_n hx hb dX13_start_47 rfl (lv_at hl 2 rfl) ?_
        refine va_put (D := D) (ci := 10) (v := .int x2) (ty := .int) (C := RX13) (T := TX13) (N := 45) hx hb hts in_X13_start_X13 tyX13 tyX13_ok nmX13 hown hE.1 hP hD hS 0 rfl rfl 1 (by decide +kernel) (hts (.fieldLink RX13 7 "ClauseBookModel" "up" "I") (List.mem_of_getElem? (i := 5) rfl)) (fun _ h9 => h9) rfl (by decide +kernel) rfl rfl (Nat.le_of_ble_eq_true rfl) dX13_start_48 (fun H locs hP hD hS => ?_)
        obtain ⟨hP, hD⟩ := wPD [(h0, .inr (10, (Value.int x1 :: Value.int x2 :: Value.int (q 2) :: Value.int (q 3) :: Value.int (q 4) :: Value.int (q 5) :: Value.int (q 6) :: Value.int (q 7) :: Value.ref (a 8) :: Value.ref (a 9) :: Value.ref (a 10) :: Value.ref (a 11) :: Value.ref (a 12) :: Value.ref (a 13) :: Value.int (q 14) :: Value.long v :: Value.long w :: Value.ref (a 17) :: Value.ref (a 18) :: Value.ref (a 19) :: Value.ref (a 20) :: Value.ref (a 21) :: Value.ref (a 22) :: Value.ref (a 23) :: Value.int (q 24) :: Value.ref (a 25) :: Value.int (q 26) :: Value.ref (a 27) :: Value.int (q 28) :: Value.int (q 29) :: Value.int (q 30) :: Value.int (q 31) :: Value.int (q 32) :: Value.int (q 33) :: Value.ref (a 34) :: Value.ref (a 35) :: Value.ref (a 36) :: Value.ref (a 37) :: Value.ref (a 38) :: Value.ref (a 39) :: Value.ref (a 40) :: Value.int (q 41) :: Value.ref (a 42) :: Value.int (q 43) :: Value.int (q 44) :: [])))] hP hD rfl
        refine lv_aload_n hx hb dX13_start_51 rfl (lv_at hl 0 rfl) ?_
        refine lv_iload_n hx hb dX13_start_52 rfl (lv_at hl 3 rfl) ?_
        refine va_put (D := D) (ci := 10) (v := .int x3) (ty := .int) (C := RX13) (T := TX13) (N := 45) hx hb hts in_X13_start_X13 tyX13 tyX13_ok nmX13 hown hE.1 hP hD hS 0 rfl rfl 2 (by decide +kernel) (hts (.fieldLink RX13 13 "ClauseBookModel" "down" "I") (List.mem_of_getElem? (i := 6) rfl)) (fun _ h9 => h9) rfl (by decide +kernel) rfl rfl (Nat.le_of_ble_eq_true rfl) dX13_start_53 (fun H locs hP hD hS => ?_)
        obtain ⟨hP, hD⟩ := wPD [(h0, .inr (10, (Value.int x1 :: Value.int x2 :: Value.int x3 :: Value.int (q 3) :: Value.int (q 4) :: Value.int (q 5) :: Value.int (q 6) :: Value.int (q 7) :: Value.ref (a 8) :: Value.ref (a 9) :: Value.ref (a 10) :: Value.ref (a 11) :: Value.ref (a 12) :: Value.ref (a 13) :: Value.int (q 14) :: Value.long v :: Value.long w :: Value.ref (a 17) :: Value.ref (a 18) :: Value.ref (a 19) :: Value.ref (a 20) :: Value.ref (a 21) :: Value.ref (a 22) :: Value.ref (a 23) :: Value.int (q 24) :: Value.ref (a 25) :: Value.int (q 26) :: Value.ref (a 27) :: Value.int (q 28) :: Value.int (q 29) :: Value.int (q 30) :: Value.int (q 31) :: Value.int (q 32) :: Value.int (q 33) :: Value.ref (a 34) :: Value.ref (a 35) :: Value.ref (a 36) :: Value.ref (a 37) :: Value.ref (a 38) :: Value.ref (a 39) :: Value.ref (a 40) :: Value.int (q 41) :: Value.ref (a 42) :: Value.int (q 43) :: Value.int (q 44) :: [])))] hP hD rfl
        refine lv_iconst (v := 1) hx hb dX13_start_56 (by decide +kernel) ?_
        exact W.iret hx hb hr (fun t ht hW => ⟨⟨_, (x1, x2, x3), rfl, ⟨(show (1 : Int32) = sp_start x1 x2 x3 from (by first | decide | (unfold sp_start; (repeat' split) <;> first | rfl | (exfalso; omega)))), (show ((1 : Int32) = 1 → x1 = x1 ∧ x2 = x2 ∧ x3 = x3) ∧ (¬ (1 : Int32) = 1 → x1 = (q 0) ∧ x2 = (q 1) ∧ x3 = (q 2)) from ⟨(fun _ => ⟨rfl, rfl, rfl⟩), (fun h => absurd rfl h)⟩)⟩, by rw [ht]; exact hP.sub [0] rfl, hD.sub [0] (by decide +kernel) rfl⟩, hS.F ht⟩) hS.2.2 dX13_start_57
      · refine lv_if_ne (tgt := 41) hx hb dX13_start_35 (by decide +kernel) (fun c9 => absurd c9 (by decide +kernel)) (fun _ => ?_)
        refine lv_bipush (v := (-2)) hx hb dX13_start_38 (by decide +kernel) ?_
        exact W.iret hx hb hr (fun t ht hW => ⟨⟨_, ((q 0), (q 1), (q 2)), rfl, ⟨(show ((-2) : Int32) = sp_start x1 x2 x3 from (by first | decide | (unfold sp_start; (repeat' split) <;> first | rfl | (exfalso; omega)))), (show (((-2) : Int32) = 1 → (q 0) = x1 ∧ (q 1) = x2 ∧ (q 2) = x3) ∧ (¬ ((-2) : Int32) = 1 → (q 0) = (q 0) ∧ (q 1) = (q 1) ∧ (q 2) = (q 2)) from ⟨(fun h => absurd h (by decide +kernel)), (fun _ => ⟨rfl, rfl, rfl⟩)⟩)⟩, by rw [ht]; exact hP.sub [0] rfl, hD.sub [0] (by decide +kernel) rfl⟩, hS.F ht⟩) hS.2.2 dX13_start_40
    · refine lv_if_eq (tgt := 38) hx hb dX13_start_23 (by decide +kernel) (fun _ => ?_) (fun c9 => absurd c9 (by decide +kernel))
      refine lv_bipush (v := (-2)) hx hb dX13_start_38 (by decide +kernel) ?_
      exact W.iret hx hb hr (fun t ht hW => ⟨⟨_, ((q 0), (q 1), (q 2)), rfl, ⟨(show ((-2) : Int32) = sp_start x1 x2 x3 from (by first | decide | (unfold sp_start; (repeat' split) <;> first | rfl | (exfalso; omega)))), (show (((-2) : Int32) = 1 → (q 0) = x1 ∧ (q 1) = x2 ∧ (q 2) = x3) ∧ (¬ ((-2) : Int32) = 1 → (q 0) = (q 0) ∧ (q 1) = (q 1) ∧ (q 2) = (q 2)) from ⟨(fun h => absurd h (by decide +kernel)), (fun _ => ⟨rfl, rfl, rfl⟩)⟩)⟩, by rw [ht]; exact hP.sub [0] rfl, hD.sub [0] (by decide +kernel) rfl⟩, hS.F ht⟩) hS.2.2 dX13_start_40
  · refine lv_if_eq (tgt := 38) hx hb dX13_start_11 (by decide +kernel) (fun _ => ?_) (fun c9 => absurd c9 (by decide +kernel))
    refine lv_bipush (v := (-2)) hx hb dX13_start_38 (by decide +kernel) ?_
    exact W.iret hx hb hr (fun t ht hW => ⟨⟨_, ((q 0), (q 1), (q 2)), rfl, ⟨(show ((-2) : Int32) = sp_start x1 x2 x3 from (by first | decide | (unfold sp_start; (repeat' split) <;> first | rfl | (exfalso; omega)))), (show (((-2) : Int32) = 1 → (q 0) = x1 ∧ (q 1) = x2 ∧ (q 2) = x3) ∧ (¬ ((-2) : Int32) = 1 → (q 0) = (q 0) ∧ (q 1) = (q 1) ∧ (q 2) = (q 2)) from ⟨(fun h => absurd h (by decide +kernel)), (fun _ => ⟨rfl, rfl, rfl⟩)⟩)⟩, by rw [ht]; exact hP.sub [0] rfl, hD.sub [0] (by decide +kernel) rfl⟩, hS.F ht⟩) hS.2.2 dX13_start_40
theorem dX13_odds_0 : decode cX13_odds 0 = .ok (.iload_n 2, 1) := by decide +kernel
theorem dX13_odds_1 : decode cX13_odds 1 = .ok (.i2l, 1) := by decide +kernel
theorem dX13_odds_11 : decode cX13_odds 11 = .ok (.ifCond .eq 14, 3) := by decide +kernel
theorem dX13_odds_14 : decode cX13_odds 14 = .ok (.iload_n 1, 1) := by decide +kernel
theorem dX13_odds_15 : decode cX13_odds 15 = .ok (.i2l, 1) := by decide +kernel
theorem dX13_odds_16 : decode cX13_odds 16 = .ok (.lconst 0, 1) := by decide +kernel
theorem dX13_odds_17 : decode cX13_odds 17 = .ok (.iload_n 2, 1) := by decide +kernel
theorem dX13_odds_18 : decode cX13_odds 18 = .ok (.i2l, 1) := by decide +kernel
theorem dX13_odds_19 : decode cX13_odds 19 = .ok (.invokestatic 175, 3) := by decide +kernel
theorem dX13_odds_2 : decode cX13_odds 2 = .ok (.ldc2_w 184, 3) := by decide +kernel
theorem dX13_odds_22 : decode cX13_odds 22 = .ok (.ifCond .ne 6, 3) := by decide +kernel
theorem dX13_odds_25 : decode cX13_odds 25 = .ok (.bipush (-2), 2) := by decide +kernel
theorem dX13_odds_27 : decode cX13_odds 27 = .ok (.ireturn, 1) := by decide +kernel
theorem dX13_odds_28 : decode cX13_odds 28 = .ok (.aload_n 0, 1) := by decide +kernel
theorem dX13_odds_29 : decode cX13_odds 29 = .ok (.iload_n 1, 1) := by decide +kernel
theorem dX13_odds_30 : decode cX13_odds 30 = .ok (.putfield 16, 3) := by decide +kernel
theorem dX13_odds_33 : decode cX13_odds 33 = .ok (.aload_n 0, 1) := by decide +kernel
theorem dX13_odds_34 : decode cX13_odds 34 = .ok (.iload_n 2, 1) := by decide +kernel
theorem dX13_odds_35 : decode cX13_odds 35 = .ok (.putfield 19, 3) := by decide +kernel
theorem dX13_odds_38 : decode cX13_odds 38 = .ok (.iconst 1, 1) := by decide +kernel
theorem dX13_odds_39 : decode cX13_odds 39 = .ok (.ireturn, 1) := by decide +kernel
theorem dX13_odds_5 : decode cX13_odds 5 = .ok (.ldc2_w 179, 3) := by decide +kernel
theorem dX13_odds_8 : decode cX13_odds 8 = .ok (.invokestatic 175, 3) := by decide +kernel
set_option maxRecDepth 20000 in
theorem ggX13_odds_X13_in : GoodIn wsX13_odds wsX13_in := goodIn_r _ [8] rfl (by decide +kernel)
set_option maxRecDepth 20000 in
theorem gX13_odds_X13_in : GoodIn wsX13_odds (va_wsS RX13 175 yX13_in wsX13_in) := goodIn_app (goodIn_of _ (by decide +kernel)) ggX13_odds_X13_in
set_option maxRecDepth 20000 in
theorem in_X13_odds_X13 : ∀ w ∈ wsX130, w ∈ wsX13_odds := sub_r [9, 10, 11, 12, 13, 14, 15, 16, 17, 18, 19, 20, 21, 22, 23, 24, 25, 26, 27, 28, 29, 30, 31, 32, 33, 34, 35, 36, 37, 38, 39, 40, 41, 42, 43, 44, 45, 46, 47, 48, 49, 50, 51, 52, 53] rfl
set_option maxHeartbeats 4000000 in
set_option maxRecDepth 100000 in
theorem c_X13_odds (l : Launch) (D : va_G) (T : Nat → ClassId) (sz : Nat) (h0 : Nat) (q : Nat → Int32) (v : Int64) (w : Int64) (a : Nat → Nat) (x1 : Int32) (x2 : Int32) (hL : (1 ≤ (q 4).toInt ∧ (q 4).toInt ≤ 9) ∧ 1 ≤ (q 6).toInt ∧ (q 6).toInt ≤ 9) : Met l yX13_odds wsX13_odds ({ frames := 1, cells := 0, slots := 0, locals := 25 }) (pW [.ref h0, .int x1, .int x2] D T [(h0, .inr (10, (Value.int (q 0) :: Value.int (q 1) :: Value.int (q 2) :: Value.int (q 3) :: Value.int (q 4) :: Value.int (q 5) :: Value.int (q 6) :: Value.int (q 7) :: Value.ref (a 8) :: Value.ref (a 9) :: Value.ref (a 10) :: Value.ref (a 11) :: Value.ref (a 12) :: Value.ref (a 13) :: Value.int (q 14) :: Value.long v :: Value.long w :: Value.ref (a 17) :: Value.ref (a 18) :: Value.ref (a 19) :: Value.ref (a 20) :: Value.ref (a 21) :: Value.ref (a 22) :: Value.ref (a 23) :: Value.int (q 24) :: Value.ref (a 25) :: Value.int (q 26) :: Value.ref (a 27) :: Value.int (q 28) :: Value.int (q 29) :: Value.int (q 30) :: Value.int (q 31) :: Value.int (q 32) :: Value.int (q 33) :: Value.ref (a 34) :: Value.ref (a 35) :: Value.ref (a 36) :: Value.ref (a 37) :: Value.ref (a 38) :: Value.ref (a 39) :: Value.ref (a 40) :: Value.int (q 41) :: Value.ref (a 42) :: Value.int (q 43) :: Value.int (q 44) :: [])))] sz) (va_Qi (fun (r : Int32) (u : (Int32) × (Int32)) => (r = sp_odds x1 x2) ∧ ((1 ≤ u.2.toInt ∧ u.2.toInt ≤ 9) ∧ 1 ≤ (q 6).toInt ∧ (q 6).toInt ≤ 9) ∧ ((r = 1 → u.1 = x1 ∧ u.2 = x2) ∧ (¬ r = 1 → u.1 = (q 3) ∧ u.2 = (q 4)))) (bW D (va_A [(h0, .inr (10, (Value.int (q 0) :: Value.int (q 1) :: Value.int (q 2) :: Value.int (q 3) :: Value.int (q 4) :: Value.int (q 5) :: Value.int (q 6) :: Value.int (q 7) :: Value.ref (a 8) :: Value.ref (a 9) :: Value.ref (a 10) :: Value.ref (a 11) :: Value.ref (a 12) :: Value.ref (a 13) :: Value.int (q 14) :: Value.long v :: Value.long w :: Value.ref (a 17) :: Value.ref (a 18) :: Value.ref (a 19) :: Value.ref (a 20) :: Value.ref (a 21) :: Value.ref (a 22) :: Value.ref (a 23) :: Value.int (q 24) :: Value.ref (a 25) :: Value.int (q 26) :: Value.ref (a 27) :: Value.int (q 28) :: Value.int (q 29) :: Value.int (q 30) :: Value.int (q 31) :: Value.int (q 32) :: Value.int (q 33) :: Value.ref (a 34) :: Value.ref (a 35) :: Value.ref (a 36) :: Value.ref (a 37) :: Value.ref (a 38) :: Value.ref (a 39) :: Value.ref (a 40) :: Value.int (q 41) :: Value.ref (a 42) :: Value.int (q 43) :: Value.int (q 44) :: [])))] sz) (fun (u : (Int32) × (Int32)) => [(h0, .inr (10, (Value.int (q 0) :: Value.int (q 1) :: Value.int (q 2) :: Value.int u.1 :: Value.int u.2 :: Value.int (q 5) :: Value.int (q 6) :: Value.int (q 7) :: Value.ref (a 8) :: Value.ref (a 9) :: Value.ref (a 10) :: Value.ref (a 11) :: Value.ref (a 12) :: Value.ref (a 13) :: Value.int (q 14) :: Value.long v :: Value.long w :: Value.ref (a 17) :: Value.ref (a 18) :: Value.ref (a 19) :: Value.ref (a 20) :: Value.ref (a 21) :: Value.ref (a 22) :: Value.ref (a 23) :: Value.int (q 24) :: Value.ref (a 25) :: Value.int (q 26) :: Value.ref (a 27) :: Value.int (q 28) :: Value.int (q 29) :: Value.int (q 30) :: Value.int (q 31) :: Value.int (q 32) :: Value.int (q 33) :: Value.ref (a 34) :: Value.ref (a 35) :: Value.ref (a 36) :: Value.ref (a 37) :: Value.ref (a 38) :: Value.ref (a 39) :: Value.ref (a 40) :: Value.int (q 41) :: Value.ref (a 42) :: Value.int (q 43) :: Value.int (q 44) :: [])))])) (va_A [(h0, .inr (10, (Value.int (q 0) :: Value.int (q 1) :: Value.int (q 2) :: Value.int (q 3) :: Value.int (q 4) :: Value.int (q 5) :: Value.int (q 6) :: Value.int (q 7) :: Value.ref (a 8) :: Value.ref (a 9) :: Value.ref (a 10) :: Value.ref (a 11) :: Value.ref (a 12) :: Value.ref (a 13) :: Value.int (q 14) :: Value.long v :: Value.long w :: Value.ref (a 17) :: Value.ref (a 18) :: Value.ref (a 19) :: Value.ref (a 20) :: Value.ref (a 21) :: Value.ref (a 22) :: Value.ref (a 23) :: Value.int (q 24) :: Value.ref (a 25) :: Value.int (q 26) :: Value.ref (a 27) :: Value.int (q 28) :: Value.int (q 29) :: Value.int (q 30) :: Value.int (q 31) :: Value.int (q 32) :: Value.int (q 33) :: Value.ref (a 34) :: Value.ref (a 35) :: Value.ref (a 36) :: Value.ref (a 37) :: Value.ref (a 38) :: Value.ref (a 39) :: Value.ref (a 40) :: Value.int (q 41) :: Value.ref (a 42) :: Value.int (q 43) :: Value.int (q 44) :: [])))] sz)) 0 0 (va_A [(h0, .inr (10, (Value.int (q 0) :: Value.int (q 1) :: Value.int (q 2) :: Value.int (q 3) :: Value.int (q 4) :: Value.int (q 5) :: Value.int (q 6) :: Value.int (q 7) :: Value.ref (a 8) :: Value.ref (a 9) :: Value.ref (a 10) :: Value.ref (a 11) :: Value.ref (a 12) :: Value.ref (a 13) :: Value.int (q 14) :: Value.long v :: Value.long w :: Value.ref (a 17) :: Value.ref (a 18) :: Value.ref (a 19) :: Value.ref (a 20) :: Value.ref (a 21) :: Value.ref (a 22) :: Value.ref (a 23) :: Value.int (q 24) :: Value.ref (a 25) :: Value.int (q 26) :: Value.ref (a 27) :: Value.int (q 28) :: Value.int (q 29) :: Value.int (q 30) :: Value.int (q 31) :: Value.int (q 32) :: Value.int (q 33) :: Value.ref (a 34) :: Value.ref (a 35) :: Value.ref (a 36) :: Value.ref (a 37) :: Value.ref (a 38) :: Value.ref (a 39) :: Value.ref (a 40) :: Value.int (q 41) :: Value.ref (a 42) :: Value.int (q 43) :: Value.int (q 44) :: [])))] sz) := by
  refine Met.ofW (cc := cX13_odds) (maxL := 3) (ret := (some .int)) (by decide +kernel) rfl ?_
  intro p e s m args below meth c s₁ B hml hv
  obtain ⟨rfl, hsz, hP, hE, hD0⟩ := hv
  have hx := B.exec
  have hb := B.bytes
  have hr := B.returns
  have hts := atoms_spec (ws := wsX13_odds) B.pre
  have hown : s.vm.findClass RX13 = some m.cls := findClass_of_methodNamed B.named
  have hlocks := B.notSynchronized
  subst hsz
  have hD := hD0.self (sz := s.heap.size)
  generalize hAe : va_A [(h0, .inr (10, (Value.int (q 0) :: Value.int (q 1) :: Value.int (q 2) :: Value.int (q 3) :: Value.int (q 4) :: Value.int (q 5) :: Value.int (q 6) :: Value.int (q 7) :: Value.ref (a 8) :: Value.ref (a 9) :: Value.ref (a 10) :: Value.ref (a 11) :: Value.ref (a 12) :: Value.ref (a 13) :: Value.int (q 14) :: Value.long v :: Value.long w :: Value.ref (a 17) :: Value.ref (a 18) :: Value.ref (a 19) :: Value.ref (a 20) :: Value.ref (a 21) :: Value.ref (a 22) :: Value.ref (a 23) :: Value.int (q 24) :: Value.ref (a 25) :: Value.int (q 26) :: Value.ref (a 27) :: Value.int (q 28) :: Value.int (q 29) :: Value.int (q 30) :: Value.int (q 31) :: Value.int (q 32) :: Value.int (q 33) :: Value.ref (a 34) :: Value.ref (a 35) :: Value.ref (a 36) :: Value.ref (a 37) :: Value.ref (a 38) :: Value.ref (a 39) :: Value.ref (a 40) :: Value.int (q 41) :: Value.ref (a 42) :: Value.int (q 43) :: Value.int (q 44) :: [])))] s.heap.size = A at hD ⊢
  have hA : ∀ q : Nat, s.heap.size ≤ q → A q := fun q h => by rw [← hAe]; exact Or.inr h
  have hS : va_S A s.heap s.heap [] := va_S.rf
  have hP : va_P D vwCl [(h0, .inr (10, (Value.int (q 0) :: Value.int (q 1) :: Value.int (q 2) :: Value.int (q 3) :: Value.int (q 4) :: Value.int (q 5) :: Value.int (q 6) :: Value.int (q 7) :: Value.ref (a 8) :: Value.ref (a 9) :: Value.ref (a 10) :: Value.ref (a 11) :: Value.ref (a 12) :: Value.ref (a 13) :: Value.int (q 14) :: Value.long v :: Value.long w :: Value.ref (a 17) :: Value.ref (a 18) :: Value.ref (a 19) :: Value.ref (a 20) :: Value.ref (a 21) :: Value.ref (a 22) :: Value.ref (a 23) :: Value.int (q 24) :: Value.ref (a 25) :: Value.int (q 26) :: Value.ref (a 27) :: Value.int (q 28) :: Value.int (q 29) :: Value.int (q 30) :: Value.int (q 31) :: Value.int (q 32) :: Value.int (q 33) :: Value.ref (a 34) :: Value.ref (a 35) :: Value.ref (a 36) :: Value.ref (a 37) :: Value.ref (a 38) :: Value.ref (a 39) :: Value.ref (a 40) :: Value.int (q 41) :: Value.ref (a 42) :: Value.int (q 43) :: Value.int (q 44) :: [])))] s.heap := hP
  have hl := lv_entry ([.ref h0, .int x1, .int x2]) (n := 3) (Nat.le_of_ble_eq_true rfl)
  rw [lg_entry_eq]
  generalize (lg_sl ([.ref h0, .int x1, .int x2]) ++ List.replicate (3 - (lg_sl ([.ref h0, .int x1, .int x2])).length) Slot.unset).toArray = ls at hl ⊢
  have hl : lv_has ls 3 [(0, .ref h0), (1, .int x1), (2, .int x2)] := hl
  clear hD0
  refine lv_iload_n hx hb dX13_odds_0 rfl (lv_at hl 2 rfl) ?_
  refine lv_i2l hx hb dX13_odds_1 rfl ?_
  refine lv_ldc2 (v := 2) hx hb hown (hts (.constantLong RX13 184 (2)) (List.mem_of_getElem? (i := 1) rfl)) dX13_odds_2 ?_
  refine lv_ldc2 (v := 9) hx hb hown (hts (.constantLong RX13 179 (9)) (List.mem_of_getElem? (i := 2) rfl)) dX13_odds_5 ?_
  refine vp_callSi (W.runS (As := [.long (x2.toInt64), .long 2, .long 9]) (rest := []) ⟨hx, hb, hml, hown, hts⟩ (c_X13_in l D T (x2.toInt64) 2 9 x2.toInt 2 9 ((Int32.toInt_toInt64 _).trans rfl) (by decide +kernel) (by decide +kernel)) (va_cwS 3 hts gX13_odds_X13_in rfl rfl rfl hs_X13_in ⟨Nat.le_of_ble_eq_true rfl, Nat.le_of_ble_eq_true rfl⟩) (pR_S hP hE [] rfl) rfl rfl hl.1 rfl (lv_room (Nat.le_of_ble_eq_true rfl)) dX13_odds_8 ⟨Nat.le_of_ble_eq_true rfl, Nat.le_of_ble_eq_true rfl⟩) (fun r_1 hr_1 => ?_)
  rcases bool_post hr_1 with ⟨c_2, rfl⟩ | ⟨c_2, rfl⟩
  · refine lv_if_eq (tgt := 25) hx hb dX13_odds_11 (by decide +kernel) (fun c9 => absurd c9 (by decide +kernel)) (fun _ => ?_)
    refine lv_iload_n hx hb dX13_odds_14 rfl (lv_at hl 1 rfl) ?_
    refine lv_i2l hx hb dX13_odds_15 rfl ?_
    refine lv_lconst (v := 0) hx hb dX13_odds_16 (by decide +kernel) ?_
    refine lv_iload_n hx hb dX13_odds_17 rfl (lv_at hl 2 rfl) ?_
    refine lv_i2l hx hb dX13_odds_18 rfl ?_
    refine vp_callSi (W.runS (As := [.long (x1.toInt64), .long 0, .long (x2.toInt64)]) (rest := []) ⟨hx, hb, hml, hown, hts⟩ (c_X13_in l D T (x1.toInt64) 0 (x2.toInt64) x1.toInt 0 x2.toInt ((Int32.toInt_toInt64 _).trans rfl) (by decide +kernel) ((Int32.toInt_toInt64 _).trans rfl)) (va_cwS 3 hts gX13_odds_X13_in rfl rfl rfl hs_X13_in ⟨Nat.le_of_ble_eq_true rfl, Nat.le_of_ble_eq_true rfl⟩) (pR_S hP hE [] rfl) rfl rfl hl.1 rfl (lv_room (Nat.le_of_ble_eq_true rfl)) dX13_odds_19 ⟨Nat.le_of_ble_eq_true rfl, Nat.le_of_ble_eq_true rfl⟩) (fun r_3 hr_3 => ?_)
    rcases bool_post hr_3 with ⟨c_4, rfl⟩ | ⟨c_4, rfl⟩
    · refine lv_if_ne (tgt := 28) hx hb dX13_odds_22 (by decide +kernel) (fun _ => ?_) (fun c9 => absurd c9 (by decide +kernel))
      refine lv_aload_n hx hb dX13_odds_28 rfl (lv_at hl 0 rfl) ?_
      refine lv_iload_n hx hb dX13_odds_29 rfl (lv_at hl 1 rfl) ?_
      refine va_put (D := D) (ci := 10) (v := .int x1) (ty := .int) (C := RX13) (T := TX13) (N := 45) hx hb hts in_X13_odds_X13 tyX13 tyX13_ok nmX13 hown hE.1 hP hD hS 0 rfl rfl 3 (by decide +kernel) (hts (.fieldLink RX13 16 "ClauseBookModel" "oddsP" "I") (List.mem_of_getElem? (i := 3) rfl)) (fun _ h9 => h9) rfl (by decide +kernel) rfl rfl (Nat.le_of_ble_eq_true rfl) dX13_odds_30 (fun H locs hP hD hS => ?_)
      obtain ⟨hP, hD⟩ := wPD [(h0, .inr (10, (Value.int (q 0) :: Value.int (q 1) :: Value.int (q 2) :: Value.int x1 :: Value.int (q 4) :: Value.int (q 5) :: Value.int (q 6) :: Value.int (q 7) :: Value.ref (a 8) :: Value.ref (a 9) :: Value.ref (a 10) :: Value.ref (a 11) :: Value.ref (a 12) :: Value.ref (a 13) :: Value.int (q 14) :: Value.long v :: Value.long w :: Value.ref (a 17) :: Value.ref (a 18) :: Value.ref (a 19) :: Value.ref (a 20) :: Value.ref (a 21) :: Value.ref (a 22) :: Value.ref (a 23) :: Value.int (q 24) :: Value.ref (a 25) :: Value.int (q 26) :: Value.ref (a 27) :: Value.int (q 28) :: Value.int (q 29) :: Value.int (q 30) :: Value.int (q 31) :: Value.int (q 32) :: Value.int (q 33) :: Value.ref (a 34) :: Value.ref (a 35) :: Value.ref (a 36) :: Value.ref (a 37) :: Value.ref (a 38) :: Value.ref (a 39) :: Value.ref (a 40) :: Value.int (q 41) :: Value.ref (a 42) :: Value.int (q 43) :: Value.int (q 44) :: [])))] hP hD rfl
      refine lv_aload_n hx hb dX13_odds_33 rfl (lv_at hl 0 rfl) ?_
      refine lv_iload_n hx hb dX13_odds_34 rfl (lv_at hl 2 rfl) ?_
      refine va_put (D := D) (ci := 10) (v := .int x2) (ty := .int) (C := RX13) (T := TX13) (N := 45) hx hb hts in_X13_odds_X13 tyX13 tyX13_ok nmX13 hown hE.1 hP hD hS 0 rfl rfl 4 (by decide +kernel) (hts (.fieldLink RX13 19 "ClauseBookModel" "oddsQ" "I") (List.mem_of_getElem? (i := 4) rfl)) (fun _ h9 => h9) rfl (by decide +kernel) rfl rfl (Nat.le_of_ble_eq_true rfl) dX13_odds_35 (fun H locs hP hD hS => ?_)
      obtain ⟨hP, hD⟩ := wPD [(h0, .inr (10, (Value.int (q 0) :: Value.int (q 1) :: Value.int (q 2) :: Value.int x1 :: Value.int x2 :: Value.int (q 5) :: Value.int (q 6) :: Value.int (q 7) :: Value.ref (a 8) :: Value.ref (a 9) :: Value.ref (a 10) :: Value.ref (a 11) :: Value.ref (a 12) :: Value.ref (a 13) :: Value.int (q 14) :: Value.long v :: Value.long w :: Value.ref (a 17) :: Value.ref (a 18) :: Value.ref (a 19) :: Value.ref (a 20) :: Value.ref (a 21) :: Value.ref (a 22) :: Value.ref (a 23) :: Value.int (q 24) :: Value.ref (a 25) :: Value.int (q 26) :: Value.ref (a 27) :: Value.int (q 28) :: Value.int (q 29) :: Value.int (q 30) :: Value.int (q 31) :: Value.int (q 32) :: Value.int (q 33) :: Value.ref (a 34) :: Value.ref (a 35) :: Value.ref (a 36) :: Value.ref (a 37) :: Value.ref (a 38) :: Value.ref (a 39) :: Value.ref (a 40) :: Value.int (q 41) :: Value.ref (a 42) :: Value.int (q 43) :: Value.int (q 44) :: [])))] hP hD rfl
      refine lv_iconst (v := 1) hx hb dX13_odds_38 (by decide +kernel) ?_
      exact W.iret hx hb hr (fun t ht hW => ⟨⟨_, (x1, x2), rfl, ⟨(show (1 : Int32) = sp_odds x1 x2 from (by first | decide | (unfold sp_odds; (repeat' split) <;> first | rfl | (exfalso; omega)))), (show (1 ≤ x2.toInt ∧ x2.toInt ≤ 9) ∧ 1 ≤ (q 6).toInt ∧ (q 6).toInt ≤ 9 from (by first | omega | (subst_vars; omega))), (show ((1 : Int32) = 1 → x1 = x1 ∧ x2 = x2) ∧ (¬ (1 : Int32) = 1 → x1 = (q 3) ∧ x2 = (q 4)) from ⟨(fun _ => ⟨rfl, rfl⟩), (fun h => absurd rfl h)⟩)⟩, by rw [ht]; exact hP.sub [0] rfl, hD.sub [0] (by decide +kernel) rfl⟩, hS.F ht⟩) hS.2.2 dX13_odds_39
    · refine lv_if_ne (tgt := 28) hx hb dX13_odds_22 (by decide +kernel) (fun c9 => absurd c9 (by decide +kernel)) (fun _ => ?_)
      refine lv_bipush (v := (-2)) hx hb dX13_odds_25 (by decide +kernel) ?_
      exact W.iret hx hb hr (fun t ht hW => ⟨⟨_, ((q 3), (q 4)), rfl, ⟨(show ((-2) : Int32) = sp_odds x1 x2 from (by first | decide | (unfold sp_odds; (repeat' split) <;> first | rfl | (exfalso; omega)))), (show (1 ≤ (q 4).toInt ∧ (q 4).toInt ≤ 9) ∧ 1 ≤ (q 6).toInt ∧ (q 6).toInt ≤ 9 from (by first | omega | (subst_vars; omega))), (show (((-2) : Int32) = 1 → (q 3) = x1 ∧ (q 4) = x2) ∧ (¬ ((-2) : Int32) = 1 → (q 3) = (q 3) ∧ (q 4) = (q 4)) from ⟨(fun h => absurd h (by decide +kernel)), (fun _ => ⟨rfl, rfl⟩)⟩)⟩, by rw [ht]; exact hP.sub [0] rfl, hD.sub [0] (by decide +kernel) rfl⟩, hS.F ht⟩) hS.2.2 dX13_odds_27
  · refine lv_if_eq (tgt := 25) hx hb dX13_odds_11 (by decide +kernel) (fun _ => ?_) (fun c9 => absurd c9 (by decide +kernel))
    refine lv_bipush (v := (-2)) hx hb dX13_odds_25 (by decide +kernel) ?_
    exact W.iret hx hb hr (fun t ht hW => ⟨⟨_, ((q 3), (q 4)), rfl, ⟨(show ((-2) : Int32) = sp_odds x1 x2 from (by first | decide | (unfold sp_odds; (repeat' split) <;> first | rfl | (exfalso; omega)))), (show (1 ≤ (q 4).toInt ∧ (q 4).toInt ≤ 9) ∧ 1 ≤ (q 6).toInt ∧ (q 6).toInt ≤ 9 from (by first | omega | (subst_vars; omega))), (show (((-2) : Int32) = 1 → (q 3) = x1 ∧ (q 4) = x2) ∧ (¬ ((-2) : Int32) = 1 → (q 3) = (q 3) ∧ (q 4) = (q 4)) from ⟨(fun h => absurd h (by decide +kernel)), (fun _ => ⟨rfl, rfl⟩)⟩)⟩, by rw [ht]; exact hP.sub [0] rfl, hD.sub [0] (by decide +kernel) rfl⟩, hS.F ht⟩) hS.2.2 dX13_odds_27
theorem dX13_wait_0 : decode cX13_wait 0 = .ok (.iload_n 2, 1) := by decide +kernel
theorem dX13_wait_1 : decode cX13_wait 1 = .ok (.i2l, 1) := by decide +kernel
theorem dX13_wait_12 : decode cX13_wait 12 = .ok (.iload_n 1, 1) := by decide +kernel
theorem dX13_wait_13 : decode cX13_wait 13 = .ok (.i2l, 1) := by decide +kernel
theorem dX13_wait_14 : decode cX13_wait 14 = .ok (.lconst 1, 1) := by decide +kernel
theorem dX13_wait_15 : decode cX13_wait 15 = .ok (.iload_n 2, 1) := by decide +kernel
theorem dX13_wait_16 : decode cX13_wait 16 = .ok (.i2l, 1) := by decide +kernel
theorem dX13_wait_17 : decode cX13_wait 17 = .ok (.invokestatic 175, 3) := by decide +kernel
theorem dX13_wait_2 : decode cX13_wait 2 = .ok (.lconst 1, 1) := by decide +kernel
theorem dX13_wait_20 : decode cX13_wait 20 = .ok (.ifCond .ne 6, 3) := by decide +kernel
theorem dX13_wait_23 : decode cX13_wait 23 = .ok (.bipush (-2), 2) := by decide +kernel
theorem dX13_wait_25 : decode cX13_wait 25 = .ok (.ireturn, 1) := by decide +kernel
theorem dX13_wait_26 : decode cX13_wait 26 = .ok (.aload_n 0, 1) := by decide +kernel
theorem dX13_wait_27 : decode cX13_wait 27 = .ok (.iload_n 1, 1) := by decide +kernel
theorem dX13_wait_28 : decode cX13_wait 28 = .ok (.putfield 22, 3) := by decide +kernel
theorem dX13_wait_3 : decode cX13_wait 3 = .ok (.ldc2_w 179, 3) := by decide +kernel
theorem dX13_wait_31 : decode cX13_wait 31 = .ok (.aload_n 0, 1) := by decide +kernel
theorem dX13_wait_32 : decode cX13_wait 32 = .ok (.iload_n 2, 1) := by decide +kernel
theorem dX13_wait_33 : decode cX13_wait 33 = .ok (.putfield 25, 3) := by decide +kernel
theorem dX13_wait_36 : decode cX13_wait 36 = .ok (.iconst 1, 1) := by decide +kernel
theorem dX13_wait_37 : decode cX13_wait 37 = .ok (.ireturn, 1) := by decide +kernel
theorem dX13_wait_6 : decode cX13_wait 6 = .ok (.invokestatic 175, 3) := by decide +kernel
theorem dX13_wait_9 : decode cX13_wait 9 = .ok (.ifCond .eq 14, 3) := by decide +kernel
set_option maxRecDepth 20000 in
theorem ggX13_wait_X13_in : GoodIn wsX13_wait wsX13_in := goodIn_r _ [7] rfl (by decide +kernel)
set_option maxRecDepth 20000 in
theorem gX13_wait_X13_in : GoodIn wsX13_wait (va_wsS RX13 175 yX13_in wsX13_in) := goodIn_app (goodIn_of _ (by decide +kernel)) ggX13_wait_X13_in
set_option maxRecDepth 20000 in
theorem in_X13_wait_X13 : ∀ w ∈ wsX130, w ∈ wsX13_wait := sub_r [8, 9, 10, 11, 12, 13, 14, 15, 16, 17, 18, 19, 20, 21, 22, 23, 24, 25, 26, 27, 28, 29, 30, 31, 32, 33, 34, 35, 36, 37, 38, 39, 40, 41, 42, 43, 44, 45, 46, 47, 48, 49, 50, 51, 52] rfl
set_option maxHeartbeats 4000000 in
set_option maxRecDepth 100000 in
theorem c_X13_wait (l : Launch) (D : va_G) (T : Nat → ClassId) (sz : Nat) (h0 : Nat) (q : Nat → Int32) (v : Int64) (w : Int64) (a : Nat → Nat) (x1 : Int32) (x2 : Int32) (hL : (1 ≤ (q 4).toInt ∧ (q 4).toInt ≤ 9) ∧ 1 ≤ (q 6).toInt ∧ (q 6).toInt ≤ 9) : Met l yX13_wait wsX13_wait ({ frames := 1, cells := 0, slots := 0, locals := 25 }) (pW [.ref h0, .int x1, .int x2] D T [(h0, .inr (10, (Value.int (q 0) :: Value.int (q 1) :: Value.int (q 2) :: Value.int (q 3) :: Value.int (q 4) :: Value.int (q 5) :: Value.int (q 6) :: Value.int (q 7) :: Value.ref (a 8) :: Value.ref (a 9) :: Value.ref (a 10) :: Value.ref (a 11) :: Value.ref (a 12) :: Value.ref (a 13) :: Value.int (q 14) :: Value.long v :: Value.long w :: Value.ref (a 17) :: Value.ref (a 18) :: Value.ref (a 19) :: Value.ref (a 20) :: Value.ref (a 21) :: Value.ref (a 22) :: Value.ref (a 23) :: Value.int (q 24) :: Value.ref (a 25) :: Value.int (q 26) :: Value.ref (a 27) :: Value.int (q 28) :: Value.int (q 29) :: Value.int (q 30) :: Value.int (q 31) :: Value.int (q 32) :: Value.int (q 33) :: Value.ref (a 34) :: Value.ref (a 35) :: Value.ref (a 36) :: Value.ref (a 37) :: Value.ref (a 38) :: Value.ref (a 39) :: Value.ref (a 40) :: Value.int (q 41) :: Value.ref (a 42) :: Value.int (q 43) :: Value.int (q 44) :: [])))] sz) (va_Qi (fun (r : Int32) (u : (Int32) × (Int32)) => (r = sp_wait x1 x2) ∧ ((1 ≤ (q 4).toInt ∧ (q 4).toInt ≤ 9) ∧ 1 ≤ u.2.toInt ∧ u.2.toInt ≤ 9) ∧ ((r = 1 → u.1 = x1 ∧ u.2 = x2) ∧ (¬ r = 1 → u.1 = (q 5) ∧ u.2 = (q 6)))) (bW D (va_A [(h0, .inr (10, (Value.int (q 0) :: Value.int (q 1) :: Value.int (q 2) :: Value.int (q 3) :: Value.int (q 4) :: Value.int (q 5) :: Value.int (q 6) :: Value.int (q 7) :: Value.ref (a 8) :: Value.ref (a 9) :: Value.ref (a 10) :: Value.ref (a 11) :: Value.ref (a 12) :: Value.ref (a 13) :: Value.int (q 14) :: Value.long v :: Value.long w :: Value.ref (a 17) :: Value.ref (a 18) :: Value.ref (a 19) :: Value.ref (a 20) :: Value.ref (a 21) :: Value.ref (a 22) :: Value.ref (a 23) :: Value.int (q 24) :: Value.ref (a 25) :: Value.int (q 26) :: Value.ref (a 27) :: Value.int (q 28) :: Value.int (q 29) :: Value.int (q 30) :: Value.int (q 31) :: Value.int (q 32) :: Value.int (q 33) :: Value.ref (a 34) :: Value.ref (a 35) :: Value.ref (a 36) :: Value.ref (a 37) :: Value.ref (a 38) :: Value.ref (a 39) :: Value.ref (a 40) :: Value.int (q 41) :: Value.ref (a 42) :: Value.int (q 43) :: Value.int (q 44) :: [])))] sz) (fun (u : (Int32) × (Int32)) => [(h0, .inr (10, (Value.int (q 0) :: Value.int (q 1) :: Value.int (q 2) :: Value.int (q 3) :: Value.int (q 4) :: Value.int u.1 :: Value.int u.2 :: Value.int (q 7) :: Value.ref (a 8) :: Value.ref (a 9) :: Value.ref (a 10) :: Value.ref (a 11) :: Value.ref (a 12) :: Value.ref (a 13) :: Value.int (q 14) :: Value.long v :: Value.long w :: Value.ref (a 17) :: Value.ref (a 18) :: Value.ref (a 19) :: Value.ref (a 20) :: Value.ref (a 21) :: Value.ref (a 22) :: Value.ref (a 23) :: Value.int (q 24) :: Value.ref (a 25) :: Value.int (q 26) :: Value.ref (a 27) :: Value.int (q 28) :: Value.int (q 29) :: Value.int (q 30) :: Value.int (q 31) :: Value.int (q 32) :: Value.int (q 33) :: Value.ref (a 34) :: Value.ref (a 35) :: Value.ref (a 36) :: Value.ref (a 37) :: Value.ref (a 38) :: Value.ref (a 39) :: Value.ref (a 40) :: Value.int (q 41) :: Value.ref (a 42) :: Value.int (q 43) :: Value.int (q 44) :: [])))])) (va_A [(h0, .inr (10, (Value.int (q 0) :: Value.int (q 1) :: Value.int (q 2) :: Value.int (q 3) :: Value.int (q 4) :: Value.int (q 5) :: Value.int (q 6) :: Value.int (q 7) :: Value.ref (a 8) :: Value.ref (a 9) :: Value.ref (a 10) :: Value.ref (a 11) :: Value.ref (a 12) :: Value.ref (a 13) :: Value.int (q 14) :: Value.long v :: Value.long w :: Value.ref (a 17) :: Value.ref (a 18) :: Value.ref (a 19) :: Value.ref (a 20) :: Value.ref (a 21) :: Value.ref (a 22) :: Value.ref (a 23) :: Value.int (q 24) :: Value.ref (a 25) :: Value.int (q 26) :: Value.ref (a 27) :: Value.int (q 28) :: Value.int (q 29) :: Value.int (q 30) :: Value.int (q 31) :: Value.int (q 32) :: Value.int (q 33) :: Value.ref (a 34) :: Value.ref (a 35) :: Value.ref (a 36) :: Value.ref (a 37) :: Value.ref (a 38) :: Value.ref (a 39) :: Value.ref (a 40) :: Value.int (q 41) :: Value.ref (a 42) :: Value.int (q 43) :: Value.int (q 44) :: [])))] sz)) 0 0 (va_A [(h0, .inr (10, (Value.int (q 0) :: Value.int (q 1) :: Value.int (q 2) :: Value.int (q 3) :: Value.int (q 4) :: Value.int (q 5) :: Value.int (q 6) :: Value.int (q 7) :: Value.ref (a 8) :: Value.ref (a 9) :: Value.ref (a 10) :: Value.ref (a 11) :: Value.ref (a 12) :: Value.ref (a 13) :: Value.int (q 14) :: Value.long v :: Value.long w :: Value.ref (a 17) :: Value.ref (a 18) :: Value.ref (a 19) :: Value.ref (a 20) :: Value.ref (a 21) :: Value.ref (a 22) :: Value.ref (a 23) :: Value.int (q 24) :: Value.ref (a 25) :: Value.int (q 26) :: Value.ref (a 27) :: Value.int (q 28) :: Value.int (q 29) :: Value.int (q 30) :: Value.int (q 31) :: Value.int (q 32) :: Value.int (q 33) :: Value.ref (a 34) :: Value.ref (a 35) :: Value.ref (a 36) :: Value.ref (a 37) :: Value.ref (a 38) :: Value.ref (a 39) :: Value.ref (a 40) :: Value.int (q 41) :: Value.ref (a 42) :: Value.int (q 43) :: Value.int (q 44) :: [])))] sz) := by
  refine Met.ofW (cc := cX13_wait) (maxL := 3) (ret := (some .int)) (by decide +kernel) rfl ?_
  intro p e s m args below meth c s₁ B hml hv
  obtain ⟨rfl, hsz, hP, hE, hD0⟩ := hv
  have hx := B.exec
  have hb := B.bytes
  have hr := B.returns
  have hts := atoms_spec (ws := wsX13_wait) B.pre
  have hown : s.vm.findClass RX13 = some m.cls := findClass_of_methodNamed B.named
  have hlocks := B.notSynchronized
  subst hsz
  have hD := hD0.self (sz := s.heap.size)
  generalize hAe : va_A [(h0, .inr (10, (Value.int (q 0) :: Value.int (q 1) :: Value.int (q 2) :: Value.int (q 3) :: Value.int (q 4) :: Value.int (q 5) :: Value.int (q 6) :: Value.int (q 7) :: Value.ref (a 8) :: Value.ref (a 9) :: Value.ref (a 10) :: Value.ref (a 11) :: Value.ref (a 12) :: Value.ref (a 13) :: Value.int (q 14) :: Value.long v :: Value.long w :: Value.ref (a 17) :: Value.ref (a 18) :: Value.ref (a 19) :: Value.ref (a 20) :: Value.ref (a 21) :: Value.ref (a 22) :: Value.ref (a 23) :: Value.int (q 24) :: Value.ref (a 25) :: Value.int (q 26) :: Value.ref (a 27) :: Value.int (q 28) :: Value.int (q 29) :: Value.int (q 30) :: Value.int (q 31) :: Value.int (q 32) :: Value.int (q 33) :: Value.ref (a 34) :: Value.ref (a 35) :: Value.ref (a 36) :: Value.ref (a 37) :: Value.ref (a 38) :: Value.ref (a 39) :: Value.ref (a 40) :: Value.int (q 41) :: Value.ref (a 42) :: Value.int (q 43) :: Value.int (q 44) :: [])))] s.heap.size = A at hD ⊢
  have hA : ∀ q : Nat, s.heap.size ≤ q → A q := fun q h => by rw [← hAe]; exact Or.inr h
  have hS : va_S A s.heap s.heap [] := va_S.rf
  have hP : va_P D vwCl [(h0, .inr (10, (Value.int (q 0) :: Value.int (q 1) :: Value.int (q 2) :: Value.int (q 3) :: Value.int (q 4) :: Value.int (q 5) :: Value.int (q 6) :: Value.int (q 7) :: Value.ref (a 8) :: Value.ref (a 9) :: Value.ref (a 10) :: Value.ref (a 11) :: Value.ref (a 12) :: Value.ref (a 13) :: Value.int (q 14) :: Value.long v :: Value.long w :: Value.ref (a 17) :: Value.ref (a 18) :: Value.ref (a 19) :: Value.ref (a 20) :: Value.ref (a 21) :: Value.ref (a 22) :: Value.ref (a 23) :: Value.int (q 24) :: Value.ref (a 25) :: Value.int (q 26) :: Value.ref (a 27) :: Value.int (q 28) :: Value.int (q 29) :: Value.int (q 30) :: Value.int (q 31) :: Value.int (q 32) :: Value.int (q 33) :: Value.ref (a 34) :: Value.ref (a 35) :: Value.ref (a 36) :: Value.ref (a 37) :: Value.ref (a 38) :: Value.ref (a 39) :: Value.ref (a 40) :: Value.int (q 41) :: Value.ref (a 42) :: Value.int (q 43) :: Value.int (q 44) :: [])))] s.heap := hP
  have hl := lv_entry ([.ref h0, .int x1, .int x2]) (n := 3) (Nat.le_of_ble_eq_true rfl)
  rw [lg_entry_eq]
  generalize (lg_sl ([.ref h0, .int x1, .int x2]) ++ List.replicate (3 - (lg_sl ([.ref h0, .int x1, .int x2])).length) Slot.unset).toArray = ls at hl ⊢
  have hl : lv_has ls 3 [(0, .ref h0), (1, .int x1), (2, .int x2)] := hl
  clear hD0
  refine lv_iload_n hx hb dX13_wait_0 rfl (lv_at hl 2 rfl) ?_
  refine lv_i2l hx hb dX13_wait_1 rfl ?_
  refine lv_lconst (v := 1) hx hb dX13_wait_2 (by decide +kernel) ?_
  refine lv_ldc2 (v := 9) hx hb hown (hts (.constantLong RX13 179 (9)) (List.mem_of_getElem? (i := 1) rfl)) dX13_wait_3 ?_
  refine vp_callSi (W.runS (As := [.long (x2.toInt64), .long 1, .long 9]) (rest := []) ⟨hx, hb, hml, hown, hts⟩ (c_X13_in l D T (x2.toInt64) 1 9 x2.toInt 1 9 ((Int32.toInt_toInt64 _).trans rfl) (by decide +kernel) (by decide +kernel)) (va_cwS 3 hts gX13_wait_X13_in rfl rfl rfl hs_X13_in ⟨Nat.le_of_ble_eq_true rfl, Nat.le_of_ble_eq_true rfl⟩) (pR_S hP hE [] rfl) rfl rfl hl.1 rfl (lv_room (Nat.le_of_ble_eq_true rfl)) dX13_wait_6 ⟨Nat.le_of_ble_eq_true rfl, Nat.le_of_ble_eq_true rfl⟩) (fun r_1 hr_1 => ?_)
  rcases bool_post hr_1 with ⟨c_2, rfl⟩ | ⟨c_2, rfl⟩
  · refine lv_if_eq (tgt := 23) hx hb dX13_wait_9 (by decide +kernel) (fun c9 => absurd c9 (by decide +kernel)) (fun _ => ?_)
    refine lv_iload_n hx hb dX13_wait_12 rfl (lv_at hl 1 rfl) ?_
    refine lv_i2l hx hb dX13_wait_13 rfl ?_
    refine lv_lconst (v := 1) hx hb dX13_wait_14 (by decide +kernel) ?_
    refine lv_iload_n hx hb dX13_wait_15 rfl (lv_at hl 2 rfl) ?_
    refine lv_i2l hx hb dX13_wait_16 rfl ?_
    refine vp_callSi (W.runS (As := [.long (x1.toInt64), .long 1, .long (x2.toInt64)]) (rest := []) ⟨hx, hb, hml, hown, hts⟩ (c_X13_in l D T (x1.toInt64) 1 (x2.toInt64) x1.toInt 1 x2.toInt ((Int32.toInt_toInt64 _).trans rfl) (by decide +kernel) ((Int32.toInt_toInt64 _).trans rfl)) (va_cwS 3 hts gX13_wait_X13_in rfl rfl rfl hs_X13_in ⟨Nat.le_of_ble_eq_true rfl, Nat.le_of_ble_eq_true rfl⟩) (pR_S hP hE [] rfl) rfl rfl hl.1 rfl (lv_room (Nat.le_of_ble_eq_true rfl)) dX13_wait_17 ⟨Nat.le_of_ble_eq_true rfl, Nat.le_of_ble_eq_true rfl⟩) (fun r_3 hr_3 => ?_)
    rcases bool_post hr_3 with ⟨c_4, rfl⟩ | ⟨c_4, rfl⟩
    · refine lv_if_ne (tgt := 26) hx hb dX13_wait_20 (by decide +kernel) (fun _ => ?_) (fun c9 => absurd c9 (by decide +kernel))
      refine lv_aload_n hx hb dX13_wait_26 rfl (lv_at hl 0 rfl) ?_
      refine lv_iload_n hx hb dX13_wait_27 rfl (lv_at hl 1 rfl) ?_
      refine va_put (D := D) (ci := 10) (v := .int x1) (ty := .int) (C := RX13) (T := TX13) (N := 45) hx hb hts in_X13_wait_X13 tyX13 tyX13_ok nmX13 hown hE.1 hP hD hS 0 rfl rfl 5 (by decide +kernel) (hts (.fieldLink RX13 22 "ClauseBookModel" "waitA" "I") (List.mem_of_getElem? (i := 2) rfl)) (fun _ h9 => h9) rfl (by decide +kernel) rfl rfl (Nat.le_of_ble_eq_true rfl) dX13_wait_28 (fun H locs hP hD hS => ?_)
      obtain ⟨hP, hD⟩ := wPD [(h0, .inr (10, (Value.int (q 0) :: Value.int (q 1) :: Value.int (q 2) :: Value.int (q 3) :: Value.int (q 4) :: Value.int x1 :: Value.int (q 6) :: Value.int (q 7) :: Value.ref (a 8) :: Value.ref (a 9) :: Value.ref (a 10) :: Value.ref (a 11) :: Value.ref (a 12) :: Value.ref (a 13) :: Value.int (q 14) :: Value.long v :: Value.long w :: Value.ref (a 17) :: Value.ref (a 18) :: Value.ref (a 19) :: Value.ref (a 20) :: Value.ref (a 21) :: Value.ref (a 22) :: Value.ref (a 23) :: Value.int (q 24) :: Value.ref (a 25) :: Value.int (q 26) :: Value.ref (a 27) :: Value.int (q 28) :: Value.int (q 29) :: Value.int (q 30) :: Value.int (q 31) :: Value.int (q 32) :: Value.int (q 33) :: Value.ref (a 34) :: Value.ref (a 35) :: Value.ref (a 36) :: Value.ref (a 37) :: Value.ref (a 38) :: Value.ref (a 39) :: Value.ref (a 40) :: Value.int (q 41) :: Value.ref (a 42) :: Value.int (q 43) :: Value.int (q 44) :: [])))] hP hD rfl
      refine lv_aload_n hx hb dX13_wait_31 rfl (lv_at hl 0 rfl) ?_
      refine lv_iload_n hx hb dX13_wait_32 rfl (lv_at hl 2 rfl) ?_
      refine va_put (D := D) (ci := 10) (v := .int x2) (ty := .int) (C := RX13) (T := TX13) (N := 45) hx hb hts in_X13_wait_X13 tyX13 tyX13_ok nmX13 hown hE.1 hP hD hS 0 rfl rfl 6 (by decide +kernel) (hts (.fieldLink RX13 25 "ClauseBookModel" "waitB" "I") (List.mem_of_getElem? (i := 3) rfl)) (fun _ h9 => h9) rfl (by decide +kernel) rfl rfl (Nat.le_of_ble_eq_true rfl) dX13_wait_33 (fun H locs hP hD hS => ?_)
      obtain ⟨hP, hD⟩ := wPD [(h0, .inr (10, (Value.int (q 0) :: Value.int (q 1) :: Value.int (q 2) :: Value.int (q 3) :: Value.int (q 4) :: Value.int x1 :: Value.int x2 :: Value.int (q 7) :: Value.ref (a 8) :: Value.ref (a 9) :: Value.ref (a 10) :: Value.ref (a 11) :: Value.ref (a 12) :: Value.ref (a 13) :: Value.int (q 14) :: Value.long v :: Value.long w :: Value.ref (a 17) :: Value.ref (a 18) :: Value.ref (a 19) :: Value.ref (a 20) :: Value.ref (a 21) :: Value.ref (a 22) :: Value.ref (a 23) :: Value.int (q 24) :: Value.ref (a 25) :: Value.int (q 26) :: Value.ref (a 27) :: Value.int (q 28) :: Value.int (q 29) :: Value.int (q 30) :: Value.int (q 31) :: Value.int (q 32) :: Value.int (q 33) :: Value.ref (a 34) :: Value.ref (a 35) :: Value.ref (a 36) :: Value.ref (a 37) :: Value.ref (a 38) :: Value.ref (a 39) :: Value.ref (a 40) :: Value.int (q 41) :: Value.ref (a 42) :: Value.int (q 43) :: Value.int (q 44) :: [])))] hP hD rfl
      refine lv_iconst (v := 1) hx hb dX13_wait_36 (by decide +kernel) ?_
      exact W.iret hx hb hr (fun t ht hW => ⟨⟨_, (x1, x2), rfl, ⟨(show (1 : Int32) = sp_wait x1 x2 from (by first | decide | (unfold sp_wait; (repeat' split) <;> first | rfl | (exfalso; omega)))), (show (1 ≤ (q 4).toInt ∧ (q 4).toInt ≤ 9) ∧ 1 ≤ x2.toInt ∧ x2.toInt ≤ 9 from (by first | omega | (subst_vars; omega))), (show ((1 : Int32) = 1 → x1 = x1 ∧ x2 = x2) ∧ (¬ (1 : Int32) = 1 → x1 = (q 5) ∧ x2 = (q 6)) from ⟨(fun _ => ⟨rfl, rfl⟩), (fun h => absurd rfl h)⟩)⟩, by rw [ht]; exact hP.sub [0] rfl, hD.sub [0] (by decide +kernel) rfl⟩, hS.F ht⟩) hS.2.2 dX13_wait_37
    · refine lv_if_ne (tgt := 26) hx hb dX13_wait_20 (by decide +kernel) (fun c9 => absurd c9 (by decide +kernel)) (fun _ => ?_)
      refine lv_bipush (v := (-2)) hx hb dX13_wait_23 (by decide +kernel) ?_
      exact W.iret hx hb hr (fun t ht hW => ⟨⟨_, ((q 5), (q 6)), rfl, ⟨(show ((-2) : Int32) = sp_wait x1 x2 from (by first | decide | (unfold sp_wait; (repeat' split) <;> first | rfl | (exfalso; omega)))), (show (1 ≤ (q 4).toInt ∧ (q 4).toInt ≤ 9) ∧ 1 ≤ (q 6).toInt ∧ (q 6).toInt ≤ 9 from (by first | omega | (subst_vars; omega))), (show (((-2) : Int32) = 1 → (q 5) = x1 ∧ (q 6) = x2) ∧ (¬ ((-2) : Int32) = 1 → (q 5) = (q 5) ∧ (q 6) = (q 6)) from ⟨(fun h => absurd h (by decide +kernel)), (fun _ => ⟨rfl, rfl⟩)⟩)⟩, by rw [ht]; exact hP.sub [0] rfl, hD.sub [0] (by decide +kernel) rfl⟩, hS.F ht⟩) hS.2.2 dX13_wait_25
  · refine lv_if_eq (tgt := 23) hx hb dX13_wait_9 (by decide +kernel) (fun _ => ?_) (fun c9 => absurd c9 (by decide +kernel))
    refine lv_bipush (v := (-2)) hx hb dX13_wait_23 (by decide +kernel) ?_
    exact W.iret hx hb hr (fun t ht hW => ⟨⟨_, ((q 5), (q 6)), rfl, ⟨(show ((-2) : Int32) = sp_wait x1 x2 from (by first | decide | (unfold sp_wait; (repeat' split) <;> first | rfl | (exfalso; omega)))), (show (1 ≤ (q 4).toInt ∧ (q 4).toInt ≤ 9) ∧ 1 ≤ (q 6).toInt ∧ (q 6).toInt ≤ 9 from (by first | omega | (subst_vars; omega))), (show (((-2) : Int32) = 1 → (q 5) = x1 ∧ (q 6) = x2) ∧ (¬ ((-2) : Int32) = 1 → (q 5) = (q 5) ∧ (q 6) = (q 6)) from ⟨(fun h => absurd h (by decide +kernel)), (fun _ => ⟨rfl, rfl⟩)⟩)⟩, by rw [ht]; exact hP.sub [0] rfl, hD.sub [0] (by decide +kernel) rfl⟩, hS.F ht⟩) hS.2.2 dX13_wait_25
