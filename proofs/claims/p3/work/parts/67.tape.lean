theorem dX13_feed_0 : decode cX13_feed 0 = .ok (.iload_n 1, 1) := by decide +kernel
theorem dX13_feed_1 : decode cX13_feed 1 = .ok (.i2l, 1) := by decide +kernel
theorem dX13_feed_12 : decode cX13_feed 12 = .ok (.bipush (-2), 2) := by decide +kernel
theorem dX13_feed_14 : decode cX13_feed 14 = .ok (.ireturn, 1) := by decide +kernel
theorem dX13_feed_15 : decode cX13_feed 15 = .ok (.aload_n 0, 1) := by decide +kernel
theorem dX13_feed_16 : decode cX13_feed 16 = .ok (.getfield 341, 3) := by decide +kernel
theorem dX13_feed_19 : decode cX13_feed 19 = .ok (.iload_n 1, 1) := by decide +kernel
theorem dX13_feed_2 : decode cX13_feed 2 = .ok (.lconst 1, 1) := by decide +kernel
theorem dX13_feed_20 : decode cX13_feed 20 = .ok (.iadd, 1) := by decide +kernel
theorem dX13_feed_21 : decode cX13_feed 21 = .ok (.bipush 120, 2) := by decide +kernel
theorem dX13_feed_23 : decode cX13_feed 23 = .ok (.if_icmp .le 6, 3) := by decide +kernel
theorem dX13_feed_26 : decode cX13_feed 26 = .ok (.bipush (-4), 2) := by decide +kernel
theorem dX13_feed_28 : decode cX13_feed 28 = .ok (.ireturn, 1) := by decide +kernel
theorem dX13_feed_29 : decode cX13_feed 29 = .ok (.iconst 0, 1) := by decide +kernel
theorem dX13_feed_3 : decode cX13_feed 3 = .ok (.ldc2_w 339, 3) := by decide +kernel
theorem dX13_feed_30 : decode cX13_feed 30 = .ok (.istore_n 3, 1) := by decide +kernel
theorem dX13_feed_31 : decode cX13_feed 31 = .ok (.iload_n 3, 1) := by decide +kernel
theorem dX13_feed_32 : decode cX13_feed 32 = .ok (.iload_n 1, 1) := by decide +kernel
theorem dX13_feed_33 : decode cX13_feed 33 = .ok (.if_icmp .ge 41, 3) := by decide +kernel
theorem dX13_feed_36 : decode cX13_feed 36 = .ok (.aload_n 0, 1) := by decide +kernel
theorem dX13_feed_37 : decode cX13_feed 37 = .ok (.getfield 70, 3) := by decide +kernel
theorem dX13_feed_40 : decode cX13_feed 40 = .ok (.aload_n 0, 1) := by decide +kernel
theorem dX13_feed_41 : decode cX13_feed 41 = .ok (.getfield 341, 3) := by decide +kernel
theorem dX13_feed_44 : decode cX13_feed 44 = .ok (.iload_n 2, 1) := by decide +kernel
theorem dX13_feed_45 : decode cX13_feed 45 = .ok (.bipush 24, 2) := by decide +kernel
theorem dX13_feed_47 : decode cX13_feed 47 = .ok (.bipush 8, 2) := by decide +kernel
theorem dX13_feed_49 : decode cX13_feed 49 = .ok (.iload_n 3, 1) := by decide +kernel
theorem dX13_feed_50 : decode cX13_feed 50 = .ok (.imul, 1) := by decide +kernel
theorem dX13_feed_51 : decode cX13_feed 51 = .ok (.isub, 1) := by decide +kernel
theorem dX13_feed_52 : decode cX13_feed 52 = .ok (.iushr, 1) := by decide +kernel
theorem dX13_feed_53 : decode cX13_feed 53 = .ok (.sipush 255, 3) := by decide +kernel
theorem dX13_feed_56 : decode cX13_feed 56 = .ok (.iand, 1) := by decide +kernel
theorem dX13_feed_57 : decode cX13_feed 57 = .ok (.iastore, 1) := by decide +kernel
theorem dX13_feed_58 : decode cX13_feed 58 = .ok (.aload_n 0, 1) := by decide +kernel
theorem dX13_feed_59 : decode cX13_feed 59 = .ok (.dup, 1) := by decide +kernel
theorem dX13_feed_6 : decode cX13_feed 6 = .ok (.invokestatic 175, 3) := by decide +kernel
theorem dX13_feed_60 : decode cX13_feed 60 = .ok (.getfield 341, 3) := by decide +kernel
theorem dX13_feed_63 : decode cX13_feed 63 = .ok (.iconst 1, 1) := by decide +kernel
theorem dX13_feed_64 : decode cX13_feed 64 = .ok (.iadd, 1) := by decide +kernel
theorem dX13_feed_65 : decode cX13_feed 65 = .ok (.putfield 341, 3) := by decide +kernel
theorem dX13_feed_68 : decode cX13_feed 68 = .ok (.iinc 3 1, 3) := by decide +kernel
theorem dX13_feed_71 : decode cX13_feed 71 = .ok (.goto (-40), 3) := by decide +kernel
theorem dX13_feed_74 : decode cX13_feed 74 = .ok (.aload_n 0, 1) := by decide +kernel
theorem dX13_feed_75 : decode cX13_feed 75 = .ok (.getfield 341, 3) := by decide +kernel
theorem dX13_feed_78 : decode cX13_feed 78 = .ok (.ireturn, 1) := by decide +kernel
theorem dX13_feed_9 : decode cX13_feed 9 = .ok (.ifCond .ne 6, 3) := by decide +kernel
set_option maxRecDepth 20000 in
theorem ggX13_feed_X13_in : GoodIn wsX13_feed wsX13_in := goodIn_r _ [7] rfl (by decide +kernel)
set_option maxRecDepth 20000 in
theorem gX13_feed_X13_in : GoodIn wsX13_feed (va_wsS RX13 175 yX13_in wsX13_in) := goodIn_app (goodIn_of _ (by decide +kernel)) ggX13_feed_X13_in
set_option maxRecDepth 20000 in
theorem in_X13_feed_X13 : ∀ w ∈ wsX130, w ∈ wsX13_feed := sub_r [8, 9, 10, 11, 12, 13, 14, 15, 16, 17, 18, 19, 20, 21, 22, 23, 24, 25, 26, 27, 28, 29, 30, 31, 32, 33, 34, 35, 36, 37, 38, 39, 40, 41, 42, 43, 44, 45, 46, 47, 48, 49, 50, 51, 52] rfl
set_option maxHeartbeats 4000000 in
set_option maxRecDepth 100000 in
theorem c_X13_feed (l : Launch) (D : va_G) (T : Nat → ClassId) (sz : Nat) (h0 : Nat) (q : Nat → Int32) (v : Int64) (w : Int64) (a : Nat → Nat) (f25 : Nat → Int32) (x1 : Int32) (x2 : Int32) (htp : 0 ≤ (q 26).toInt ∧ (q 26).toInt ≤ 120) : Met l yX13_feed wsX13_feed ({ frames := 1, cells := 0, slots := 0, locals := 25 }) (pW [.ref h0, .int x1, .int x2] D T [(h0, .inr (10, (Value.int (q 0) :: Value.int (q 1) :: Value.int (q 2) :: Value.int (q 3) :: Value.int (q 4) :: Value.int (q 5) :: Value.int (q 6) :: Value.int (q 7) :: Value.ref (a 8) :: Value.ref (a 9) :: Value.ref (a 10) :: Value.ref (a 11) :: Value.ref (a 12) :: Value.ref (a 13) :: Value.int (q 14) :: Value.long v :: Value.long w :: Value.ref (a 17) :: Value.ref (a 18) :: Value.ref (a 19) :: Value.ref (a 20) :: Value.ref (a 21) :: Value.ref (a 22) :: Value.ref (a 23) :: Value.int (q 24) :: Value.ref (a 25) :: Value.int (q 26) :: Value.ref (a 27) :: Value.int (q 28) :: Value.int (q 29) :: Value.int (q 30) :: Value.int (q 31) :: Value.int (q 32) :: Value.int (q 33) :: Value.ref (a 34) :: Value.ref (a 35) :: Value.ref (a 36) :: Value.ref (a 37) :: Value.ref (a 38) :: Value.ref (a 39) :: Value.ref (a 40) :: Value.int (q 41) :: Value.ref (a 42) :: Value.int (q 43) :: Value.int (q 44) :: []))), ((a 25), .inl (T 0, 120, .inl f25))] sz) (va_Qi (fun (r : Int32) (u : (Int32) × (Nat → Int32)) => (0 ≤ u.1.toInt ∧ u.1.toInt ≤ 120)) (bW D (va_A [(h0, .inr (10, (Value.int (q 0) :: Value.int (q 1) :: Value.int (q 2) :: Value.int (q 3) :: Value.int (q 4) :: Value.int (q 5) :: Value.int (q 6) :: Value.int (q 7) :: Value.ref (a 8) :: Value.ref (a 9) :: Value.ref (a 10) :: Value.ref (a 11) :: Value.ref (a 12) :: Value.ref (a 13) :: Value.int (q 14) :: Value.long v :: Value.long w :: Value.ref (a 17) :: Value.ref (a 18) :: Value.ref (a 19) :: Value.ref (a 20) :: Value.ref (a 21) :: Value.ref (a 22) :: Value.ref (a 23) :: Value.int (q 24) :: Value.ref (a 25) :: Value.int (q 26) :: Value.ref (a 27) :: Value.int (q 28) :: Value.int (q 29) :: Value.int (q 30) :: Value.int (q 31) :: Value.int (q 32) :: Value.int (q 33) :: Value.ref (a 34) :: Value.ref (a 35) :: Value.ref (a 36) :: Value.ref (a 37) :: Value.ref (a 38) :: Value.ref (a 39) :: Value.ref (a 40) :: Value.int (q 41) :: Value.ref (a 42) :: Value.int (q 43) :: Value.int (q 44) :: []))), ((a 25), .inl (T 0, 120, .inl f25))] sz) (fun (u : (Int32) × (Nat → Int32)) => [(h0, .inr (10, (Value.int (q 0) :: Value.int (q 1) :: Value.int (q 2) :: Value.int (q 3) :: Value.int (q 4) :: Value.int (q 5) :: Value.int (q 6) :: Value.int (q 7) :: Value.ref (a 8) :: Value.ref (a 9) :: Value.ref (a 10) :: Value.ref (a 11) :: Value.ref (a 12) :: Value.ref (a 13) :: Value.int (q 14) :: Value.long v :: Value.long w :: Value.ref (a 17) :: Value.ref (a 18) :: Value.ref (a 19) :: Value.ref (a 20) :: Value.ref (a 21) :: Value.ref (a 22) :: Value.ref (a 23) :: Value.int (q 24) :: Value.ref (a 25) :: Value.int u.1 :: Value.ref (a 27) :: Value.int (q 28) :: Value.int (q 29) :: Value.int (q 30) :: Value.int (q 31) :: Value.int (q 32) :: Value.int (q 33) :: Value.ref (a 34) :: Value.ref (a 35) :: Value.ref (a 36) :: Value.ref (a 37) :: Value.ref (a 38) :: Value.ref (a 39) :: Value.ref (a 40) :: Value.int (q 41) :: Value.ref (a 42) :: Value.int (q 43) :: Value.int (q 44) :: []))), ((a 25), .inl (T 0, 120, .inl u.2))])) (va_A [(h0, .inr (10, (Value.int (q 0) :: Value.int (q 1) :: Value.int (q 2) :: Value.int (q 3) :: Value.int (q 4) :: Value.int (q 5) :: Value.int (q 6) :: Value.int (q 7) :: Value.ref (a 8) :: Value.ref (a 9) :: Value.ref (a 10) :: Value.ref (a 11) :: Value.ref (a 12) :: Value.ref (a 13) :: Value.int (q 14) :: Value.long v :: Value.long w :: Value.ref (a 17) :: Value.ref (a 18) :: Value.ref (a 19) :: Value.ref (a 20) :: Value.ref (a 21) :: Value.ref (a 22) :: Value.ref (a 23) :: Value.int (q 24) :: Value.ref (a 25) :: Value.int (q 26) :: Value.ref (a 27) :: Value.int (q 28) :: Value.int (q 29) :: Value.int (q 30) :: Value.int (q 31) :: Value.int (q 32) :: Value.int (q 33) :: Value.ref (a 34) :: Value.ref (a 35) :: Value.ref (a 36) :: Value.ref (a 37) :: Value.ref (a 38) :: Value.ref (a 39) :: Value.ref (a 40) :: Value.int (q 41) :: Value.ref (a 42) :: Value.int (q 43) :: Value.int (q 44) :: []))), ((a 25), .inl (T 0, 120, .inl f25))] sz)) 0 0 (va_A [(h0, .inr (10, (Value.int (q 0) :: Value.int (q 1) :: Value.int (q 2) :: Value.int (q 3) :: Value.int (q 4) :: Value.int (q 5) :: Value.int (q 6) :: Value.int (q 7) :: Value.ref (a 8) :: Value.ref (a 9) :: Value.ref (a 10) :: Value.ref (a 11) :: Value.ref (a 12) :: Value.ref (a 13) :: Value.int (q 14) :: Value.long v :: Value.long w :: Value.ref (a 17) :: Value.ref (a 18) :: Value.ref (a 19) :: Value.ref (a 20) :: Value.ref (a 21) :: Value.ref (a 22) :: Value.ref (a 23) :: Value.int (q 24) :: Value.ref (a 25) :: Value.int (q 26) :: Value.ref (a 27) :: Value.int (q 28) :: Value.int (q 29) :: Value.int (q 30) :: Value.int (q 31) :: Value.int (q 32) :: Value.int (q 33) :: Value.ref (a 34) :: Value.ref (a 35) :: Value.ref (a 36) :: Value.ref (a 37) :: Value.ref (a 38) :: Value.ref (a 39) :: Value.ref (a 40) :: Value.int (q 41) :: Value.ref (a 42) :: Value.int (q 43) :: Value.int (q 44) :: []))), ((a 25), .inl (T 0, 120, .inl f25))] sz) := by
  refine Met.ofW (cc := cX13_feed) (maxL := 4) (ret := (some .int)) (by decide +kernel) rfl ?_
  intro p e s m args below meth c s₁ B hml hv
  obtain ⟨rfl, hsz, hP, hE, hD0⟩ := hv
  have hx := B.exec
  have hb := B.bytes
  have hr := B.returns
  have hts := atoms_spec (ws := wsX13_feed) B.pre
  have hown : s.vm.findClass RX13 = some m.cls := findClass_of_methodNamed B.named
  have hlocks := B.notSynchronized
  subst hsz
  have hD := hD0.self (sz := s.heap.size)
  generalize hAe : va_A [(h0, .inr (10, (Value.int (q 0) :: Value.int (q 1) :: Value.int (q 2) :: Value.int (q 3) :: Value.int (q 4) :: Value.int (q 5) :: Value.int (q 6) :: Value.int (q 7) :: Value.ref (a 8) :: Value.ref (a 9) :: Value.ref (a 10) :: Value.ref (a 11) :: Value.ref (a 12) :: Value.ref (a 13) :: Value.int (q 14) :: Value.long v :: Value.long w :: Value.ref (a 17) :: Value.ref (a 18) :: Value.ref (a 19) :: Value.ref (a 20) :: Value.ref (a 21) :: Value.ref (a 22) :: Value.ref (a 23) :: Value.int (q 24) :: Value.ref (a 25) :: Value.int (q 26) :: Value.ref (a 27) :: Value.int (q 28) :: Value.int (q 29) :: Value.int (q 30) :: Value.int (q 31) :: Value.int (q 32) :: Value.int (q 33) :: Value.ref (a 34) :: Value.ref (a 35) :: Value.ref (a 36) :: Value.ref (a 37) :: Value.ref (a 38) :: Value.ref (a 39) :: Value.ref (a 40) :: Value.int (q 41) :: Value.ref (a 42) :: Value.int (q 43) :: Value.int (q 44) :: []))), ((a 25), .inl (T 0, 120, .inl f25))] s.heap.size = A at hD ⊢
  have hA : ∀ q : Nat, s.heap.size ≤ q → A q := fun q h => by rw [← hAe]; exact Or.inr h
  have hS : va_S A s.heap s.heap [] := va_S.rf
  have hP : va_P D vwCl [(h0, .inr (10, (Value.int (q 0) :: Value.int (q 1) :: Value.int (q 2) :: Value.int (q 3) :: Value.int (q 4) :: Value.int (q 5) :: Value.int (q 6) :: Value.int (q 7) :: Value.ref (a 8) :: Value.ref (a 9) :: Value.ref (a 10) :: Value.ref (a 11) :: Value.ref (a 12) :: Value.ref (a 13) :: Value.int (q 14) :: Value.long v :: Value.long w :: Value.ref (a 17) :: Value.ref (a 18) :: Value.ref (a 19) :: Value.ref (a 20) :: Value.ref (a 21) :: Value.ref (a 22) :: Value.ref (a 23) :: Value.int (q 24) :: Value.ref (a 25) :: Value.int (q 26) :: Value.ref (a 27) :: Value.int (q 28) :: Value.int (q 29) :: Value.int (q 30) :: Value.int (q 31) :: Value.int (q 32) :: Value.int (q 33) :: Value.ref (a 34) :: Value.ref (a 35) :: Value.ref (a 36) :: Value.ref (a 37) :: Value.ref (a 38) :: Value.ref (a 39) :: Value.ref (a 40) :: Value.int (q 41) :: Value.ref (a 42) :: Value.int (q 43) :: Value.int (q 44) :: []))), ((a 25), .inl (T 0, 120, .inl f25))] s.heap := hP
  have hl := lv_entry ([.ref h0, .int x1, .int x2]) (n := 4) (Nat.le_of_ble_eq_true rfl)
  rw [lg_entry_eq]
  generalize (lg_sl ([.ref h0, .int x1, .int x2]) ++ List.replicate (4 - (lg_sl ([.ref h0, .int x1, .int x2])).length) Slot.unset).toArray = ls at hl ⊢
  have hl : lv_has ls 4 [(0, .ref h0), (1, .int x1), (2, .int x2)] := hl
  clear hD0
  refine lv_iload_n hx hb dX13_feed_0 rfl (lv_at hl 1 rfl) ?_
  refine lv_i2l hx hb dX13_feed_1 rfl ?_
  refine lv_lconst (v := 1) hx hb dX13_feed_2 (by decide +kernel) ?_
  refine lv_ldc2 (v := 4) hx hb hown (hts (.constantLong RX13 339 (4)) (List.mem_of_getElem? (i := 1) rfl)) dX13_feed_3 ?_
  refine vp_callSi (W.runS (As := [.long (x1.toInt64), .long 1, .long 4]) (rest := []) ⟨hx, hb, hml, hown, hts⟩ (c_X13_in l D T (x1.toInt64) 1 4 x1.toInt 1 4 ((Int32.toInt_toInt64 _).trans rfl) (by decide +kernel) (by decide +kernel)) (va_cwS 3 hts gX13_feed_X13_in rfl rfl rfl hs_X13_in ⟨Nat.le_of_ble_eq_true rfl, Nat.le_of_ble_eq_true rfl⟩) (pR_S hP hE [] rfl) rfl rfl hl.1 rfl (lv_room (Nat.le_of_ble_eq_true rfl)) dX13_feed_6 ⟨Nat.le_of_ble_eq_true rfl, Nat.le_of_ble_eq_true rfl⟩) (fun r_1 hr_1 => ?_)
  rcases bool_post hr_1 with ⟨c_2, rfl⟩ | ⟨c_2, rfl⟩
  · refine lv_if_ne (tgt := 15) hx hb dX13_feed_9 (by decide +kernel) (fun _ => ?_) (fun c9 => absurd c9 (by decide +kernel))
    refine lv_aload_n hx hb dX13_feed_15 rfl (lv_at hl 0 rfl) ?_
    refine va_get (D := D) (ci := 10) (v := .int (q 26)) (C := RX13) (T := TX13) (N := 45) hx hb hts in_X13_feed_X13 hown hE.1 hP 0 rfl rfl 26 (by decide +kernel) (hts (.fieldLink RX13 341 "ClauseBookModel" "taped" "I") (List.mem_of_getElem? (i := 2) rfl)) (fun _ h9 => h9) rfl dX13_feed_16 ?_
    refine lv_iload_n hx hb dX13_feed_19 rfl (lv_at hl 1 rfl) ?_
    refine lv_iadd hx hb dX13_feed_20 ?_
    have hs9 : ((q 26) + x1).toInt = (q 26).toInt + x1.toInt := fb_addI (by omega) (by omega)
    refine lv_bipush (v := 120) hx hb dX13_feed_21 (by decide +kernel) ?_
    refine lv_icmp_le (tgt := 29) hx hb dX13_feed_23 (by decide +kernel) (fun c_3 => ?_) (fun c_3 => ?_)
    · rw [fa_le] at c_3
      try rw [ti_120] at c_3
      refine lv_iconst (v := 0) hx hb dX13_feed_29 (by decide +kernel) ?_
      refine lv_istore_n (lv' := [(3, .int 0), (0, .ref h0), (1, .int x1), (2, .int x2)]) hx hb dX13_feed_30 rfl hl (by decide +kernel) rfl (fun ls hl => ?_)
      refine loopW (σ := (Int32) × (Int32) × (Nat → Int32)) (fun x9 ls H locs => lv_has ls 4 [(3, .int x9.1), (0, .ref h0), (1, .int x1), (2, .int x2)] ∧ va_P D vwCl [(h0, .inr (10, (Value.int (q 0) :: Value.int (q 1) :: Value.int (q 2) :: Value.int (q 3) :: Value.int (q 4) :: Value.int (q 5) :: Value.int (q 6) :: Value.int (q 7) :: Value.ref (a 8) :: Value.ref (a 9) :: Value.ref (a 10) :: Value.ref (a 11) :: Value.ref (a 12) :: Value.ref (a 13) :: Value.int (q 14) :: Value.long v :: Value.long w :: Value.ref (a 17) :: Value.ref (a 18) :: Value.ref (a 19) :: Value.ref (a 20) :: Value.ref (a 21) :: Value.ref (a 22) :: Value.ref (a 23) :: Value.int (q 24) :: Value.ref (a 25) :: Value.int x9.2.1 :: Value.ref (a 27) :: Value.int (q 28) :: Value.int (q 29) :: Value.int (q 30) :: Value.int (q 31) :: Value.int (q 32) :: Value.int (q 33) :: Value.ref (a 34) :: Value.ref (a 35) :: Value.ref (a 36) :: Value.ref (a 37) :: Value.ref (a 38) :: Value.ref (a 39) :: Value.ref (a 40) :: Value.int (q 41) :: Value.ref (a 42) :: Value.int (q 43) :: Value.int (q 44) :: []))), ((a 25), .inl (T 0, 120, .inl x9.2.2))] H ∧ va_D A [(h0, .inr (10, (Value.int (q 0) :: Value.int (q 1) :: Value.int (q 2) :: Value.int (q 3) :: Value.int (q 4) :: Value.int (q 5) :: Value.int (q 6) :: Value.int (q 7) :: Value.ref (a 8) :: Value.ref (a 9) :: Value.ref (a 10) :: Value.ref (a 11) :: Value.ref (a 12) :: Value.ref (a 13) :: Value.int (q 14) :: Value.long v :: Value.long w :: Value.ref (a 17) :: Value.ref (a 18) :: Value.ref (a 19) :: Value.ref (a 20) :: Value.ref (a 21) :: Value.ref (a 22) :: Value.ref (a 23) :: Value.int (q 24) :: Value.ref (a 25) :: Value.int x9.2.1 :: Value.ref (a 27) :: Value.int (q 28) :: Value.int (q 29) :: Value.int (q 30) :: Value.int (q 31) :: Value.int (q 32) :: Value.int (q 33) :: Value.ref (a 34) :: Value.ref (a 35) :: Value.ref (a 36) :: Value.ref (a 37) :: Value.ref (a 38) :: Value.ref (a 39) :: Value.ref (a 40) :: Value.int (q 41) :: Value.ref (a 42) :: Value.int (q 43) :: Value.int (q 44) :: []))), ((a 25), .inl (T 0, 120, .inl x9.2.2))] ∧ va_S A s.heap H locs ∧ (0 ≤ x9.1.toInt ∧ x9.1.toInt ≤ x1.toInt ∧ x9.2.1.toInt = (q 26).toInt + x9.1.toInt)) (fun x9 => (5 - x9.1.toInt).toNat) (fun x9 ls H locs hI ih => ?_) (0, (q 26), f25) ls ⟨lv_sub hl [0, 1, 2, 3] rfl, hP.sub [0, 1] rfl, hD.sub [0, 1] (by decide +kernel) rfl, hS, (by (try dsimp only); rw [ti_0]; omega)⟩
      obtain ⟨kk, tt, g25⟩ := x9
      obtain ⟨hl, hP, hD, hS, hinv⟩ := hI
      have hl : lv_has ls 4 [(3, .int kk), (0, .ref h0), (1, .int x1), (2, .int x2)] := hl
      have hP : va_P D vwCl [(h0, .inr (10, (Value.int (q 0) :: Value.int (q 1) :: Value.int (q 2) :: Value.int (q 3) :: Value.int (q 4) :: Value.int (q 5) :: Value.int (q 6) :: Value.int (q 7) :: Value.ref (a 8) :: Value.ref (a 9) :: Value.ref (a 10) :: Value.ref (a 11) :: Value.ref (a 12) :: Value.ref (a 13) :: Value.int (q 14) :: Value.long v :: Value.long w :: Value.ref (a 17) :: Value.ref (a 18) :: Value.ref (a 19) :: Value.ref (a 20) :: Value.ref (a 21) :: Value.ref (a 22) :: Value.ref (a 23) :: Value.int (q 24) :: Value.ref (a 25) :: Value.int tt :: Value.ref (a 27) :: Value.int (q 28) :: Value.int (q 29) :: Value.int (q 30) :: Value.int (q 31) :: Value.int (q 32) :: Value.int (q 33) :: Value.ref (a 34) :: Value.ref (a 35) :: Value.ref (a 36) :: Value.ref (a 37) :: Value.ref (a 38) :: Value.ref (a 39) :: Value.ref (a 40) :: Value.int (q 41) :: Value.ref (a 42) :: Value.int (q 43) :: Value.int (q 44) :: []))), ((a 25), .inl (T 0, 120, .inl g25))] H := hP
      have hD : va_D A [(h0, .inr (10, (Value.int (q 0) :: Value.int (q 1) :: Value.int (q 2) :: Value.int (q 3) :: Value.int (q 4) :: Value.int (q 5) :: Value.int (q 6) :: Value.int (q 7) :: Value.ref (a 8) :: Value.ref (a 9) :: Value.ref (a 10) :: Value.ref (a 11) :: Value.ref (a 12) :: Value.ref (a 13) :: Value.int (q 14) :: Value.long v :: Value.long w :: Value.ref (a 17) :: Value.ref (a 18) :: Value.ref (a 19) :: Value.ref (a 20) :: Value.ref (a 21) :: Value.ref (a 22) :: Value.ref (a 23) :: Value.int (q 24) :: Value.ref (a 25) :: Value.int tt :: Value.ref (a 27) :: Value.int (q 28) :: Value.int (q 29) :: Value.int (q 30) :: Value.int (q 31) :: Value.int (q 32) :: Value.int (q 33) :: Value.ref (a 34) :: Value.ref (a 35) :: Value.ref (a 36) :: Value.ref (a 37) :: Value.ref (a 38) :: Value.ref (a 39) :: Value.ref (a 40) :: Value.int (q 41) :: Value.ref (a 42) :: Value.int (q 43) :: Value.int (q 44) :: []))), ((a 25), .inl (T 0, 120, .inl g25))] := hD
      have hinv : 0 ≤ kk.toInt ∧ kk.toInt ≤ x1.toInt ∧ tt.toInt = (q 26).toInt + kk.toInt := hinv
      refine lv_iload_n hx hb dX13_feed_31 rfl (lv_at hl 0 rfl) ?_
      refine lv_iload_n hx hb dX13_feed_32 rfl (lv_at hl 2 rfl) ?_
      refine lv_icmp_ge (tgt := 74) hx hb dX13_feed_33 (by decide +kernel) (fun c_4 => ?_) (fun c_4 => ?_)
      · rw [fa_le] at c_4
        refine lv_aload_n hx hb dX13_feed_74 rfl (lv_at hl 1 rfl) ?_
        refine va_get (D := D) (ci := 10) (v := .int tt) (C := RX13) (T := TX13) (N := 45) hx hb hts in_X13_feed_X13 hown hE.1 hP 0 rfl rfl 26 (by decide +kernel) (hts (.fieldLink RX13 341 "ClauseBookModel" "taped" "I") (List.mem_of_getElem? (i := 2) rfl)) (fun _ h9 => h9) rfl dX13_feed_75 ?_
        exact W.iret hx hb hr (fun t ht hW => ⟨⟨_, (tt, g25), rfl, (show 0 ≤ tt.toInt ∧ tt.toInt ≤ 120 from (by first | omega | (subst_vars; omega))), by rw [ht]; exact hP.sub [0, 1] rfl, hD.sub [0, 1] (by decide +kernel) rfl⟩, hS.F ht⟩) hS.2.2 dX13_feed_78
      · rw [fa_le] at c_4
        refine lv_aload_n hx hb dX13_feed_36 rfl (lv_at hl 1 rfl) ?_
        refine va_get (D := D) (ci := 10) (v := .ref (a 25)) (C := RX13) (T := TX13) (N := 45) hx hb hts in_X13_feed_X13 hown hE.1 hP 0 rfl rfl 25 (by decide +kernel) (hts (.fieldLink RX13 70 "ClauseBookModel" "tape" "[I") (List.mem_of_getElem? (i := 3) rfl)) (fun _ h9 => h9) rfl dX13_feed_37 ?_
        refine lv_aload_n hx hb dX13_feed_40 rfl (lv_at hl 1 rfl) ?_
        refine va_get (D := D) (ci := 10) (v := .int tt) (C := RX13) (T := TX13) (N := 45) hx hb hts in_X13_feed_X13 hown hE.1 hP 0 rfl rfl 26 (by decide +kernel) (hts (.fieldLink RX13 341 "ClauseBookModel" "taped" "I") (List.mem_of_getElem? (i := 2) rfl)) (fun _ h9 => h9) rfl dX13_feed_41 ?_
        refine lv_iload_n hx hb dX13_feed_44 rfl (lv_at hl 3 rfl) ?_
        refine lv_bipush (v := 24) hx hb dX13_feed_45 (by decide +kernel) ?_
        refine lv_bipush (v := 8) hx hb dX13_feed_47 (by decide +kernel) ?_
        refine lv_iload_n hx hb dX13_feed_49 rfl (lv_at hl 0 rfl) ?_
        refine lv_imul hx hb dX13_feed_50 ?_
        refine lv_isub hx hb dX13_feed_51 ?_
        obtain ⟨z_5, ez_5⟩ : ∃ y : Int32, (x2.toUInt32 >>> ((24 - (8 * kk)).toUInt32 &&& Int32.toUInt32 31)).toInt32 = y := ⟨_, rfl⟩
        refine lv_iushr (v := z_5) hx hb dX13_feed_52 ez_5 ?_
        refine lv_sipush (v := 255) hx hb dX13_feed_53 (by decide +kernel) ?_
        refine lv_iand hx hb dX13_feed_56 ?_
        refine va_iast hx hb hE.1 hP hD hS 1 0 rfl rfl (by rw [vp_in_iff]; first | omega | (subst_vars; omega)) dX13_feed_57 (fun H locs hP hD hS => ?_)
        obtain ⟨hP, hD⟩ := wPD [(h0, .inr (10, (Value.int (q 0) :: Value.int (q 1) :: Value.int (q 2) :: Value.int (q 3) :: Value.int (q 4) :: Value.int (q 5) :: Value.int (q 6) :: Value.int (q 7) :: Value.ref (a 8) :: Value.ref (a 9) :: Value.ref (a 10) :: Value.ref (a 11) :: Value.ref (a 12) :: Value.ref (a 13) :: Value.int (q 14) :: Value.long v :: Value.long w :: Value.ref (a 17) :: Value.ref (a 18) :: Value.ref (a 19) :: Value.ref (a 20) :: Value.ref (a 21) :: Value.ref (a 22) :: Value.ref (a 23) :: Value.int (q 24) :: Value.ref (a 25) :: Value.int tt :: Value.ref (a 27) :: Value.int (q 28) :: Value.int (q 29) :: Value.int (q 30) :: Value.int (q 31) :: Value.int (q 32) :: Value.int (q 33) :: Value.ref (a 34) :: Value.ref (a 35) :: Value.ref (a 36) :: Value.ref (a 37) :: Value.ref (a 38) :: Value.ref (a 39) :: Value.ref (a 40) :: Value.int (q 41) :: Value.ref (a 42) :: Value.int (q 43) :: Value.int (q 44) :: []))), ((a 25), .inl (T 0, 120, .inl (upd g25 (tt.toNatClampNeg) (z_5 &&& 255))))] hP hD rfl
        refine lv_aload_n hx hb dX13_feed_58 rfl (lv_at hl 1 rfl) ?_
        refine lv_dup hx hb dX13_feed_59 rfl ?_
        refine va_get (D := D) (ci := 10) (v := .int tt) (C := RX13) (T := TX13) (N := 45) hx hb hts in_X13_feed_X13 hown hE.1 hP 0 rfl rfl 26 (by decide +kernel) (hts (.fieldLink RX13 341 "ClauseBookModel" "taped" "I") (List.mem_of_getElem? (i := 2) rfl)) (fun _ h9 => h9) rfl dX13_feed_60 ?_
        refine lv_iconst (v := 1) hx hb dX13_feed_63 (by decide +kernel) ?_
        refine lv_iadd hx hb dX13_feed_64 ?_
        refine lv_topi (fun z_6 ez_6 => ?_)
        refine va_put (D := D) (ci := 10) (v := .int z_6) (ty := .int) (C := RX13) (T := TX13) (N := 45) hx hb hts in_X13_feed_X13 tyX13 tyX13_ok nmX13 hown hE.1 hP hD hS 0 rfl rfl 26 (by decide +kernel) (hts (.fieldLink RX13 341 "ClauseBookModel" "taped" "I") (List.mem_of_getElem? (i := 2) rfl)) (fun _ h9 => h9) rfl (by decide +kernel) rfl rfl (Nat.le_of_ble_eq_true rfl) dX13_feed_65 (fun H locs hP hD hS => ?_)
        obtain ⟨hP, hD⟩ := wPD [(h0, .inr (10, (Value.int (q 0) :: Value.int (q 1) :: Value.int (q 2) :: Value.int (q 3) :: Value.int (q 4) :: Value.int (q 5) :: Value.int (q 6) :: Value.int (q 7) :: Value.ref (a 8) :: Value.ref (a 9) :: Value.ref (a 10) :: Value.ref (a 11) :: Value.ref (a 12) :: Value.ref (a 13) :: Value.int (q 14) :: Value.long v :: Value.long w :: Value.ref (a 17) :: Value.ref (a 18) :: Value.ref (a 19) :: Value.ref (a 20) :: Value.ref (a 21) :: Value.ref (a 22) :: Value.ref (a 23) :: Value.int (q 24) :: Value.ref (a 25) :: Value.int z_6 :: Value.ref (a 27) :: Value.int (q 28) :: Value.int (q 29) :: Value.int (q 30) :: Value.int (q 31) :: Value.int (q 32) :: Value.int (q 33) :: Value.ref (a 34) :: Value.ref (a 35) :: Value.ref (a 36) :: Value.ref (a 37) :: Value.ref (a 38) :: Value.ref (a 39) :: Value.ref (a 40) :: Value.int (q 41) :: Value.ref (a 42) :: Value.int (q 43) :: Value.int (q 44) :: []))), ((a 25), .inl (T 0, 120, .inl (upd g25 (tt.toNatClampNeg) (z_5 &&& 255))))] hP hD rfl
        obtain ⟨z_7, ez_7⟩ : ∃ y : Int32, y = kk + 1 := ⟨_, rfl⟩
        refine lv_iinc (v := z_7) (lv' := [(3, .int z_7), (0, .ref h0), (1, .int x1), (2, .int x2)]) hx hb dX13_feed_68 hl (k := 0) rfl (by rw [ez_7]; rfl) (by decide +kernel) rfl (fun ls hl => ?_)
        refine lv_goto (tgt := 31) hx hb dX13_feed_71 (by decide +kernel) ?_
        exact ih (z_7, z_6, (upd g25 (tt.toNatClampNeg) (z_5 &&& 255))) ls _ _ ⟨lv_sub hl [0, 1, 2, 3] rfl, hP.sub [0, 1] rfl, hD.sub [0, 1] (by decide +kernel) rfl, hS, (by subst_vars; (try dsimp only); rw [inc1 (i := kk) (n := 1000) (by omega) (by decide +kernel), inc1 (i := tt) (n := 1000) (by omega) (by decide +kernel)]; omega)⟩ (by subst_vars; (try dsimp only); rw [inc1 (i := kk) (n := 1000) (by omega) (by decide +kernel)]; omega)
    · rw [fa_le] at c_3
      try rw [ti_120] at c_3
      refine lv_bipush (v := (-4)) hx hb dX13_feed_26 (by decide +kernel) ?_
      exact W.iret hx hb hr (fun t ht hW => ⟨⟨_, ((q 26), f25), rfl, (show 0 ≤ (q 26).toInt ∧ (q 26).toInt ≤ 120 from (by first | omega | (subst_vars; omega))), by rw [ht]; exact hP.sub [0, 1] rfl, hD.sub [0, 1] (by decide +kernel) rfl⟩, hS.F ht⟩) hS.2.2 dX13_feed_28
  · refine lv_if_ne (tgt := 15) hx hb dX13_feed_9 (by decide +kernel) (fun c9 => absurd c9 (by decide +kernel)) (fun _ => ?_)
    refine lv_bipush (v := (-2)) hx hb dX13_feed_12 (by decide +kernel) ?_
    exact W.iret hx hb hr (fun t ht hW => ⟨⟨_, ((q 26), f25), rfl, (show 0 ≤ (q 26).toInt ∧ (q 26).toInt ≤ 120 from (by first | omega | (subst_vars; omega))), by rw [ht]; exact hP.sub [0, 1] rfl, hD.sub [0, 1] (by decide +kernel) rfl⟩, hS.F ht⟩) hS.2.2 dX13_feed_14
theorem dX13_here_0 : decode cX13_here 0 = .ok (.aload_n 0, 1) := by decide +kernel
theorem dX13_here_1 : decode cX13_here 1 = .ok (.getfield 344, 3) := by decide +kernel
theorem dX13_here_11 : decode cX13_here 11 = .ok (.aload_n 0, 1) := by decide +kernel
theorem dX13_here_12 : decode cX13_here 12 = .ok (.getfield 70, 3) := by decide +kernel
theorem dX13_here_15 : decode cX13_here 15 = .ok (.aload_n 0, 1) := by decide +kernel
theorem dX13_here_16 : decode cX13_here 16 = .ok (.getfield 344, 3) := by decide +kernel
theorem dX13_here_19 : decode cX13_here 19 = .ok (.iaload, 1) := by decide +kernel
theorem dX13_here_20 : decode cX13_here 20 = .ok (.goto 4, 3) := by decide +kernel
theorem dX13_here_23 : decode cX13_here 23 = .ok (.iconst (-1), 1) := by decide +kernel
theorem dX13_here_24 : decode cX13_here 24 = .ok (.ireturn, 1) := by decide +kernel
theorem dX13_here_4 : decode cX13_here 4 = .ok (.aload_n 0, 1) := by decide +kernel
theorem dX13_here_5 : decode cX13_here 5 = .ok (.getfield 341, 3) := by decide +kernel
theorem dX13_here_8 : decode cX13_here 8 = .ok (.if_icmp .ge 15, 3) := by decide +kernel
set_option maxRecDepth 20000 in
theorem in_X13_here_X13 : ∀ w ∈ wsX130, w ∈ wsX13_here := sub_r [4, 5, 6, 7, 8, 9, 10, 11, 12, 13, 14, 15, 16, 17, 18, 19, 20, 21, 22, 23, 24, 25, 26, 27, 28, 29, 30, 31, 32, 33, 34, 35, 36, 37, 38, 39, 40, 41, 42, 43, 44, 45, 46, 47, 48] rfl
set_option maxHeartbeats 4000000 in
set_option maxRecDepth 100000 in
theorem c_X13_here (l : Launch) (D : va_G) (T : Nat → ClassId) (h0 : Nat) (fs0 : List Value) (h1 : Nat) (f1 : Nat → Int32) (cu : Int32) (n : Int32) (e0_28 : fs0[28]? = some (.int cu)) (e0_26 : fs0[26]? = some (.int n)) (e0_25 : fs0[25]? = some (.ref h1)) (hcu : 0 ≤ cu.toInt ∧ cu.toInt ≤ n.toInt ∧ n.toInt ≤ 120) : Met l yX13_here wsX13_here ({ frames := 0, cells := 0, slots := 0, locals := 0 }) (pR [.ref h0] D T [(h0, .inr (10, fs0)), (h1, .inl (T 0, 120, .inl f1))]) (vp_Si (fun r => r.toInt = -1 ∨ cu.toInt < n.toInt)) 0 0 (fun _ => False) := by
  refine Met.ofW (cc := cX13_here) (maxL := 1) (ret := (some .int)) (by decide +kernel) rfl ?_
  intro p e s m args below meth c s₁ B hml hv
  obtain ⟨rfl, hP, hE⟩ := hv
  have hx := B.exec
  have hb := B.bytes
  have hr := B.returns
  have hts := atoms_spec (ws := wsX13_here) B.pre
  have hown : s.vm.findClass RX13 = some m.cls := findClass_of_methodNamed B.named
  have hlocks := B.notSynchronized
  have hP : va_P D vwCl [(h0, .inr (10, fs0)), (h1, .inl (T 0, 120, .inl f1))] s.heap := hP
  have hl := lv_entry ([.ref h0]) (n := 1) (Nat.le_of_ble_eq_true rfl)
  rw [lg_entry_eq]
  generalize (lg_sl ([.ref h0]) ++ List.replicate (1 - (lg_sl ([.ref h0])).length) Slot.unset).toArray = ls at hl ⊢
  have hl : lv_has ls 1 [(0, .ref h0)] := hl
  refine lv_aload_n hx hb dX13_here_0 rfl (lv_at hl 0 rfl) ?_
  refine va_get (D := D) (ci := 10) (v := .int cu) (C := RX13) (T := TX13) (N := 45) hx hb hts in_X13_here_X13 hown hE.1 hP 0 rfl rfl 28 (by decide +kernel) (hts (.fieldLink RX13 344 "ClauseBookModel" "cursor" "I") (List.mem_of_getElem? (i := 1) rfl)) (fun _ h9 => h9) e0_28 dX13_here_1 ?_
  refine lv_aload_n hx hb dX13_here_4 rfl (lv_at hl 0 rfl) ?_
  refine va_get (D := D) (ci := 10) (v := .int n) (C := RX13) (T := TX13) (N := 45) hx hb hts in_X13_here_X13 hown hE.1 hP 0 rfl rfl 26 (by decide +kernel) (hts (.fieldLink RX13 341 "ClauseBookModel" "taped" "I") (List.mem_of_getElem? (i := 2) rfl)) (fun _ h9 => h9) e0_26 dX13_here_5 ?_
  refine lv_icmp_ge (tgt := 23) hx hb dX13_here_8 (by decide +kernel) (fun c_1 => ?_) (fun c_1 => ?_)
  · rw [fa_le] at c_1
    refine lv_iconst (v := (-1)) hx hb dX13_here_23 (by decide +kernel) ?_
    exact W.iret hx hb hr (fun t ht hW => ⟨_, rfl, (Or.inl (by decide +kernel)), ht⟩) (fun _ h => by cases h) dX13_here_24
  · rw [fa_le] at c_1
    refine lv_aload_n hx hb dX13_here_11 rfl (lv_at hl 0 rfl) ?_
    refine va_get (D := D) (ci := 10) (v := .ref h1) (C := RX13) (T := TX13) (N := 45) hx hb hts in_X13_here_X13 hown hE.1 hP 0 rfl rfl 25 (by decide +kernel) (hts (.fieldLink RX13 70 "ClauseBookModel" "tape" "[I") (List.mem_of_getElem? (i := 3) rfl)) (fun _ h9 => h9) e0_25 dX13_here_12 ?_
    refine lv_aload_n hx hb dX13_here_15 rfl (lv_at hl 0 rfl) ?_
    refine va_get (D := D) (ci := 10) (v := .int cu) (C := RX13) (T := TX13) (N := 45) hx hb hts in_X13_here_X13 hown hE.1 hP 0 rfl rfl 28 (by decide +kernel) (hts (.fieldLink RX13 344 "ClauseBookModel" "cursor" "I") (List.mem_of_getElem? (i := 1) rfl)) (fun _ h9 => h9) e0_28 dX13_here_16 ?_
    refine va_iald hx hb hE.1 hP 1 0 rfl rfl (by rw [vp_in_iff]; first | omega | (subst_vars; omega)) dX13_here_19 ?_
    refine lv_topi (fun z_2 ez_2 => ?_)
    refine lv_goto (tgt := 24) hx hb dX13_here_20 (by decide +kernel) ?_
    exact W.iret hx hb hr (fun t ht hW => ⟨_, rfl, (Or.inr (by omega)), ht⟩) (fun _ h => by cases h) dX13_here_24
theorem dX13_isDigit_0 : decode cX13_isDigit 0 = .ok (.aload_n 0, 1) := by decide +kernel
theorem dX13_isDigit_1 : decode cX13_isDigit 1 = .ok (.invokevirtual 350, 3) := by decide +kernel
theorem dX13_isDigit_11 : decode cX13_isDigit 11 = .ok (.invokestatic 175, 3) := by decide +kernel
theorem dX13_isDigit_14 : decode cX13_isDigit 14 = .ok (.ireturn, 1) := by decide +kernel
theorem dX13_isDigit_4 : decode cX13_isDigit 4 = .ok (.i2l, 1) := by decide +kernel
theorem dX13_isDigit_5 : decode cX13_isDigit 5 = .ok (.ldc2_w 354, 3) := by decide +kernel
theorem dX13_isDigit_8 : decode cX13_isDigit 8 = .ok (.ldc2_w 356, 3) := by decide +kernel
set_option maxRecDepth 20000 in
theorem ggX13_isDigit_X13_here : GoodIn wsX13_isDigit wsX13_here := goodIn_r _ [7, 8, 9, 10, 14, 15, 16, 17, 18, 19, 20, 21, 22, 23, 24, 25, 26, 27, 28, 29, 30, 31, 32, 33, 34, 35, 36, 37, 38, 39, 40, 41, 42, 43, 44, 45, 46, 47, 48, 49, 50, 51, 52, 53, 54, 55, 56, 57, 58] rfl (by decide +kernel)
set_option maxRecDepth 20000 in
theorem ggX13_isDigit_X13_in : GoodIn wsX13_isDigit wsX13_in := goodIn_r _ [13] rfl (by decide +kernel)
set_option maxRecDepth 20000 in
theorem gX13_isDigit_X13_here : GoodIn wsX13_isDigit (wsV RX13 350 RX13 yX13_here wsX13_here) := goodIn_app (goodIn_r _ [3, 4, 5, 6] rfl (by decide +kernel)) ggX13_isDigit_X13_here
set_option maxRecDepth 20000 in
theorem gX13_isDigit_X13_in : GoodIn wsX13_isDigit (va_wsS RX13 175 yX13_in wsX13_in) := goodIn_app (goodIn_of _ (by decide +kernel)) ggX13_isDigit_X13_in
theorem hv_X13_here : yX13_here.cls = RX13 ∧ yX13_here.cls ≠ "java/lang/invoke/MethodHandle" ∧ yX13_here.cls ≠ "java/lang/invoke/VarHandle" ∧ (parseMethodDescriptor yX13_here.desc).map (fun d => d.parameters.length) = some 0 := by decide +kernel
set_option maxHeartbeats 4000000 in
set_option maxRecDepth 100000 in
theorem c_X13_isDigit (l : Launch) (D : va_G) (T : Nat → ClassId) (h0 : Nat) (fs0 : List Value) (h1 : Nat) (f1 : Nat → Int32) (cu : Int32) (n : Int32) (e0_28 : fs0[28]? = some (.int cu)) (e0_26 : fs0[26]? = some (.int n)) (e0_25 : fs0[25]? = some (.ref h1)) (hcu : 0 ≤ cu.toInt ∧ cu.toInt ≤ n.toInt ∧ n.toInt ≤ 120) : Met l yX13_isDigit wsX13_isDigit ({ frames := 1, cells := 0, slots := 0, locals := 25 }) (pR [.ref h0] D T [(h0, .inr (10, fs0)), (h1, .inl (T 0, 120, .inl f1))]) (vp_Si (fun r => isB r ∧ (r.toInt ≠ 0 → cu.toInt < n.toInt))) 0 0 (fun _ => False) := by
  refine Met.ofW (cc := cX13_isDigit) (maxL := 1) (ret := (some .boolean)) (by decide +kernel) rfl ?_
  intro p e s m args below meth c s₁ B hml hv
  obtain ⟨rfl, hP, hE⟩ := hv
  have hx := B.exec
  have hb := B.bytes
  have hr := B.returns
  have hts := atoms_spec (ws := wsX13_isDigit) B.pre
  have hown : s.vm.findClass RX13 = some m.cls := findClass_of_methodNamed B.named
  have hlocks := B.notSynchronized
  have hP : va_P D vwCl [(h0, .inr (10, fs0)), (h1, .inl (T 0, 120, .inl f1))] s.heap := hP
  have hl := lv_entry ([.ref h0]) (n := 1) (Nat.le_of_ble_eq_true rfl)
  rw [lg_entry_eq]
  generalize (lg_sl ([.ref h0]) ++ List.replicate (1 - (lg_sl ([.ref h0])).length) Slot.unset).toArray = ls at hl ⊢
  have hl : lv_has ls 1 [(0, .ref h0)] := hl
  refine lv_aload_n hx hb dX13_isDigit_0 rfl (lv_at hl 0 rfl) ?_
  refine vp_callSi (W.runV (As := []) (rest := []) ⟨hx, hb, hml, hown, hts⟩ (c_X13_here l D T h0 fs0 h1 f1 cu n e0_28 e0_26 e0_25 (by omega)) (cwV 0 hts gX13_isDigit_X13_here rfl rfl rfl hv_X13_here ⟨Nat.le_of_ble_eq_true rfl, Nat.le_of_ble_eq_true rfl⟩) (pR_V (ci := 10) (q0 := 0) hP hE rfl rfl [0, 1] rfl) rfl rfl hl.1 rfl (lv_room (Nat.le_of_ble_eq_true rfl)) dX13_isDigit_1 ⟨Nat.le_of_ble_eq_true rfl, Nat.le_of_ble_eq_true rfl⟩) (fun r_1 hr_1 => ?_)
  refine lv_i2l hx hb dX13_isDigit_4 rfl ?_
  refine lv_ldc2 (v := 48) hx hb hown (hts (.constantLong RX13 354 (48)) (List.mem_of_getElem? (i := 1) rfl)) dX13_isDigit_5 ?_
  refine lv_ldc2 (v := 57) hx hb hown (hts (.constantLong RX13 356 (57)) (List.mem_of_getElem? (i := 2) rfl)) dX13_isDigit_8 ?_
  refine vp_callSi (W.runS (As := [.long (r_1.toInt64), .long 48, .long 57]) (rest := []) ⟨hx, hb, hml, hown, hts⟩ (c_X13_in l D T (r_1.toInt64) 48 57 r_1.toInt 48 57 ((Int32.toInt_toInt64 _).trans rfl) (by decide +kernel) (by decide +kernel)) (va_cwS 3 hts gX13_isDigit_X13_in rfl rfl rfl hs_X13_in ⟨Nat.le_of_ble_eq_true rfl, Nat.le_of_ble_eq_true rfl⟩) (pR_S hP hE [] rfl) rfl rfl hl.1 rfl (lv_room (Nat.le_of_ble_eq_true rfl)) dX13_isDigit_11 ⟨Nat.le_of_ble_eq_true rfl, Nat.le_of_ble_eq_true rfl⟩) (fun r_2 hr_2 => ?_)
  rcases bool_post hr_2 with ⟨c_3, rfl⟩ | ⟨c_3, rfl⟩
  · exact W.zret hx hb hr rfl (fun t ht hW => ⟨_, rfl, ⟨isB1, (fun _ => by omega)⟩, ht⟩) (fun _ h => by cases h) dX13_isDigit_14
  · exact W.zret hx hb hr rfl (fun t ht hW => ⟨_, rfl, ⟨isB0, (fun h9 => absurd (by decide +kernel) h9)⟩, ht⟩) (fun _ h => by cases h) dX13_isDigit_14
theorem dX13_must_0 : decode cX13_must 0 = .ok (.aload_n 0, 1) := by decide +kernel
theorem dX13_must_1 : decode cX13_must 1 = .ok (.iload_n 1, 1) := by decide +kernel
theorem dX13_must_12 : decode cX13_must 12 = .ok (.iload_n 2, 1) := by decide +kernel
theorem dX13_must_13 : decode cX13_must 13 = .ok (.putfield 347, 3) := by decide +kernel
theorem dX13_must_16 : decode cX13_must 16 = .ok (.iload_n 1, 1) := by decide +kernel
theorem dX13_must_17 : decode cX13_must 17 = .ok (.ireturn, 1) := by decide +kernel
theorem dX13_must_2 : decode cX13_must 2 = .ok (.ifCond .eq 10, 3) := by decide +kernel
theorem dX13_must_5 : decode cX13_must 5 = .ok (.aload_n 0, 1) := by decide +kernel
theorem dX13_must_6 : decode cX13_must 6 = .ok (.getfield 347, 3) := by decide +kernel
theorem dX13_must_9 : decode cX13_must 9 = .ok (.goto 4, 3) := by decide +kernel
set_option maxRecDepth 20000 in
theorem in_X13_must_X13 : ∀ w ∈ wsX130, w ∈ wsX13_must := sub_r [2, 3, 4, 5, 6, 7, 8, 9, 10, 11, 12, 13, 14, 15, 16, 17, 18, 19, 20, 21, 22, 23, 24, 25, 26, 27, 28, 29, 30, 31, 32, 33, 34, 35, 36, 37, 38, 39, 40, 41, 42, 43, 44, 45, 46] rfl
set_option maxHeartbeats 4000000 in
set_option maxRecDepth 100000 in
theorem c_X13_must (l : Launch) (D : va_G) (T : Nat → ClassId) (sz : Nat) (h0 : Nat) (q : Nat → Int32) (v : Int64) (w : Int64) (a : Nat → Nat) (x1 : Int32) (x2 : Int32) (hgb : isB x1) : Met l yX13_must wsX13_must ({ frames := 0, cells := 0, slots := 0, locals := 0 }) (pW [.ref h0, .int x1, .int x2] D T [(h0, .inr (10, (Value.int (q 0) :: Value.int (q 1) :: Value.int (q 2) :: Value.int (q 3) :: Value.int (q 4) :: Value.int (q 5) :: Value.int (q 6) :: Value.int (q 7) :: Value.ref (a 8) :: Value.ref (a 9) :: Value.ref (a 10) :: Value.ref (a 11) :: Value.ref (a 12) :: Value.ref (a 13) :: Value.int (q 14) :: Value.long v :: Value.long w :: Value.ref (a 17) :: Value.ref (a 18) :: Value.ref (a 19) :: Value.ref (a 20) :: Value.ref (a 21) :: Value.ref (a 22) :: Value.ref (a 23) :: Value.int (q 24) :: Value.ref (a 25) :: Value.int (q 26) :: Value.ref (a 27) :: Value.int (q 28) :: Value.int (q 29) :: Value.int (q 30) :: Value.int (q 31) :: Value.int (q 32) :: Value.int (q 33) :: Value.ref (a 34) :: Value.ref (a 35) :: Value.ref (a 36) :: Value.ref (a 37) :: Value.ref (a 38) :: Value.ref (a 39) :: Value.ref (a 40) :: Value.int (q 41) :: Value.ref (a 42) :: Value.int (q 43) :: Value.int (q 44) :: [])))] sz) (va_Qi (fun (r : Int32) (u : (Int32)) => (r = x1) ∧ (isB r)) (bW D (va_A [(h0, .inr (10, (Value.int (q 0) :: Value.int (q 1) :: Value.int (q 2) :: Value.int (q 3) :: Value.int (q 4) :: Value.int (q 5) :: Value.int (q 6) :: Value.int (q 7) :: Value.ref (a 8) :: Value.ref (a 9) :: Value.ref (a 10) :: Value.ref (a 11) :: Value.ref (a 12) :: Value.ref (a 13) :: Value.int (q 14) :: Value.long v :: Value.long w :: Value.ref (a 17) :: Value.ref (a 18) :: Value.ref (a 19) :: Value.ref (a 20) :: Value.ref (a 21) :: Value.ref (a 22) :: Value.ref (a 23) :: Value.int (q 24) :: Value.ref (a 25) :: Value.int (q 26) :: Value.ref (a 27) :: Value.int (q 28) :: Value.int (q 29) :: Value.int (q 30) :: Value.int (q 31) :: Value.int (q 32) :: Value.int (q 33) :: Value.ref (a 34) :: Value.ref (a 35) :: Value.ref (a 36) :: Value.ref (a 37) :: Value.ref (a 38) :: Value.ref (a 39) :: Value.ref (a 40) :: Value.int (q 41) :: Value.ref (a 42) :: Value.int (q 43) :: Value.int (q 44) :: [])))] sz) (fun (u : (Int32)) => [(h0, .inr (10, (Value.int (q 0) :: Value.int (q 1) :: Value.int (q 2) :: Value.int (q 3) :: Value.int (q 4) :: Value.int (q 5) :: Value.int (q 6) :: Value.int (q 7) :: Value.ref (a 8) :: Value.ref (a 9) :: Value.ref (a 10) :: Value.ref (a 11) :: Value.ref (a 12) :: Value.ref (a 13) :: Value.int (q 14) :: Value.long v :: Value.long w :: Value.ref (a 17) :: Value.ref (a 18) :: Value.ref (a 19) :: Value.ref (a 20) :: Value.ref (a 21) :: Value.ref (a 22) :: Value.ref (a 23) :: Value.int (q 24) :: Value.ref (a 25) :: Value.int (q 26) :: Value.ref (a 27) :: Value.int (q 28) :: Value.int u :: Value.int (q 30) :: Value.int (q 31) :: Value.int (q 32) :: Value.int (q 33) :: Value.ref (a 34) :: Value.ref (a 35) :: Value.ref (a 36) :: Value.ref (a 37) :: Value.ref (a 38) :: Value.ref (a 39) :: Value.ref (a 40) :: Value.int (q 41) :: Value.ref (a 42) :: Value.int (q 43) :: Value.int (q 44) :: [])))])) (va_A [(h0, .inr (10, (Value.int (q 0) :: Value.int (q 1) :: Value.int (q 2) :: Value.int (q 3) :: Value.int (q 4) :: Value.int (q 5) :: Value.int (q 6) :: Value.int (q 7) :: Value.ref (a 8) :: Value.ref (a 9) :: Value.ref (a 10) :: Value.ref (a 11) :: Value.ref (a 12) :: Value.ref (a 13) :: Value.int (q 14) :: Value.long v :: Value.long w :: Value.ref (a 17) :: Value.ref (a 18) :: Value.ref (a 19) :: Value.ref (a 20) :: Value.ref (a 21) :: Value.ref (a 22) :: Value.ref (a 23) :: Value.int (q 24) :: Value.ref (a 25) :: Value.int (q 26) :: Value.ref (a 27) :: Value.int (q 28) :: Value.int (q 29) :: Value.int (q 30) :: Value.int (q 31) :: Value.int (q 32) :: Value.int (q 33) :: Value.ref (a 34) :: Value.ref (a 35) :: Value.ref (a 36) :: Value.ref (a 37) :: Value.ref (a 38) :: Value.ref (a 39) :: Value.ref (a 40) :: Value.int (q 41) :: Value.ref (a 42) :: Value.int (q 43) :: Value.int (q 44) :: [])))] sz)) 0 0 (va_A [(h0, .inr (10, (Value.int (q 0) :: Value.int (q 1) :: Value.int (q 2) :: Value.int (q 3) :: Value.int (q 4) :: Value.int (q 5) :: Value.int (q 6) :: Value.int (q 7) :: Value.ref (a 8) :: Value.ref (a 9) :: Value.ref (a 10) :: Value.ref (a 11) :: Value.ref (a 12) :: Value.ref (a 13) :: Value.int (q 14) :: Value.long v :: Value.long w :: Value.ref (a 17) :: Value.ref (a 18) :: Value.ref (a 19) :: Value.ref (a 20) :: Value.ref (a 21) :: Value.ref (a 22) :: Value.ref (a 23) :: Value.int (q 24) :: Value.ref (a 25) :: Value.int (q 26) :: Value.ref (a 27) :: Value.int (q 28) :: Value.int (q 29) :: Value.int (q 30) :: Value.int (q 31) :: Value.int (q 32) :: Value.int (q 33) :: Value.ref (a 34) :: Value.ref (a 35) :: Value.ref (a 36) :: Value.ref (a 37) :: Value.ref (a 38) :: Value.ref (a 39) :: Value.ref (a 40) :: Value.int (q 41) :: Value.ref (a 42) :: Value.int (q 43) :: Value.int (q 44) :: [])))] sz) := by
  refine Met.ofW (cc := cX13_must) (maxL := 3) (ret := (some .boolean)) (by decide +kernel) rfl ?_
  intro p e s m args below meth c s₁ B hml hv
  obtain ⟨rfl, hsz, hP, hE, hD0⟩ := hv
  have hx := B.exec
  have hb := B.bytes
  have hr := B.returns
  have hts := atoms_spec (ws := wsX13_must) B.pre
  have hown : s.vm.findClass RX13 = some m.cls := findClass_of_methodNamed B.named
  have hlocks := B.notSynchronized
  subst hsz
  have hD := hD0.self (sz := s.heap.size)
  generalize hAe : va_A [(h0, .inr (10, (Value.int (q 0) :: Value.int (q 1) :: Value.int (q 2) :: Value.int (q 3) :: Value.int (q 4) :: Value.int (q 5) :: Value.int (q 6) :: Value.int (q 7) :: Value.ref (a 8) :: Value.ref (a 9) :: Value.ref (a 10) :: Value.ref (a 11) :: Value.ref (a 12) :: Value.ref (a 13) :: Value.int (q 14) :: Value.long v :: Value.long w :: Value.ref (a 17) :: Value.ref (a 18) :: Value.ref (a 19) :: Value.ref (a 20) :: Value.ref (a 21) :: Value.ref (a 22) :: Value.ref (a 23) :: Value.int (q 24) :: Value.ref (a 25) :: Value.int (q 26) :: Value.ref (a 27) :: Value.int (q 28) :: Value.int (q 29) :: Value.int (q 30) :: Value.int (q 31) :: Value.int (q 32) :: Value.int (q 33) :: Value.ref (a 34) :: Value.ref (a 35) :: Value.ref (a 36) :: Value.ref (a 37) :: Value.ref (a 38) :: Value.ref (a 39) :: Value.ref (a 40) :: Value.int (q 41) :: Value.ref (a 42) :: Value.int (q 43) :: Value.int (q 44) :: [])))] s.heap.size = A at hD ⊢
  have hA : ∀ q : Nat, s.heap.size ≤ q → A q := fun q h => by rw [← hAe]; exact Or.inr h
  have hS : va_S A s.heap s.heap [] := va_S.rf
  have hP : va_P D vwCl [(h0, .inr (10, (Value.int (q 0) :: Value.int (q 1) :: Value.int (q 2) :: Value.int (q 3) :: Value.int (q 4) :: Value.int (q 5) :: Value.int (q 6) :: Value.int (q 7) :: Value.ref (a 8) :: Value.ref (a 9) :: Value.ref (a 10) :: Value.ref (a 11) :: Value.ref (a 12) :: Value.ref (a 13) :: Value.int (q 14) :: Value.long v :: Value.long w :: Value.ref (a 17) :: Value.ref (a 18) :: Value.ref (a 19) :: Value.ref (a 20) :: Value.ref (a 21) :: Value.ref (a 22) :: Value.ref (a 23) :: Value.int (q 24) :: Value.ref (a 25) :: Value.int (q 26) :: Value.ref (a 27) :: Value.int (q 28) :: Value.int (q 29) :: Value.int (q 30) :: Value.int (q 31) :: Value.int (q 32) :: Value.int (q 33) :: Value.ref (a 34) :: Value.ref (a 35) :: Value.ref (a 36) :: Value.ref (a 37) :: Value.ref (a 38) :: Value.ref (a 39) :: Value.ref (a 40) :: Value.int (q 41) :: Value.ref (a 42) :: Value.int (q 43) :: Value.int (q 44) :: [])))] s.heap := hP
  have hl := lv_entry ([.ref h0, .int x1, .int x2]) (n := 3) (Nat.le_of_ble_eq_true rfl)
  rw [lg_entry_eq]
  generalize (lg_sl ([.ref h0, .int x1, .int x2]) ++ List.replicate (3 - (lg_sl ([.ref h0, .int x1, .int x2])).length) Slot.unset).toArray = ls at hl ⊢
  have hl : lv_has ls 3 [(0, .ref h0), (1, .int x1), (2, .int x2)] := hl
  clear hD0
  refine lv_aload_n hx hb dX13_must_0 rfl (lv_at hl 0 rfl) ?_
  refine lv_iload_n hx hb dX13_must_1 rfl (lv_at hl 1 rfl) ?_
  refine lv_if_eq (tgt := 12) hx hb dX13_must_2 (by decide +kernel) (fun c_1 => ?_) (fun c_1 => ?_)
  · rw [fa_eq] at c_1
    try rw [ti_0] at c_1
    refine lv_iload_n hx hb dX13_must_12 rfl (lv_at hl 2 rfl) ?_
    refine va_put (D := D) (ci := 10) (v := .int x2) (ty := .int) (C := RX13) (T := TX13) (N := 45) hx hb hts in_X13_must_X13 tyX13 tyX13_ok nmX13 hown hE.1 hP hD hS 0 rfl rfl 29 (by decide +kernel) (hts (.fieldLink RX13 347 "ClauseBookModel" "fault" "I") (List.mem_of_getElem? (i := 1) rfl)) (fun _ h9 => h9) rfl (by decide +kernel) rfl rfl (Nat.le_of_ble_eq_true rfl) dX13_must_13 (fun H locs hP hD hS => ?_)
    obtain ⟨hP, hD⟩ := wPD [(h0, .inr (10, (Value.int (q 0) :: Value.int (q 1) :: Value.int (q 2) :: Value.int (q 3) :: Value.int (q 4) :: Value.int (q 5) :: Value.int (q 6) :: Value.int (q 7) :: Value.ref (a 8) :: Value.ref (a 9) :: Value.ref (a 10) :: Value.ref (a 11) :: Value.ref (a 12) :: Value.ref (a 13) :: Value.int (q 14) :: Value.long v :: Value.long w :: Value.ref (a 17) :: Value.ref (a 18) :: Value.ref (a 19) :: Value.ref (a 20) :: Value.ref (a 21) :: Value.ref (a 22) :: Value.ref (a 23) :: Value.int (q 24) :: Value.ref (a 25) :: Value.int (q 26) :: Value.ref (a 27) :: Value.int (q 28) :: Value.int x2 :: Value.int (q 30) :: Value.int (q 31) :: Value.int (q 32) :: Value.int (q 33) :: Value.ref (a 34) :: Value.ref (a 35) :: Value.ref (a 36) :: Value.ref (a 37) :: Value.ref (a 38) :: Value.ref (a 39) :: Value.ref (a 40) :: Value.int (q 41) :: Value.ref (a 42) :: Value.int (q 43) :: Value.int (q 44) :: [])))] hP hD rfl
    refine lv_iload_n hx hb dX13_must_16 rfl (lv_at hl 1 rfl) ?_
    exact W.zret hx hb hr (isB.nar hgb) (fun t ht hW => ⟨⟨_, x2, rfl, ⟨(show x1 = x1 from rfl), (show isB x1 from hgb)⟩, by rw [ht]; exact hP.sub [0] rfl, hD.sub [0] (by decide +kernel) rfl⟩, hS.F ht⟩) hS.2.2 dX13_must_17
  · rw [fa_eq] at c_1
    try rw [ti_0] at c_1
    refine lv_aload_n hx hb dX13_must_5 rfl (lv_at hl 0 rfl) ?_
    refine va_get (D := D) (ci := 10) (v := .int (q 29)) (C := RX13) (T := TX13) (N := 45) hx hb hts in_X13_must_X13 hown hE.1 hP 0 rfl rfl 29 (by decide +kernel) (hts (.fieldLink RX13 347 "ClauseBookModel" "fault" "I") (List.mem_of_getElem? (i := 1) rfl)) (fun _ h9 => h9) rfl dX13_must_6 ?_
    refine lv_goto (tgt := 13) hx hb dX13_must_9 (by decide +kernel) ?_
    refine va_put (D := D) (ci := 10) (v := .int (q 29)) (ty := .int) (C := RX13) (T := TX13) (N := 45) hx hb hts in_X13_must_X13 tyX13 tyX13_ok nmX13 hown hE.1 hP hD hS 0 rfl rfl 29 (by decide +kernel) (hts (.fieldLink RX13 347 "ClauseBookModel" "fault" "I") (List.mem_of_getElem? (i := 1) rfl)) (fun _ h9 => h9) rfl (by decide +kernel) rfl rfl (Nat.le_of_ble_eq_true rfl) dX13_must_13 (fun H locs hP hD hS => ?_)
    obtain ⟨hP, hD⟩ := wPD [(h0, .inr (10, (Value.int (q 0) :: Value.int (q 1) :: Value.int (q 2) :: Value.int (q 3) :: Value.int (q 4) :: Value.int (q 5) :: Value.int (q 6) :: Value.int (q 7) :: Value.ref (a 8) :: Value.ref (a 9) :: Value.ref (a 10) :: Value.ref (a 11) :: Value.ref (a 12) :: Value.ref (a 13) :: Value.int (q 14) :: Value.long v :: Value.long w :: Value.ref (a 17) :: Value.ref (a 18) :: Value.ref (a 19) :: Value.ref (a 20) :: Value.ref (a 21) :: Value.ref (a 22) :: Value.ref (a 23) :: Value.int (q 24) :: Value.ref (a 25) :: Value.int (q 26) :: Value.ref (a 27) :: Value.int (q 28) :: Value.int (q 29) :: Value.int (q 30) :: Value.int (q 31) :: Value.int (q 32) :: Value.int (q 33) :: Value.ref (a 34) :: Value.ref (a 35) :: Value.ref (a 36) :: Value.ref (a 37) :: Value.ref (a 38) :: Value.ref (a 39) :: Value.ref (a 40) :: Value.int (q 41) :: Value.ref (a 42) :: Value.int (q 43) :: Value.int (q 44) :: [])))] hP hD rfl
    refine lv_iload_n hx hb dX13_must_16 rfl (lv_at hl 1 rfl) ?_
    exact W.zret hx hb hr (isB.nar hgb) (fun t ht hW => ⟨⟨_, (q 29), rfl, ⟨(show x1 = x1 from rfl), (show isB x1 from hgb)⟩, by rw [ht]; exact hP.sub [0] rfl, hD.sub [0] (by decide +kernel) rfl⟩, hS.F ht⟩) hS.2.2 dX13_must_17
theorem dX13_blanks_0 : decode cX13_blanks 0 = .ok (.aload_n 0, 1) := by decide +kernel
theorem dX13_blanks_1 : decode cX13_blanks 1 = .ok (.invokevirtual 350, 3) := by decide +kernel
theorem dX13_blanks_10 : decode cX13_blanks 10 = .ok (.dup, 1) := by decide +kernel
theorem dX13_blanks_11 : decode cX13_blanks 11 = .ok (.getfield 344, 3) := by decide +kernel
theorem dX13_blanks_14 : decode cX13_blanks 14 = .ok (.iconst 1, 1) := by decide +kernel
theorem dX13_blanks_15 : decode cX13_blanks 15 = .ok (.iadd, 1) := by decide +kernel
theorem dX13_blanks_16 : decode cX13_blanks 16 = .ok (.putfield 344, 3) := by decide +kernel
theorem dX13_blanks_19 : decode cX13_blanks 19 = .ok (.goto (-19), 3) := by decide +kernel
theorem dX13_blanks_22 : decode cX13_blanks 22 = .ok (.return_, 1) := by decide +kernel
theorem dX13_blanks_4 : decode cX13_blanks 4 = .ok (.bipush 32, 2) := by decide +kernel
theorem dX13_blanks_6 : decode cX13_blanks 6 = .ok (.if_icmp .ne 16, 3) := by decide +kernel
theorem dX13_blanks_9 : decode cX13_blanks 9 = .ok (.aload_n 0, 1) := by decide +kernel
set_option maxRecDepth 20000 in
theorem ggX13_blanks_X13_here : GoodIn wsX13_blanks wsX13_here := goodIn_r _ [6, 1, 7, 8, 9, 10, 11, 12, 13, 14, 15, 16, 17, 18, 19, 20, 21, 22, 23, 24, 25, 26, 27, 28, 29, 30, 31, 32, 33, 34, 35, 36, 37, 38, 39, 40, 41, 42, 43, 44, 45, 46, 47, 48, 49, 50, 51, 52, 53] rfl (by decide +kernel)
set_option maxRecDepth 20000 in
theorem gX13_blanks_X13_here : GoodIn wsX13_blanks (wsV RX13 350 RX13 yX13_here wsX13_here) := goodIn_app (goodIn_r _ [2, 3, 4, 5] rfl (by decide +kernel)) ggX13_blanks_X13_here
set_option maxRecDepth 20000 in
theorem in_X13_blanks_X13 : ∀ w ∈ wsX130, w ∈ wsX13_blanks := sub_r [9, 10, 11, 12, 13, 14, 15, 16, 17, 18, 19, 20, 21, 22, 23, 24, 25, 26, 27, 28, 29, 30, 31, 32, 33, 34, 35, 36, 37, 38, 39, 40, 41, 42, 43, 44, 45, 46, 47, 48, 49, 50, 51, 52, 53] rfl
set_option maxHeartbeats 4000000 in
set_option maxRecDepth 100000 in
theorem c_X13_blanks (l : Launch) (D : va_G) (T : Nat → ClassId) (sz : Nat) (h0 : Nat) (q : Nat → Int32) (v : Int64) (w : Int64) (a : Nat → Nat) (f25 : Nat → Int32) (hcu : 0 ≤ (q 28).toInt ∧ (q 28).toInt ≤ (q 26).toInt ∧ (q 26).toInt ≤ 120) : Met l yX13_blanks wsX13_blanks ({ frames := 1, cells := 0, slots := 0, locals := 20 }) (pW [.ref h0] D T [(h0, .inr (10, (Value.int (q 0) :: Value.int (q 1) :: Value.int (q 2) :: Value.int (q 3) :: Value.int (q 4) :: Value.int (q 5) :: Value.int (q 6) :: Value.int (q 7) :: Value.ref (a 8) :: Value.ref (a 9) :: Value.ref (a 10) :: Value.ref (a 11) :: Value.ref (a 12) :: Value.ref (a 13) :: Value.int (q 14) :: Value.long v :: Value.long w :: Value.ref (a 17) :: Value.ref (a 18) :: Value.ref (a 19) :: Value.ref (a 20) :: Value.ref (a 21) :: Value.ref (a 22) :: Value.ref (a 23) :: Value.int (q 24) :: Value.ref (a 25) :: Value.int (q 26) :: Value.ref (a 27) :: Value.int (q 28) :: Value.int (q 29) :: Value.int (q 30) :: Value.int (q 31) :: Value.int (q 32) :: Value.int (q 33) :: Value.ref (a 34) :: Value.ref (a 35) :: Value.ref (a 36) :: Value.ref (a 37) :: Value.ref (a 38) :: Value.ref (a 39) :: Value.ref (a 40) :: Value.int (q 41) :: Value.ref (a 42) :: Value.int (q 43) :: Value.int (q 44) :: []))), ((a 25), .inl (T 0, 120, .inl f25))] sz) (va_Qv (fun (u : (Int32)) => ((q 28).toInt ≤ u.toInt ∧ u.toInt ≤ (q 26).toInt)) (bW D (va_A [(h0, .inr (10, (Value.int (q 0) :: Value.int (q 1) :: Value.int (q 2) :: Value.int (q 3) :: Value.int (q 4) :: Value.int (q 5) :: Value.int (q 6) :: Value.int (q 7) :: Value.ref (a 8) :: Value.ref (a 9) :: Value.ref (a 10) :: Value.ref (a 11) :: Value.ref (a 12) :: Value.ref (a 13) :: Value.int (q 14) :: Value.long v :: Value.long w :: Value.ref (a 17) :: Value.ref (a 18) :: Value.ref (a 19) :: Value.ref (a 20) :: Value.ref (a 21) :: Value.ref (a 22) :: Value.ref (a 23) :: Value.int (q 24) :: Value.ref (a 25) :: Value.int (q 26) :: Value.ref (a 27) :: Value.int (q 28) :: Value.int (q 29) :: Value.int (q 30) :: Value.int (q 31) :: Value.int (q 32) :: Value.int (q 33) :: Value.ref (a 34) :: Value.ref (a 35) :: Value.ref (a 36) :: Value.ref (a 37) :: Value.ref (a 38) :: Value.ref (a 39) :: Value.ref (a 40) :: Value.int (q 41) :: Value.ref (a 42) :: Value.int (q 43) :: Value.int (q 44) :: []))), ((a 25), .inl (T 0, 120, .inl f25))] sz) (fun (u : (Int32)) => [(h0, .inr (10, (Value.int (q 0) :: Value.int (q 1) :: Value.int (q 2) :: Value.int (q 3) :: Value.int (q 4) :: Value.int (q 5) :: Value.int (q 6) :: Value.int (q 7) :: Value.ref (a 8) :: Value.ref (a 9) :: Value.ref (a 10) :: Value.ref (a 11) :: Value.ref (a 12) :: Value.ref (a 13) :: Value.int (q 14) :: Value.long v :: Value.long w :: Value.ref (a 17) :: Value.ref (a 18) :: Value.ref (a 19) :: Value.ref (a 20) :: Value.ref (a 21) :: Value.ref (a 22) :: Value.ref (a 23) :: Value.int (q 24) :: Value.ref (a 25) :: Value.int (q 26) :: Value.ref (a 27) :: Value.int u :: Value.int (q 29) :: Value.int (q 30) :: Value.int (q 31) :: Value.int (q 32) :: Value.int (q 33) :: Value.ref (a 34) :: Value.ref (a 35) :: Value.ref (a 36) :: Value.ref (a 37) :: Value.ref (a 38) :: Value.ref (a 39) :: Value.ref (a 40) :: Value.int (q 41) :: Value.ref (a 42) :: Value.int (q 43) :: Value.int (q 44) :: []))), ((a 25), .inl (T 0, 120, .inl f25))])) (va_A [(h0, .inr (10, (Value.int (q 0) :: Value.int (q 1) :: Value.int (q 2) :: Value.int (q 3) :: Value.int (q 4) :: Value.int (q 5) :: Value.int (q 6) :: Value.int (q 7) :: Value.ref (a 8) :: Value.ref (a 9) :: Value.ref (a 10) :: Value.ref (a 11) :: Value.ref (a 12) :: Value.ref (a 13) :: Value.int (q 14) :: Value.long v :: Value.long w :: Value.ref (a 17) :: Value.ref (a 18) :: Value.ref (a 19) :: Value.ref (a 20) :: Value.ref (a 21) :: Value.ref (a 22) :: Value.ref (a 23) :: Value.int (q 24) :: Value.ref (a 25) :: Value.int (q 26) :: Value.ref (a 27) :: Value.int (q 28) :: Value.int (q 29) :: Value.int (q 30) :: Value.int (q 31) :: Value.int (q 32) :: Value.int (q 33) :: Value.ref (a 34) :: Value.ref (a 35) :: Value.ref (a 36) :: Value.ref (a 37) :: Value.ref (a 38) :: Value.ref (a 39) :: Value.ref (a 40) :: Value.int (q 41) :: Value.ref (a 42) :: Value.int (q 43) :: Value.int (q 44) :: []))), ((a 25), .inl (T 0, 120, .inl f25))] sz)) 0 0 (va_A [(h0, .inr (10, (Value.int (q 0) :: Value.int (q 1) :: Value.int (q 2) :: Value.int (q 3) :: Value.int (q 4) :: Value.int (q 5) :: Value.int (q 6) :: Value.int (q 7) :: Value.ref (a 8) :: Value.ref (a 9) :: Value.ref (a 10) :: Value.ref (a 11) :: Value.ref (a 12) :: Value.ref (a 13) :: Value.int (q 14) :: Value.long v :: Value.long w :: Value.ref (a 17) :: Value.ref (a 18) :: Value.ref (a 19) :: Value.ref (a 20) :: Value.ref (a 21) :: Value.ref (a 22) :: Value.ref (a 23) :: Value.int (q 24) :: Value.ref (a 25) :: Value.int (q 26) :: Value.ref (a 27) :: Value.int (q 28) :: Value.int (q 29) :: Value.int (q 30) :: Value.int (q 31) :: Value.int (q 32) :: Value.int (q 33) :: Value.ref (a 34) :: Value.ref (a 35) :: Value.ref (a 36) :: Value.ref (a 37) :: Value.ref (a 38) :: Value.ref (a 39) :: Value.ref (a 40) :: Value.int (q 41) :: Value.ref (a 42) :: Value.int (q 43) :: Value.int (q 44) :: []))), ((a 25), .inl (T 0, 120, .inl f25))] sz) := by
  refine Met.ofW (cc := cX13_blanks) (maxL := 1) (ret := none) (by decide +kernel) rfl ?_
  intro p e s m args below meth c s₁ B hml hv
  obtain ⟨rfl, hsz, hP, hE, hD0⟩ := hv
  have hx := B.exec
  have hb := B.bytes
  have hr := B.returns
  have hts := atoms_spec (ws := wsX13_blanks) B.pre
  have hown : s.vm.findClass RX13 = some m.cls := findClass_of_methodNamed B.named
  have hlocks := B.notSynchronized
  subst hsz
  have hD := hD0.self (sz := s.heap.size)
  generalize hAe : va_A [(h0, .inr (10, (Value.int (q 0) :: Value.int (q 1) :: Value.int (q 2) :: Value.int (q 3) :: Value.int (q 4) :: Value.int (q 5) :: Value.int (q 6) :: Value.int (q 7) :: Value.ref (a 8) :: Value.ref (a 9) :: Value.ref (a 10) :: Value.ref (a 11) :: Value.ref (a 12) :: Value.ref (a 13) :: Value.int (q 14) :: Value.long v :: Value.long w :: Value.ref (a 17) :: Value.ref (a 18) :: Value.ref (a 19) :: Value.ref (a 20) :: Value.ref (a 21) :: Value.ref (a 22) :: Value.ref (a 23) :: Value.int (q 24) :: Value.ref (a 25) :: Value.int (q 26) :: Value.ref (a 27) :: Value.int (q 28) :: Value.int (q 29) :: Value.int (q 30) :: Value.int (q 31) :: Value.int (q 32) :: Value.int (q 33) :: Value.ref (a 34) :: Value.ref (a 35) :: Value.ref (a 36) :: Value.ref (a 37) :: Value.ref (a 38) :: Value.ref (a 39) :: Value.ref (a 40) :: Value.int (q 41) :: Value.ref (a 42) :: Value.int (q 43) :: Value.int (q 44) :: []))), ((a 25), .inl (T 0, 120, .inl f25))] s.heap.size = A at hD ⊢
  have hA : ∀ q : Nat, s.heap.size ≤ q → A q := fun q h => by rw [← hAe]; exact Or.inr h
  have hS : va_S A s.heap s.heap [] := va_S.rf
  have hP : va_P D vwCl [(h0, .inr (10, (Value.int (q 0) :: Value.int (q 1) :: Value.int (q 2) :: Value.int (q 3) :: Value.int (q 4) :: Value.int (q 5) :: Value.int (q 6) :: Value.int (q 7) :: Value.ref (a 8) :: Value.ref (a 9) :: Value.ref (a 10) :: Value.ref (a 11) :: Value.ref (a 12) :: Value.ref (a 13) :: Value.int (q 14) :: Value.long v :: Value.long w :: Value.ref (a 17) :: Value.ref (a 18) :: Value.ref (a 19) :: Value.ref (a 20) :: Value.ref (a 21) :: Value.ref (a 22) :: Value.ref (a 23) :: Value.int (q 24) :: Value.ref (a 25) :: Value.int (q 26) :: Value.ref (a 27) :: Value.int (q 28) :: Value.int (q 29) :: Value.int (q 30) :: Value.int (q 31) :: Value.int (q 32) :: Value.int (q 33) :: Value.ref (a 34) :: Value.ref (a 35) :: Value.ref (a 36) :: Value.ref (a 37) :: Value.ref (a 38) :: Value.ref (a 39) :: Value.ref (a 40) :: Value.int (q 41) :: Value.ref (a 42) :: Value.int (q 43) :: Value.int (q 44) :: []))), ((a 25), .inl (T 0, 120, .inl f25))] s.heap := hP
  have hl := lv_entry ([.ref h0]) (n := 1) (Nat.le_of_ble_eq_true rfl)
  rw [lg_entry_eq]
  generalize (lg_sl ([.ref h0]) ++ List.replicate (1 - (lg_sl ([.ref h0])).length) Slot.unset).toArray = ls at hl ⊢
  have hl : lv_has ls 1 [(0, .ref h0)] := hl
  clear hD0
  refine loopW (σ := (Int32)) (fun x9 ls H locs => lv_has ls 1 [(0, .ref h0)] ∧ va_P D vwCl [(h0, .inr (10, (Value.int (q 0) :: Value.int (q 1) :: Value.int (q 2) :: Value.int (q 3) :: Value.int (q 4) :: Value.int (q 5) :: Value.int (q 6) :: Value.int (q 7) :: Value.ref (a 8) :: Value.ref (a 9) :: Value.ref (a 10) :: Value.ref (a 11) :: Value.ref (a 12) :: Value.ref (a 13) :: Value.int (q 14) :: Value.long v :: Value.long w :: Value.ref (a 17) :: Value.ref (a 18) :: Value.ref (a 19) :: Value.ref (a 20) :: Value.ref (a 21) :: Value.ref (a 22) :: Value.ref (a 23) :: Value.int (q 24) :: Value.ref (a 25) :: Value.int (q 26) :: Value.ref (a 27) :: Value.int x9 :: Value.int (q 29) :: Value.int (q 30) :: Value.int (q 31) :: Value.int (q 32) :: Value.int (q 33) :: Value.ref (a 34) :: Value.ref (a 35) :: Value.ref (a 36) :: Value.ref (a 37) :: Value.ref (a 38) :: Value.ref (a 39) :: Value.ref (a 40) :: Value.int (q 41) :: Value.ref (a 42) :: Value.int (q 43) :: Value.int (q 44) :: []))), ((a 25), .inl (T 0, 120, .inl f25))] H ∧ va_D A [(h0, .inr (10, (Value.int (q 0) :: Value.int (q 1) :: Value.int (q 2) :: Value.int (q 3) :: Value.int (q 4) :: Value.int (q 5) :: Value.int (q 6) :: Value.int (q 7) :: Value.ref (a 8) :: Value.ref (a 9) :: Value.ref (a 10) :: Value.ref (a 11) :: Value.ref (a 12) :: Value.ref (a 13) :: Value.int (q 14) :: Value.long v :: Value.long w :: Value.ref (a 17) :: Value.ref (a 18) :: Value.ref (a 19) :: Value.ref (a 20) :: Value.ref (a 21) :: Value.ref (a 22) :: Value.ref (a 23) :: Value.int (q 24) :: Value.ref (a 25) :: Value.int (q 26) :: Value.ref (a 27) :: Value.int x9 :: Value.int (q 29) :: Value.int (q 30) :: Value.int (q 31) :: Value.int (q 32) :: Value.int (q 33) :: Value.ref (a 34) :: Value.ref (a 35) :: Value.ref (a 36) :: Value.ref (a 37) :: Value.ref (a 38) :: Value.ref (a 39) :: Value.ref (a 40) :: Value.int (q 41) :: Value.ref (a 42) :: Value.int (q 43) :: Value.int (q 44) :: []))), ((a 25), .inl (T 0, 120, .inl f25))] ∧ va_S A s.heap H locs ∧ ((q 28).toInt ≤ x9.toInt ∧ x9.toInt ≤ (q 26).toInt)) (fun x9 => (120 - x9.toInt).toNat) (fun x9 ls H locs hI ih => ?_) (q 28) ls ⟨lv_sub hl [0] rfl, hP.sub [0, 1] rfl, hD.sub [0, 1] (by decide +kernel) rfl, hS, (by (try dsimp only); omega)⟩
  obtain ⟨cu, rfl⟩ : ∃ z, z = x9 := ⟨_, rfl⟩
  obtain ⟨hl, hP, hD, hS, hinv⟩ := hI
  have hl : lv_has ls 1 [(0, .ref h0)] := hl
  have hP : va_P D vwCl [(h0, .inr (10, (Value.int (q 0) :: Value.int (q 1) :: Value.int (q 2) :: Value.int (q 3) :: Value.int (q 4) :: Value.int (q 5) :: Value.int (q 6) :: Value.int (q 7) :: Value.ref (a 8) :: Value.ref (a 9) :: Value.ref (a 10) :: Value.ref (a 11) :: Value.ref (a 12) :: Value.ref (a 13) :: Value.int (q 14) :: Value.long v :: Value.long w :: Value.ref (a 17) :: Value.ref (a 18) :: Value.ref (a 19) :: Value.ref (a 20) :: Value.ref (a 21) :: Value.ref (a 22) :: Value.ref (a 23) :: Value.int (q 24) :: Value.ref (a 25) :: Value.int (q 26) :: Value.ref (a 27) :: Value.int cu :: Value.int (q 29) :: Value.int (q 30) :: Value.int (q 31) :: Value.int (q 32) :: Value.int (q 33) :: Value.ref (a 34) :: Value.ref (a 35) :: Value.ref (a 36) :: Value.ref (a 37) :: Value.ref (a 38) :: Value.ref (a 39) :: Value.ref (a 40) :: Value.int (q 41) :: Value.ref (a 42) :: Value.int (q 43) :: Value.int (q 44) :: []))), ((a 25), .inl (T 0, 120, .inl f25))] H := hP
  have hD : va_D A [(h0, .inr (10, (Value.int (q 0) :: Value.int (q 1) :: Value.int (q 2) :: Value.int (q 3) :: Value.int (q 4) :: Value.int (q 5) :: Value.int (q 6) :: Value.int (q 7) :: Value.ref (a 8) :: Value.ref (a 9) :: Value.ref (a 10) :: Value.ref (a 11) :: Value.ref (a 12) :: Value.ref (a 13) :: Value.int (q 14) :: Value.long v :: Value.long w :: Value.ref (a 17) :: Value.ref (a 18) :: Value.ref (a 19) :: Value.ref (a 20) :: Value.ref (a 21) :: Value.ref (a 22) :: Value.ref (a 23) :: Value.int (q 24) :: Value.ref (a 25) :: Value.int (q 26) :: Value.ref (a 27) :: Value.int cu :: Value.int (q 29) :: Value.int (q 30) :: Value.int (q 31) :: Value.int (q 32) :: Value.int (q 33) :: Value.ref (a 34) :: Value.ref (a 35) :: Value.ref (a 36) :: Value.ref (a 37) :: Value.ref (a 38) :: Value.ref (a 39) :: Value.ref (a 40) :: Value.int (q 41) :: Value.ref (a 42) :: Value.int (q 43) :: Value.int (q 44) :: []))), ((a 25), .inl (T 0, 120, .inl f25))] := hD
  have hinv : (q 28).toInt ≤ cu.toInt ∧ cu.toInt ≤ (q 26).toInt := hinv
  refine lv_aload_n hx hb dX13_blanks_0 rfl (lv_at hl 0 rfl) ?_
  refine vp_callSi (W.runV (As := []) (rest := []) ⟨hx, hb, hml, hown, hts⟩ (c_X13_here l D T h0 [.int (q 0), .int (q 1), .int (q 2), .int (q 3), .int (q 4), .int (q 5), .int (q 6), .int (q 7), .ref (a 8), .ref (a 9), .ref (a 10), .ref (a 11), .ref (a 12), .ref (a 13), .int (q 14), .long v, .long w, .ref (a 17), .ref (a 18), .ref (a 19), .ref (a 20), .ref (a 21), .ref (a 22), .ref (a 23), .int (q 24), .ref (a 25), .int (q 26), .ref (a 27), .int cu, .int (q 29), .int (q 30), .int (q 31), .int (q 32), .int (q 33), .ref (a 34), .ref (a 35), .ref (a 36), .ref (a 37), .ref (a 38), .ref (a 39), .ref (a 40), .int (q 41), .ref (a 42), .int (q 43), .int (q 44)] (a 25) f25 cu (q 26) rfl rfl rfl (by omega)) (cwV 0 hts gX13_blanks_X13_here rfl rfl rfl hv_X13_here ⟨Nat.le_of_ble_eq_true rfl, Nat.le_of_ble_eq_true rfl⟩) (pR_V (ci := 10) (q0 := 0) hP hE rfl rfl [0, 1] rfl) rfl rfl hl.1 rfl (lv_room (Nat.le_of_ble_eq_true rfl)) dX13_blanks_1 ⟨Nat.le_of_ble_eq_true rfl, Nat.le_of_ble_eq_true rfl⟩) (fun r_1 hr_1 => ?_)
  refine lv_bipush (v := 32) hx hb dX13_blanks_4 (by decide +kernel) ?_
  refine lv_icmp_ne (tgt := 22) hx hb dX13_blanks_6 (by decide +kernel) (fun c_2 => ?_) (fun c_2 => ?_)
  · rw [fa_eq] at c_2
    try rw [ti_32] at c_2
    exact W.vret hx hb hr (fun t ht hW => ⟨⟨cu, rfl, (show (q 28).toInt ≤ cu.toInt ∧ cu.toInt ≤ (q 26).toInt from (by first | omega | (subst_vars; omega))), by rw [ht]; exact hP.sub [0, 1] rfl, hD.sub [0, 1] (by decide +kernel) rfl⟩, hS.F ht⟩) hS.2.2 dX13_blanks_22
  · rw [fa_eq] at c_2
    try rw [ti_32] at c_2
    refine lv_aload_n hx hb dX13_blanks_9 rfl (lv_at hl 0 rfl) ?_
    refine lv_dup hx hb dX13_blanks_10 rfl ?_
    refine va_get (D := D) (ci := 10) (v := .int cu) (C := RX13) (T := TX13) (N := 45) hx hb hts in_X13_blanks_X13 hown hE.1 hP 0 rfl rfl 28 (by decide +kernel) (hts (.fieldLink RX13 344 "ClauseBookModel" "cursor" "I") (List.mem_of_getElem? (i := 1) rfl)) (fun _ h9 => h9) rfl dX13_blanks_11 ?_
    refine lv_iconst (v := 1) hx hb dX13_blanks_14 (by decide +kernel) ?_
    refine lv_iadd hx hb dX13_blanks_15 ?_
    refine lv_topi (fun z_3 ez_3 => ?_)
    refine va_put (D := D) (ci := 10) (v := .int z_3) (ty := .int) (C := RX13) (T := TX13) (N := 45) hx hb hts in_X13_blanks_X13 tyX13 tyX13_ok nmX13 hown hE.1 hP hD hS 0 rfl rfl 28 (by decide +kernel) (hts (.fieldLink RX13 344 "ClauseBookModel" "cursor" "I") (List.mem_of_getElem? (i := 1) rfl)) (fun _ h9 => h9) rfl (by decide +kernel) rfl rfl (Nat.le_of_ble_eq_true rfl) dX13_blanks_16 (fun H locs hP hD hS => ?_)
    obtain ⟨hP, hD⟩ := wPD [(h0, .inr (10, (Value.int (q 0) :: Value.int (q 1) :: Value.int (q 2) :: Value.int (q 3) :: Value.int (q 4) :: Value.int (q 5) :: Value.int (q 6) :: Value.int (q 7) :: Value.ref (a 8) :: Value.ref (a 9) :: Value.ref (a 10) :: Value.ref (a 11) :: Value.ref (a 12) :: Value.ref (a 13) :: Value.int (q 14) :: Value.long v :: Value.long w :: Value.ref (a 17) :: Value.ref (a 18) :: Value.ref (a 19) :: Value.ref (a 20) :: Value.ref (a 21) :: Value.ref (a 22) :: Value.ref (a 23) :: Value.int (q 24) :: Value.ref (a 25) :: Value.int (q 26) :: Value.ref (a 27) :: Value.int z_3 :: Value.int (q 29) :: Value.int (q 30) :: Value.int (q 31) :: Value.int (q 32) :: Value.int (q 33) :: Value.ref (a 34) :: Value.ref (a 35) :: Value.ref (a 36) :: Value.ref (a 37) :: Value.ref (a 38) :: Value.ref (a 39) :: Value.ref (a 40) :: Value.int (q 41) :: Value.ref (a 42) :: Value.int (q 43) :: Value.int (q 44) :: []))), ((a 25), .inl (T 0, 120, .inl f25))] hP hD rfl
    refine lv_goto (tgt := 0) hx hb dX13_blanks_19 (by decide +kernel) ?_
    exact ih z_3 ls _ _ ⟨lv_sub hl [0] rfl, hP.sub [0, 1] rfl, hD.sub [0, 1] (by decide +kernel) rfl, hS, (by subst_vars; (try dsimp only); rw [inc1 (i := cu) (n := 1000) (by omega) (by decide +kernel)]; omega)⟩ (by subst_vars; (try dsimp only); rw [inc1 (i := cu) (n := 1000) (by omega) (by decide +kernel)]; omega)
theorem dX13_reads_0 : decode cX13_reads 0 = .ok (.aload_n 0, 1) := by decide +kernel
theorem dX13_reads_1 : decode cX13_reads 1 = .ok (.invokevirtual 358, 3) := by decide +kernel
theorem dX13_reads_10 : decode cX13_reads 10 = .ok (.invokevirtual 350, 3) := by decide +kernel
theorem dX13_reads_100 : decode cX13_reads 100 = .ok (.putfield 369, 3) := by decide +kernel
theorem dX13_reads_103 : decode cX13_reads 103 = .ok (.aload_n 0, 1) := by decide +kernel
theorem dX13_reads_104 : decode cX13_reads 104 = .ok (.dup, 1) := by decide +kernel
theorem dX13_reads_105 : decode cX13_reads 105 = .ok (.getfield 344, 3) := by decide +kernel
theorem dX13_reads_108 : decode cX13_reads 108 = .ok (.iconst 1, 1) := by decide +kernel
theorem dX13_reads_109 : decode cX13_reads 109 = .ok (.iadd, 1) := by decide +kernel
theorem dX13_reads_110 : decode cX13_reads 110 = .ok (.putfield 344, 3) := by decide +kernel
theorem dX13_reads_113 : decode cX13_reads 113 = .ok (.goto (-52), 3) := by decide +kernel
theorem dX13_reads_116 : decode cX13_reads 116 = .ok (.aload_n 0, 1) := by decide +kernel
theorem dX13_reads_117 : decode cX13_reads 117 = .ok (.getfield 369, 3) := by decide +kernel
theorem dX13_reads_120 : decode cX13_reads 120 = .ok (.bipush 99, 2) := by decide +kernel
theorem dX13_reads_122 : decode cX13_reads 122 = .ok (.if_icmp .gt 7, 3) := by decide +kernel
theorem dX13_reads_125 : decode cX13_reads 125 = .ok (.iconst 1, 1) := by decide +kernel
theorem dX13_reads_126 : decode cX13_reads 126 = .ok (.goto 4, 3) := by decide +kernel
theorem dX13_reads_129 : decode cX13_reads 129 = .ok (.iconst 0, 1) := by decide +kernel
theorem dX13_reads_13 : decode cX13_reads 13 = .ok (.bipush 45, 2) := by decide +kernel
theorem dX13_reads_130 : decode cX13_reads 130 = .ok (.istore 4, 2) := by decide +kernel
theorem dX13_reads_132 : decode cX13_reads 132 = .ok (.aload_n 0, 1) := by decide +kernel
theorem dX13_reads_133 : decode cX13_reads 133 = .ok (.iload_n 3, 1) := by decide +kernel
theorem dX13_reads_134 : decode cX13_reads 134 = .ok (.ifCond .eq 11, 3) := by decide +kernel
theorem dX13_reads_137 : decode cX13_reads 137 = .ok (.aload_n 0, 1) := by decide +kernel
theorem dX13_reads_138 : decode cX13_reads 138 = .ok (.getfield 369, 3) := by decide +kernel
theorem dX13_reads_141 : decode cX13_reads 141 = .ok (.ineg, 1) := by decide +kernel
theorem dX13_reads_142 : decode cX13_reads 142 = .ok (.goto 7, 3) := by decide +kernel
theorem dX13_reads_145 : decode cX13_reads 145 = .ok (.aload_n 0, 1) := by decide +kernel
theorem dX13_reads_146 : decode cX13_reads 146 = .ok (.getfield 369, 3) := by decide +kernel
theorem dX13_reads_149 : decode cX13_reads 149 = .ok (.putfield 369, 3) := by decide +kernel
theorem dX13_reads_15 : decode cX13_reads 15 = .ok (.if_icmp .ne 7, 3) := by decide +kernel
theorem dX13_reads_152 : decode cX13_reads 152 = .ok (.aload_n 0, 1) := by decide +kernel
theorem dX13_reads_153 : decode cX13_reads 153 = .ok (.iload 4, 2) := by decide +kernel
theorem dX13_reads_155 : decode cX13_reads 155 = .ok (.ifCond .eq 18, 3) := by decide +kernel
theorem dX13_reads_158 : decode cX13_reads 158 = .ok (.iload_n 1, 1) := by decide +kernel
theorem dX13_reads_159 : decode cX13_reads 159 = .ok (.aload_n 0, 1) := by decide +kernel
theorem dX13_reads_160 : decode cX13_reads 160 = .ok (.getfield 369, 3) := by decide +kernel
theorem dX13_reads_163 : decode cX13_reads 163 = .ok (.invokestatic 216, 3) := by decide +kernel
theorem dX13_reads_166 : decode cX13_reads 166 = .ok (.ifCond .eq 7, 3) := by decide +kernel
theorem dX13_reads_169 : decode cX13_reads 169 = .ok (.iconst 1, 1) := by decide +kernel
theorem dX13_reads_170 : decode cX13_reads 170 = .ok (.goto 4, 3) := by decide +kernel
theorem dX13_reads_173 : decode cX13_reads 173 = .ok (.iconst 0, 1) := by decide +kernel
theorem dX13_reads_174 : decode cX13_reads 174 = .ok (.iload_n 2, 1) := by decide +kernel
theorem dX13_reads_175 : decode cX13_reads 175 = .ok (.invokevirtual 365, 3) := by decide +kernel
theorem dX13_reads_178 : decode cX13_reads 178 = .ok (.ireturn, 1) := by decide +kernel
theorem dX13_reads_18 : decode cX13_reads 18 = .ok (.iconst 1, 1) := by decide +kernel
theorem dX13_reads_19 : decode cX13_reads 19 = .ok (.goto 4, 3) := by decide +kernel
theorem dX13_reads_22 : decode cX13_reads 22 = .ok (.iconst 0, 1) := by decide +kernel
theorem dX13_reads_23 : decode cX13_reads 23 = .ok (.istore_n 3, 1) := by decide +kernel
theorem dX13_reads_24 : decode cX13_reads 24 = .ok (.aload_n 0, 1) := by decide +kernel
theorem dX13_reads_25 : decode cX13_reads 25 = .ok (.dup, 1) := by decide +kernel
theorem dX13_reads_26 : decode cX13_reads 26 = .ok (.getfield 344, 3) := by decide +kernel
theorem dX13_reads_29 : decode cX13_reads 29 = .ok (.iload_n 3, 1) := by decide +kernel
theorem dX13_reads_30 : decode cX13_reads 30 = .ok (.ifCond .eq 7, 3) := by decide +kernel
theorem dX13_reads_33 : decode cX13_reads 33 = .ok (.iconst 1, 1) := by decide +kernel
theorem dX13_reads_34 : decode cX13_reads 34 = .ok (.goto 4, 3) := by decide +kernel
theorem dX13_reads_37 : decode cX13_reads 37 = .ok (.iconst 0, 1) := by decide +kernel
theorem dX13_reads_38 : decode cX13_reads 38 = .ok (.iadd, 1) := by decide +kernel
theorem dX13_reads_39 : decode cX13_reads 39 = .ok (.putfield 344, 3) := by decide +kernel
theorem dX13_reads_4 : decode cX13_reads 4 = .ok (.aload_n 0, 1) := by decide +kernel
theorem dX13_reads_42 : decode cX13_reads 42 = .ok (.aload_n 0, 1) := by decide +kernel
theorem dX13_reads_43 : decode cX13_reads 43 = .ok (.aload_n 0, 1) := by decide +kernel
theorem dX13_reads_44 : decode cX13_reads 44 = .ok (.invokevirtual 361, 3) := by decide +kernel
theorem dX13_reads_47 : decode cX13_reads 47 = .ok (.iload_n 2, 1) := by decide +kernel
theorem dX13_reads_48 : decode cX13_reads 48 = .ok (.invokevirtual 365, 3) := by decide +kernel
theorem dX13_reads_5 : decode cX13_reads 5 = .ok (.getfield 344, 3) := by decide +kernel
theorem dX13_reads_51 : decode cX13_reads 51 = .ok (.ifCond .ne 5, 3) := by decide +kernel
theorem dX13_reads_54 : decode cX13_reads 54 = .ok (.iconst 0, 1) := by decide +kernel
theorem dX13_reads_55 : decode cX13_reads 55 = .ok (.ireturn, 1) := by decide +kernel
theorem dX13_reads_56 : decode cX13_reads 56 = .ok (.aload_n 0, 1) := by decide +kernel
theorem dX13_reads_57 : decode cX13_reads 57 = .ok (.iconst 0, 1) := by decide +kernel
theorem dX13_reads_58 : decode cX13_reads 58 = .ok (.putfield 369, 3) := by decide +kernel
theorem dX13_reads_61 : decode cX13_reads 61 = .ok (.aload_n 0, 1) := by decide +kernel
theorem dX13_reads_62 : decode cX13_reads 62 = .ok (.invokevirtual 361, 3) := by decide +kernel
theorem dX13_reads_65 : decode cX13_reads 65 = .ok (.ifCond .eq 51, 3) := by decide +kernel
theorem dX13_reads_68 : decode cX13_reads 68 = .ok (.aload_n 0, 1) := by decide +kernel
theorem dX13_reads_69 : decode cX13_reads 69 = .ok (.aload_n 0, 1) := by decide +kernel
theorem dX13_reads_70 : decode cX13_reads 70 = .ok (.getfield 369, 3) := by decide +kernel
theorem dX13_reads_73 : decode cX13_reads 73 = .ok (.bipush 99, 2) := by decide +kernel
theorem dX13_reads_75 : decode cX13_reads 75 = .ok (.if_icmp .le 10, 3) := by decide +kernel
theorem dX13_reads_78 : decode cX13_reads 78 = .ok (.aload_n 0, 1) := by decide +kernel
theorem dX13_reads_79 : decode cX13_reads 79 = .ok (.getfield 369, 3) := by decide +kernel
theorem dX13_reads_8 : decode cX13_reads 8 = .ok (.istore_n 2, 1) := by decide +kernel
theorem dX13_reads_82 : decode cX13_reads 82 = .ok (.goto 18, 3) := by decide +kernel
theorem dX13_reads_85 : decode cX13_reads 85 = .ok (.bipush 10, 2) := by decide +kernel
theorem dX13_reads_87 : decode cX13_reads 87 = .ok (.aload_n 0, 1) := by decide +kernel
theorem dX13_reads_88 : decode cX13_reads 88 = .ok (.getfield 369, 3) := by decide +kernel
theorem dX13_reads_9 : decode cX13_reads 9 = .ok (.aload_n 0, 1) := by decide +kernel
theorem dX13_reads_91 : decode cX13_reads 91 = .ok (.imul, 1) := by decide +kernel
theorem dX13_reads_92 : decode cX13_reads 92 = .ok (.aload_n 0, 1) := by decide +kernel
theorem dX13_reads_93 : decode cX13_reads 93 = .ok (.invokevirtual 350, 3) := by decide +kernel
theorem dX13_reads_96 : decode cX13_reads 96 = .ok (.iadd, 1) := by decide +kernel
theorem dX13_reads_97 : decode cX13_reads 97 = .ok (.bipush 48, 2) := by decide +kernel
theorem dX13_reads_99 : decode cX13_reads 99 = .ok (.isub, 1) := by decide +kernel
set_option maxRecDepth 20000 in
theorem ggX13_reads_X13_blanks : GoodIn wsX13_reads wsX13_blanks := goodIn_r _ [7, 1, 8, 9, 10, 6, 11, 12, 13, 36, 37, 38, 39, 40, 41, 42, 43, 44, 45, 46, 47, 48, 49, 50, 51, 52, 53, 54, 55, 56, 57, 58, 59, 60, 61, 62, 63, 64, 65, 66, 67, 68, 69, 70, 71, 72, 73, 74, 75, 76, 77, 78, 79, 80] rfl (by decide +kernel)
set_option maxRecDepth 20000 in
theorem ggX13_reads_X13_here : GoodIn wsX13_reads wsX13_here := goodIn_r _ [11, 1, 12, 13, 36, 37, 38, 39, 40, 41, 42, 43, 44, 45, 46, 47, 48, 49, 50, 51, 52, 53, 54, 55, 56, 57, 58, 59, 60, 61, 62, 63, 64, 65, 66, 67, 68, 69, 70, 71, 72, 73, 74, 75, 76, 77, 78, 79, 80] rfl (by decide +kernel)
set_option maxRecDepth 20000 in
theorem ggX13_reads_X13_isDigit : GoodIn wsX13_reads wsX13_isDigit := goodIn_r _ [17, 18, 19, 8, 9, 10, 6, 11, 1, 12, 13, 20, 21, 22, 36, 37, 38, 39, 40, 41, 42, 43, 44, 45, 46, 47, 48, 49, 50, 51, 52, 53, 54, 55, 56, 57, 58, 59, 60, 61, 62, 63, 64, 65, 66, 67, 68, 69, 70, 71, 72, 73, 74, 75, 76, 77, 78, 79, 80] rfl (by decide +kernel)
set_option maxRecDepth 20000 in
theorem ggX13_reads_X13_isNumber : GoodIn wsX13_reads wsX13_isNumber := goodIn_r _ [30, 31, 32, 33, 34, 35, 20, 21, 6, 22] rfl (by decide +kernel)
set_option maxRecDepth 20000 in
theorem ggX13_reads_X13_must : GoodIn wsX13_reads wsX13_must := goodIn_r _ [26, 27, 36, 37, 38, 39, 40, 41, 42, 43, 44, 45, 46, 47, 48, 49, 50, 51, 52, 53, 54, 55, 56, 57, 58, 59, 60, 61, 62, 63, 64, 65, 66, 67, 68, 69, 70, 71, 72, 73, 74, 75, 76, 77, 78, 79, 80] rfl (by decide +kernel)
set_option maxRecDepth 20000 in
theorem gX13_reads_X13_blanks : GoodIn wsX13_reads (wsV RX13 358 RX13 yX13_blanks wsX13_blanks) := goodIn_app (goodIn_r _ [3, 4, 5, 6] rfl (by decide +kernel)) ggX13_reads_X13_blanks
set_option maxRecDepth 20000 in
theorem gX13_reads_X13_here : GoodIn wsX13_reads (wsV RX13 350 RX13 yX13_here wsX13_here) := goodIn_app (goodIn_r _ [8, 9, 10, 6] rfl (by decide +kernel)) ggX13_reads_X13_here
set_option maxRecDepth 20000 in
theorem gX13_reads_X13_isDigit : GoodIn wsX13_reads (wsV RX13 361 RX13 yX13_isDigit wsX13_isDigit) := goodIn_app (goodIn_r _ [14, 15, 16, 6] rfl (by decide +kernel)) ggX13_reads_X13_isDigit
set_option maxRecDepth 20000 in
theorem gX13_reads_X13_isNumber : GoodIn wsX13_reads (va_wsS RX13 216 yX13_isNumber wsX13_isNumber) := goodIn_app (goodIn_of _ (by decide +kernel)) ggX13_reads_X13_isNumber
set_option maxRecDepth 20000 in
theorem gX13_reads_X13_must : GoodIn wsX13_reads (wsV RX13 365 RX13 yX13_must wsX13_must) := goodIn_app (goodIn_r _ [23, 24, 25, 6] rfl (by decide +kernel)) ggX13_reads_X13_must
theorem hv_X13_blanks : yX13_blanks.cls = RX13 ∧ yX13_blanks.cls ≠ "java/lang/invoke/MethodHandle" ∧ yX13_blanks.cls ≠ "java/lang/invoke/VarHandle" ∧ (parseMethodDescriptor yX13_blanks.desc).map (fun d => d.parameters.length) = some 0 := by decide +kernel
theorem hv_X13_isDigit : yX13_isDigit.cls = RX13 ∧ yX13_isDigit.cls ≠ "java/lang/invoke/MethodHandle" ∧ yX13_isDigit.cls ≠ "java/lang/invoke/VarHandle" ∧ (parseMethodDescriptor yX13_isDigit.desc).map (fun d => d.parameters.length) = some 0 := by decide +kernel
theorem hv_X13_must : yX13_must.cls = RX13 ∧ yX13_must.cls ≠ "java/lang/invoke/MethodHandle" ∧ yX13_must.cls ≠ "java/lang/invoke/VarHandle" ∧ (parseMethodDescriptor yX13_must.desc).map (fun d => d.parameters.length) = some 2 := by decide +kernel
set_option maxRecDepth 20000 in
theorem in_X13_reads_X13 : ∀ w ∈ wsX130, w ∈ wsX13_reads := sub_r [36, 37, 38, 39, 40, 41, 42, 43, 44, 45, 46, 47, 48, 49, 50, 51, 52, 53, 54, 55, 56, 57, 58, 59, 60, 61, 62, 63, 64, 65, 66, 67, 68, 69, 70, 71, 72, 73, 74, 75, 76, 77, 78, 79, 80] rfl
set_option maxHeartbeats 4000000 in
set_option maxRecDepth 100000 in
theorem c_X13_reads (l : Launch) (D : va_G) (T : Nat → ClassId) (sz : Nat) (h0 : Nat) (q : Nat → Int32) (v : Int64) (w : Int64) (a : Nat → Nat) (f25 : Nat → Int32) (x1 : Int32) (hcu : 0 ≤ (q 28).toInt ∧ (q 28).toInt ≤ (q 26).toInt ∧ (q 26).toInt ≤ 120) : Met l yX13_reads wsX13_reads ({ frames := 2, cells := 0, slots := 0, locals := 46 }) (pW [.ref h0, .int x1] D T [(h0, .inr (10, (Value.int (q 0) :: Value.int (q 1) :: Value.int (q 2) :: Value.int (q 3) :: Value.int (q 4) :: Value.int (q 5) :: Value.int (q 6) :: Value.int (q 7) :: Value.ref (a 8) :: Value.ref (a 9) :: Value.ref (a 10) :: Value.ref (a 11) :: Value.ref (a 12) :: Value.ref (a 13) :: Value.int (q 14) :: Value.long v :: Value.long w :: Value.ref (a 17) :: Value.ref (a 18) :: Value.ref (a 19) :: Value.ref (a 20) :: Value.ref (a 21) :: Value.ref (a 22) :: Value.ref (a 23) :: Value.int (q 24) :: Value.ref (a 25) :: Value.int (q 26) :: Value.ref (a 27) :: Value.int (q 28) :: Value.int (q 29) :: Value.int (q 30) :: Value.int (q 31) :: Value.int (q 32) :: Value.int (q 33) :: Value.ref (a 34) :: Value.ref (a 35) :: Value.ref (a 36) :: Value.ref (a 37) :: Value.ref (a 38) :: Value.ref (a 39) :: Value.ref (a 40) :: Value.int (q 41) :: Value.ref (a 42) :: Value.int (q 43) :: Value.int (q 44) :: []))), ((a 25), .inl (T 0, 120, .inl f25))] sz) (va_Qi (fun (r : Int32) (u : (Int32) × (Int32) × (Int32)) => ((q 28).toInt ≤ u.1.toInt ∧ u.1.toInt ≤ (q 26).toInt)) (bW D (va_A [(h0, .inr (10, (Value.int (q 0) :: Value.int (q 1) :: Value.int (q 2) :: Value.int (q 3) :: Value.int (q 4) :: Value.int (q 5) :: Value.int (q 6) :: Value.int (q 7) :: Value.ref (a 8) :: Value.ref (a 9) :: Value.ref (a 10) :: Value.ref (a 11) :: Value.ref (a 12) :: Value.ref (a 13) :: Value.int (q 14) :: Value.long v :: Value.long w :: Value.ref (a 17) :: Value.ref (a 18) :: Value.ref (a 19) :: Value.ref (a 20) :: Value.ref (a 21) :: Value.ref (a 22) :: Value.ref (a 23) :: Value.int (q 24) :: Value.ref (a 25) :: Value.int (q 26) :: Value.ref (a 27) :: Value.int (q 28) :: Value.int (q 29) :: Value.int (q 30) :: Value.int (q 31) :: Value.int (q 32) :: Value.int (q 33) :: Value.ref (a 34) :: Value.ref (a 35) :: Value.ref (a 36) :: Value.ref (a 37) :: Value.ref (a 38) :: Value.ref (a 39) :: Value.ref (a 40) :: Value.int (q 41) :: Value.ref (a 42) :: Value.int (q 43) :: Value.int (q 44) :: []))), ((a 25), .inl (T 0, 120, .inl f25))] sz) (fun (u : (Int32) × (Int32) × (Int32)) => [(h0, .inr (10, (Value.int (q 0) :: Value.int (q 1) :: Value.int (q 2) :: Value.int (q 3) :: Value.int (q 4) :: Value.int (q 5) :: Value.int (q 6) :: Value.int (q 7) :: Value.ref (a 8) :: Value.ref (a 9) :: Value.ref (a 10) :: Value.ref (a 11) :: Value.ref (a 12) :: Value.ref (a 13) :: Value.int (q 14) :: Value.long v :: Value.long w :: Value.ref (a 17) :: Value.ref (a 18) :: Value.ref (a 19) :: Value.ref (a 20) :: Value.ref (a 21) :: Value.ref (a 22) :: Value.ref (a 23) :: Value.int (q 24) :: Value.ref (a 25) :: Value.int (q 26) :: Value.ref (a 27) :: Value.int u.1 :: Value.int u.2.1 :: Value.int (q 30) :: Value.int (q 31) :: Value.int (q 32) :: Value.int u.2.2 :: Value.ref (a 34) :: Value.ref (a 35) :: Value.ref (a 36) :: Value.ref (a 37) :: Value.ref (a 38) :: Value.ref (a 39) :: Value.ref (a 40) :: Value.int (q 41) :: Value.ref (a 42) :: Value.int (q 43) :: Value.int (q 44) :: []))), ((a 25), .inl (T 0, 120, .inl f25))])) (va_A [(h0, .inr (10, (Value.int (q 0) :: Value.int (q 1) :: Value.int (q 2) :: Value.int (q 3) :: Value.int (q 4) :: Value.int (q 5) :: Value.int (q 6) :: Value.int (q 7) :: Value.ref (a 8) :: Value.ref (a 9) :: Value.ref (a 10) :: Value.ref (a 11) :: Value.ref (a 12) :: Value.ref (a 13) :: Value.int (q 14) :: Value.long v :: Value.long w :: Value.ref (a 17) :: Value.ref (a 18) :: Value.ref (a 19) :: Value.ref (a 20) :: Value.ref (a 21) :: Value.ref (a 22) :: Value.ref (a 23) :: Value.int (q 24) :: Value.ref (a 25) :: Value.int (q 26) :: Value.ref (a 27) :: Value.int (q 28) :: Value.int (q 29) :: Value.int (q 30) :: Value.int (q 31) :: Value.int (q 32) :: Value.int (q 33) :: Value.ref (a 34) :: Value.ref (a 35) :: Value.ref (a 36) :: Value.ref (a 37) :: Value.ref (a 38) :: Value.ref (a 39) :: Value.ref (a 40) :: Value.int (q 41) :: Value.ref (a 42) :: Value.int (q 43) :: Value.int (q 44) :: []))), ((a 25), .inl (T 0, 120, .inl f25))] sz)) 0 0 (va_A [(h0, .inr (10, (Value.int (q 0) :: Value.int (q 1) :: Value.int (q 2) :: Value.int (q 3) :: Value.int (q 4) :: Value.int (q 5) :: Value.int (q 6) :: Value.int (q 7) :: Value.ref (a 8) :: Value.ref (a 9) :: Value.ref (a 10) :: Value.ref (a 11) :: Value.ref (a 12) :: Value.ref (a 13) :: Value.int (q 14) :: Value.long v :: Value.long w :: Value.ref (a 17) :: Value.ref (a 18) :: Value.ref (a 19) :: Value.ref (a 20) :: Value.ref (a 21) :: Value.ref (a 22) :: Value.ref (a 23) :: Value.int (q 24) :: Value.ref (a 25) :: Value.int (q 26) :: Value.ref (a 27) :: Value.int (q 28) :: Value.int (q 29) :: Value.int (q 30) :: Value.int (q 31) :: Value.int (q 32) :: Value.int (q 33) :: Value.ref (a 34) :: Value.ref (a 35) :: Value.ref (a 36) :: Value.ref (a 37) :: Value.ref (a 38) :: Value.ref (a 39) :: Value.ref (a 40) :: Value.int (q 41) :: Value.ref (a 42) :: Value.int (q 43) :: Value.int (q 44) :: []))), ((a 25), .inl (T 0, 120, .inl f25))] sz) := by
  refine Met.ofW (cc := cX13_reads) (maxL := 5) (ret := (some .boolean)) (by decide +kernel) rfl ?_
  intro p e s m args below meth c s₁ B hml hv
  obtain ⟨rfl, hsz, hP, hE, hD0⟩ := hv
  have hx := B.exec
  have hb := B.bytes
  have hr := B.returns
  have hts := atoms_spec (ws := wsX13_reads) B.pre
  have hown : s.vm.findClass RX13 = some m.cls := findClass_of_methodNamed B.named
  have hlocks := B.notSynchronized
  subst hsz
  have hD := hD0.self (sz := s.heap.size)
  generalize hAe : va_A [(h0, .inr (10, (Value.int (q 0) :: Value.int (q 1) :: Value.int (q 2) :: Value.int (q 3) :: Value.int (q 4) :: Value.int (q 5) :: Value.int (q 6) :: Value.int (q 7) :: Value.ref (a 8) :: Value.ref (a 9) :: Value.ref (a 10) :: Value.ref (a 11) :: Value.ref (a 12) :: Value.ref (a 13) :: Value.int (q 14) :: Value.long v :: Value.long w :: Value.ref (a 17) :: Value.ref (a 18) :: Value.ref (a 19) :: Value.ref (a 20) :: Value.ref (a 21) :: Value.ref (a 22) :: Value.ref (a 23) :: Value.int (q 24) :: Value.ref (a 25) :: Value.int (q 26) :: Value.ref (a 27) :: Value.int (q 28) :: Value.int (q 29) :: Value.int (q 30) :: Value.int (q 31) :: Value.int (q 32) :: Value.int (q 33) :: Value.ref (a 34) :: Value.ref (a 35) :: Value.ref (a 36) :: Value.ref (a 37) :: Value.ref (a 38) :: Value.ref (a 39) :: Value.ref (a 40) :: Value.int (q 41) :: Value.ref (a 42) :: Value.int (q 43) :: Value.int (q 44) :: []))), ((a 25), .inl (T 0, 120, .inl f25))] s.heap.size = A at hD ⊢
  have hA : ∀ q : Nat, s.heap.size ≤ q → A q := fun q h => by rw [← hAe]; exact Or.inr h
  have hS : va_S A s.heap s.heap [] := va_S.rf
  have hP : va_P D vwCl [(h0, .inr (10, (Value.int (q 0) :: Value.int (q 1) :: Value.int (q 2) :: Value.int (q 3) :: Value.int (q 4) :: Value.int (q 5) :: Value.int (q 6) :: Value.int (q 7) :: Value.ref (a 8) :: Value.ref (a 9) :: Value.ref (a 10) :: Value.ref (a 11) :: Value.ref (a 12) :: Value.ref (a 13) :: Value.int (q 14) :: Value.long v :: Value.long w :: Value.ref (a 17) :: Value.ref (a 18) :: Value.ref (a 19) :: Value.ref (a 20) :: Value.ref (a 21) :: Value.ref (a 22) :: Value.ref (a 23) :: Value.int (q 24) :: Value.ref (a 25) :: Value.int (q 26) :: Value.ref (a 27) :: Value.int (q 28) :: Value.int (q 29) :: Value.int (q 30) :: Value.int (q 31) :: Value.int (q 32) :: Value.int (q 33) :: Value.ref (a 34) :: Value.ref (a 35) :: Value.ref (a 36) :: Value.ref (a 37) :: Value.ref (a 38) :: Value.ref (a 39) :: Value.ref (a 40) :: Value.int (q 41) :: Value.ref (a 42) :: Value.int (q 43) :: Value.int (q 44) :: []))), ((a 25), .inl (T 0, 120, .inl f25))] s.heap := hP
  have hl := lv_entry ([.ref h0, .int x1]) (n := 5) (Nat.le_of_ble_eq_true rfl)
  rw [lg_entry_eq]
  generalize (lg_sl ([.ref h0, .int x1]) ++ List.replicate (5 - (lg_sl ([.ref h0, .int x1])).length) Slot.unset).toArray = ls at hl ⊢
  have hl : lv_has ls 5 [(0, .ref h0), (1, .int x1)] := hl
  have h0t := ti_0
  have h1t := ti_1
  clear hD0
  refine lv_aload_n hx hb dX13_reads_0 rfl (lv_at hl 0 rfl) ?_
  have hFc := va_free (wc := [(h0, .inr (10, (Value.int (q 0) :: Value.int (q 1) :: Value.int (q 2) :: Value.int (q 3) :: Value.int (q 4) :: Value.int (q 5) :: Value.int (q 6) :: Value.int (q 7) :: Value.ref (a 8) :: Value.ref (a 9) :: Value.ref (a 10) :: Value.ref (a 11) :: Value.ref (a 12) :: Value.ref (a 13) :: Value.int (q 14) :: Value.long v :: Value.long w :: Value.ref (a 17) :: Value.ref (a 18) :: Value.ref (a 19) :: Value.ref (a 20) :: Value.ref (a 21) :: Value.ref (a 22) :: Value.ref (a 23) :: Value.int (q 24) :: Value.ref (a 25) :: Value.int (q 26) :: Value.ref (a 27) :: Value.int (q 28) :: Value.int (q 29) :: Value.int (q 30) :: Value.int (q 31) :: Value.int (q 32) :: Value.int (q 33) :: Value.ref (a 34) :: Value.ref (a 35) :: Value.ref (a 36) :: Value.ref (a 37) :: Value.ref (a 38) :: Value.ref (a 39) :: Value.ref (a 40) :: Value.int (q 41) :: Value.ref (a 42) :: Value.int (q 43) :: Value.int (q 44) :: []))), ((a 25), .inl (T 0, 120, .inl f25))]) hD hS hA [0, 1] rfl
  refine va_callv (va_runV (As := []) (rest := []) ⟨hx, hb, hml, hown, hts⟩ (c_X13_blanks l D T _ h0 q v w a f25 (show 0 ≤ (q 28).toInt ∧ (q 28).toInt ≤ (q 26).toInt ∧ (q 26).toInt ≤ 120 from (by omega))) (cwV 0 hts gX13_reads_X13_blanks rfl rfl rfl hv_X13_blanks ⟨Nat.le_of_ble_eq_true rfl, Nat.le_of_ble_eq_true rfl⟩) (pW_V (ci := 10) (q0 := 0) hP hE hD rfl rfl [0, 1] (by decide +kernel) rfl rfl) rfl rfl hl.1 rfl (lv_room (Nat.le_of_ble_eq_true rfl)) dX13_reads_1 ⟨Nat.le_of_ble_eq_true rfl, Nat.le_of_ble_eq_true rfl⟩) hS (fun q _ h => hFc q h) hFc (fun u_2 t H1 locs ht hvm hr_1 hB hz1 hk1 hS => ?_)
  have hi0_r_1 := hr_1
  have hj0_r_1 : (q 28).toInt ≤ u_2.toInt ∧ u_2.toInt ≤ (q 26).toInt := hi0_r_1
  obtain ⟨hP1, hD1⟩ := hB
  rw [ht] at hP1
  obtain ⟨hP, hD⟩ := va_joinN [(h0, .inr (10, (Value.int (q 0) :: Value.int (q 1) :: Value.int (q 2) :: Value.int (q 3) :: Value.int (q 4) :: Value.int (q 5) :: Value.int (q 6) :: Value.int (q 7) :: Value.ref (a 8) :: Value.ref (a 9) :: Value.ref (a 10) :: Value.ref (a 11) :: Value.ref (a 12) :: Value.ref (a 13) :: Value.int (q 14) :: Value.long v :: Value.long w :: Value.ref (a 17) :: Value.ref (a 18) :: Value.ref (a 19) :: Value.ref (a 20) :: Value.ref (a 21) :: Value.ref (a 22) :: Value.ref (a 23) :: Value.int (q 24) :: Value.ref (a 25) :: Value.int (q 26) :: Value.ref (a 27) :: Value.int u_2 :: Value.int (q 29) :: Value.int (q 30) :: Value.int (q 31) :: Value.int (q 32) :: Value.int (q 33) :: Value.ref (a 34) :: Value.ref (a 35) :: Value.ref (a 36) :: Value.ref (a 37) :: Value.ref (a 38) :: Value.ref (a 39) :: Value.ref (a 40) :: Value.int (q 41) :: Value.ref (a 42) :: Value.int (q 43) :: Value.int (q 44) :: []))), ((a 25), .inl (T 0, 120, .inl f25))] hP hD [0, 1] [] 2 rfl rfl rfl (by decide +kernel) hk1 hFc hP1 hD1
  clear hP1 hD1 hFc
  generalize H1 = H at hP hS ⊢
  refine lv_aload_n hx hb dX13_reads_4 rfl (lv_at hl 0 rfl) ?_
  refine va_get (D := D) (ci := 10) (v := .int u_2) (C := RX13) (T := TX13) (N := 45) hx hb hts in_X13_reads_X13 hown hE.1 hP 0 rfl rfl 28 (by decide +kernel) (hts (.fieldLink RX13 344 "ClauseBookModel" "cursor" "I") (List.mem_of_getElem? (i := 1) rfl)) (fun _ h9 => h9) rfl dX13_reads_5 ?_
  refine lv_istore_n (lv' := [(2, .int u_2), (0, .ref h0), (1, .int x1)]) hx hb dX13_reads_8 rfl hl (by decide +kernel) rfl (fun ls hl => ?_)
  refine lv_aload_n hx hb dX13_reads_9 rfl (lv_at hl 1 rfl) ?_
  refine vp_callSi (W.runV (As := []) (rest := []) ⟨hx, hb, hml, hown, hts⟩ (c_X13_here l D T h0 [.int (q 0), .int (q 1), .int (q 2), .int (q 3), .int (q 4), .int (q 5), .int (q 6), .int (q 7), .ref (a 8), .ref (a 9), .ref (a 10), .ref (a 11), .ref (a 12), .ref (a 13), .int (q 14), .long v, .long w, .ref (a 17), .ref (a 18), .ref (a 19), .ref (a 20), .ref (a 21), .ref (a 22), .ref (a 23), .int (q 24), .ref (a 25), .int (q 26), .ref (a 27), .int u_2, .int (q 29), .int (q 30), .int (q 31), .int (q 32), .int (q 33), .ref (a 34), .ref (a 35), .ref (a 36), .ref (a 37), .ref (a 38), .ref (a 39), .ref (a 40), .int (q 41), .ref (a 42), .int (q 43), .int (q 44)] (a 25) f25 u_2 (q 26) rfl rfl rfl (by omega)) (cwV 0 hts gX13_reads_X13_here rfl rfl rfl hv_X13_here ⟨Nat.le_of_ble_eq_true rfl, Nat.le_of_ble_eq_true rfl⟩) (pR_V (ci := 10) (q0 := 0) hP hE rfl rfl [0, 1] rfl) rfl rfl hl.1 rfl (lv_room (Nat.le_of_ble_eq_true rfl)) dX13_reads_10 ⟨Nat.le_of_ble_eq_true rfl, Nat.le_of_ble_eq_true rfl⟩) (fun r_3 hr_3 => ?_)
  refine lv_bipush (v := 45) hx hb dX13_reads_13 (by decide +kernel) ?_
  refine lv_icmp_ne (tgt := 22) hx hb dX13_reads_15 (by decide +kernel) (fun c_4 => ?_) (fun c_4 => ?_)
  · rw [fa_eq] at c_4
    try rw [ti_45] at c_4
    refine lv_iconst (v := 0) hx hb dX13_reads_22 (by decide +kernel) ?_
    refine lv_istore_n (lv' := [(3, .int 0), (2, .int u_2), (0, .ref h0), (1, .int x1)]) hx hb dX13_reads_23 rfl hl (by decide +kernel) rfl (fun ls hl => ?_)
    refine lv_aload_n hx hb dX13_reads_24 rfl (lv_at hl 2 rfl) ?_
    refine lv_dup hx hb dX13_reads_25 rfl ?_
    refine va_get (D := D) (ci := 10) (v := .int u_2) (C := RX13) (T := TX13) (N := 45) hx hb hts in_X13_reads_X13 hown hE.1 hP 0 rfl rfl 28 (by decide +kernel) (hts (.fieldLink RX13 344 "ClauseBookModel" "cursor" "I") (List.mem_of_getElem? (i := 1) rfl)) (fun _ h9 => h9) rfl dX13_reads_26 ?_
    refine lv_iload_n hx hb dX13_reads_29 rfl (lv_at hl 0 rfl) ?_
    refine lv_if_eq (tgt := 37) hx hb dX13_reads_30 (by decide +kernel) (fun _ => ?_) (fun c9 => absurd c9 (by decide +kernel))
    refine lv_iconst (v := 0) hx hb dX13_reads_37 (by decide +kernel) ?_
    refine lv_iadd hx hb dX13_reads_38 ?_
    refine lv_topi (fun z_5 ez_5 => ?_)
    have hz9 : z_5.toInt = u_2.toInt := by rw [ez_5, fb_addI (by rw [ti_0]; omega) (by rw [ti_0]; omega), ti_0]; omega
    refine va_put (D := D) (ci := 10) (v := .int z_5) (ty := .int) (C := RX13) (T := TX13) (N := 45) hx hb hts in_X13_reads_X13 tyX13 tyX13_ok nmX13 hown hE.1 hP hD hS 0 rfl rfl 28 (by decide +kernel) (hts (.fieldLink RX13 344 "ClauseBookModel" "cursor" "I") (List.mem_of_getElem? (i := 1) rfl)) (fun _ h9 => h9) rfl (by decide +kernel) rfl rfl (Nat.le_of_ble_eq_true rfl) dX13_reads_39 (fun H locs hP hD hS => ?_)
    obtain ⟨hP, hD⟩ := wPD [(h0, .inr (10, (Value.int (q 0) :: Value.int (q 1) :: Value.int (q 2) :: Value.int (q 3) :: Value.int (q 4) :: Value.int (q 5) :: Value.int (q 6) :: Value.int (q 7) :: Value.ref (a 8) :: Value.ref (a 9) :: Value.ref (a 10) :: Value.ref (a 11) :: Value.ref (a 12) :: Value.ref (a 13) :: Value.int (q 14) :: Value.long v :: Value.long w :: Value.ref (a 17) :: Value.ref (a 18) :: Value.ref (a 19) :: Value.ref (a 20) :: Value.ref (a 21) :: Value.ref (a 22) :: Value.ref (a 23) :: Value.int (q 24) :: Value.ref (a 25) :: Value.int (q 26) :: Value.ref (a 27) :: Value.int z_5 :: Value.int (q 29) :: Value.int (q 30) :: Value.int (q 31) :: Value.int (q 32) :: Value.int (q 33) :: Value.ref (a 34) :: Value.ref (a 35) :: Value.ref (a 36) :: Value.ref (a 37) :: Value.ref (a 38) :: Value.ref (a 39) :: Value.ref (a 40) :: Value.int (q 41) :: Value.ref (a 42) :: Value.int (q 43) :: Value.int (q 44) :: []))), ((a 25), .inl (T 0, 120, .inl f25))] hP hD rfl
    refine lv_aload_n hx hb dX13_reads_42 rfl (lv_at hl 2 rfl) ?_
    refine lv_aload_n hx hb dX13_reads_43 rfl (lv_at hl 2 rfl) ?_
    refine vp_callSi (W.runV (As := []) (rest := [.ref h0]) ⟨hx, hb, hml, hown, hts⟩ (c_X13_isDigit l D T h0 [.int (q 0), .int (q 1), .int (q 2), .int (q 3), .int (q 4), .int (q 5), .int (q 6), .int (q 7), .ref (a 8), .ref (a 9), .ref (a 10), .ref (a 11), .ref (a 12), .ref (a 13), .int (q 14), .long v, .long w, .ref (a 17), .ref (a 18), .ref (a 19), .ref (a 20), .ref (a 21), .ref (a 22), .ref (a 23), .int (q 24), .ref (a 25), .int (q 26), .ref (a 27), .int z_5, .int (q 29), .int (q 30), .int (q 31), .int (q 32), .int (q 33), .ref (a 34), .ref (a 35), .ref (a 36), .ref (a 37), .ref (a 38), .ref (a 39), .ref (a 40), .int (q 41), .ref (a 42), .int (q 43), .int (q 44)] (a 25) f25 z_5 (q 26) rfl rfl rfl (by omega)) (cwV 0 hts gX13_reads_X13_isDigit rfl rfl rfl hv_X13_isDigit ⟨Nat.le_of_ble_eq_true rfl, Nat.le_of_ble_eq_true rfl⟩) (pR_V (ci := 10) (q0 := 0) hP hE rfl rfl [0, 1] rfl) rfl rfl hl.1 rfl (lv_room (Nat.le_of_ble_eq_true rfl)) dX13_reads_44 ⟨Nat.le_of_ble_eq_true rfl, Nat.le_of_ble_eq_true rfl⟩) (fun r_6 hr_6 => ?_)
    refine lv_iload_n hx hb dX13_reads_47 rfl (lv_at hl 1 rfl) ?_
    have hFc := va_free (wc := [(h0, .inr (10, (Value.int (q 0) :: Value.int (q 1) :: Value.int (q 2) :: Value.int (q 3) :: Value.int (q 4) :: Value.int (q 5) :: Value.int (q 6) :: Value.int (q 7) :: Value.ref (a 8) :: Value.ref (a 9) :: Value.ref (a 10) :: Value.ref (a 11) :: Value.ref (a 12) :: Value.ref (a 13) :: Value.int (q 14) :: Value.long v :: Value.long w :: Value.ref (a 17) :: Value.ref (a 18) :: Value.ref (a 19) :: Value.ref (a 20) :: Value.ref (a 21) :: Value.ref (a 22) :: Value.ref (a 23) :: Value.int (q 24) :: Value.ref (a 25) :: Value.int (q 26) :: Value.ref (a 27) :: Value.int z_5 :: Value.int (q 29) :: Value.int (q 30) :: Value.int (q 31) :: Value.int (q 32) :: Value.int (q 33) :: Value.ref (a 34) :: Value.ref (a 35) :: Value.ref (a 36) :: Value.ref (a 37) :: Value.ref (a 38) :: Value.ref (a 39) :: Value.ref (a 40) :: Value.int (q 41) :: Value.ref (a 42) :: Value.int (q 43) :: Value.int (q 44) :: [])))]) hD hS hA [0] rfl
    refine va_calli (va_runV (As := [.int r_6, .int u_2]) (rest := []) ⟨hx, hb, hml, hown, hts⟩ (c_X13_must l D T _ h0 (fun k => cond (Nat.beq k 28) z_5 (q k)) v w a r_6 u_2 (show isB r_6 from hr_6.1)) (cwV 2 hts gX13_reads_X13_must rfl rfl rfl hv_X13_must ⟨Nat.le_of_ble_eq_true rfl, Nat.le_of_ble_eq_true rfl⟩) (pW_V (ci := 10) (q0 := 0) hP hE hD rfl rfl [0] (by decide +kernel) rfl rfl) rfl rfl hl.1 rfl (lv_room (Nat.le_of_ble_eq_true rfl)) dX13_reads_48 ⟨Nat.le_of_ble_eq_true rfl, Nat.le_of_ble_eq_true rfl⟩) hS (fun q _ h => hFc q h) hFc (fun r_7 u_8 t H1 locs ht hvm hr_7 hB hz1 hk1 hS => ?_)
    obtain ⟨hi0_r_7, hi1_r_7⟩ := hr_7
    have hj0_r_7 : r_7 = r_6 := hi0_r_7
    have hG : isB r_7 := hi1_r_7
    obtain ⟨hP1, hD1⟩ := hB
    rw [ht] at hP1
    obtain ⟨hP, hD⟩ := va_joinN [((a 25), .inl (T 0, 120, .inl f25)), (h0, .inr (10, (Value.int (q 0) :: Value.int (q 1) :: Value.int (q 2) :: Value.int (q 3) :: Value.int (q 4) :: Value.int (q 5) :: Value.int (q 6) :: Value.int (q 7) :: Value.ref (a 8) :: Value.ref (a 9) :: Value.ref (a 10) :: Value.ref (a 11) :: Value.ref (a 12) :: Value.ref (a 13) :: Value.int (q 14) :: Value.long v :: Value.long w :: Value.ref (a 17) :: Value.ref (a 18) :: Value.ref (a 19) :: Value.ref (a 20) :: Value.ref (a 21) :: Value.ref (a 22) :: Value.ref (a 23) :: Value.int (q 24) :: Value.ref (a 25) :: Value.int (q 26) :: Value.ref (a 27) :: Value.int z_5 :: Value.int u_8 :: Value.int (q 30) :: Value.int (q 31) :: Value.int (q 32) :: Value.int (q 33) :: Value.ref (a 34) :: Value.ref (a 35) :: Value.ref (a 36) :: Value.ref (a 37) :: Value.ref (a 38) :: Value.ref (a 39) :: Value.ref (a 40) :: Value.int (q 41) :: Value.ref (a 42) :: Value.int (q 43) :: Value.int (q 44) :: [])))] hP hD [0] [1] 2 rfl rfl rfl (by decide +kernel) hk1 hFc hP1 hD1
    clear hP1 hD1 hFc
    generalize H1 = H at hP hS ⊢
    refine lv_if_ne (tgt := 56) hx hb dX13_reads_51 (by decide +kernel) (fun c_9 => ?_) (fun c_9 => ?_)
    · rw [fa_eq] at c_9
      try rw [ti_0] at c_9
      refine lv_aload_n hx hb dX13_reads_56 rfl (lv_at hl 2 rfl) ?_
      refine lv_iconst (v := 0) hx hb dX13_reads_57 (by decide +kernel) ?_
      refine va_put (D := D) (ci := 10) (v := .int 0) (ty := .int) (C := RX13) (T := TX13) (N := 45) hx hb hts in_X13_reads_X13 tyX13 tyX13_ok nmX13 hown hE.1 hP hD hS 1 rfl rfl 33 (by decide +kernel) (hts (.fieldLink RX13 369 "ClauseBookModel" "value" "I") (List.mem_of_getElem? (i := 2) rfl)) (fun _ h9 => h9) rfl (by decide +kernel) rfl rfl (Nat.le_of_ble_eq_true rfl) dX13_reads_58 (fun H locs hP hD hS => ?_)
      obtain ⟨hP, hD⟩ := wPD [((a 25), .inl (T 0, 120, .inl f25)), (h0, .inr (10, (Value.int (q 0) :: Value.int (q 1) :: Value.int (q 2) :: Value.int (q 3) :: Value.int (q 4) :: Value.int (q 5) :: Value.int (q 6) :: Value.int (q 7) :: Value.ref (a 8) :: Value.ref (a 9) :: Value.ref (a 10) :: Value.ref (a 11) :: Value.ref (a 12) :: Value.ref (a 13) :: Value.int (q 14) :: Value.long v :: Value.long w :: Value.ref (a 17) :: Value.ref (a 18) :: Value.ref (a 19) :: Value.ref (a 20) :: Value.ref (a 21) :: Value.ref (a 22) :: Value.ref (a 23) :: Value.int (q 24) :: Value.ref (a 25) :: Value.int (q 26) :: Value.ref (a 27) :: Value.int z_5 :: Value.int u_8 :: Value.int (q 30) :: Value.int (q 31) :: Value.int (q 32) :: Value.int 0 :: Value.ref (a 34) :: Value.ref (a 35) :: Value.ref (a 36) :: Value.ref (a 37) :: Value.ref (a 38) :: Value.ref (a 39) :: Value.ref (a 40) :: Value.int (q 41) :: Value.ref (a 42) :: Value.int (q 43) :: Value.int (q 44) :: [])))] hP hD rfl
      refine loopW (σ := (Int32) × (Int32)) (fun x9 ls H locs => lv_has ls 5 [(3, .int 0), (2, .int u_2), (0, .ref h0), (1, .int x1)] ∧ va_P D vwCl [((a 25), .inl (T 0, 120, .inl f25)), (h0, .inr (10, (Value.int (q 0) :: Value.int (q 1) :: Value.int (q 2) :: Value.int (q 3) :: Value.int (q 4) :: Value.int (q 5) :: Value.int (q 6) :: Value.int (q 7) :: Value.ref (a 8) :: Value.ref (a 9) :: Value.ref (a 10) :: Value.ref (a 11) :: Value.ref (a 12) :: Value.ref (a 13) :: Value.int (q 14) :: Value.long v :: Value.long w :: Value.ref (a 17) :: Value.ref (a 18) :: Value.ref (a 19) :: Value.ref (a 20) :: Value.ref (a 21) :: Value.ref (a 22) :: Value.ref (a 23) :: Value.int (q 24) :: Value.ref (a 25) :: Value.int (q 26) :: Value.ref (a 27) :: Value.int x9.1 :: Value.int u_8 :: Value.int (q 30) :: Value.int (q 31) :: Value.int (q 32) :: Value.int x9.2 :: Value.ref (a 34) :: Value.ref (a 35) :: Value.ref (a 36) :: Value.ref (a 37) :: Value.ref (a 38) :: Value.ref (a 39) :: Value.ref (a 40) :: Value.int (q 41) :: Value.ref (a 42) :: Value.int (q 43) :: Value.int (q 44) :: [])))] H ∧ va_D A [((a 25), .inl (T 0, 120, .inl f25)), (h0, .inr (10, (Value.int (q 0) :: Value.int (q 1) :: Value.int (q 2) :: Value.int (q 3) :: Value.int (q 4) :: Value.int (q 5) :: Value.int (q 6) :: Value.int (q 7) :: Value.ref (a 8) :: Value.ref (a 9) :: Value.ref (a 10) :: Value.ref (a 11) :: Value.ref (a 12) :: Value.ref (a 13) :: Value.int (q 14) :: Value.long v :: Value.long w :: Value.ref (a 17) :: Value.ref (a 18) :: Value.ref (a 19) :: Value.ref (a 20) :: Value.ref (a 21) :: Value.ref (a 22) :: Value.ref (a 23) :: Value.int (q 24) :: Value.ref (a 25) :: Value.int (q 26) :: Value.ref (a 27) :: Value.int x9.1 :: Value.int u_8 :: Value.int (q 30) :: Value.int (q 31) :: Value.int (q 32) :: Value.int x9.2 :: Value.ref (a 34) :: Value.ref (a 35) :: Value.ref (a 36) :: Value.ref (a 37) :: Value.ref (a 38) :: Value.ref (a 39) :: Value.ref (a 40) :: Value.int (q 41) :: Value.ref (a 42) :: Value.int (q 43) :: Value.int (q 44) :: [])))] ∧ va_S A s.heap H locs ∧ ((q 28).toInt ≤ x9.1.toInt ∧ x9.1.toInt ≤ (q 26).toInt)) (fun x9 => (120 - x9.1.toInt).toNat) (fun x9 ls H locs hI ih => ?_) (z_5, 0) ls ⟨lv_sub hl [0, 1, 2, 3] rfl, hP.sub [0, 1] rfl, hD.sub [0, 1] (by decide +kernel) rfl, hS, (by (try dsimp only); omega)⟩
      obtain ⟨cu, va⟩ := x9
      obtain ⟨hl, hP, hD, hS, hinv⟩ := hI
      have hl : lv_has ls 5 [(3, .int 0), (2, .int u_2), (0, .ref h0), (1, .int x1)] := hl
      have hP : va_P D vwCl [((a 25), .inl (T 0, 120, .inl f25)), (h0, .inr (10, (Value.int (q 0) :: Value.int (q 1) :: Value.int (q 2) :: Value.int (q 3) :: Value.int (q 4) :: Value.int (q 5) :: Value.int (q 6) :: Value.int (q 7) :: Value.ref (a 8) :: Value.ref (a 9) :: Value.ref (a 10) :: Value.ref (a 11) :: Value.ref (a 12) :: Value.ref (a 13) :: Value.int (q 14) :: Value.long v :: Value.long w :: Value.ref (a 17) :: Value.ref (a 18) :: Value.ref (a 19) :: Value.ref (a 20) :: Value.ref (a 21) :: Value.ref (a 22) :: Value.ref (a 23) :: Value.int (q 24) :: Value.ref (a 25) :: Value.int (q 26) :: Value.ref (a 27) :: Value.int cu :: Value.int u_8 :: Value.int (q 30) :: Value.int (q 31) :: Value.int (q 32) :: Value.int va :: Value.ref (a 34) :: Value.ref (a 35) :: Value.ref (a 36) :: Value.ref (a 37) :: Value.ref (a 38) :: Value.ref (a 39) :: Value.ref (a 40) :: Value.int (q 41) :: Value.ref (a 42) :: Value.int (q 43) :: Value.int (q 44) :: [])))] H := hP
      have hD : va_D A [((a 25), .inl (T 0, 120, .inl f25)), (h0, .inr (10, (Value.int (q 0) :: Value.int (q 1) :: Value.int (q 2) :: Value.int (q 3) :: Value.int (q 4) :: Value.int (q 5) :: Value.int (q 6) :: Value.int (q 7) :: Value.ref (a 8) :: Value.ref (a 9) :: Value.ref (a 10) :: Value.ref (a 11) :: Value.ref (a 12) :: Value.ref (a 13) :: Value.int (q 14) :: Value.long v :: Value.long w :: Value.ref (a 17) :: Value.ref (a 18) :: Value.ref (a 19) :: Value.ref (a 20) :: Value.ref (a 21) :: Value.ref (a 22) :: Value.ref (a 23) :: Value.int (q 24) :: Value.ref (a 25) :: Value.int (q 26) :: Value.ref (a 27) :: Value.int cu :: Value.int u_8 :: Value.int (q 30) :: Value.int (q 31) :: Value.int (q 32) :: Value.int va :: Value.ref (a 34) :: Value.ref (a 35) :: Value.ref (a 36) :: Value.ref (a 37) :: Value.ref (a 38) :: Value.ref (a 39) :: Value.ref (a 40) :: Value.int (q 41) :: Value.ref (a 42) :: Value.int (q 43) :: Value.int (q 44) :: [])))] := hD
      have hinv : (q 28).toInt ≤ cu.toInt ∧ cu.toInt ≤ (q 26).toInt := hinv
      refine lv_aload_n hx hb dX13_reads_61 rfl (lv_at hl 2 rfl) ?_
      refine vp_callSi (W.runV (As := []) (rest := []) ⟨hx, hb, hml, hown, hts⟩ (c_X13_isDigit l D T h0 [.int (q 0), .int (q 1), .int (q 2), .int (q 3), .int (q 4), .int (q 5), .int (q 6), .int (q 7), .ref (a 8), .ref (a 9), .ref (a 10), .ref (a 11), .ref (a 12), .ref (a 13), .int (q 14), .long v, .long w, .ref (a 17), .ref (a 18), .ref (a 19), .ref (a 20), .ref (a 21), .ref (a 22), .ref (a 23), .int (q 24), .ref (a 25), .int (q 26), .ref (a 27), .int cu, .int u_8, .int (q 30), .int (q 31), .int (q 32), .int va, .ref (a 34), .ref (a 35), .ref (a 36), .ref (a 37), .ref (a 38), .ref (a 39), .ref (a 40), .int (q 41), .ref (a 42), .int (q 43), .int (q 44)] (a 25) f25 cu (q 26) rfl rfl rfl (by omega)) (cwV 0 hts gX13_reads_X13_isDigit rfl rfl rfl hv_X13_isDigit ⟨Nat.le_of_ble_eq_true rfl, Nat.le_of_ble_eq_true rfl⟩) (pR_V (ci := 10) (q0 := 1) hP hE rfl rfl [1, 0] rfl) rfl rfl hl.1 rfl (lv_room (Nat.le_of_ble_eq_true rfl)) dX13_reads_62 ⟨Nat.le_of_ble_eq_true rfl, Nat.le_of_ble_eq_true rfl⟩) (fun r_10 hr_10 => ?_)
      refine lv_if_eq (tgt := 116) hx hb dX13_reads_65 (by decide +kernel) (fun c_11 => ?_) (fun c_11 => ?_)
      · rw [fa_eq] at c_11
        try rw [ti_0] at c_11
        refine lv_aload_n hx hb dX13_reads_116 rfl (lv_at hl 2 rfl) ?_
        refine va_get (D := D) (ci := 10) (v := .int va) (C := RX13) (T := TX13) (N := 45) hx hb hts in_X13_reads_X13 hown hE.1 hP 1 rfl rfl 33 (by decide +kernel) (hts (.fieldLink RX13 369 "ClauseBookModel" "value" "I") (List.mem_of_getElem? (i := 2) rfl)) (fun _ h9 => h9) rfl dX13_reads_117 ?_
        refine lv_bipush (v := 99) hx hb dX13_reads_120 (by decide +kernel) ?_
        refine lv_icmp_gt (tgt := 129) hx hb dX13_reads_122 (by decide +kernel) (fun c_12 => ?_) (fun c_12 => ?_)
        · rw [fa_lt] at c_12
          try rw [ti_99] at c_12
          refine lv_iconst (v := 0) hx hb dX13_reads_129 (by decide +kernel) ?_
          refine lv_istore (lv' := [(4, .int 0), (3, .int 0), (2, .int u_2), (0, .ref h0), (1, .int x1)]) hx hb dX13_reads_130 hl (by decide +kernel) rfl (fun ls hl => ?_)
          refine lv_aload_n hx hb dX13_reads_132 rfl (lv_at hl 3 rfl) ?_
          refine lv_iload_n hx hb dX13_reads_133 rfl (lv_at hl 1 rfl) ?_
          refine lv_if_eq (tgt := 145) hx hb dX13_reads_134 (by decide +kernel) (fun _ => ?_) (fun c9 => absurd c9 (by decide +kernel))
          refine lv_aload_n hx hb dX13_reads_145 rfl (lv_at hl 3 rfl) ?_
          refine va_get (D := D) (ci := 10) (v := .int va) (C := RX13) (T := TX13) (N := 45) hx hb hts in_X13_reads_X13 hown hE.1 hP 1 rfl rfl 33 (by decide +kernel) (hts (.fieldLink RX13 369 "ClauseBookModel" "value" "I") (List.mem_of_getElem? (i := 2) rfl)) (fun _ h9 => h9) rfl dX13_reads_146 ?_
          refine va_put (D := D) (ci := 10) (v := .int va) (ty := .int) (C := RX13) (T := TX13) (N := 45) hx hb hts in_X13_reads_X13 tyX13 tyX13_ok nmX13 hown hE.1 hP hD hS 1 rfl rfl 33 (by decide +kernel) (hts (.fieldLink RX13 369 "ClauseBookModel" "value" "I") (List.mem_of_getElem? (i := 2) rfl)) (fun _ h9 => h9) rfl (by decide +kernel) rfl rfl (Nat.le_of_ble_eq_true rfl) dX13_reads_149 (fun H locs hP hD hS => ?_)
          obtain ⟨hP, hD⟩ := wPD [((a 25), .inl (T 0, 120, .inl f25)), (h0, .inr (10, (Value.int (q 0) :: Value.int (q 1) :: Value.int (q 2) :: Value.int (q 3) :: Value.int (q 4) :: Value.int (q 5) :: Value.int (q 6) :: Value.int (q 7) :: Value.ref (a 8) :: Value.ref (a 9) :: Value.ref (a 10) :: Value.ref (a 11) :: Value.ref (a 12) :: Value.ref (a 13) :: Value.int (q 14) :: Value.long v :: Value.long w :: Value.ref (a 17) :: Value.ref (a 18) :: Value.ref (a 19) :: Value.ref (a 20) :: Value.ref (a 21) :: Value.ref (a 22) :: Value.ref (a 23) :: Value.int (q 24) :: Value.ref (a 25) :: Value.int (q 26) :: Value.ref (a 27) :: Value.int cu :: Value.int u_8 :: Value.int (q 30) :: Value.int (q 31) :: Value.int (q 32) :: Value.int va :: Value.ref (a 34) :: Value.ref (a 35) :: Value.ref (a 36) :: Value.ref (a 37) :: Value.ref (a 38) :: Value.ref (a 39) :: Value.ref (a 40) :: Value.int (q 41) :: Value.ref (a 42) :: Value.int (q 43) :: Value.int (q 44) :: [])))] hP hD rfl
          refine lv_aload_n hx hb dX13_reads_152 rfl (lv_at hl 3 rfl) ?_
          refine lv_iload hx hb dX13_reads_153 (lv_at hl 0 rfl) ?_
          refine lv_if_eq (tgt := 173) hx hb dX13_reads_155 (by decide +kernel) (fun _ => ?_) (fun c9 => absurd c9 (by decide +kernel))
          refine lv_iconst (v := 0) hx hb dX13_reads_173 (by decide +kernel) ?_
          refine lv_iload_n hx hb dX13_reads_174 rfl (lv_at hl 2 rfl) ?_
          have hFc := va_free (wc := [(h0, .inr (10, (Value.int (q 0) :: Value.int (q 1) :: Value.int (q 2) :: Value.int (q 3) :: Value.int (q 4) :: Value.int (q 5) :: Value.int (q 6) :: Value.int (q 7) :: Value.ref (a 8) :: Value.ref (a 9) :: Value.ref (a 10) :: Value.ref (a 11) :: Value.ref (a 12) :: Value.ref (a 13) :: Value.int (q 14) :: Value.long v :: Value.long w :: Value.ref (a 17) :: Value.ref (a 18) :: Value.ref (a 19) :: Value.ref (a 20) :: Value.ref (a 21) :: Value.ref (a 22) :: Value.ref (a 23) :: Value.int (q 24) :: Value.ref (a 25) :: Value.int (q 26) :: Value.ref (a 27) :: Value.int cu :: Value.int u_8 :: Value.int (q 30) :: Value.int (q 31) :: Value.int (q 32) :: Value.int va :: Value.ref (a 34) :: Value.ref (a 35) :: Value.ref (a 36) :: Value.ref (a 37) :: Value.ref (a 38) :: Value.ref (a 39) :: Value.ref (a 40) :: Value.int (q 41) :: Value.ref (a 42) :: Value.int (q 43) :: Value.int (q 44) :: [])))]) hD hS hA [1] rfl
          refine va_calli (va_runV (As := [.int 0, .int u_2]) (rest := []) ⟨hx, hb, hml, hown, hts⟩ (c_X13_must l D T _ h0 (fun k => cond (Nat.beq k 28) cu (cond (Nat.beq k 29) u_8 (cond (Nat.beq k 33) va (q k)))) v w a 0 u_2 (show isB (0 : Int32) from isB0)) (cwV 2 hts gX13_reads_X13_must rfl rfl rfl hv_X13_must ⟨Nat.le_of_ble_eq_true rfl, Nat.le_of_ble_eq_true rfl⟩) (pW_V (ci := 10) (q0 := 1) hP hE hD rfl rfl [1] (by decide +kernel) rfl rfl) rfl rfl hl.1 rfl (lv_room (Nat.le_of_ble_eq_true rfl)) dX13_reads_175 ⟨Nat.le_of_ble_eq_true rfl, Nat.le_of_ble_eq_true rfl⟩) hS (fun q _ h => hFc q h) hFc (fun r_13 u_14 t H1 locs ht hvm hr_13 hB hz1 hk1 hS => ?_)
          obtain ⟨hi0_r_13, hi1_r_13⟩ := hr_13
          have hj0_r_13 : r_13 = (0 : Int32) := hi0_r_13
          have hG : isB r_13 := hi1_r_13
          obtain ⟨hP1, hD1⟩ := hB
          rw [ht] at hP1
          obtain ⟨hP, hD⟩ := va_joinN [((a 25), .inl (T 0, 120, .inl f25)), (h0, .inr (10, (Value.int (q 0) :: Value.int (q 1) :: Value.int (q 2) :: Value.int (q 3) :: Value.int (q 4) :: Value.int (q 5) :: Value.int (q 6) :: Value.int (q 7) :: Value.ref (a 8) :: Value.ref (a 9) :: Value.ref (a 10) :: Value.ref (a 11) :: Value.ref (a 12) :: Value.ref (a 13) :: Value.int (q 14) :: Value.long v :: Value.long w :: Value.ref (a 17) :: Value.ref (a 18) :: Value.ref (a 19) :: Value.ref (a 20) :: Value.ref (a 21) :: Value.ref (a 22) :: Value.ref (a 23) :: Value.int (q 24) :: Value.ref (a 25) :: Value.int (q 26) :: Value.ref (a 27) :: Value.int cu :: Value.int u_14 :: Value.int (q 30) :: Value.int (q 31) :: Value.int (q 32) :: Value.int va :: Value.ref (a 34) :: Value.ref (a 35) :: Value.ref (a 36) :: Value.ref (a 37) :: Value.ref (a 38) :: Value.ref (a 39) :: Value.ref (a 40) :: Value.int (q 41) :: Value.ref (a 42) :: Value.int (q 43) :: Value.int (q 44) :: [])))] hP hD [1] [0] 2 rfl rfl rfl (by decide +kernel) hk1 hFc hP1 hD1
          clear hP1 hD1 hFc
          generalize H1 = H at hP hS ⊢
          obtain rfl : r_13 = 0 := hi0_r_13
          exact W.zret hx hb hr rfl (fun t ht hW => ⟨⟨_, (cu, u_14, va), rfl, (show (q 28).toInt ≤ cu.toInt ∧ cu.toInt ≤ (q 26).toInt from (by first | omega | (subst_vars; omega))), by rw [ht]; exact hP.sub [1, 0] rfl, hD.sub [1, 0] (by decide +kernel) rfl⟩, hS.F ht⟩) hS.2.2 dX13_reads_178
        · rw [fa_lt] at c_12
          try rw [ti_99] at c_12
          refine lv_iconst (v := 1) hx hb dX13_reads_125 (by decide +kernel) ?_
          refine lv_goto (tgt := 130) hx hb dX13_reads_126 (by decide +kernel) ?_
          refine lv_istore (lv' := [(4, .int 1), (3, .int 0), (2, .int u_2), (0, .ref h0), (1, .int x1)]) hx hb dX13_reads_130 hl (by decide +kernel) rfl (fun ls hl => ?_)
          refine lv_aload_n hx hb dX13_reads_132 rfl (lv_at hl 3 rfl) ?_
          refine lv_iload_n hx hb dX13_reads_133 rfl (lv_at hl 1 rfl) ?_
          refine lv_if_eq (tgt := 145) hx hb dX13_reads_134 (by decide +kernel) (fun _ => ?_) (fun c9 => absurd c9 (by decide +kernel))
          refine lv_aload_n hx hb dX13_reads_145 rfl (lv_at hl 3 rfl) ?_
          refine va_get (D := D) (ci := 10) (v := .int va) (C := RX13) (T := TX13) (N := 45) hx hb hts in_X13_reads_X13 hown hE.1 hP 1 rfl rfl 33 (by decide +kernel) (hts (.fieldLink RX13 369 "ClauseBookModel" "value" "I") (List.mem_of_getElem? (i := 2) rfl)) (fun _ h9 => h9) rfl dX13_reads_146 ?_
          refine va_put (D := D) (ci := 10) (v := .int va) (ty := .int) (C := RX13) (T := TX13) (N := 45) hx hb hts in_X13_reads_X13 tyX13 tyX13_ok nmX13 hown hE.1 hP hD hS 1 rfl rfl 33 (by decide +kernel) (hts (.fieldLink RX13 369 "ClauseBookModel" "value" "I") (List.mem_of_getElem? (i := 2) rfl)) (fun _ h9 => h9) rfl (by decide +kernel) rfl rfl (Nat.le_of_ble_eq_true rfl) dX13_reads_149 (fun H locs hP hD hS => ?_)
          obtain ⟨hP, hD⟩ := wPD [((a 25), .inl (T 0, 120, .inl f25)), (h0, .inr (10, (Value.int (q 0) :: Value.int (q 1) :: Value.int (q 2) :: Value.int (q 3) :: Value.int (q 4) :: Value.int (q 5) :: Value.int (q 6) :: Value.int (q 7) :: Value.ref (a 8) :: Value.ref (a 9) :: Value.ref (a 10) :: Value.ref (a 11) :: Value.ref (a 12) :: Value.ref (a 13) :: Value.int (q 14) :: Value.long v :: Value.long w :: Value.ref (a 17) :: Value.ref (a 18) :: Value.ref (a 19) :: Value.ref (a 20) :: Value.ref (a 21) :: Value.ref (a 22) :: Value.ref (a 23) :: Value.int (q 24) :: Value.ref (a 25) :: Value.int (q 26) :: Value.ref (a 27) :: Value.int cu :: Value.int u_8 :: Value.int (q 30) :: Value.int (q 31) :: Value.int (q 32) :: Value.int va :: Value.ref (a 34) :: Value.ref (a 35) :: Value.ref (a 36) :: Value.ref (a 37) :: Value.ref (a 38) :: Value.ref (a 39) :: Value.ref (a 40) :: Value.int (q 41) :: Value.ref (a 42) :: Value.int (q 43) :: Value.int (q 44) :: [])))] hP hD rfl
          refine lv_aload_n hx hb dX13_reads_152 rfl (lv_at hl 3 rfl) ?_
          refine lv_iload hx hb dX13_reads_153 (lv_at hl 0 rfl) ?_
          refine lv_if_eq (tgt := 173) hx hb dX13_reads_155 (by decide +kernel) (fun c9 => absurd c9 (by decide +kernel)) (fun _ => ?_)
          refine lv_iload_n hx hb dX13_reads_158 rfl (lv_at hl 4 rfl) ?_
          refine lv_aload_n hx hb dX13_reads_159 rfl (lv_at hl 3 rfl) ?_
          refine va_get (D := D) (ci := 10) (v := .int va) (C := RX13) (T := TX13) (N := 45) hx hb hts in_X13_reads_X13 hown hE.1 hP 1 rfl rfl 33 (by decide +kernel) (hts (.fieldLink RX13 369 "ClauseBookModel" "value" "I") (List.mem_of_getElem? (i := 2) rfl)) (fun _ h9 => h9) rfl dX13_reads_160 ?_
          refine vp_callSi (W.runS (As := [.int x1, .int va]) (rest := [.ref h0]) ⟨hx, hb, hml, hown, hts⟩ (c_X13_isNumber l D T x1 va) (va_cwS 2 hts gX13_reads_X13_isNumber rfl rfl rfl hs_X13_isNumber ⟨Nat.le_of_ble_eq_true rfl, Nat.le_of_ble_eq_true rfl⟩) (pR_S hP hE [] rfl) rfl rfl hl.1 rfl (lv_room (Nat.le_of_ble_eq_true rfl)) dX13_reads_163 ⟨Nat.le_of_ble_eq_true rfl, Nat.le_of_ble_eq_true rfl⟩) (fun r_15 hr_15 => ?_)
          refine lv_if_eq (tgt := 173) hx hb dX13_reads_166 (by decide +kernel) (fun c_16 => ?_) (fun c_16 => ?_)
          · rw [fa_eq] at c_16
            try rw [ti_0] at c_16
            refine lv_iconst (v := 0) hx hb dX13_reads_173 (by decide +kernel) ?_
            refine lv_iload_n hx hb dX13_reads_174 rfl (lv_at hl 2 rfl) ?_
            have hFc := va_free (wc := [(h0, .inr (10, (Value.int (q 0) :: Value.int (q 1) :: Value.int (q 2) :: Value.int (q 3) :: Value.int (q 4) :: Value.int (q 5) :: Value.int (q 6) :: Value.int (q 7) :: Value.ref (a 8) :: Value.ref (a 9) :: Value.ref (a 10) :: Value.ref (a 11) :: Value.ref (a 12) :: Value.ref (a 13) :: Value.int (q 14) :: Value.long v :: Value.long w :: Value.ref (a 17) :: Value.ref (a 18) :: Value.ref (a 19) :: Value.ref (a 20) :: Value.ref (a 21) :: Value.ref (a 22) :: Value.ref (a 23) :: Value.int (q 24) :: Value.ref (a 25) :: Value.int (q 26) :: Value.ref (a 27) :: Value.int cu :: Value.int u_8 :: Value.int (q 30) :: Value.int (q 31) :: Value.int (q 32) :: Value.int va :: Value.ref (a 34) :: Value.ref (a 35) :: Value.ref (a 36) :: Value.ref (a 37) :: Value.ref (a 38) :: Value.ref (a 39) :: Value.ref (a 40) :: Value.int (q 41) :: Value.ref (a 42) :: Value.int (q 43) :: Value.int (q 44) :: [])))]) hD hS hA [1] rfl
            refine va_calli (va_runV (As := [.int 0, .int u_2]) (rest := []) ⟨hx, hb, hml, hown, hts⟩ (c_X13_must l D T _ h0 (fun k => cond (Nat.beq k 28) cu (cond (Nat.beq k 29) u_8 (cond (Nat.beq k 33) va (q k)))) v w a 0 u_2 (show isB (0 : Int32) from isB0)) (cwV 2 hts gX13_reads_X13_must rfl rfl rfl hv_X13_must ⟨Nat.le_of_ble_eq_true rfl, Nat.le_of_ble_eq_true rfl⟩) (pW_V (ci := 10) (q0 := 1) hP hE hD rfl rfl [1] (by decide +kernel) rfl rfl) rfl rfl hl.1 rfl (lv_room (Nat.le_of_ble_eq_true rfl)) dX13_reads_175 ⟨Nat.le_of_ble_eq_true rfl, Nat.le_of_ble_eq_true rfl⟩) hS (fun q _ h => hFc q h) hFc (fun r_17 u_18 t H1 locs ht hvm hr_17 hB hz1 hk1 hS => ?_)
            obtain ⟨hi0_r_17, hi1_r_17⟩ := hr_17
            have hj0_r_17 : r_17 = (0 : Int32) := hi0_r_17
            have hG : isB r_17 := hi1_r_17
            obtain ⟨hP1, hD1⟩ := hB
            rw [ht] at hP1
            obtain ⟨hP, hD⟩ := va_joinN [((a 25), .inl (T 0, 120, .inl f25)), (h0, .inr (10, (Value.int (q 0) :: Value.int (q 1) :: Value.int (q 2) :: Value.int (q 3) :: Value.int (q 4) :: Value.int (q 5) :: Value.int (q 6) :: Value.int (q 7) :: Value.ref (a 8) :: Value.ref (a 9) :: Value.ref (a 10) :: Value.ref (a 11) :: Value.ref (a 12) :: Value.ref (a 13) :: Value.int (q 14) :: Value.long v :: Value.long w :: Value.ref (a 17) :: Value.ref (a 18) :: Value.ref (a 19) :: Value.ref (a 20) :: Value.ref (a 21) :: Value.ref (a 22) :: Value.ref (a 23) :: Value.int (q 24) :: Value.ref (a 25) :: Value.int (q 26) :: Value.ref (a 27) :: Value.int cu :: Value.int u_18 :: Value.int (q 30) :: Value.int (q 31) :: Value.int (q 32) :: Value.int va :: Value.ref (a 34) :: Value.ref (a 35) :: Value.ref (a 36) :: Value.ref (a 37) :: Value.ref (a 38) :: Value.ref (a 39) :: Value.ref (a 40) :: Value.int (q 41) :: Value.ref (a 42) :: Value.int (q 43) :: Value.int (q 44) :: [])))] hP hD [1] [0] 2 rfl rfl rfl (by decide +kernel) hk1 hFc hP1 hD1
            clear hP1 hD1 hFc
            generalize H1 = H at hP hS ⊢
            obtain rfl : r_17 = 0 := hi0_r_17
            exact W.zret hx hb hr rfl (fun t ht hW => ⟨⟨_, (cu, u_18, va), rfl, (show (q 28).toInt ≤ cu.toInt ∧ cu.toInt ≤ (q 26).toInt from (by first | omega | (subst_vars; omega))), by rw [ht]; exact hP.sub [1, 0] rfl, hD.sub [1, 0] (by decide +kernel) rfl⟩, hS.F ht⟩) hS.2.2 dX13_reads_178
          · rw [fa_eq] at c_16
            try rw [ti_0] at c_16
            refine lv_iconst (v := 1) hx hb dX13_reads_169 (by decide +kernel) ?_
            refine lv_goto (tgt := 174) hx hb dX13_reads_170 (by decide +kernel) ?_
            refine lv_iload_n hx hb dX13_reads_174 rfl (lv_at hl 2 rfl) ?_
            have hFc := va_free (wc := [(h0, .inr (10, (Value.int (q 0) :: Value.int (q 1) :: Value.int (q 2) :: Value.int (q 3) :: Value.int (q 4) :: Value.int (q 5) :: Value.int (q 6) :: Value.int (q 7) :: Value.ref (a 8) :: Value.ref (a 9) :: Value.ref (a 10) :: Value.ref (a 11) :: Value.ref (a 12) :: Value.ref (a 13) :: Value.int (q 14) :: Value.long v :: Value.long w :: Value.ref (a 17) :: Value.ref (a 18) :: Value.ref (a 19) :: Value.ref (a 20) :: Value.ref (a 21) :: Value.ref (a 22) :: Value.ref (a 23) :: Value.int (q 24) :: Value.ref (a 25) :: Value.int (q 26) :: Value.ref (a 27) :: Value.int cu :: Value.int u_8 :: Value.int (q 30) :: Value.int (q 31) :: Value.int (q 32) :: Value.int va :: Value.ref (a 34) :: Value.ref (a 35) :: Value.ref (a 36) :: Value.ref (a 37) :: Value.ref (a 38) :: Value.ref (a 39) :: Value.ref (a 40) :: Value.int (q 41) :: Value.ref (a 42) :: Value.int (q 43) :: Value.int (q 44) :: [])))]) hD hS hA [1] rfl
            refine va_calli (va_runV (As := [.int 1, .int u_2]) (rest := []) ⟨hx, hb, hml, hown, hts⟩ (c_X13_must l D T _ h0 (fun k => cond (Nat.beq k 28) cu (cond (Nat.beq k 29) u_8 (cond (Nat.beq k 33) va (q k)))) v w a 1 u_2 (show isB (1 : Int32) from isB1)) (cwV 2 hts gX13_reads_X13_must rfl rfl rfl hv_X13_must ⟨Nat.le_of_ble_eq_true rfl, Nat.le_of_ble_eq_true rfl⟩) (pW_V (ci := 10) (q0 := 1) hP hE hD rfl rfl [1] (by decide +kernel) rfl rfl) rfl rfl hl.1 rfl (lv_room (Nat.le_of_ble_eq_true rfl)) dX13_reads_175 ⟨Nat.le_of_ble_eq_true rfl, Nat.le_of_ble_eq_true rfl⟩) hS (fun q _ h => hFc q h) hFc (fun r_19 u_20 t H1 locs ht hvm hr_19 hB hz1 hk1 hS => ?_)
            obtain ⟨hi0_r_19, hi1_r_19⟩ := hr_19
            have hj0_r_19 : r_19 = (1 : Int32) := hi0_r_19
            have hG : isB r_19 := hi1_r_19
            obtain ⟨hP1, hD1⟩ := hB
            rw [ht] at hP1
            obtain ⟨hP, hD⟩ := va_joinN [((a 25), .inl (T 0, 120, .inl f25)), (h0, .inr (10, (Value.int (q 0) :: Value.int (q 1) :: Value.int (q 2) :: Value.int (q 3) :: Value.int (q 4) :: Value.int (q 5) :: Value.int (q 6) :: Value.int (q 7) :: Value.ref (a 8) :: Value.ref (a 9) :: Value.ref (a 10) :: Value.ref (a 11) :: Value.ref (a 12) :: Value.ref (a 13) :: Value.int (q 14) :: Value.long v :: Value.long w :: Value.ref (a 17) :: Value.ref (a 18) :: Value.ref (a 19) :: Value.ref (a 20) :: Value.ref (a 21) :: Value.ref (a 22) :: Value.ref (a 23) :: Value.int (q 24) :: Value.ref (a 25) :: Value.int (q 26) :: Value.ref (a 27) :: Value.int cu :: Value.int u_20 :: Value.int (q 30) :: Value.int (q 31) :: Value.int (q 32) :: Value.int va :: Value.ref (a 34) :: Value.ref (a 35) :: Value.ref (a 36) :: Value.ref (a 37) :: Value.ref (a 38) :: Value.ref (a 39) :: Value.ref (a 40) :: Value.int (q 41) :: Value.ref (a 42) :: Value.int (q 43) :: Value.int (q 44) :: [])))] hP hD [1] [0] 2 rfl rfl rfl (by decide +kernel) hk1 hFc hP1 hD1
            clear hP1 hD1 hFc
            generalize H1 = H at hP hS ⊢
            obtain rfl : r_19 = 1 := hi0_r_19
            exact W.zret hx hb hr rfl (fun t ht hW => ⟨⟨_, (cu, u_20, va), rfl, (show (q 28).toInt ≤ cu.toInt ∧ cu.toInt ≤ (q 26).toInt from (by first | omega | (subst_vars; omega))), by rw [ht]; exact hP.sub [1, 0] rfl, hD.sub [1, 0] (by decide +kernel) rfl⟩, hS.F ht⟩) hS.2.2 dX13_reads_178
      · rw [fa_eq] at c_11
        try rw [ti_0] at c_11
        refine lv_aload_n hx hb dX13_reads_68 rfl (lv_at hl 2 rfl) ?_
        refine lv_aload_n hx hb dX13_reads_69 rfl (lv_at hl 2 rfl) ?_
        refine va_get (D := D) (ci := 10) (v := .int va) (C := RX13) (T := TX13) (N := 45) hx hb hts in_X13_reads_X13 hown hE.1 hP 1 rfl rfl 33 (by decide +kernel) (hts (.fieldLink RX13 369 "ClauseBookModel" "value" "I") (List.mem_of_getElem? (i := 2) rfl)) (fun _ h9 => h9) rfl dX13_reads_70 ?_
        refine lv_bipush (v := 99) hx hb dX13_reads_73 (by decide +kernel) ?_
        refine lv_icmp_le (tgt := 85) hx hb dX13_reads_75 (by decide +kernel) (fun c_21 => ?_) (fun c_21 => ?_)
        · rw [fa_le] at c_21
          try rw [ti_99] at c_21
          refine lv_bipush (v := 10) hx hb dX13_reads_85 (by decide +kernel) ?_
          refine lv_aload_n hx hb dX13_reads_87 rfl (lv_at hl 2 rfl) ?_
          refine va_get (D := D) (ci := 10) (v := .int va) (C := RX13) (T := TX13) (N := 45) hx hb hts in_X13_reads_X13 hown hE.1 hP 1 rfl rfl 33 (by decide +kernel) (hts (.fieldLink RX13 369 "ClauseBookModel" "value" "I") (List.mem_of_getElem? (i := 2) rfl)) (fun _ h9 => h9) rfl dX13_reads_88 ?_
          refine lv_imul hx hb dX13_reads_91 ?_
          refine lv_aload_n hx hb dX13_reads_92 rfl (lv_at hl 2 rfl) ?_
          refine vp_callSi (W.runV (As := []) (rest := [.int (10 * va), .ref h0]) ⟨hx, hb, hml, hown, hts⟩ (c_X13_here l D T h0 [.int (q 0), .int (q 1), .int (q 2), .int (q 3), .int (q 4), .int (q 5), .int (q 6), .int (q 7), .ref (a 8), .ref (a 9), .ref (a 10), .ref (a 11), .ref (a 12), .ref (a 13), .int (q 14), .long v, .long w, .ref (a 17), .ref (a 18), .ref (a 19), .ref (a 20), .ref (a 21), .ref (a 22), .ref (a 23), .int (q 24), .ref (a 25), .int (q 26), .ref (a 27), .int cu, .int u_8, .int (q 30), .int (q 31), .int (q 32), .int va, .ref (a 34), .ref (a 35), .ref (a 36), .ref (a 37), .ref (a 38), .ref (a 39), .ref (a 40), .int (q 41), .ref (a 42), .int (q 43), .int (q 44)] (a 25) f25 cu (q 26) rfl rfl rfl (by omega)) (cwV 0 hts gX13_reads_X13_here rfl rfl rfl hv_X13_here ⟨Nat.le_of_ble_eq_true rfl, Nat.le_of_ble_eq_true rfl⟩) (pR_V (ci := 10) (q0 := 1) hP hE rfl rfl [1, 0] rfl) rfl rfl hl.1 rfl (lv_room (Nat.le_of_ble_eq_true rfl)) dX13_reads_93 ⟨Nat.le_of_ble_eq_true rfl, Nat.le_of_ble_eq_true rfl⟩) (fun r_22 hr_22 => ?_)
          refine lv_iadd hx hb dX13_reads_96 ?_
          refine lv_bipush (v := 48) hx hb dX13_reads_97 (by decide +kernel) ?_
          refine lv_isub hx hb dX13_reads_99 ?_
          refine lv_topi (fun z_23 ez_23 => ?_)
          refine va_put (D := D) (ci := 10) (v := .int z_23) (ty := .int) (C := RX13) (T := TX13) (N := 45) hx hb hts in_X13_reads_X13 tyX13 tyX13_ok nmX13 hown hE.1 hP hD hS 1 rfl rfl 33 (by decide +kernel) (hts (.fieldLink RX13 369 "ClauseBookModel" "value" "I") (List.mem_of_getElem? (i := 2) rfl)) (fun _ h9 => h9) rfl (by decide +kernel) rfl rfl (Nat.le_of_ble_eq_true rfl) dX13_reads_100 (fun H locs hP hD hS => ?_)
          obtain ⟨hP, hD⟩ := wPD [((a 25), .inl (T 0, 120, .inl f25)), (h0, .inr (10, (Value.int (q 0) :: Value.int (q 1) :: Value.int (q 2) :: Value.int (q 3) :: Value.int (q 4) :: Value.int (q 5) :: Value.int (q 6) :: Value.int (q 7) :: Value.ref (a 8) :: Value.ref (a 9) :: Value.ref (a 10) :: Value.ref (a 11) :: Value.ref (a 12) :: Value.ref (a 13) :: Value.int (q 14) :: Value.long v :: Value.long w :: Value.ref (a 17) :: Value.ref (a 18) :: Value.ref (a 19) :: Value.ref (a 20) :: Value.ref (a 21) :: Value.ref (a 22) :: Value.ref (a 23) :: Value.int (q 24) :: Value.ref (a 25) :: Value.int (q 26) :: Value.ref (a 27) :: Value.int cu :: Value.int u_8 :: Value.int (q 30) :: Value.int (q 31) :: Value.int (q 32) :: Value.int z_23 :: Value.ref (a 34) :: Value.ref (a 35) :: Value.ref (a 36) :: Value.ref (a 37) :: Value.ref (a 38) :: Value.ref (a 39) :: Value.ref (a 40) :: Value.int (q 41) :: Value.ref (a 42) :: Value.int (q 43) :: Value.int (q 44) :: [])))] hP hD rfl
          refine lv_aload_n hx hb dX13_reads_103 rfl (lv_at hl 2 rfl) ?_
          refine lv_dup hx hb dX13_reads_104 rfl ?_
          refine va_get (D := D) (ci := 10) (v := .int cu) (C := RX13) (T := TX13) (N := 45) hx hb hts in_X13_reads_X13 hown hE.1 hP 1 rfl rfl 28 (by decide +kernel) (hts (.fieldLink RX13 344 "ClauseBookModel" "cursor" "I") (List.mem_of_getElem? (i := 1) rfl)) (fun _ h9 => h9) rfl dX13_reads_105 ?_
          refine lv_iconst (v := 1) hx hb dX13_reads_108 (by decide +kernel) ?_
          refine lv_iadd hx hb dX13_reads_109 ?_
          refine lv_topi (fun z_24 ez_24 => ?_)
          refine va_put (D := D) (ci := 10) (v := .int z_24) (ty := .int) (C := RX13) (T := TX13) (N := 45) hx hb hts in_X13_reads_X13 tyX13 tyX13_ok nmX13 hown hE.1 hP hD hS 1 rfl rfl 28 (by decide +kernel) (hts (.fieldLink RX13 344 "ClauseBookModel" "cursor" "I") (List.mem_of_getElem? (i := 1) rfl)) (fun _ h9 => h9) rfl (by decide +kernel) rfl rfl (Nat.le_of_ble_eq_true rfl) dX13_reads_110 (fun H locs hP hD hS => ?_)
          obtain ⟨hP, hD⟩ := wPD [((a 25), .inl (T 0, 120, .inl f25)), (h0, .inr (10, (Value.int (q 0) :: Value.int (q 1) :: Value.int (q 2) :: Value.int (q 3) :: Value.int (q 4) :: Value.int (q 5) :: Value.int (q 6) :: Value.int (q 7) :: Value.ref (a 8) :: Value.ref (a 9) :: Value.ref (a 10) :: Value.ref (a 11) :: Value.ref (a 12) :: Value.ref (a 13) :: Value.int (q 14) :: Value.long v :: Value.long w :: Value.ref (a 17) :: Value.ref (a 18) :: Value.ref (a 19) :: Value.ref (a 20) :: Value.ref (a 21) :: Value.ref (a 22) :: Value.ref (a 23) :: Value.int (q 24) :: Value.ref (a 25) :: Value.int (q 26) :: Value.ref (a 27) :: Value.int z_24 :: Value.int u_8 :: Value.int (q 30) :: Value.int (q 31) :: Value.int (q 32) :: Value.int z_23 :: Value.ref (a 34) :: Value.ref (a 35) :: Value.ref (a 36) :: Value.ref (a 37) :: Value.ref (a 38) :: Value.ref (a 39) :: Value.ref (a 40) :: Value.int (q 41) :: Value.ref (a 42) :: Value.int (q 43) :: Value.int (q 44) :: [])))] hP hD rfl
          refine lv_goto (tgt := 61) hx hb dX13_reads_113 (by decide +kernel) ?_
          exact ih (z_24, z_23) ls _ _ ⟨lv_sub hl [0, 1, 2, 3] rfl, hP.sub [0, 1] rfl, hD.sub [0, 1] (by decide +kernel) rfl, hS, (by subst_vars; (try dsimp only); rw [inc1 (i := cu) (n := 1000) (by omega) (by decide +kernel)]; omega)⟩ (by subst_vars; (try dsimp only); rw [inc1 (i := cu) (n := 1000) (by omega) (by decide +kernel)]; omega)
        · rw [fa_le] at c_21
          try rw [ti_99] at c_21
          refine lv_aload_n hx hb dX13_reads_78 rfl (lv_at hl 2 rfl) ?_
          refine va_get (D := D) (ci := 10) (v := .int va) (C := RX13) (T := TX13) (N := 45) hx hb hts in_X13_reads_X13 hown hE.1 hP 1 rfl rfl 33 (by decide +kernel) (hts (.fieldLink RX13 369 "ClauseBookModel" "value" "I") (List.mem_of_getElem? (i := 2) rfl)) (fun _ h9 => h9) rfl dX13_reads_79 ?_
          refine lv_goto (tgt := 100) hx hb dX13_reads_82 (by decide +kernel) ?_
          refine va_put (D := D) (ci := 10) (v := .int va) (ty := .int) (C := RX13) (T := TX13) (N := 45) hx hb hts in_X13_reads_X13 tyX13 tyX13_ok nmX13 hown hE.1 hP hD hS 1 rfl rfl 33 (by decide +kernel) (hts (.fieldLink RX13 369 "ClauseBookModel" "value" "I") (List.mem_of_getElem? (i := 2) rfl)) (fun _ h9 => h9) rfl (by decide +kernel) rfl rfl (Nat.le_of_ble_eq_true rfl) dX13_reads_100 (fun H locs hP hD hS => ?_)
          obtain ⟨hP, hD⟩ := wPD [((a 25), .inl (T 0, 120, .inl f25)), (h0, .inr (10, (Value.int (q 0) :: Value.int (q 1) :: Value.int (q 2) :: Value.int (q 3) :: Value.int (q 4) :: Value.int (q 5) :: Value.int (q 6) :: Value.int (q 7) :: Value.ref (a 8) :: Value.ref (a 9) :: Value.ref (a 10) :: Value.ref (a 11) :: Value.ref (a 12) :: Value.ref (a 13) :: Value.int (q 14) :: Value.long v :: Value.long w :: Value.ref (a 17) :: Value.ref (a 18) :: Value.ref (a 19) :: Value.ref (a 20) :: Value.ref (a 21) :: Value.ref (a 22) :: Value.ref (a 23) :: Value.int (q 24) :: Value.ref (a 25) :: Value.int (q 26) :: Value.ref (a 27) :: Value.int cu :: Value.int u_8 :: Value.int (q 30) :: Value.int (q 31) :: Value.int (q 32) :: Value.int va :: Value.ref (a 34) :: Value.ref (a 35) :: Value.ref (a 36) :: Value.ref (a 37) :: Value.ref (a 38) :: Value.ref (a 39) :: Value.ref (a 40) :: Value.int (q 41) :: Value.ref (a 42) :: Value.int (q 43) :: Value.int (q 44) :: [])))] hP hD rfl
          refine lv_aload_n hx hb dX13_reads_103 rfl (lv_at hl 2 rfl) ?_
          refine lv_dup hx hb dX13_reads_104 rfl ?_
          refine va_get (D := D) (ci := 10) (v := .int cu) (C := RX13) (T := TX13) (N := 45) hx hb hts in_X13_reads_X13 hown hE.1 hP 1 rfl rfl 28 (by decide +kernel) (hts (.fieldLink RX13 344 "ClauseBookModel" "cursor" "I") (List.mem_of_getElem? (i := 1) rfl)) (fun _ h9 => h9) rfl dX13_reads_105 ?_
          refine lv_iconst (v := 1) hx hb dX13_reads_108 (by decide +kernel) ?_
          refine lv_iadd hx hb dX13_reads_109 ?_
          refine lv_topi (fun z_25 ez_25 => ?_)
          refine va_put (D := D) (ci := 10) (v := .int z_25) (ty := .int) (C := RX13) (T := TX13) (N := 45) hx hb hts in_X13_reads_X13 tyX13 tyX13_ok nmX13 hown hE.1 hP hD hS 1 rfl rfl 28 (by decide +kernel) (hts (.fieldLink RX13 344 "ClauseBookModel" "cursor" "I") (List.mem_of_getElem? (i := 1) rfl)) (fun _ h9 => h9) rfl (by decide +kernel) rfl rfl (Nat.le_of_ble_eq_true rfl) dX13_reads_110 (fun H locs hP hD hS => ?_)
          obtain ⟨hP, hD⟩ := wPD [((a 25), .inl (T 0, 120, .inl f25)), (h0, .inr (10, (Value.int (q 0) :: Value.int (q 1) :: Value.int (q 2) :: Value.int (q 3) :: Value.int (q 4) :: Value.int (q 5) :: Value.int (q 6) :: Value.int (q 7) :: Value.ref (a 8) :: Value.ref (a 9) :: Value.ref (a 10) :: Value.ref (a 11) :: Value.ref (a 12) :: Value.ref (a 13) :: Value.int (q 14) :: Value.long v :: Value.long w :: Value.ref (a 17) :: Value.ref (a 18) :: Value.ref (a 19) :: Value.ref (a 20) :: Value.ref (a 21) :: Value.ref (a 22) :: Value.ref (a 23) :: Value.int (q 24) :: Value.ref (a 25) :: Value.int (q 26) :: Value.ref (a 27) :: Value.int z_25 :: Value.int u_8 :: Value.int (q 30) :: Value.int (q 31) :: Value.int (q 32) :: Value.int va :: Value.ref (a 34) :: Value.ref (a 35) :: Value.ref (a 36) :: Value.ref (a 37) :: Value.ref (a 38) :: Value.ref (a 39) :: Value.ref (a 40) :: Value.int (q 41) :: Value.ref (a 42) :: Value.int (q 43) :: Value.int (q 44) :: [])))] hP hD rfl
          refine lv_goto (tgt := 61) hx hb dX13_reads_113 (by decide +kernel) ?_
          exact ih (z_25, va) ls _ _ ⟨lv_sub hl [0, 1, 2, 3] rfl, hP.sub [0, 1] rfl, hD.sub [0, 1] (by decide +kernel) rfl, hS, (by subst_vars; (try dsimp only); rw [inc1 (i := cu) (n := 1000) (by omega) (by decide +kernel)]; omega)⟩ (by subst_vars; (try dsimp only); rw [inc1 (i := cu) (n := 1000) (by omega) (by decide +kernel)]; omega)
    · rw [fa_eq] at c_9
      try rw [ti_0] at c_9
      refine lv_iconst (v := 0) hx hb dX13_reads_54 (by decide +kernel) ?_
      exact W.zret hx hb hr rfl (fun t ht hW => ⟨⟨_, (z_5, u_8, (q 33)), rfl, (show (q 28).toInt ≤ z_5.toInt ∧ z_5.toInt ≤ (q 26).toInt from (by first | omega | (subst_vars; omega))), by rw [ht]; exact hP.sub [1, 0] rfl, hD.sub [1, 0] (by decide +kernel) rfl⟩, hS.F ht⟩) hS.2.2 dX13_reads_55
  · rw [fa_eq] at c_4
    try rw [ti_45] at c_4
    refine lv_iconst (v := 1) hx hb dX13_reads_18 (by decide +kernel) ?_
    refine lv_goto (tgt := 23) hx hb dX13_reads_19 (by decide +kernel) ?_
    refine lv_istore_n (lv' := [(3, .int 1), (2, .int u_2), (0, .ref h0), (1, .int x1)]) hx hb dX13_reads_23 rfl hl (by decide +kernel) rfl (fun ls hl => ?_)
    refine lv_aload_n hx hb dX13_reads_24 rfl (lv_at hl 2 rfl) ?_
    refine lv_dup hx hb dX13_reads_25 rfl ?_
    refine va_get (D := D) (ci := 10) (v := .int u_2) (C := RX13) (T := TX13) (N := 45) hx hb hts in_X13_reads_X13 hown hE.1 hP 0 rfl rfl 28 (by decide +kernel) (hts (.fieldLink RX13 344 "ClauseBookModel" "cursor" "I") (List.mem_of_getElem? (i := 1) rfl)) (fun _ h9 => h9) rfl dX13_reads_26 ?_
    refine lv_iload_n hx hb dX13_reads_29 rfl (lv_at hl 0 rfl) ?_
    refine lv_if_eq (tgt := 37) hx hb dX13_reads_30 (by decide +kernel) (fun c9 => absurd c9 (by decide +kernel)) (fun _ => ?_)
    refine lv_iconst (v := 1) hx hb dX13_reads_33 (by decide +kernel) ?_
    refine lv_goto (tgt := 38) hx hb dX13_reads_34 (by decide +kernel) ?_
    refine lv_iadd hx hb dX13_reads_38 ?_
    refine lv_topi (fun z_26 ez_26 => ?_)
    have hz9 : z_26.toInt = u_2.toInt + 1 := by rw [ez_26]; exact inc1 (n := 1000) (by omega) (by decide +kernel)
    refine va_put (D := D) (ci := 10) (v := .int z_26) (ty := .int) (C := RX13) (T := TX13) (N := 45) hx hb hts in_X13_reads_X13 tyX13 tyX13_ok nmX13 hown hE.1 hP hD hS 0 rfl rfl 28 (by decide +kernel) (hts (.fieldLink RX13 344 "ClauseBookModel" "cursor" "I") (List.mem_of_getElem? (i := 1) rfl)) (fun _ h9 => h9) rfl (by decide +kernel) rfl rfl (Nat.le_of_ble_eq_true rfl) dX13_reads_39 (fun H locs hP hD hS => ?_)
    obtain ⟨hP, hD⟩ := wPD [(h0, .inr (10, (Value.int (q 0) :: Value.int (q 1) :: Value.int (q 2) :: Value.int (q 3) :: Value.int (q 4) :: Value.int (q 5) :: Value.int (q 6) :: Value.int (q 7) :: Value.ref (a 8) :: Value.ref (a 9) :: Value.ref (a 10) :: Value.ref (a 11) :: Value.ref (a 12) :: Value.ref (a 13) :: Value.int (q 14) :: Value.long v :: Value.long w :: Value.ref (a 17) :: Value.ref (a 18) :: Value.ref (a 19) :: Value.ref (a 20) :: Value.ref (a 21) :: Value.ref (a 22) :: Value.ref (a 23) :: Value.int (q 24) :: Value.ref (a 25) :: Value.int (q 26) :: Value.ref (a 27) :: Value.int z_26 :: Value.int (q 29) :: Value.int (q 30) :: Value.int (q 31) :: Value.int (q 32) :: Value.int (q 33) :: Value.ref (a 34) :: Value.ref (a 35) :: Value.ref (a 36) :: Value.ref (a 37) :: Value.ref (a 38) :: Value.ref (a 39) :: Value.ref (a 40) :: Value.int (q 41) :: Value.ref (a 42) :: Value.int (q 43) :: Value.int (q 44) :: []))), ((a 25), .inl (T 0, 120, .inl f25))] hP hD rfl
    refine lv_aload_n hx hb dX13_reads_42 rfl (lv_at hl 2 rfl) ?_
    refine lv_aload_n hx hb dX13_reads_43 rfl (lv_at hl 2 rfl) ?_
    refine vp_callSi (W.runV (As := []) (rest := [.ref h0]) ⟨hx, hb, hml, hown, hts⟩ (c_X13_isDigit l D T h0 [.int (q 0), .int (q 1), .int (q 2), .int (q 3), .int (q 4), .int (q 5), .int (q 6), .int (q 7), .ref (a 8), .ref (a 9), .ref (a 10), .ref (a 11), .ref (a 12), .ref (a 13), .int (q 14), .long v, .long w, .ref (a 17), .ref (a 18), .ref (a 19), .ref (a 20), .ref (a 21), .ref (a 22), .ref (a 23), .int (q 24), .ref (a 25), .int (q 26), .ref (a 27), .int z_26, .int (q 29), .int (q 30), .int (q 31), .int (q 32), .int (q 33), .ref (a 34), .ref (a 35), .ref (a 36), .ref (a 37), .ref (a 38), .ref (a 39), .ref (a 40), .int (q 41), .ref (a 42), .int (q 43), .int (q 44)] (a 25) f25 z_26 (q 26) rfl rfl rfl (by omega)) (cwV 0 hts gX13_reads_X13_isDigit rfl rfl rfl hv_X13_isDigit ⟨Nat.le_of_ble_eq_true rfl, Nat.le_of_ble_eq_true rfl⟩) (pR_V (ci := 10) (q0 := 0) hP hE rfl rfl [0, 1] rfl) rfl rfl hl.1 rfl (lv_room (Nat.le_of_ble_eq_true rfl)) dX13_reads_44 ⟨Nat.le_of_ble_eq_true rfl, Nat.le_of_ble_eq_true rfl⟩) (fun r_27 hr_27 => ?_)
    refine lv_iload_n hx hb dX13_reads_47 rfl (lv_at hl 1 rfl) ?_
    have hFc := va_free (wc := [(h0, .inr (10, (Value.int (q 0) :: Value.int (q 1) :: Value.int (q 2) :: Value.int (q 3) :: Value.int (q 4) :: Value.int (q 5) :: Value.int (q 6) :: Value.int (q 7) :: Value.ref (a 8) :: Value.ref (a 9) :: Value.ref (a 10) :: Value.ref (a 11) :: Value.ref (a 12) :: Value.ref (a 13) :: Value.int (q 14) :: Value.long v :: Value.long w :: Value.ref (a 17) :: Value.ref (a 18) :: Value.ref (a 19) :: Value.ref (a 20) :: Value.ref (a 21) :: Value.ref (a 22) :: Value.ref (a 23) :: Value.int (q 24) :: Value.ref (a 25) :: Value.int (q 26) :: Value.ref (a 27) :: Value.int z_26 :: Value.int (q 29) :: Value.int (q 30) :: Value.int (q 31) :: Value.int (q 32) :: Value.int (q 33) :: Value.ref (a 34) :: Value.ref (a 35) :: Value.ref (a 36) :: Value.ref (a 37) :: Value.ref (a 38) :: Value.ref (a 39) :: Value.ref (a 40) :: Value.int (q 41) :: Value.ref (a 42) :: Value.int (q 43) :: Value.int (q 44) :: [])))]) hD hS hA [0] rfl
    refine va_calli (va_runV (As := [.int r_27, .int u_2]) (rest := []) ⟨hx, hb, hml, hown, hts⟩ (c_X13_must l D T _ h0 (fun k => cond (Nat.beq k 28) z_26 (q k)) v w a r_27 u_2 (show isB r_27 from hr_27.1)) (cwV 2 hts gX13_reads_X13_must rfl rfl rfl hv_X13_must ⟨Nat.le_of_ble_eq_true rfl, Nat.le_of_ble_eq_true rfl⟩) (pW_V (ci := 10) (q0 := 0) hP hE hD rfl rfl [0] (by decide +kernel) rfl rfl) rfl rfl hl.1 rfl (lv_room (Nat.le_of_ble_eq_true rfl)) dX13_reads_48 ⟨Nat.le_of_ble_eq_true rfl, Nat.le_of_ble_eq_true rfl⟩) hS (fun q _ h => hFc q h) hFc (fun r_28 u_29 t H1 locs ht hvm hr_28 hB hz1 hk1 hS => ?_)
    obtain ⟨hi0_r_28, hi1_r_28⟩ := hr_28
    have hj0_r_28 : r_28 = r_27 := hi0_r_28
    have hG : isB r_28 := hi1_r_28
    obtain ⟨hP1, hD1⟩ := hB
    rw [ht] at hP1
    obtain ⟨hP, hD⟩ := va_joinN [((a 25), .inl (T 0, 120, .inl f25)), (h0, .inr (10, (Value.int (q 0) :: Value.int (q 1) :: Value.int (q 2) :: Value.int (q 3) :: Value.int (q 4) :: Value.int (q 5) :: Value.int (q 6) :: Value.int (q 7) :: Value.ref (a 8) :: Value.ref (a 9) :: Value.ref (a 10) :: Value.ref (a 11) :: Value.ref (a 12) :: Value.ref (a 13) :: Value.int (q 14) :: Value.long v :: Value.long w :: Value.ref (a 17) :: Value.ref (a 18) :: Value.ref (a 19) :: Value.ref (a 20) :: Value.ref (a 21) :: Value.ref (a 22) :: Value.ref (a 23) :: Value.int (q 24) :: Value.ref (a 25) :: Value.int (q 26) :: Value.ref (a 27) :: Value.int z_26 :: Value.int u_29 :: Value.int (q 30) :: Value.int (q 31) :: Value.int (q 32) :: Value.int (q 33) :: Value.ref (a 34) :: Value.ref (a 35) :: Value.ref (a 36) :: Value.ref (a 37) :: Value.ref (a 38) :: Value.ref (a 39) :: Value.ref (a 40) :: Value.int (q 41) :: Value.ref (a 42) :: Value.int (q 43) :: Value.int (q 44) :: [])))] hP hD [0] [1] 2 rfl rfl rfl (by decide +kernel) hk1 hFc hP1 hD1
    clear hP1 hD1 hFc
    generalize H1 = H at hP hS ⊢
    refine lv_if_ne (tgt := 56) hx hb dX13_reads_51 (by decide +kernel) (fun c_30 => ?_) (fun c_30 => ?_)
    · rw [fa_eq] at c_30
      try rw [ti_0] at c_30
      refine lv_aload_n hx hb dX13_reads_56 rfl (lv_at hl 2 rfl) ?_
      refine lv_iconst (v := 0) hx hb dX13_reads_57 (by decide +kernel) ?_
      refine va_put (D := D) (ci := 10) (v := .int 0) (ty := .int) (C := RX13) (T := TX13) (N := 45) hx hb hts in_X13_reads_X13 tyX13 tyX13_ok nmX13 hown hE.1 hP hD hS 1 rfl rfl 33 (by decide +kernel) (hts (.fieldLink RX13 369 "ClauseBookModel" "value" "I") (List.mem_of_getElem? (i := 2) rfl)) (fun _ h9 => h9) rfl (by decide +kernel) rfl rfl (Nat.le_of_ble_eq_true rfl) dX13_reads_58 (fun H locs hP hD hS => ?_)
      obtain ⟨hP, hD⟩ := wPD [((a 25), .inl (T 0, 120, .inl f25)), (h0, .inr (10, (Value.int (q 0) :: Value.int (q 1) :: Value.int (q 2) :: Value.int (q 3) :: Value.int (q 4) :: Value.int (q 5) :: Value.int (q 6) :: Value.int (q 7) :: Value.ref (a 8) :: Value.ref (a 9) :: Value.ref (a 10) :: Value.ref (a 11) :: Value.ref (a 12) :: Value.ref (a 13) :: Value.int (q 14) :: Value.long v :: Value.long w :: Value.ref (a 17) :: Value.ref (a 18) :: Value.ref (a 19) :: Value.ref (a 20) :: Value.ref (a 21) :: Value.ref (a 22) :: Value.ref (a 23) :: Value.int (q 24) :: Value.ref (a 25) :: Value.int (q 26) :: Value.ref (a 27) :: Value.int z_26 :: Value.int u_29 :: Value.int (q 30) :: Value.int (q 31) :: Value.int (q 32) :: Value.int 0 :: Value.ref (a 34) :: Value.ref (a 35) :: Value.ref (a 36) :: Value.ref (a 37) :: Value.ref (a 38) :: Value.ref (a 39) :: Value.ref (a 40) :: Value.int (q 41) :: Value.ref (a 42) :: Value.int (q 43) :: Value.int (q 44) :: [])))] hP hD rfl
      refine loopW (σ := (Int32) × (Int32)) (fun x9 ls H locs => lv_has ls 5 [(3, .int 1), (2, .int u_2), (0, .ref h0), (1, .int x1)] ∧ va_P D vwCl [((a 25), .inl (T 0, 120, .inl f25)), (h0, .inr (10, (Value.int (q 0) :: Value.int (q 1) :: Value.int (q 2) :: Value.int (q 3) :: Value.int (q 4) :: Value.int (q 5) :: Value.int (q 6) :: Value.int (q 7) :: Value.ref (a 8) :: Value.ref (a 9) :: Value.ref (a 10) :: Value.ref (a 11) :: Value.ref (a 12) :: Value.ref (a 13) :: Value.int (q 14) :: Value.long v :: Value.long w :: Value.ref (a 17) :: Value.ref (a 18) :: Value.ref (a 19) :: Value.ref (a 20) :: Value.ref (a 21) :: Value.ref (a 22) :: Value.ref (a 23) :: Value.int (q 24) :: Value.ref (a 25) :: Value.int (q 26) :: Value.ref (a 27) :: Value.int x9.1 :: Value.int u_29 :: Value.int (q 30) :: Value.int (q 31) :: Value.int (q 32) :: Value.int x9.2 :: Value.ref (a 34) :: Value.ref (a 35) :: Value.ref (a 36) :: Value.ref (a 37) :: Value.ref (a 38) :: Value.ref (a 39) :: Value.ref (a 40) :: Value.int (q 41) :: Value.ref (a 42) :: Value.int (q 43) :: Value.int (q 44) :: [])))] H ∧ va_D A [((a 25), .inl (T 0, 120, .inl f25)), (h0, .inr (10, (Value.int (q 0) :: Value.int (q 1) :: Value.int (q 2) :: Value.int (q 3) :: Value.int (q 4) :: Value.int (q 5) :: Value.int (q 6) :: Value.int (q 7) :: Value.ref (a 8) :: Value.ref (a 9) :: Value.ref (a 10) :: Value.ref (a 11) :: Value.ref (a 12) :: Value.ref (a 13) :: Value.int (q 14) :: Value.long v :: Value.long w :: Value.ref (a 17) :: Value.ref (a 18) :: Value.ref (a 19) :: Value.ref (a 20) :: Value.ref (a 21) :: Value.ref (a 22) :: Value.ref (a 23) :: Value.int (q 24) :: Value.ref (a 25) :: Value.int (q 26) :: Value.ref (a 27) :: Value.int x9.1 :: Value.int u_29 :: Value.int (q 30) :: Value.int (q 31) :: Value.int (q 32) :: Value.int x9.2 :: Value.ref (a 34) :: Value.ref (a 35) :: Value.ref (a 36) :: Value.ref (a 37) :: Value.ref (a 38) :: Value.ref (a 39) :: Value.ref (a 40) :: Value.int (q 41) :: Value.ref (a 42) :: Value.int (q 43) :: Value.int (q 44) :: [])))] ∧ va_S A s.heap H locs ∧ ((q 28).toInt ≤ x9.1.toInt ∧ x9.1.toInt ≤ (q 26).toInt)) (fun x9 => (120 - x9.1.toInt).toNat) (fun x9 ls H locs hI ih => ?_) (z_26, 0) ls ⟨lv_sub hl [0, 1, 2, 3] rfl, hP.sub [0, 1] rfl, hD.sub [0, 1] (by decide +kernel) rfl, hS, (by (try dsimp only); omega)⟩
      obtain ⟨cu, va⟩ := x9
      obtain ⟨hl, hP, hD, hS, hinv⟩ := hI
      have hl : lv_has ls 5 [(3, .int 1), (2, .int u_2), (0, .ref h0), (1, .int x1)] := hl
      have hP : va_P D vwCl [((a 25), .inl (T 0, 120, .inl f25)), (h0, .inr (10, (Value.int (q 0) :: Value.int (q 1) :: Value.int (q 2) :: Value.int (q 3) :: Value.int (q 4) :: Value.int (q 5) :: Value.int (q 6) :: Value.int (q 7) :: Value.ref (a 8) :: Value.ref (a 9) :: Value.ref (a 10) :: Value.ref (a 11) :: Value.ref (a 12) :: Value.ref (a 13) :: Value.int (q 14) :: Value.long v :: Value.long w :: Value.ref (a 17) :: Value.ref (a 18) :: Value.ref (a 19) :: Value.ref (a 20) :: Value.ref (a 21) :: Value.ref (a 22) :: Value.ref (a 23) :: Value.int (q 24) :: Value.ref (a 25) :: Value.int (q 26) :: Value.ref (a 27) :: Value.int cu :: Value.int u_29 :: Value.int (q 30) :: Value.int (q 31) :: Value.int (q 32) :: Value.int va :: Value.ref (a 34) :: Value.ref (a 35) :: Value.ref (a 36) :: Value.ref (a 37) :: Value.ref (a 38) :: Value.ref (a 39) :: Value.ref (a 40) :: Value.int (q 41) :: Value.ref (a 42) :: Value.int (q 43) :: Value.int (q 44) :: [])))] H := hP
      have hD : va_D A [((a 25), .inl (T 0, 120, .inl f25)), (h0, .inr (10, (Value.int (q 0) :: Value.int (q 1) :: Value.int (q 2) :: Value.int (q 3) :: Value.int (q 4) :: Value.int (q 5) :: Value.int (q 6) :: Value.int (q 7) :: Value.ref (a 8) :: Value.ref (a 9) :: Value.ref (a 10) :: Value.ref (a 11) :: Value.ref (a 12) :: Value.ref (a 13) :: Value.int (q 14) :: Value.long v :: Value.long w :: Value.ref (a 17) :: Value.ref (a 18) :: Value.ref (a 19) :: Value.ref (a 20) :: Value.ref (a 21) :: Value.ref (a 22) :: Value.ref (a 23) :: Value.int (q 24) :: Value.ref (a 25) :: Value.int (q 26) :: Value.ref (a 27) :: Value.int cu :: Value.int u_29 :: Value.int (q 30) :: Value.int (q 31) :: Value.int (q 32) :: Value.int va :: Value.ref (a 34) :: Value.ref (a 35) :: Value.ref (a 36) :: Value.ref (a 37) :: Value.ref (a 38) :: Value.ref (a 39) :: Value.ref (a 40) :: Value.int (q 41) :: Value.ref (a 42) :: Value.int (q 43) :: Value.int (q 44) :: [])))] := hD
      have hinv : (q 28).toInt ≤ cu.toInt ∧ cu.toInt ≤ (q 26).toInt := hinv
      refine lv_aload_n hx hb dX13_reads_61 rfl (lv_at hl 2 rfl) ?_
      refine vp_callSi (W.runV (As := []) (rest := []) ⟨hx, hb, hml, hown, hts⟩ (c_X13_isDigit l D T h0 [.int (q 0), .int (q 1), .int (q 2), .int (q 3), .int (q 4), .int (q 5), .int (q 6), .int (q 7), .ref (a 8), .ref (a 9), .ref (a 10), .ref (a 11), .ref (a 12), .ref (a 13), .int (q 14), .long v, .long w, .ref (a 17), .ref (a 18), .ref (a 19), .ref (a 20), .ref (a 21), .ref (a 22), .ref (a 23), .int (q 24), .ref (a 25), .int (q 26), .ref (a 27), .int cu, .int u_29, .int (q 30), .int (q 31), .int (q 32), .int va, .ref (a 34), .ref (a 35), .ref (a 36), .ref (a 37), .ref (a 38), .ref (a 39), .ref (a 40), .int (q 41), .ref (a 42), .int (q 43), .int (q 44)] (a 25) f25 cu (q 26) rfl rfl rfl (by omega)) (cwV 0 hts gX13_reads_X13_isDigit rfl rfl rfl hv_X13_isDigit ⟨Nat.le_of_ble_eq_true rfl, Nat.le_of_ble_eq_true rfl⟩) (pR_V (ci := 10) (q0 := 1) hP hE rfl rfl [1, 0] rfl) rfl rfl hl.1 rfl (lv_room (Nat.le_of_ble_eq_true rfl)) dX13_reads_62 ⟨Nat.le_of_ble_eq_true rfl, Nat.le_of_ble_eq_true rfl⟩) (fun r_31 hr_31 => ?_)
      refine lv_if_eq (tgt := 116) hx hb dX13_reads_65 (by decide +kernel) (fun c_32 => ?_) (fun c_32 => ?_)
      · rw [fa_eq] at c_32
        try rw [ti_0] at c_32
        refine lv_aload_n hx hb dX13_reads_116 rfl (lv_at hl 2 rfl) ?_
        refine va_get (D := D) (ci := 10) (v := .int va) (C := RX13) (T := TX13) (N := 45) hx hb hts in_X13_reads_X13 hown hE.1 hP 1 rfl rfl 33 (by decide +kernel) (hts (.fieldLink RX13 369 "ClauseBookModel" "value" "I") (List.mem_of_getElem? (i := 2) rfl)) (fun _ h9 => h9) rfl dX13_reads_117 ?_
        refine lv_bipush (v := 99) hx hb dX13_reads_120 (by decide +kernel) ?_
        refine lv_icmp_gt (tgt := 129) hx hb dX13_reads_122 (by decide +kernel) (fun c_33 => ?_) (fun c_33 => ?_)
        · rw [fa_lt] at c_33
          try rw [ti_99] at c_33
          refine lv_iconst (v := 0) hx hb dX13_reads_129 (by decide +kernel) ?_
          refine lv_istore (lv' := [(4, .int 0), (3, .int 1), (2, .int u_2), (0, .ref h0), (1, .int x1)]) hx hb dX13_reads_130 hl (by decide +kernel) rfl (fun ls hl => ?_)
          refine lv_aload_n hx hb dX13_reads_132 rfl (lv_at hl 3 rfl) ?_
          refine lv_iload_n hx hb dX13_reads_133 rfl (lv_at hl 1 rfl) ?_
          refine lv_if_eq (tgt := 145) hx hb dX13_reads_134 (by decide +kernel) (fun c9 => absurd c9 (by decide +kernel)) (fun _ => ?_)
          refine lv_aload_n hx hb dX13_reads_137 rfl (lv_at hl 3 rfl) ?_
          refine va_get (D := D) (ci := 10) (v := .int va) (C := RX13) (T := TX13) (N := 45) hx hb hts in_X13_reads_X13 hown hE.1 hP 1 rfl rfl 33 (by decide +kernel) (hts (.fieldLink RX13 369 "ClauseBookModel" "value" "I") (List.mem_of_getElem? (i := 2) rfl)) (fun _ h9 => h9) rfl dX13_reads_138 ?_
          refine lv_ineg hx hb dX13_reads_141 ?_
          refine lv_goto (tgt := 149) hx hb dX13_reads_142 (by decide +kernel) ?_
          refine va_put (D := D) (ci := 10) (v := .int (-va)) (ty := .int) (C := RX13) (T := TX13) (N := 45) hx hb hts in_X13_reads_X13 tyX13 tyX13_ok nmX13 hown hE.1 hP hD hS 1 rfl rfl 33 (by decide +kernel) (hts (.fieldLink RX13 369 "ClauseBookModel" "value" "I") (List.mem_of_getElem? (i := 2) rfl)) (fun _ h9 => h9) rfl (by decide +kernel) rfl rfl (Nat.le_of_ble_eq_true rfl) dX13_reads_149 (fun H locs hP hD hS => ?_)
          obtain ⟨hP, hD⟩ := wPD [((a 25), .inl (T 0, 120, .inl f25)), (h0, .inr (10, (Value.int (q 0) :: Value.int (q 1) :: Value.int (q 2) :: Value.int (q 3) :: Value.int (q 4) :: Value.int (q 5) :: Value.int (q 6) :: Value.int (q 7) :: Value.ref (a 8) :: Value.ref (a 9) :: Value.ref (a 10) :: Value.ref (a 11) :: Value.ref (a 12) :: Value.ref (a 13) :: Value.int (q 14) :: Value.long v :: Value.long w :: Value.ref (a 17) :: Value.ref (a 18) :: Value.ref (a 19) :: Value.ref (a 20) :: Value.ref (a 21) :: Value.ref (a 22) :: Value.ref (a 23) :: Value.int (q 24) :: Value.ref (a 25) :: Value.int (q 26) :: Value.ref (a 27) :: Value.int cu :: Value.int u_29 :: Value.int (q 30) :: Value.int (q 31) :: Value.int (q 32) :: Value.int (-va) :: Value.ref (a 34) :: Value.ref (a 35) :: Value.ref (a 36) :: Value.ref (a 37) :: Value.ref (a 38) :: Value.ref (a 39) :: Value.ref (a 40) :: Value.int (q 41) :: Value.ref (a 42) :: Value.int (q 43) :: Value.int (q 44) :: [])))] hP hD rfl
          refine lv_aload_n hx hb dX13_reads_152 rfl (lv_at hl 3 rfl) ?_
          refine lv_iload hx hb dX13_reads_153 (lv_at hl 0 rfl) ?_
          refine lv_if_eq (tgt := 173) hx hb dX13_reads_155 (by decide +kernel) (fun _ => ?_) (fun c9 => absurd c9 (by decide +kernel))
          refine lv_iconst (v := 0) hx hb dX13_reads_173 (by decide +kernel) ?_
          refine lv_iload_n hx hb dX13_reads_174 rfl (lv_at hl 2 rfl) ?_
          have hFc := va_free (wc := [(h0, .inr (10, (Value.int (q 0) :: Value.int (q 1) :: Value.int (q 2) :: Value.int (q 3) :: Value.int (q 4) :: Value.int (q 5) :: Value.int (q 6) :: Value.int (q 7) :: Value.ref (a 8) :: Value.ref (a 9) :: Value.ref (a 10) :: Value.ref (a 11) :: Value.ref (a 12) :: Value.ref (a 13) :: Value.int (q 14) :: Value.long v :: Value.long w :: Value.ref (a 17) :: Value.ref (a 18) :: Value.ref (a 19) :: Value.ref (a 20) :: Value.ref (a 21) :: Value.ref (a 22) :: Value.ref (a 23) :: Value.int (q 24) :: Value.ref (a 25) :: Value.int (q 26) :: Value.ref (a 27) :: Value.int cu :: Value.int u_29 :: Value.int (q 30) :: Value.int (q 31) :: Value.int (q 32) :: Value.int (-va) :: Value.ref (a 34) :: Value.ref (a 35) :: Value.ref (a 36) :: Value.ref (a 37) :: Value.ref (a 38) :: Value.ref (a 39) :: Value.ref (a 40) :: Value.int (q 41) :: Value.ref (a 42) :: Value.int (q 43) :: Value.int (q 44) :: [])))]) hD hS hA [1] rfl
          refine va_calli (va_runV (As := [.int 0, .int u_2]) (rest := []) ⟨hx, hb, hml, hown, hts⟩ (c_X13_must l D T _ h0 (fun k => cond (Nat.beq k 28) cu (cond (Nat.beq k 29) u_29 (cond (Nat.beq k 33) (-va) (q k)))) v w a 0 u_2 (show isB (0 : Int32) from isB0)) (cwV 2 hts gX13_reads_X13_must rfl rfl rfl hv_X13_must ⟨Nat.le_of_ble_eq_true rfl, Nat.le_of_ble_eq_true rfl⟩) (pW_V (ci := 10) (q0 := 1) hP hE hD rfl rfl [1] (by decide +kernel) rfl rfl) rfl rfl hl.1 rfl (lv_room (Nat.le_of_ble_eq_true rfl)) dX13_reads_175 ⟨Nat.le_of_ble_eq_true rfl, Nat.le_of_ble_eq_true rfl⟩) hS (fun q _ h => hFc q h) hFc (fun r_34 u_35 t H1 locs ht hvm hr_34 hB hz1 hk1 hS => ?_)
          obtain ⟨hi0_r_34, hi1_r_34⟩ := hr_34
          have hj0_r_34 : r_34 = (0 : Int32) := hi0_r_34
          have hG : isB r_34 := hi1_r_34
          obtain ⟨hP1, hD1⟩ := hB
          rw [ht] at hP1
          obtain ⟨hP, hD⟩ := va_joinN [((a 25), .inl (T 0, 120, .inl f25)), (h0, .inr (10, (Value.int (q 0) :: Value.int (q 1) :: Value.int (q 2) :: Value.int (q 3) :: Value.int (q 4) :: Value.int (q 5) :: Value.int (q 6) :: Value.int (q 7) :: Value.ref (a 8) :: Value.ref (a 9) :: Value.ref (a 10) :: Value.ref (a 11) :: Value.ref (a 12) :: Value.ref (a 13) :: Value.int (q 14) :: Value.long v :: Value.long w :: Value.ref (a 17) :: Value.ref (a 18) :: Value.ref (a 19) :: Value.ref (a 20) :: Value.ref (a 21) :: Value.ref (a 22) :: Value.ref (a 23) :: Value.int (q 24) :: Value.ref (a 25) :: Value.int (q 26) :: Value.ref (a 27) :: Value.int cu :: Value.int u_35 :: Value.int (q 30) :: Value.int (q 31) :: Value.int (q 32) :: Value.int (-va) :: Value.ref (a 34) :: Value.ref (a 35) :: Value.ref (a 36) :: Value.ref (a 37) :: Value.ref (a 38) :: Value.ref (a 39) :: Value.ref (a 40) :: Value.int (q 41) :: Value.ref (a 42) :: Value.int (q 43) :: Value.int (q 44) :: [])))] hP hD [1] [0] 2 rfl rfl rfl (by decide +kernel) hk1 hFc hP1 hD1
          clear hP1 hD1 hFc
          generalize H1 = H at hP hS ⊢
          obtain rfl : r_34 = 0 := hi0_r_34
          exact W.zret hx hb hr rfl (fun t ht hW => ⟨⟨_, (cu, u_35, (-va)), rfl, (show (q 28).toInt ≤ cu.toInt ∧ cu.toInt ≤ (q 26).toInt from (by first | omega | (subst_vars; omega))), by rw [ht]; exact hP.sub [1, 0] rfl, hD.sub [1, 0] (by decide +kernel) rfl⟩, hS.F ht⟩) hS.2.2 dX13_reads_178
        · rw [fa_lt] at c_33
          try rw [ti_99] at c_33
          refine lv_iconst (v := 1) hx hb dX13_reads_125 (by decide +kernel) ?_
          refine lv_goto (tgt := 130) hx hb dX13_reads_126 (by decide +kernel) ?_
          refine lv_istore (lv' := [(4, .int 1), (3, .int 1), (2, .int u_2), (0, .ref h0), (1, .int x1)]) hx hb dX13_reads_130 hl (by decide +kernel) rfl (fun ls hl => ?_)
          refine lv_aload_n hx hb dX13_reads_132 rfl (lv_at hl 3 rfl) ?_
          refine lv_iload_n hx hb dX13_reads_133 rfl (lv_at hl 1 rfl) ?_
          refine lv_if_eq (tgt := 145) hx hb dX13_reads_134 (by decide +kernel) (fun c9 => absurd c9 (by decide +kernel)) (fun _ => ?_)
          refine lv_aload_n hx hb dX13_reads_137 rfl (lv_at hl 3 rfl) ?_
          refine va_get (D := D) (ci := 10) (v := .int va) (C := RX13) (T := TX13) (N := 45) hx hb hts in_X13_reads_X13 hown hE.1 hP 1 rfl rfl 33 (by decide +kernel) (hts (.fieldLink RX13 369 "ClauseBookModel" "value" "I") (List.mem_of_getElem? (i := 2) rfl)) (fun _ h9 => h9) rfl dX13_reads_138 ?_
          refine lv_ineg hx hb dX13_reads_141 ?_
          refine lv_goto (tgt := 149) hx hb dX13_reads_142 (by decide +kernel) ?_
          refine va_put (D := D) (ci := 10) (v := .int (-va)) (ty := .int) (C := RX13) (T := TX13) (N := 45) hx hb hts in_X13_reads_X13 tyX13 tyX13_ok nmX13 hown hE.1 hP hD hS 1 rfl rfl 33 (by decide +kernel) (hts (.fieldLink RX13 369 "ClauseBookModel" "value" "I") (List.mem_of_getElem? (i := 2) rfl)) (fun _ h9 => h9) rfl (by decide +kernel) rfl rfl (Nat.le_of_ble_eq_true rfl) dX13_reads_149 (fun H locs hP hD hS => ?_)
          obtain ⟨hP, hD⟩ := wPD [((a 25), .inl (T 0, 120, .inl f25)), (h0, .inr (10, (Value.int (q 0) :: Value.int (q 1) :: Value.int (q 2) :: Value.int (q 3) :: Value.int (q 4) :: Value.int (q 5) :: Value.int (q 6) :: Value.int (q 7) :: Value.ref (a 8) :: Value.ref (a 9) :: Value.ref (a 10) :: Value.ref (a 11) :: Value.ref (a 12) :: Value.ref (a 13) :: Value.int (q 14) :: Value.long v :: Value.long w :: Value.ref (a 17) :: Value.ref (a 18) :: Value.ref (a 19) :: Value.ref (a 20) :: Value.ref (a 21) :: Value.ref (a 22) :: Value.ref (a 23) :: Value.int (q 24) :: Value.ref (a 25) :: Value.int (q 26) :: Value.ref (a 27) :: Value.int cu :: Value.int u_29 :: Value.int (q 30) :: Value.int (q 31) :: Value.int (q 32) :: Value.int (-va) :: Value.ref (a 34) :: Value.ref (a 35) :: Value.ref (a 36) :: Value.ref (a 37) :: Value.ref (a 38) :: Value.ref (a 39) :: Value.ref (a 40) :: Value.int (q 41) :: Value.ref (a 42) :: Value.int (q 43) :: Value.int (q 44) :: [])))] hP hD rfl
          refine lv_aload_n hx hb dX13_reads_152 rfl (lv_at hl 3 rfl) ?_
          refine lv_iload hx hb dX13_reads_153 (lv_at hl 0 rfl) ?_
          refine lv_if_eq (tgt := 173) hx hb dX13_reads_155 (by decide +kernel) (fun c9 => absurd c9 (by decide +kernel)) (fun _ => ?_)
          refine lv_iload_n hx hb dX13_reads_158 rfl (lv_at hl 4 rfl) ?_
          refine lv_aload_n hx hb dX13_reads_159 rfl (lv_at hl 3 rfl) ?_
          refine va_get (D := D) (ci := 10) (v := .int (-va)) (C := RX13) (T := TX13) (N := 45) hx hb hts in_X13_reads_X13 hown hE.1 hP 1 rfl rfl 33 (by decide +kernel) (hts (.fieldLink RX13 369 "ClauseBookModel" "value" "I") (List.mem_of_getElem? (i := 2) rfl)) (fun _ h9 => h9) rfl dX13_reads_160 ?_
          refine vp_callSi (W.runS (As := [.int x1, .int (-va)]) (rest := [.ref h0]) ⟨hx, hb, hml, hown, hts⟩ (c_X13_isNumber l D T x1 (-va)) (va_cwS 2 hts gX13_reads_X13_isNumber rfl rfl rfl hs_X13_isNumber ⟨Nat.le_of_ble_eq_true rfl, Nat.le_of_ble_eq_true rfl⟩) (pR_S hP hE [] rfl) rfl rfl hl.1 rfl (lv_room (Nat.le_of_ble_eq_true rfl)) dX13_reads_163 ⟨Nat.le_of_ble_eq_true rfl, Nat.le_of_ble_eq_true rfl⟩) (fun r_36 hr_36 => ?_)
          refine lv_if_eq (tgt := 173) hx hb dX13_reads_166 (by decide +kernel) (fun c_37 => ?_) (fun c_37 => ?_)
          · rw [fa_eq] at c_37
            try rw [ti_0] at c_37
            refine lv_iconst (v := 0) hx hb dX13_reads_173 (by decide +kernel) ?_
            refine lv_iload_n hx hb dX13_reads_174 rfl (lv_at hl 2 rfl) ?_
            have hFc := va_free (wc := [(h0, .inr (10, (Value.int (q 0) :: Value.int (q 1) :: Value.int (q 2) :: Value.int (q 3) :: Value.int (q 4) :: Value.int (q 5) :: Value.int (q 6) :: Value.int (q 7) :: Value.ref (a 8) :: Value.ref (a 9) :: Value.ref (a 10) :: Value.ref (a 11) :: Value.ref (a 12) :: Value.ref (a 13) :: Value.int (q 14) :: Value.long v :: Value.long w :: Value.ref (a 17) :: Value.ref (a 18) :: Value.ref (a 19) :: Value.ref (a 20) :: Value.ref (a 21) :: Value.ref (a 22) :: Value.ref (a 23) :: Value.int (q 24) :: Value.ref (a 25) :: Value.int (q 26) :: Value.ref (a 27) :: Value.int cu :: Value.int u_29 :: Value.int (q 30) :: Value.int (q 31) :: Value.int (q 32) :: Value.int (-va) :: Value.ref (a 34) :: Value.ref (a 35) :: Value.ref (a 36) :: Value.ref (a 37) :: Value.ref (a 38) :: Value.ref (a 39) :: Value.ref (a 40) :: Value.int (q 41) :: Value.ref (a 42) :: Value.int (q 43) :: Value.int (q 44) :: [])))]) hD hS hA [1] rfl
            refine va_calli (va_runV (As := [.int 0, .int u_2]) (rest := []) ⟨hx, hb, hml, hown, hts⟩ (c_X13_must l D T _ h0 (fun k => cond (Nat.beq k 28) cu (cond (Nat.beq k 29) u_29 (cond (Nat.beq k 33) (-va) (q k)))) v w a 0 u_2 (show isB (0 : Int32) from isB0)) (cwV 2 hts gX13_reads_X13_must rfl rfl rfl hv_X13_must ⟨Nat.le_of_ble_eq_true rfl, Nat.le_of_ble_eq_true rfl⟩) (pW_V (ci := 10) (q0 := 1) hP hE hD rfl rfl [1] (by decide +kernel) rfl rfl) rfl rfl hl.1 rfl (lv_room (Nat.le_of_ble_eq_true rfl)) dX13_reads_175 ⟨Nat.le_of_ble_eq_true rfl, Nat.le_of_ble_eq_true rfl⟩) hS (fun q _ h => hFc q h) hFc (fun r_38 u_39 t H1 locs ht hvm hr_38 hB hz1 hk1 hS => ?_)
            obtain ⟨hi0_r_38, hi1_r_38⟩ := hr_38
            have hj0_r_38 : r_38 = (0 : Int32) := hi0_r_38
            have hG : isB r_38 := hi1_r_38
            obtain ⟨hP1, hD1⟩ := hB
            rw [ht] at hP1
            obtain ⟨hP, hD⟩ := va_joinN [((a 25), .inl (T 0, 120, .inl f25)), (h0, .inr (10, (Value.int (q 0) :: Value.int (q 1) :: Value.int (q 2) :: Value.int (q 3) :: Value.int (q 4) :: Value.int (q 5) :: Value.int (q 6) :: Value.int (q 7) :: Value.ref (a 8) :: Value.ref (a 9) :: Value.ref (a 10) :: Value.ref (a 11) :: Value.ref (a 12) :: Value.ref (a 13) :: Value.int (q 14) :: Value.long v :: Value.long w :: Value.ref (a 17) :: Value.ref (a 18) :: Value.ref (a 19) :: Value.ref (a 20) :: Value.ref (a 21) :: Value.ref (a 22) :: Value.ref (a 23) :: Value.int (q 24) :: Value.ref (a 25) :: Value.int (q 26) :: Value.ref (a 27) :: Value.int cu :: Value.int u_39 :: Value.int (q 30) :: Value.int (q 31) :: Value.int (q 32) :: Value.int (-va) :: Value.ref (a 34) :: Value.ref (a 35) :: Value.ref (a 36) :: Value.ref (a 37) :: Value.ref (a 38) :: Value.ref (a 39) :: Value.ref (a 40) :: Value.int (q 41) :: Value.ref (a 42) :: Value.int (q 43) :: Value.int (q 44) :: [])))] hP hD [1] [0] 2 rfl rfl rfl (by decide +kernel) hk1 hFc hP1 hD1
            clear hP1 hD1 hFc
            generalize H1 = H at hP hS ⊢
            obtain rfl : r_38 = 0 := hi0_r_38
            exact W.zret hx hb hr rfl (fun t ht hW => ⟨⟨_, (cu, u_39, (-va)), rfl, (show (q 28).toInt ≤ cu.toInt ∧ cu.toInt ≤ (q 26).toInt from (by first | omega | (subst_vars; omega))), by rw [ht]; exact hP.sub [1, 0] rfl, hD.sub [1, 0] (by decide +kernel) rfl⟩, hS.F ht⟩) hS.2.2 dX13_reads_178
          · rw [fa_eq] at c_37
            try rw [ti_0] at c_37
            refine lv_iconst (v := 1) hx hb dX13_reads_169 (by decide +kernel) ?_
            refine lv_goto (tgt := 174) hx hb dX13_reads_170 (by decide +kernel) ?_
            refine lv_iload_n hx hb dX13_reads_174 rfl (lv_at hl 2 rfl) ?_
            have hFc := va_free (wc := [(h0, .inr (10, (Value.int (q 0) :: Value.int (q 1) :: Value.int (q 2) :: Value.int (q 3) :: Value.int (q 4) :: Value.int (q 5) :: Value.int (q 6) :: Value.int (q 7) :: Value.ref (a 8) :: Value.ref (a 9) :: Value.ref (a 10) :: Value.ref (a 11) :: Value.ref (a 12) :: Value.ref (a 13) :: Value.int (q 14) :: Value.long v :: Value.long w :: Value.ref (a 17) :: Value.ref (a 18) :: Value.ref (a 19) :: Value.ref (a 20) :: Value.ref (a 21) :: Value.ref (a 22) :: Value.ref (a 23) :: Value.int (q 24) :: Value.ref (a 25) :: Value.int (q 26) :: Value.ref (a 27) :: Value.int cu :: Value.int u_29 :: Value.int (q 30) :: Value.int (q 31) :: Value.int (q 32) :: Value.int (-va) :: Value.ref (a 34) :: Value.ref (a 35) :: Value.ref (a 36) :: Value.ref (a 37) :: Value.ref (a 38) :: Value.ref (a 39) :: Value.ref (a 40) :: Value.int (q 41) :: Value.ref (a 42) :: Value.int (q 43) :: Value.int (q 44) :: [])))]) hD hS hA [1] rfl
            refine va_calli (va_runV (As := [.int 1, .int u_2]) (rest := []) ⟨hx, hb, hml, hown, hts⟩ (c_X13_must l D T _ h0 (fun k => cond (Nat.beq k 28) cu (cond (Nat.beq k 29) u_29 (cond (Nat.beq k 33) (-va) (q k)))) v w a 1 u_2 (show isB (1 : Int32) from isB1)) (cwV 2 hts gX13_reads_X13_must rfl rfl rfl hv_X13_must ⟨Nat.le_of_ble_eq_true rfl, Nat.le_of_ble_eq_true rfl⟩) (pW_V (ci := 10) (q0 := 1) hP hE hD rfl rfl [1] (by decide +kernel) rfl rfl) rfl rfl hl.1 rfl (lv_room (Nat.le_of_ble_eq_true rfl)) dX13_reads_175 ⟨Nat.le_of_ble_eq_true rfl, Nat.le_of_ble_eq_true rfl⟩) hS (fun q _ h => hFc q h) hFc (fun r_40 u_41 t H1 locs ht hvm hr_40 hB hz1 hk1 hS => ?_)
            obtain ⟨hi0_r_40, hi1_r_40⟩ := hr_40
            have hj0_r_40 : r_40 = (1 : Int32) := hi0_r_40
            have hG : isB r_40 := hi1_r_40
            obtain ⟨hP1, hD1⟩ := hB
            rw [ht] at hP1
            obtain ⟨hP, hD⟩ := va_joinN [((a 25), .inl (T 0, 120, .inl f25)), (h0, .inr (10, (Value.int (q 0) :: Value.int (q 1) :: Value.int (q 2) :: Value.int (q 3) :: Value.int (q 4) :: Value.int (q 5) :: Value.int (q 6) :: Value.int (q 7) :: Value.ref (a 8) :: Value.ref (a 9) :: Value.ref (a 10) :: Value.ref (a 11) :: Value.ref (a 12) :: Value.ref (a 13) :: Value.int (q 14) :: Value.long v :: Value.long w :: Value.ref (a 17) :: Value.ref (a 18) :: Value.ref (a 19) :: Value.ref (a 20) :: Value.ref (a 21) :: Value.ref (a 22) :: Value.ref (a 23) :: Value.int (q 24) :: Value.ref (a 25) :: Value.int (q 26) :: Value.ref (a 27) :: Value.int cu :: Value.int u_41 :: Value.int (q 30) :: Value.int (q 31) :: Value.int (q 32) :: Value.int (-va) :: Value.ref (a 34) :: Value.ref (a 35) :: Value.ref (a 36) :: Value.ref (a 37) :: Value.ref (a 38) :: Value.ref (a 39) :: Value.ref (a 40) :: Value.int (q 41) :: Value.ref (a 42) :: Value.int (q 43) :: Value.int (q 44) :: [])))] hP hD [1] [0] 2 rfl rfl rfl (by decide +kernel) hk1 hFc hP1 hD1
            clear hP1 hD1 hFc
            generalize H1 = H at hP hS ⊢
            obtain rfl : r_40 = 1 := hi0_r_40
            exact W.zret hx hb hr rfl (fun t ht hW => ⟨⟨_, (cu, u_41, (-va)), rfl, (show (q 28).toInt ≤ cu.toInt ∧ cu.toInt ≤ (q 26).toInt from (by first | omega | (subst_vars; omega))), by rw [ht]; exact hP.sub [1, 0] rfl, hD.sub [1, 0] (by decide +kernel) rfl⟩, hS.F ht⟩) hS.2.2 dX13_reads_178
      · rw [fa_eq] at c_32
        try rw [ti_0] at c_32
        refine lv_aload_n hx hb dX13_reads_68 rfl (lv_at hl 2 rfl) ?_
        refine lv_aload_n hx hb dX13_reads_69 rfl (lv_at hl 2 rfl) ?_
        refine va_get (D := D) (ci := 10) (v := .int va) (C := RX13) (T := TX13) (N := 45) hx hb hts in_X13_reads_X13 hown hE.1 hP 1 rfl rfl 33 (by decide +kernel) (hts (.fieldLink RX13 369 "ClauseBookModel" "value" "I") (List.mem_of_getElem? (i := 2) rfl)) (fun _ h9 => h9) rfl dX13_reads_70 ?_
        refine lv_bipush (v := 99) hx hb dX13_reads_73 (by decide +kernel) ?_
        refine lv_icmp_le (tgt := 85) hx hb dX13_reads_75 (by decide +kernel) (fun c_42 => ?_) (fun c_42 => ?_)
        · rw [fa_le] at c_42
          try rw [ti_99] at c_42
          refine lv_bipush (v := 10) hx hb dX13_reads_85 (by decide +kernel) ?_
          refine lv_aload_n hx hb dX13_reads_87 rfl (lv_at hl 2 rfl) ?_
          refine va_get (D := D) (ci := 10) (v := .int va) (C := RX13) (T := TX13) (N := 45) hx hb hts in_X13_reads_X13 hown hE.1 hP 1 rfl rfl 33 (by decide +kernel) (hts (.fieldLink RX13 369 "ClauseBookModel" "value" "I") (List.mem_of_getElem? (i := 2) rfl)) (fun _ h9 => h9) rfl dX13_reads_88 ?_
          refine lv_imul hx hb dX13_reads_91 ?_
          refine lv_aload_n hx hb dX13_reads_92 rfl (lv_at hl 2 rfl) ?_
          refine vp_callSi (W.runV (As := []) (rest := [.int (10 * va), .ref h0]) ⟨hx, hb, hml, hown, hts⟩ (c_X13_here l D T h0 [.int (q 0), .int (q 1), .int (q 2), .int (q 3), .int (q 4), .int (q 5), .int (q 6), .int (q 7), .ref (a 8), .ref (a 9), .ref (a 10), .ref (a 11), .ref (a 12), .ref (a 13), .int (q 14), .long v, .long w, .ref (a 17), .ref (a 18), .ref (a 19), .ref (a 20), .ref (a 21), .ref (a 22), .ref (a 23), .int (q 24), .ref (a 25), .int (q 26), .ref (a 27), .int cu, .int u_29, .int (q 30), .int (q 31), .int (q 32), .int va, .ref (a 34), .ref (a 35), .ref (a 36), .ref (a 37), .ref (a 38), .ref (a 39), .ref (a 40), .int (q 41), .ref (a 42), .int (q 43), .int (q 44)] (a 25) f25 cu (q 26) rfl rfl rfl (by omega)) (cwV 0 hts gX13_reads_X13_here rfl rfl rfl hv_X13_here ⟨Nat.le_of_ble_eq_true rfl, Nat.le_of_ble_eq_true rfl⟩) (pR_V (ci := 10) (q0 := 1) hP hE rfl rfl [1, 0] rfl) rfl rfl hl.1 rfl (lv_room (Nat.le_of_ble_eq_true rfl)) dX13_reads_93 ⟨Nat.le_of_ble_eq_true rfl, Nat.le_of_ble_eq_true rfl⟩) (fun r_43 hr_43 => ?_)
          refine lv_iadd hx hb dX13_reads_96 ?_
          refine lv_bipush (v := 48) hx hb dX13_reads_97 (by decide +kernel) ?_
          refine lv_isub hx hb dX13_reads_99 ?_
          refine lv_topi (fun z_44 ez_44 => ?_)
          refine va_put (D := D) (ci := 10) (v := .int z_44) (ty := .int) (C := RX13) (T := TX13) (N := 45) hx hb hts in_X13_reads_X13 tyX13 tyX13_ok nmX13 hown hE.1 hP hD hS 1 rfl rfl 33 (by decide +kernel) (hts (.fieldLink RX13 369 "ClauseBookModel" "value" "I") (List.mem_of_getElem? (i := 2) rfl)) (fun _ h9 => h9) rfl (by decide +kernel) rfl rfl (Nat.le_of_ble_eq_true rfl) dX13_reads_100 (fun H locs hP hD hS => ?_)
          obtain ⟨hP, hD⟩ := wPD [((a 25), .inl (T 0, 120, .inl f25)), (h0, .inr (10, (Value.int (q 0) :: Value.int (q 1) :: Value.int (q 2) :: Value.int (q 3) :: Value.int (q 4) :: Value.int (q 5) :: Value.int (q 6) :: Value.int (q 7) :: Value.ref (a 8) :: Value.ref (a 9) :: Value.ref (a 10) :: Value.ref (a 11) :: Value.ref (a 12) :: Value.ref (a 13) :: Value.int (q 14) :: Value.long v :: Value.long w :: Value.ref (a 17) :: Value.ref (a 18) :: Value.ref (a 19) :: Value.ref (a 20) :: Value.ref (a 21) :: Value.ref (a 22) :: Value.ref (a 23) :: Value.int (q 24) :: Value.ref (a 25) :: Value.int (q 26) :: Value.ref (a 27) :: Value.int cu :: Value.int u_29 :: Value.int (q 30) :: Value.int (q 31) :: Value.int (q 32) :: Value.int z_44 :: Value.ref (a 34) :: Value.ref (a 35) :: Value.ref (a 36) :: Value.ref (a 37) :: Value.ref (a 38) :: Value.ref (a 39) :: Value.ref (a 40) :: Value.int (q 41) :: Value.ref (a 42) :: Value.int (q 43) :: Value.int (q 44) :: [])))] hP hD rfl
          refine lv_aload_n hx hb dX13_reads_103 rfl (lv_at hl 2 rfl) ?_
          refine lv_dup hx hb dX13_reads_104 rfl ?_
          refine va_get (D := D) (ci := 10) (v := .int cu) (C := RX13) (T := TX13) (N := 45) hx hb hts in_X13_reads_X13 hown hE.1 hP 1 rfl rfl 28 (by decide +kernel) (hts (.fieldLink RX13 344 "ClauseBookModel" "cursor" "I") (List.mem_of_getElem? (i := 1) rfl)) (fun _ h9 => h9) rfl dX13_reads_105 ?_
          refine lv_iconst (v := 1) hx hb dX13_reads_108 (by decide +kernel) ?_
          refine lv_iadd hx hb dX13_reads_109 ?_
          refine lv_topi (fun z_45 ez_45 => ?_)
          refine va_put (D := D) (ci := 10) (v := .int z_45) (ty := .int) (C := RX13) (T := TX13) (N := 45) hx hb hts in_X13_reads_X13 tyX13 tyX13_ok nmX13 hown hE.1 hP hD hS 1 rfl rfl 28 (by decide +kernel) (hts (.fieldLink RX13 344 "ClauseBookModel" "cursor" "I") (List.mem_of_getElem? (i := 1) rfl)) (fun _ h9 => h9) rfl (by decide +kernel) rfl rfl (Nat.le_of_ble_eq_true rfl) dX13_reads_110 (fun H locs hP hD hS => ?_)
          obtain ⟨hP, hD⟩ := wPD [((a 25), .inl (T 0, 120, .inl f25)), (h0, .inr (10, (Value.int (q 0) :: Value.int (q 1) :: Value.int (q 2) :: Value.int (q 3) :: Value.int (q 4) :: Value.int (q 5) :: Value.int (q 6) :: Value.int (q 7) :: Value.ref (a 8) :: Value.ref (a 9) :: Value.ref (a 10) :: Value.ref (a 11) :: Value.ref (a 12) :: Value.ref (a 13) :: Value.int (q 14) :: Value.long v :: Value.long w :: Value.ref (a 17) :: Value.ref (a 18) :: Value.ref (a 19) :: Value.ref (a 20) :: Value.ref (a 21) :: Value.ref (a 22) :: Value.ref (a 23) :: Value.int (q 24) :: Value.ref (a 25) :: Value.int (q 26) :: Value.ref (a 27) :: Value.int z_45 :: Value.int u_29 :: Value.int (q 30) :: Value.int (q 31) :: Value.int (q 32) :: Value.int z_44 :: Value.ref (a 34) :: Value.ref (a 35) :: Value.ref (a 36) :: Value.ref (a 37) :: Value.ref (a 38) :: Value.ref (a 39) :: Value.ref (a 40) :: Value.int (q 41) :: Value.ref (a 42) :: Value.int (q 43) :: Value.int (q 44) :: [])))] hP hD rfl
          refine lv_goto (tgt := 61) hx hb dX13_reads_113 (by decide +kernel) ?_
          exact ih (z_45, z_44) ls _ _ ⟨lv_sub hl [0, 1, 2, 3] rfl, hP.sub [0, 1] rfl, hD.sub [0, 1] (by decide +kernel) rfl, hS, (by subst_vars; (try dsimp only); rw [inc1 (i := cu) (n := 1000) (by omega) (by decide +kernel)]; omega)⟩ (by subst_vars; (try dsimp only); rw [inc1 (i := cu) (n := 1000) (by omega) (by decide +kernel)]; omega)
        · rw [fa_le] at c_42
          try rw [ti_99] at c_42
          refine lv_aload_n hx hb dX13_reads_78 rfl (lv_at hl 2 rfl) ?_
          refine va_get (D := D) (ci := 10) (v := .int va) (C := RX13) (T := TX13) (N := 45) hx hb hts in_X13_reads_X13 hown hE.1 hP 1 rfl rfl 33 (by decide +kernel) (hts (.fieldLink RX13 369 "ClauseBookModel" "value" "I") (List.mem_of_getElem? (i := 2) rfl)) (fun _ h9 => h9) rfl dX13_reads_79 ?_
          refine lv_goto (tgt := 100) hx hb dX13_reads_82 (by decide +kernel) ?_
          refine va_put (D := D) (ci := 10) (v := .int va) (ty := .int) (C := RX13) (T := TX13) (N := 45) hx hb hts in_X13_reads_X13 tyX13 tyX13_ok nmX13 hown hE.1 hP hD hS 1 rfl rfl 33 (by decide +kernel) (hts (.fieldLink RX13 369 "ClauseBookModel" "value" "I") (List.mem_of_getElem? (i := 2) rfl)) (fun _ h9 => h9) rfl (by decide +kernel) rfl rfl (Nat.le_of_ble_eq_true rfl) dX13_reads_100 (fun H locs hP hD hS => ?_)
          obtain ⟨hP, hD⟩ := wPD [((a 25), .inl (T 0, 120, .inl f25)), (h0, .inr (10, (Value.int (q 0) :: Value.int (q 1) :: Value.int (q 2) :: Value.int (q 3) :: Value.int (q 4) :: Value.int (q 5) :: Value.int (q 6) :: Value.int (q 7) :: Value.ref (a 8) :: Value.ref (a 9) :: Value.ref (a 10) :: Value.ref (a 11) :: Value.ref (a 12) :: Value.ref (a 13) :: Value.int (q 14) :: Value.long v :: Value.long w :: Value.ref (a 17) :: Value.ref (a 18) :: Value.ref (a 19) :: Value.ref (a 20) :: Value.ref (a 21) :: Value.ref (a 22) :: Value.ref (a 23) :: Value.int (q 24) :: Value.ref (a 25) :: Value.int (q 26) :: Value.ref (a 27) :: Value.int cu :: Value.int u_29 :: Value.int (q 30) :: Value.int (q 31) :: Value.int (q 32) :: Value.int va :: Value.ref (a 34) :: Value.ref (a 35) :: Value.ref (a 36) :: Value.ref (a 37) :: Value.ref (a 38) :: Value.ref (a 39) :: Value.ref (a 40) :: Value.int (q 41) :: Value.ref (a 42) :: Value.int (q 43) :: Value.int (q 44) :: [])))] hP hD rfl
          refine lv_aload_n hx hb dX13_reads_103 rfl (lv_at hl 2 rfl) ?_
          refine lv_dup hx hb dX13_reads_104 rfl ?_
          refine va_get (D := D) (ci := 10) (v := .int cu) (C := RX13) (T := TX13) (N := 45) hx hb hts in_X13_reads_X13 hown hE.1 hP 1 rfl rfl 28 (by decide +kernel) (hts (.fieldLink RX13 344 "ClauseBookModel" "cursor" "I") (List.mem_of_getElem? (i := 1) rfl)) (fun _ h9 => h9) rfl dX13_reads_105 ?_
          refine lv_iconst (v := 1) hx hb dX13_reads_108 (by decide +kernel) ?_
          refine lv_iadd hx hb dX13_reads_109 ?_
          refine lv_topi (fun z_46 ez_46 => ?_)
          refine va_put (D := D) (ci := 10) (v := .int z_46) (ty := .int) (C := RX13) (T := TX13) (N := 45) hx hb hts in_X13_reads_X13 tyX13 tyX13_ok nmX13 hown hE.1 hP hD hS 1 rfl rfl 28 (by decide +kernel) (hts (.fieldLink RX13 344 "ClauseBookModel" "cursor" "I") (List.mem_of_getElem? (i := 1) rfl)) (fun _ h9 => h9) rfl (by decide +kernel) rfl rfl (Nat.le_of_ble_eq_true rfl) dX13_reads_110 (fun H locs hP hD hS => ?_)
          obtain ⟨hP, hD⟩ := wPD [((a 25), .inl (T 0, 120, .inl f25)), (h0, .inr (10, (Value.int (q 0) :: Value.int (q 1) :: Value.int (q 2) :: Value.int (q 3) :: Value.int (q 4) :: Value.int (q 5) :: Value.int (q 6) :: Value.int (q 7) :: Value.ref (a 8) :: Value.ref (a 9) :: Value.ref (a 10) :: Value.ref (a 11) :: Value.ref (a 12) :: Value.ref (a 13) :: Value.int (q 14) :: Value.long v :: Value.long w :: Value.ref (a 17) :: Value.ref (a 18) :: Value.ref (a 19) :: Value.ref (a 20) :: Value.ref (a 21) :: Value.ref (a 22) :: Value.ref (a 23) :: Value.int (q 24) :: Value.ref (a 25) :: Value.int (q 26) :: Value.ref (a 27) :: Value.int z_46 :: Value.int u_29 :: Value.int (q 30) :: Value.int (q 31) :: Value.int (q 32) :: Value.int va :: Value.ref (a 34) :: Value.ref (a 35) :: Value.ref (a 36) :: Value.ref (a 37) :: Value.ref (a 38) :: Value.ref (a 39) :: Value.ref (a 40) :: Value.int (q 41) :: Value.ref (a 42) :: Value.int (q 43) :: Value.int (q 44) :: [])))] hP hD rfl
          refine lv_goto (tgt := 61) hx hb dX13_reads_113 (by decide +kernel) ?_
          exact ih (z_46, va) ls _ _ ⟨lv_sub hl [0, 1, 2, 3] rfl, hP.sub [0, 1] rfl, hD.sub [0, 1] (by decide +kernel) rfl, hS, (by subst_vars; (try dsimp only); rw [inc1 (i := cu) (n := 1000) (by omega) (by decide +kernel)]; omega)⟩ (by subst_vars; (try dsimp only); rw [inc1 (i := cu) (n := 1000) (by omega) (by decide +kernel)]; omega)
    · rw [fa_eq] at c_30
      try rw [ti_0] at c_30
      refine lv_iconst (v := 0) hx hb dX13_reads_54 (by decide +kernel) ?_
      exact W.zret hx hb hr rfl (fun t ht hW => ⟨⟨_, (z_26, u_29, (q 33)), rfl, (show (q 28).toInt ≤ z_26.toInt ∧ z_26.toInt ≤ (q 26).toInt from (by first | omega | (subst_vars; omega))), by rw [ht]; exact hP.sub [1, 0] rfl, hD.sub [1, 0] (by decide +kernel) rfl⟩, hS.F ht⟩) hS.2.2 dX13_reads_55
