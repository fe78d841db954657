theorem dX2_append_0 : decode cX2_append 0 = .ok (.aload_n 0, 1) := by decide +kernel
theorem dX2_append_1 : decode cX2_append 1 = .ok (.getfield 9, 3) := by decide +kernel
theorem dX2_append_11 : decode cX2_append 11 = .ok (.ireturn, 1) := by decide +kernel
theorem dX2_append_12 : decode cX2_append 12 = .ok (.aload_n 0, 1) := by decide +kernel
theorem dX2_append_13 : decode cX2_append 13 = .ok (.getfield 9, 3) := by decide +kernel
theorem dX2_append_16 : decode cX2_append 16 = .ok (.istore 5, 2) := by decide +kernel
theorem dX2_append_18 : decode cX2_append 18 = .ok (.aload_n 0, 1) := by decide +kernel
theorem dX2_append_19 : decode cX2_append 19 = .ok (.dup, 1) := by decide +kernel
theorem dX2_append_20 : decode cX2_append 20 = .ok (.getfield 9, 3) := by decide +kernel
theorem dX2_append_23 : decode cX2_append 23 = .ok (.iconst 1, 1) := by decide +kernel
theorem dX2_append_24 : decode cX2_append 24 = .ok (.iadd, 1) := by decide +kernel
theorem dX2_append_25 : decode cX2_append 25 = .ok (.putfield 9, 3) := by decide +kernel
theorem dX2_append_28 : decode cX2_append 28 = .ok (.aload_n 0, 1) := by decide +kernel
theorem dX2_append_29 : decode cX2_append 29 = .ok (.getfield 15, 3) := by decide +kernel
theorem dX2_append_32 : decode cX2_append 32 = .ok (.iload 5, 2) := by decide +kernel
theorem dX2_append_34 : decode cX2_append 34 = .ok (.iload_n 1, 1) := by decide +kernel
theorem dX2_append_35 : decode cX2_append 35 = .ok (.iastore, 1) := by decide +kernel
theorem dX2_append_36 : decode cX2_append 36 = .ok (.aload_n 0, 1) := by decide +kernel
theorem dX2_append_37 : decode cX2_append 37 = .ok (.getfield 19, 3) := by decide +kernel
theorem dX2_append_4 : decode cX2_append 4 = .ok (.bipush 24, 2) := by decide +kernel
theorem dX2_append_40 : decode cX2_append 40 = .ok (.iload 5, 2) := by decide +kernel
theorem dX2_append_42 : decode cX2_append 42 = .ok (.iload_n 2, 1) := by decide +kernel
theorem dX2_append_43 : decode cX2_append 43 = .ok (.iastore, 1) := by decide +kernel
theorem dX2_append_44 : decode cX2_append 44 = .ok (.aload_n 0, 1) := by decide +kernel
theorem dX2_append_45 : decode cX2_append 45 = .ok (.iload 5, 2) := by decide +kernel
theorem dX2_append_47 : decode cX2_append 47 = .ok (.iload_n 3, 1) := by decide +kernel
theorem dX2_append_48 : decode cX2_append 48 = .ok (.iload 4, 2) := by decide +kernel
theorem dX2_append_50 : decode cX2_append 50 = .ok (.invokevirtual 47, 3) := by decide +kernel
theorem dX2_append_53 : decode cX2_append 53 = .ok (.iload 5, 2) := by decide +kernel
theorem dX2_append_55 : decode cX2_append 55 = .ok (.ireturn, 1) := by decide +kernel
theorem dX2_append_6 : decode cX2_append 6 = .ok (.if_icmp .lt 6, 3) := by decide +kernel
theorem dX2_append_9 : decode cX2_append 9 = .ok (.bipush (-4), 2) := by decide +kernel
set_option maxRecDepth 20000 in
theorem ggX2_append_X2_rename : GoodIn wsX2_append wsX2_rename := goodIn_r _ [8, 9, 10, 11, 1, 12, 13, 14, 7, 15, 2, 16, 17, 18, 19, 20, 21, 22, 23, 24, 25, 26, 27, 3, 28, 29, 30, 31, 32, 33, 34, 35, 36, 37, 38] rfl (by decide +kernel)
set_option maxRecDepth 20000 in
theorem gX2_append_X2_rename : GoodIn wsX2_append (wsV RX2 47 RX2 yX2_rename wsX2_rename) := goodIn_app (goodIn_r _ [4, 5, 6, 7] rfl (by decide +kernel)) ggX2_append_X2_rename
theorem hv_X2_rename : yX2_rename.cls = RX2 ∧ yX2_rename.cls ≠ "java/lang/invoke/MethodHandle" ∧ yX2_rename.cls ≠ "java/lang/invoke/VarHandle" ∧ (parseMethodDescriptor yX2_rename.desc).map (fun d => d.parameters.length) = some 3 := by decide +kernel
set_option maxRecDepth 20000 in
theorem in_X2_append_X2 : ∀ w ∈ wsX20, w ∈ wsX2_append := sub_r [31, 32, 33, 34, 35, 36, 37, 38] rfl
set_option maxHeartbeats 4000000 in
set_option maxRecDepth 100000 in
theorem c_X2_append (l : Launch) (D : va_G) (T : Nat → ClassId) (ad sa av : Nat → Nat) (ta : Nat) (sz : Nat) (h0 : Nat) (n0 : Int32) (c1 : Nat) (c2 : Nat) (c3 : Nat) (c4 : Nat) (c5 : Nat) (c6 : Nat) (c7 : Nat) (f1 : Nat → Int32) (f2 : Nat → Int32) (f3 : Nat → Int32) (f4 : Nat → Int32) (f5 : Nat → Int32) (f6 : Nat → Int32) (f7 : Nat → Int32) (x1 : Int32) (x2 : Int32) (x3 : Int32) (x4 : Int32) (hn0 : 0 ≤ n0.toInt ∧ n0.toInt ≤ 24) (hok : okC f1 f3 f4 f5) (hk : 0 ≤ x1.toInt ∧ x1.toInt ≤ 12) (hc9 : 1 ≤ (nmT x1.toNatClampNeg).toInt → 0 ≤ x3.toInt ∧ x3.toInt < n0.toInt) (hd9 : (nmT x1.toNatClampNeg).toInt = 2 → 0 ≤ x4.toInt ∧ x4.toInt < n0.toInt) (hme : ∀ j : Nat, (j : Int) < n0.toInt → mesP f1 f2 f3 f4 f5 f6 f7 j) : Met l yX2_append wsX2_append ({ frames := 3, cells := 0, slots := 0, locals := 90 }) (pWk [.ref h0, .int x1, .int x2, .int x3, .int x4] D T [(h0, .inr (1, [.int n0, .ref c1, .ref c2, .ref c3, .ref c4, .ref c5, .ref c6, .ref c7])), (c1, .inl (T 0, 24, .inl f1)), (c2, .inl (T 0, 24, .inl f2)), (c3, .inl (T 0, 24, .inl f3)), (c4, .inl (T 0, 24, .inl f4)), (c5, .inl (T 0, 24, .inl f5)), (c6, .inl (T 0, 24, .inl f6)), (c7, .inl (T 0, 24, .inl f7))] sz ad sa av ta) (va_Qi (fun (r : Int32) (u : Nat → Nat → Int32) => ((24 ≤ n0.toInt ∧ r = -4 ∧ u 0 0 = n0) ∨ (n0.toInt < 24 ∧ r = n0 ∧ (u 0 0).toInt = n0.toInt + 1)) ∧ ((0 ≤ (u 0 0).toInt ∧ (u 0 0).toInt ≤ 24) ∧ okC (u 1) (u 3) (u 4) (u 5)) ∧ ((n0.toInt < 24 → u 1 = upd f1 (n0.toNatClampNeg) x1 ∧ u 2 = upd f2 (n0.toNatClampNeg) x2 ∧ u 3 = upd f3 (n0.toNatClampNeg) (if 1 ≤ (nmT (x1.toNatClampNeg)).toInt then x3 else -1) ∧ u 4 = upd f4 (n0.toNatClampNeg) (if (nmT (x1.toNatClampNeg)).toInt = 2 then x4 else -1)) ∧ (¬ n0.toInt < 24 → u 1 = f1 ∧ u 2 = f2 ∧ u 3 = f3 ∧ u 4 = f4)) ∧ (∀ j : Nat, (j : Int) < (u 0 0).toInt → mesP (u 1) (u 2) (u 3) (u 4) (u 5) (u 6) (u 7) j)) (bW D (va_A [(h0, .inr (1, [.int n0, .ref c1, .ref c2, .ref c3, .ref c4, .ref c5, .ref c6, .ref c7])), (c1, .inl (T 0, 24, .inl f1)), (c2, .inl (T 0, 24, .inl f2)), (c3, .inl (T 0, 24, .inl f3)), (c4, .inl (T 0, 24, .inl f4)), (c5, .inl (T 0, 24, .inl f5)), (c6, .inl (T 0, 24, .inl f6)), (c7, .inl (T 0, 24, .inl f7))] sz) (fun (u : Nat → Nat → Int32) => [(h0, .inr (1, [.int (u 0 0), .ref c1, .ref c2, .ref c3, .ref c4, .ref c5, .ref c6, .ref c7])), (c1, .inl (T 0, 24, .inl (u 1))), (c2, .inl (T 0, 24, .inl (u 2))), (c3, .inl (T 0, 24, .inl (u 3))), (c4, .inl (T 0, 24, .inl (u 4))), (c5, .inl (T 0, 24, .inl (u 5))), (c6, .inl (T 0, 24, .inl (u 6))), (c7, .inl (T 0, 24, .inl (u 7)))])) (va_A [(h0, .inr (1, [.int n0, .ref c1, .ref c2, .ref c3, .ref c4, .ref c5, .ref c6, .ref c7])), (c1, .inl (T 0, 24, .inl f1)), (c2, .inl (T 0, 24, .inl f2)), (c3, .inl (T 0, 24, .inl f3)), (c4, .inl (T 0, 24, .inl f4)), (c5, .inl (T 0, 24, .inl f5)), (c6, .inl (T 0, 24, .inl f6)), (c7, .inl (T 0, 24, .inl f7))] sz)) 0 0 (va_A [(h0, .inr (1, [.int n0, .ref c1, .ref c2, .ref c3, .ref c4, .ref c5, .ref c6, .ref c7])), (c1, .inl (T 0, 24, .inl f1)), (c2, .inl (T 0, 24, .inl f2)), (c3, .inl (T 0, 24, .inl f3)), (c4, .inl (T 0, 24, .inl f4)), (c5, .inl (T 0, 24, .inl f5)), (c6, .inl (T 0, 24, .inl f6)), (c7, .inl (T 0, 24, .inl f7))] sz) := by
  refine Met.ofW (cc := cX2_append) (maxL := 6) (ret := (some .int)) (by decide +kernel) rfl ?_
  intro p e s m args below meth c s₁ B hml hv
  obtain ⟨rfl, hsz, hP, hE, hD0, hV⟩ := hv
  have hx := B.exec
  have hb := B.bytes
  have hr := B.returns
  have hts := atoms_spec (ws := wsX2_append) B.pre
  have hown : s.vm.findClass RX2 = some m.cls := findClass_of_methodNamed B.named
  have hlocks := B.notSynchronized
  subst hsz
  have hD := hD0.self (sz := s.heap.size)
  generalize hAe : va_A [(h0, .inr (1, [.int n0, .ref c1, .ref c2, .ref c3, .ref c4, .ref c5, .ref c6, .ref c7])), (c1, .inl (T 0, 24, .inl f1)), (c2, .inl (T 0, 24, .inl f2)), (c3, .inl (T 0, 24, .inl f3)), (c4, .inl (T 0, 24, .inl f4)), (c5, .inl (T 0, 24, .inl f5)), (c6, .inl (T 0, 24, .inl f6)), (c7, .inl (T 0, 24, .inl f7))] s.heap.size = A at hD hV ⊢
  have hA : ∀ q : Nat, s.heap.size ≤ q → A q := fun q h => by rw [← hAe]; exact Or.inr h
  have hS : va_S A s.heap s.heap [] := va_S.rf
  have hP : va_P D vwCl [(h0, .inr (1, [.int n0, .ref c1, .ref c2, .ref c3, .ref c4, .ref c5, .ref c6, .ref c7])), (c1, .inl (T 0, 24, .inl f1)), (c2, .inl (T 0, 24, .inl f2)), (c3, .inl (T 0, 24, .inl f3)), (c4, .inl (T 0, 24, .inl f4)), (c5, .inl (T 0, 24, .inl f5)), (c6, .inl (T 0, 24, .inl f6)), (c7, .inl (T 0, 24, .inl f7))] s.heap := hP
  have hl := lv_entry ([.ref h0, .int x1, .int x2, .int x3, .int x4]) (n := 6) (Nat.le_of_ble_eq_true rfl)
  rw [lg_entry_eq]
  generalize (lg_sl ([.ref h0, .int x1, .int x2, .int x3, .int x4]) ++ List.replicate (6 - (lg_sl ([.ref h0, .int x1, .int x2, .int x3, .int x4])).length) Slot.unset).toArray = ls at hl ⊢
  have hl : lv_has ls 6 [(0, .ref h0), (1, .int x1), (2, .int x2), (3, .int x3), (4, .int x4)] := hl
  clear hD0
  refine lv_aload_n hx hb dX2_append_0 rfl (lv_at hl 0 rfl) ?_
  refine va_get (D := D) (ci := 1) (v := .int n0) (C := RX2) (T := TX2) (N := 8) hx hb hts in_X2_append_X2 hown hE.1 hP 0 rfl rfl 0 (by decide +kernel) (hts (.fieldLink RX2 9 "ClauseBook$Clauses" "size" "I") (List.mem_of_getElem? (i := 1) rfl)) (fun _ h9 => h9) rfl dX2_append_1 ?_
  refine lv_bipush (v := 24) hx hb dX2_append_4 (by decide +kernel) ?_
  refine lv_icmp_lt (tgt := 12) hx hb dX2_append_6 (by decide +kernel) (fun c_1 => ?_) (fun c_1 => ?_)
  · rw [fa_lt] at c_1
    try rw [ti_24] at c_1
    refine lv_aload_n hx hb dX2_append_12 rfl (lv_at hl 0 rfl) ?_
    refine va_get (D := D) (ci := 1) (v := .int n0) (C := RX2) (T := TX2) (N := 8) hx hb hts in_X2_append_X2 hown hE.1 hP 0 rfl rfl 0 (by decide +kernel) (hts (.fieldLink RX2 9 "ClauseBook$Clauses" "size" "I") (List.mem_of_getElem? (i := 1) rfl)) (fun _ h9 => h9) rfl dX2_append_13 ?_
    refine lv_istore (lv' := [(5, .int n0), (0, .ref h0), (1, .int x1), (2, .int x2), (3, .int x3), (4, .int x4)]) hx hb dX2_append_16 hl (by decide +kernel) rfl (fun ls hl => ?_)
    refine lv_aload_n hx hb dX2_append_18 rfl (lv_at hl 1 rfl) ?_
    refine lv_dup hx hb dX2_append_19 rfl ?_
    refine va_get (D := D) (ci := 1) (v := .int n0) (C := RX2) (T := TX2) (N := 8) hx hb hts in_X2_append_X2 hown hE.1 hP 0 rfl rfl 0 (by decide +kernel) (hts (.fieldLink RX2 9 "ClauseBook$Clauses" "size" "I") (List.mem_of_getElem? (i := 1) rfl)) (fun _ h9 => h9) rfl dX2_append_20 ?_
    refine lv_iconst (v := 1) hx hb dX2_append_23 (by decide +kernel) ?_
    refine lv_iadd hx hb dX2_append_24 ?_
    refine lv_topi (fun z_2 ez_2 => ?_)
    refine va_put (D := D) (ci := 1) (v := .int z_2) (ty := .int) (C := RX2) (T := TX2) (N := 8) hx hb hts in_X2_append_X2 tyX2 tyX2_ok nmX2 hown hE.1 hP hD hS 0 rfl rfl 0 (by decide +kernel) (hts (.fieldLink RX2 9 "ClauseBook$Clauses" "size" "I") (List.mem_of_getElem? (i := 1) rfl)) (fun _ h9 => h9) rfl (by decide +kernel) rfl rfl (Nat.le_of_ble_eq_true rfl) dX2_append_25 (fun H locs hP hD hS => ?_)
    obtain ⟨hP, hD⟩ := wPD [(h0, .inr (1, [.int z_2, .ref c1, .ref c2, .ref c3, .ref c4, .ref c5, .ref c6, .ref c7])), (c1, .inl (T 0, 24, .inl f1)), (c2, .inl (T 0, 24, .inl f2)), (c3, .inl (T 0, 24, .inl f3)), (c4, .inl (T 0, 24, .inl f4)), (c5, .inl (T 0, 24, .inl f5)), (c6, .inl (T 0, 24, .inl f6)), (c7, .inl (T 0, 24, .inl f7))] hP hD rfl
    have hz_2 : z_2.toInt = n0.toInt + 1 := by rw [ez_2]; exact inc1 (n := 24) (by omega) (by decide +kernel)
    refine lv_aload_n hx hb dX2_append_28 rfl (lv_at hl 1 rfl) ?_
    refine va_get (D := D) (ci := 1) (v := .ref c1) (C := RX2) (T := TX2) (N := 8) hx hb hts in_X2_append_X2 hown hE.1 hP 0 rfl rfl 1 (by decide +kernel) (hts (.fieldLink RX2 15 "ClauseBook$Clauses" "kind" "[I") (List.mem_of_getElem? (i := 2) rfl)) (fun _ h9 => h9) rfl dX2_append_29 ?_
    refine lv_iload hx hb dX2_append_32 (lv_at hl 0 rfl) ?_
    refine lv_iload_n hx hb dX2_append_34 rfl (lv_at hl 2 rfl) ?_
    refine va_iast hx hb hE.1 hP hD hS 1 0 rfl rfl (by rw [vp_in_iff]; first | omega | (subst_vars; omega)) dX2_append_35 (fun H locs hP hD hS => ?_)
    obtain ⟨hP, hD⟩ := wPD [(h0, .inr (1, [.int z_2, .ref c1, .ref c2, .ref c3, .ref c4, .ref c5, .ref c6, .ref c7])), (c1, .inl (T 0, 24, .inl (upd f1 (n0.toNatClampNeg) x1))), (c2, .inl (T 0, 24, .inl f2)), (c3, .inl (T 0, 24, .inl f3)), (c4, .inl (T 0, 24, .inl f4)), (c5, .inl (T 0, 24, .inl f5)), (c6, .inl (T 0, 24, .inl f6)), (c7, .inl (T 0, 24, .inl f7))] hP hD rfl
    refine lv_aload_n hx hb dX2_append_36 rfl (lv_at hl 1 rfl) ?_
    refine va_get (D := D) (ci := 1) (v := .ref c2) (C := RX2) (T := TX2) (N := 8) hx hb hts in_X2_append_X2 hown hE.1 hP 0 rfl rfl 2 (by decide +kernel) (hts (.fieldLink RX2 19 "ClauseBook$Clauses" "n" "[I") (List.mem_of_getElem? (i := 3) rfl)) (fun _ h9 => h9) rfl dX2_append_37 ?_
    refine lv_iload hx hb dX2_append_40 (lv_at hl 0 rfl) ?_
    refine lv_iload_n hx hb dX2_append_42 rfl (lv_at hl 3 rfl) ?_
    refine va_iast hx hb hE.1 hP hD hS 2 0 rfl rfl (by rw [vp_in_iff]; first | omega | (subst_vars; omega)) dX2_append_43 (fun H locs hP hD hS => ?_)
    obtain ⟨hP, hD⟩ := wPD [(h0, .inr (1, [.int z_2, .ref c1, .ref c2, .ref c3, .ref c4, .ref c5, .ref c6, .ref c7])), (c1, .inl (T 0, 24, .inl (upd f1 (n0.toNatClampNeg) x1))), (c2, .inl (T 0, 24, .inl (upd f2 (n0.toNatClampNeg) x2))), (c3, .inl (T 0, 24, .inl f3)), (c4, .inl (T 0, 24, .inl f4)), (c5, .inl (T 0, 24, .inl f5)), (c6, .inl (T 0, 24, .inl f6)), (c7, .inl (T 0, 24, .inl f7))] hP hD rfl
    refine lv_aload_n hx hb dX2_append_44 rfl (lv_at hl 1 rfl) ?_
    refine lv_iload hx hb dX2_append_45 (lv_at hl 0 rfl) ?_
    refine lv_iload_n hx hb dX2_append_47 rfl (lv_at hl 4 rfl) ?_
    refine lv_iload hx hb dX2_append_48 (lv_at hl 5 rfl) ?_
    have hFc := va_free (wc := [(h0, .inr (1, [.int z_2, .ref c1, .ref c2, .ref c3, .ref c4, .ref c5, .ref c6, .ref c7])), (c1, .inl (T 0, 24, .inl (upd f1 (n0.toNatClampNeg) x1))), (c2, .inl (T 0, 24, .inl (upd f2 (n0.toNatClampNeg) x2))), (c3, .inl (T 0, 24, .inl f3)), (c4, .inl (T 0, 24, .inl f4)), (c5, .inl (T 0, 24, .inl f5)), (c6, .inl (T 0, 24, .inl f6)), (c7, .inl (T 0, 24, .inl f7))]) hD hS hA [0, 1, 2, 3, 4, 5, 6, 7] rfl
    refine va_callv (va_runV (As := [.int n0, .int x3, .int x4]) (rest := []) ⟨hx, hb, hml, hown, hts⟩ (c_X2_rename l D T ad sa av ta _ h0 z_2 c1 c2 c3 c4 c5 c6 c7 (upd f1 (n0.toNatClampNeg) x1) (upd f2 (n0.toNatClampNeg) x2) f3 f4 f5 f6 f7 n0 x3 x4 (by omega) (by omega) (okC.up hok hk) (fun a => by rw [upd_at] at a; exact hc9 a) (fun a => by rw [upd_at] at a; exact hd9 a) (mes_kn hok (by omega) hme)) (cwV 3 hts gX2_append_X2_rename rfl rfl rfl hv_X2_rename ⟨Nat.le_of_ble_eq_true rfl, Nat.le_of_ble_eq_true rfl⟩) (pWk_V (q := (RX2, TX2, 8)) (ci := 1) (q0 := 0) hP hE hD hV hS hFc rfl rfl [0, 1, 2, 3, 4, 5, 6, 7] (by decide +kernel) rfl rfl) rfl rfl hl.1 rfl (lv_room (Nat.le_of_ble_eq_true rfl)) dX2_append_50 ⟨Nat.le_of_ble_eq_true rfl, Nat.le_of_ble_eq_true rfl⟩) hS (fun q _ h => hFc q h) hFc (fun u_4 t H1 locs ht hvm hr_3 hB hz1 hk1 hS => ?_)
    have hok : okC (upd f1 (n0.toNatClampNeg) x1) (u_4 3) (u_4 4) (u_4 5) := hr_3.1
    have hrn3 : (u_4 3) = upd f3 (n0.toNatClampNeg) (if 1 ≤ (nmT (((upd f1 (n0.toNatClampNeg) x1) (n0.toNatClampNeg)).toNatClampNeg)).toInt then x3 else -1) := hr_3.2.1
    have hrn4 : (u_4 4) = upd f4 (n0.toNatClampNeg) (if (nmT (((upd f1 (n0.toNatClampNeg) x1) (n0.toNatClampNeg)).toNatClampNeg)).toInt = 2 then x4 else -1) := hr_3.2.2.1
    have hme : ∀ j : Nat, (j : Int) < z_2.toInt → mesP (upd f1 (n0.toNatClampNeg) x1) (upd f2 (n0.toNatClampNeg) x2) (u_4 3) (u_4 4) (u_4 5) (u_4 6) (u_4 7) j := hr_3.2.2.2
    obtain ⟨hP1, hD1⟩ := hB
    rw [ht] at hP1
    obtain ⟨hP, hD⟩ := va_repl [(h0, .inr (1, [.int z_2, .ref c1, .ref c2, .ref c3, .ref c4, .ref c5, .ref c6, .ref c7])), (c1, .inl (T 0, 24, .inl (upd f1 (n0.toNatClampNeg) x1))), (c2, .inl (T 0, 24, .inl (upd f2 (n0.toNatClampNeg) x2))), (c3, .inl (T 0, 24, .inl (u_4 3))), (c4, .inl (T 0, 24, .inl (u_4 4))), (c5, .inl (T 0, 24, .inl (u_4 5))), (c6, .inl (T 0, 24, .inl (u_4 6))), (c7, .inl (T 0, 24, .inl (u_4 7)))] hP hD [0, 1, 2, 3, 4, 5, 6, 7] [0, 1, 2, 3, 4, 5, 6, 7] rfl (by decide +kernel) rfl rfl rfl hk1 hP1
    clear hP1 hD1 hFc
    generalize H1 = H at hP hS ⊢
    refine lv_iload hx hb dX2_append_53 (lv_at hl 0 rfl) ?_
    exact W.iret hx hb hr (fun t ht hW => ⟨⟨_, (fun k => [fun _ => z_2, (upd f1 (n0.toNatClampNeg) x1), (upd f2 (n0.toNatClampNeg) x2), (u_4 3), (u_4 4), (u_4 5), (u_4 6), (u_4 7)].getD k f1), rfl, ⟨(Or.inr ⟨by omega, rfl, hz_2⟩), ⟨(show 0 ≤ (z_2).toInt ∧ (z_2).toInt ≤ 24 from by omega), (show okC (upd f1 (n0.toNatClampNeg) x1) (u_4 3) (u_4 4) (u_4 5) from by first | exact hok | assumption)⟩, ⟨(fun _ => ⟨rfl, rfl, (show (u_4 3) = _ from by rw [hrn3, upd_at]), (show (u_4 4) = _ from by rw [hrn4, upd_at])⟩), (fun h9 => absurd (by omega) h9)⟩, hme⟩, by rw [ht]; exact hP.sub [0, 1, 2, 3, 4, 5, 6, 7] rfl, hD.sub [0, 1, 2, 3, 4, 5, 6, 7] (by decide +kernel) rfl⟩, hS.F ht⟩) hS.2.2 dX2_append_55
  · rw [fa_lt] at c_1
    try rw [ti_24] at c_1
    refine lv_bipush (v := (-4)) hx hb dX2_append_9 (by decide +kernel) ?_
    exact W.iret hx hb hr (fun t ht hW => ⟨⟨_, (fun k => [fun _ => n0, f1, f2, f3, f4, f5, f6, f7].getD k f1), rfl, ⟨(Or.inl ⟨by omega, rfl, rfl⟩), ⟨(show 0 ≤ (n0).toInt ∧ (n0).toInt ≤ 24 from by omega), (show okC f1 f3 f4 f5 from by first | exact hok | assumption)⟩, ⟨(fun h9 => absurd h9 (by omega)), (fun _ => ⟨rfl, rfl, rfl, rfl⟩)⟩, hme⟩, by rw [ht]; exact hP.sub [0, 1, 2, 3, 4, 5, 6, 7] rfl, hD.sub [0, 1, 2, 3, 4, 5, 6, 7] (by decide +kernel) rfl⟩, hS.F ht⟩) hS.2.2 dX2_append_11
theorem dX12_clause_0 : decode cX12_clause 0 = .ok (.iload_n 1, 1) := by decide +kernel
theorem dX12_clause_1 : decode cX12_clause 1 = .ok (.iconst 0, 1) := by decide +kernel
theorem dX12_clause_11 : decode cX12_clause 11 = .ok (.ifCond .ne 6, 3) := by decide +kernel
theorem dX12_clause_14 : decode cX12_clause 14 = .ok (.bipush (-2), 2) := by decide +kernel
theorem dX12_clause_16 : decode cX12_clause 16 = .ok (.ireturn, 1) := by decide +kernel
theorem dX12_clause_17 : decode cX12_clause 17 = .ok (.getstatic 126, 3) := by decide +kernel
theorem dX12_clause_2 : decode cX12_clause 2 = .ok (.getstatic 126, 3) := by decide +kernel
theorem dX12_clause_20 : decode cX12_clause 20 = .ok (.iload_n 1, 1) := by decide +kernel
theorem dX12_clause_21 : decode cX12_clause 21 = .ok (.aaload, 1) := by decide +kernel
theorem dX12_clause_22 : decode cX12_clause 22 = .ok (.astore 5, 2) := by decide +kernel
theorem dX12_clause_24 : decode cX12_clause 24 = .ok (.iload_n 2, 1) := by decide +kernel
theorem dX12_clause_25 : decode cX12_clause 25 = .ok (.aload 5, 2) := by decide +kernel
theorem dX12_clause_27 : decode cX12_clause 27 = .ok (.getfield 132, 3) := by decide +kernel
theorem dX12_clause_30 : decode cX12_clause 30 = .ok (.aload 5, 2) := by decide +kernel
theorem dX12_clause_32 : decode cX12_clause 32 = .ok (.getfield 135, 3) := by decide +kernel
theorem dX12_clause_35 : decode cX12_clause 35 = .ok (.invokestatic 77, 3) := by decide +kernel
theorem dX12_clause_38 : decode cX12_clause 38 = .ok (.ifCond .eq 21, 3) := by decide +kernel
theorem dX12_clause_41 : decode cX12_clause 41 = .ok (.aload 5, 2) := by decide +kernel
theorem dX12_clause_43 : decode cX12_clause 43 = .ok (.iload_n 3, 1) := by decide +kernel
theorem dX12_clause_44 : decode cX12_clause 44 = .ok (.iload 4, 2) := by decide +kernel
theorem dX12_clause_46 : decode cX12_clause 46 = .ok (.aload_n 0, 1) := by decide +kernel
theorem dX12_clause_47 : decode cX12_clause 47 = .ok (.getfield 32, 3) := by decide +kernel
theorem dX12_clause_5 : decode cX12_clause 5 = .ok (.arraylength, 1) := by decide +kernel
theorem dX12_clause_50 : decode cX12_clause 50 = .ok (.getfield 138, 3) := by decide +kernel
theorem dX12_clause_53 : decode cX12_clause 53 = .ok (.invokevirtual 143, 3) := by decide +kernel
theorem dX12_clause_56 : decode cX12_clause 56 = .ok (.ifCond .ne 6, 3) := by decide +kernel
theorem dX12_clause_59 : decode cX12_clause 59 = .ok (.bipush (-2), 2) := by decide +kernel
theorem dX12_clause_6 : decode cX12_clause 6 = .ok (.iconst 1, 1) := by decide +kernel
theorem dX12_clause_61 : decode cX12_clause 61 = .ok (.ireturn, 1) := by decide +kernel
theorem dX12_clause_62 : decode cX12_clause 62 = .ok (.aload_n 0, 1) := by decide +kernel
theorem dX12_clause_63 : decode cX12_clause 63 = .ok (.getfield 32, 3) := by decide +kernel
theorem dX12_clause_66 : decode cX12_clause 66 = .ok (.getfield 138, 3) := by decide +kernel
theorem dX12_clause_69 : decode cX12_clause 69 = .ok (.bipush 24, 2) := by decide +kernel
theorem dX12_clause_7 : decode cX12_clause 7 = .ok (.isub, 1) := by decide +kernel
theorem dX12_clause_71 : decode cX12_clause 71 = .ok (.if_icmp .lt 6, 3) := by decide +kernel
theorem dX12_clause_74 : decode cX12_clause 74 = .ok (.bipush (-4), 2) := by decide +kernel
theorem dX12_clause_76 : decode cX12_clause 76 = .ok (.ireturn, 1) := by decide +kernel
theorem dX12_clause_77 : decode cX12_clause 77 = .ok (.aload_n 0, 1) := by decide +kernel
theorem dX12_clause_78 : decode cX12_clause 78 = .ok (.getfield 32, 3) := by decide +kernel
theorem dX12_clause_8 : decode cX12_clause 8 = .ok (.invokestatic 77, 3) := by decide +kernel
theorem dX12_clause_81 : decode cX12_clause 81 = .ok (.iload_n 1, 1) := by decide +kernel
theorem dX12_clause_82 : decode cX12_clause 82 = .ok (.iload_n 2, 1) := by decide +kernel
theorem dX12_clause_83 : decode cX12_clause 83 = .ok (.iload_n 3, 1) := by decide +kernel
theorem dX12_clause_84 : decode cX12_clause 84 = .ok (.iload 4, 2) := by decide +kernel
theorem dX12_clause_86 : decode cX12_clause 86 = .ok (.invokevirtual 146, 3) := by decide +kernel
theorem dX12_clause_89 : decode cX12_clause 89 = .ok (.ireturn, 1) := by decide +kernel
set_option maxRecDepth 20000 in
theorem ggX12_clause_X12_within : GoodIn wsX12_clause wsX12_within := goodIn_r _ [8] rfl (by decide +kernel)
set_option maxRecDepth 20000 in
theorem ggX12_clause_X2_append : GoodIn wsX12_clause wsX2_append := goodIn_r _ [19, 20, 21, 22, 23, 24, 25, 18, 26, 27, 28, 29, 30, 31, 32, 33, 34, 35, 36, 37, 38, 39, 40, 41, 42, 43, 44, 45, 46, 47, 48, 60, 61, 62, 63, 64, 65, 66, 67] rfl (by decide +kernel)
set_option maxRecDepth 20000 in
theorem ggX12_clause_X7_mayName : GoodIn wsX12_clause wsX7_mayName := goodIn_r _ [13, 14, 6, 7, 8] rfl (by decide +kernel)
set_option maxRecDepth 20000 in
theorem gX12_clause_X12_within : GoodIn wsX12_clause (va_wsS RX12 77 yX12_within wsX12_within) := goodIn_app (goodIn_of _ (by decide +kernel)) ggX12_clause_X12_within
set_option maxRecDepth 20000 in
theorem gX12_clause_X2_append : GoodIn wsX12_clause (wsV RX12 146 RX2 yX2_append wsX2_append) := goodIn_app (goodIn_r _ [15, 16, 17, 18] rfl (by decide +kernel)) ggX12_clause_X2_append
set_option maxRecDepth 20000 in
theorem gX12_clause_X7_mayName : GoodIn wsX12_clause (wsV RX12 143 RX7 yX7_mayName wsX7_mayName) := goodIn_app (goodIn_r _ [9, 10, 11, 12] rfl (by decide +kernel)) ggX12_clause_X7_mayName
theorem hv_X2_append : yX2_append.cls = RX2 ∧ yX2_append.cls ≠ "java/lang/invoke/MethodHandle" ∧ yX2_append.cls ≠ "java/lang/invoke/VarHandle" ∧ (parseMethodDescriptor yX2_append.desc).map (fun d => d.parameters.length) = some 4 := by decide +kernel
theorem hv_X7_mayName : yX7_mayName.cls = RX7 ∧ yX7_mayName.cls ≠ "java/lang/invoke/MethodHandle" ∧ yX7_mayName.cls ≠ "java/lang/invoke/VarHandle" ∧ (parseMethodDescriptor yX7_mayName.desc).map (fun d => d.parameters.length) = some 3 := by decide +kernel
set_option maxRecDepth 20000 in
theorem in_X12_clause_X12 : ∀ w ∈ wsX120, w ∈ wsX12_clause := sub_r [49, 50, 51, 52, 53, 54, 55, 56, 57, 58, 59] rfl
set_option maxRecDepth 20000 in
theorem in_X12_clause_X2 : ∀ w ∈ wsX20, w ∈ wsX12_clause := sub_r [60, 61, 62, 63, 64, 65, 66, 67] rfl
set_option maxHeartbeats 4000000 in
set_option maxRecDepth 100000 in
theorem c_X12_clause (l : Launch) (D : va_G) (T : Nat → ClassId) (ad sa av : Nat → Nat) (ta : Nat) (sz : Nat) (h0 : Nat) (h1 : Nat) (fs0 : List Value) (n0 : Int32) (c1 : Nat) (c2 : Nat) (c3 : Nat) (c4 : Nat) (c5 : Nat) (c6 : Nat) (c7 : Nat) (f1 : Nat → Int32) (f2 : Nat → Int32) (f3 : Nat → Int32) (f4 : Nat → Int32) (f5 : Nat → Int32) (f6 : Nat → Int32) (f7 : Nat → Int32) (x1 : Int32) (x2 : Int32) (x3 : Int32) (x4 : Int32) (e0_4 : fs0[4]? = some (.ref h1)) (hn0 : 0 ≤ n0.toInt ∧ n0.toInt ≤ 24) (hok : okC f1 f3 f4 f5) (hme : ∀ j : Nat, (j : Int) < n0.toInt → mesP f1 f2 f3 f4 f5 f6 f7 j) : Met l yX12_clause wsX12_clause ({ frames := 4, cells := 0, slots := 0, locals := 115 }) (pWk [.ref h0, .int x1, .int x2, .int x3, .int x4] D T [(h0, .inr (9, fs0)), (h1, .inr (1, [.int n0, .ref c1, .ref c2, .ref c3, .ref c4, .ref c5, .ref c6, .ref c7])), (c1, .inl (T 0, 24, .inl f1)), (c2, .inl (T 0, 24, .inl f2)), (c3, .inl (T 0, 24, .inl f3)), (c4, .inl (T 0, 24, .inl f4)), (c5, .inl (T 0, 24, .inl f5)), (c6, .inl (T 0, 24, .inl f6)), (c7, .inl (T 0, 24, .inl f7))] sz ad sa av ta) (va_Qi (fun (r : Int32) (u : Nat → Nat → Int32) => ((0 ≤ (u 0 0).toInt ∧ (u 0 0).toInt ≤ 24) ∧ okC (u 1) (u 3) (u 4) (u 5)) ∧ clauseC n0 x1 x2 x3 x4 r (u 0 0) f1 f2 f3 f4 (u 1) (u 2) (u 3) (u 4) ∧ (∀ j : Nat, (j : Int) < (u 0 0).toInt → mesP (u 1) (u 2) (u 3) (u 4) (u 5) (u 6) (u 7) j)) (bW D (va_A [(h0, .inr (9, fs0)), (h1, .inr (1, [.int n0, .ref c1, .ref c2, .ref c3, .ref c4, .ref c5, .ref c6, .ref c7])), (c1, .inl (T 0, 24, .inl f1)), (c2, .inl (T 0, 24, .inl f2)), (c3, .inl (T 0, 24, .inl f3)), (c4, .inl (T 0, 24, .inl f4)), (c5, .inl (T 0, 24, .inl f5)), (c6, .inl (T 0, 24, .inl f6)), (c7, .inl (T 0, 24, .inl f7))] sz) (fun (u : Nat → Nat → Int32) => [(h0, .inr (9, fs0)), (h1, .inr (1, [.int (u 0 0), .ref c1, .ref c2, .ref c3, .ref c4, .ref c5, .ref c6, .ref c7])), (c1, .inl (T 0, 24, .inl (u 1))), (c2, .inl (T 0, 24, .inl (u 2))), (c3, .inl (T 0, 24, .inl (u 3))), (c4, .inl (T 0, 24, .inl (u 4))), (c5, .inl (T 0, 24, .inl (u 5))), (c6, .inl (T 0, 24, .inl (u 6))), (c7, .inl (T 0, 24, .inl (u 7)))])) (va_A [(h0, .inr (9, fs0)), (h1, .inr (1, [.int n0, .ref c1, .ref c2, .ref c3, .ref c4, .ref c5, .ref c6, .ref c7])), (c1, .inl (T 0, 24, .inl f1)), (c2, .inl (T 0, 24, .inl f2)), (c3, .inl (T 0, 24, .inl f3)), (c4, .inl (T 0, 24, .inl f4)), (c5, .inl (T 0, 24, .inl f5)), (c6, .inl (T 0, 24, .inl f6)), (c7, .inl (T 0, 24, .inl f7))] sz)) 0 0 (va_A [(h0, .inr (9, fs0)), (h1, .inr (1, [.int n0, .ref c1, .ref c2, .ref c3, .ref c4, .ref c5, .ref c6, .ref c7])), (c1, .inl (T 0, 24, .inl f1)), (c2, .inl (T 0, 24, .inl f2)), (c3, .inl (T 0, 24, .inl f3)), (c4, .inl (T 0, 24, .inl f4)), (c5, .inl (T 0, 24, .inl f5)), (c6, .inl (T 0, 24, .inl f6)), (c7, .inl (T 0, 24, .inl f7))] sz) := by
  refine Met.ofW (cc := cX12_clause) (maxL := 6) (ret := (some .int)) (by decide +kernel) rfl ?_
  intro p e s m args below meth c s₁ B hml hv
  obtain ⟨rfl, hsz, hP, hE, hD0, hV⟩ := hv
  have hx := B.exec
  have hb := B.bytes
  have hr := B.returns
  have hts := atoms_spec (ws := wsX12_clause) B.pre
  have hown : s.vm.findClass RX12 = some m.cls := findClass_of_methodNamed B.named
  have hlocks := B.notSynchronized
  subst hsz
  have hD := hD0.self (sz := s.heap.size)
  generalize hAe : va_A [(h0, .inr (9, fs0)), (h1, .inr (1, [.int n0, .ref c1, .ref c2, .ref c3, .ref c4, .ref c5, .ref c6, .ref c7])), (c1, .inl (T 0, 24, .inl f1)), (c2, .inl (T 0, 24, .inl f2)), (c3, .inl (T 0, 24, .inl f3)), (c4, .inl (T 0, 24, .inl f4)), (c5, .inl (T 0, 24, .inl f5)), (c6, .inl (T 0, 24, .inl f6)), (c7, .inl (T 0, 24, .inl f7))] s.heap.size = A at hD hV ⊢
  have hA : ∀ q : Nat, s.heap.size ≤ q → A q := fun q h => by rw [← hAe]; exact Or.inr h
  have hS : va_S A s.heap s.heap [] := va_S.rf
  have hP : va_P D vwCl [(h0, .inr (9, fs0)), (h1, .inr (1, [.int n0, .ref c1, .ref c2, .ref c3, .ref c4, .ref c5, .ref c6, .ref c7])), (c1, .inl (T 0, 24, .inl f1)), (c2, .inl (T 0, 24, .inl f2)), (c3, .inl (T 0, 24, .inl f3)), (c4, .inl (T 0, 24, .inl f4)), (c5, .inl (T 0, 24, .inl f5)), (c6, .inl (T 0, 24, .inl f6)), (c7, .inl (T 0, 24, .inl f7))] s.heap := hP
  have hl := lv_entry ([.ref h0, .int x1, .int x2, .int x3, .int x4]) (n := 6) (Nat.le_of_ble_eq_true rfl)
  rw [lg_entry_eq]
  generalize (lg_sl ([.ref h0, .int x1, .int x2, .int x3, .int x4]) ++ List.replicate (6 - (lg_sl ([.ref h0, .int x1, .int x2, .int x3, .int x4])).length) Slot.unset).toArray = ls at hl ⊢
  have hl : lv_has ls 6 [(0, .ref h0), (1, .int x1), (2, .int x2), (3, .int x3), (4, .int x4)] := hl
  clear hD0
  refine lv_iload_n hx hb dX12_clause_0 rfl (lv_at hl 1 rfl) ?_
  refine lv_iconst (v := 0) hx hb dX12_clause_1 (by decide +kernel) ?_
  refine va_getsN (v := .ref ta) hx hb hV.1.2.1 hS hown (va_Nw.use rfl (hE.2.2.1 (RX12, 126) (List.mem_of_getElem? (i := 0) rfl))) (fun _ h9 => h9) dX12_clause_2 ?_
  refine va_tlen (v := 13) hx hb hV.1.2.2 hS rfl dX12_clause_5 ?_
  refine lv_iconst (v := 1) hx hb dX12_clause_6 (by decide +kernel) ?_
  refine lv_isub hx hb dX12_clause_7 ?_
  refine lv_topi (fun z_1 ez_1 => ?_)
  obtain rfl : z_1 = 12 := ez_1.trans (by decide +kernel)
  refine vp_callSi (W.runS (As := [.int x1, .int 0, .int 12]) (rest := []) ⟨hx, hb, hml, hown, hts⟩ (c_X12_within l D T x1 0 12 0 12 (by decide +kernel) (by decide +kernel)) (va_cwS 3 hts gX12_clause_X12_within rfl rfl rfl hs_X12_within ⟨Nat.le_of_ble_eq_true rfl, Nat.le_of_ble_eq_true rfl⟩) (pR_S hP hE [] rfl) rfl rfl hl.1 rfl (lv_room (Nat.le_of_ble_eq_true rfl)) dX12_clause_8 ⟨Nat.le_of_ble_eq_true rfl, Nat.le_of_ble_eq_true rfl⟩) (fun r_2 hr_2 => ?_)
  rcases bool_post hr_2 with ⟨c_3, rfl⟩ | ⟨c_3, rfl⟩
  · refine lv_if_ne (tgt := 17) hx hb dX12_clause_11 (by decide +kernel) (fun _ => ?_) (fun c9 => absurd c9 (by decide +kernel))
    have hk13 : x1.toNatClampNeg < 13 := in13c (by omega)
    refine va_getsN (v := .ref ta) hx hb hV.1.2.1 hS hown (va_Nw.use rfl (hE.2.2.1 (RX12, 126) (List.mem_of_getElem? (i := 0) rfl))) (fun _ h9 => h9) dX12_clause_17 ?_
    refine lv_iload_n hx hb dX12_clause_20 rfl (lv_at hl 1 rfl) ?_
    refine vb_tq (v := .ref (ad (x1.toNatClampNeg))) hx hb hV.1.2.2 hS (by rw [vp_in_iff]; omega) rfl dX12_clause_21 ?_
    refine lv_astore (lv' := [(5, .ref (ad (x1.toNatClampNeg))), (0, .ref h0), (1, .int x1), (2, .int x2), (3, .int x3), (4, .int x4)]) hx hb dX12_clause_22 hl (by decide +kernel) rfl (fun ls hl => ?_)
    refine lv_iload_n hx hb dX12_clause_24 rfl (lv_at hl 3 rfl) ?_
    refine lv_aload hx hb dX12_clause_25 (lv_at hl 0 rfl) ?_
    refine va_getE (i := (x1.toNatClampNeg)) hx hb hV.1.1 hk13 hS hown (q := kdQ "least" [0, 0, 0, -9, 0, 0, 0, 0, 0, 0, 0, 0, -99]) (List.mem_of_getElem? (i := 1) rfl) (hts (.fieldLink RX12 132 "ClauseBook$Kind" "least" "I") (List.mem_of_getElem? (i := 1) rfl)) (fun _ h9 => h9) dX12_clause_27 ?_
    refine W.eq (g2 := F0 m 30 ls [.int (lsT (x1.toNatClampNeg)), .int x2]) rfl ?_
    refine lv_aload hx hb dX12_clause_30 (lv_at hl 0 rfl) ?_
    refine va_getE (i := (x1.toNatClampNeg)) hx hb hV.1.1 hk13 hS hown (q := kdQ "most" [0, 0, 0, 9, 0, 0, 0, 0, 6, 0, 0, 0, 99]) (List.mem_of_getElem? (i := 2) rfl) (hts (.fieldLink RX12 135 "ClauseBook$Kind" "most" "I") (List.mem_of_getElem? (i := 2) rfl)) (fun _ h9 => h9) dX12_clause_32 ?_
    refine W.eq (g2 := F0 m 35 ls [.int (msT (x1.toNatClampNeg)), .int (lsT (x1.toNatClampNeg)), .int x2]) rfl ?_
    refine vp_callSi (W.runS (As := [.int x2, .int (lsT (x1.toNatClampNeg)), .int (msT (x1.toNatClampNeg))]) (rest := []) ⟨hx, hb, hml, hown, hts⟩ (c_X12_within l D T x2 (lsT (x1.toNatClampNeg)) (msT (x1.toNatClampNeg)) ((lsT (x1.toNatClampNeg))).toInt ((msT (x1.toNatClampNeg))).toInt rfl rfl) (va_cwS 3 hts gX12_clause_X12_within rfl rfl rfl hs_X12_within ⟨Nat.le_of_ble_eq_true rfl, Nat.le_of_ble_eq_true rfl⟩) (pR_S hP hE [] rfl) rfl rfl hl.1 rfl (lv_room (Nat.le_of_ble_eq_true rfl)) dX12_clause_35 ⟨Nat.le_of_ble_eq_true rfl, Nat.le_of_ble_eq_true rfl⟩) (fun r_4 hr_4 => ?_)
    rcases bool_post hr_4 with ⟨c_5, rfl⟩ | ⟨c_5, rfl⟩
    · refine lv_if_eq (tgt := 59) hx hb dX12_clause_38 (by decide +kernel) (fun c9 => absurd c9 (by decide +kernel)) (fun _ => ?_)
      refine lv_aload hx hb dX12_clause_41 (lv_at hl 0 rfl) ?_
      refine lv_iload_n hx hb dX12_clause_43 rfl (lv_at hl 4 rfl) ?_
      refine lv_iload hx hb dX12_clause_44 (lv_at hl 5 rfl) ?_
      refine lv_aload_n hx hb dX12_clause_46 rfl (lv_at hl 1 rfl) ?_
      refine va_get (D := D) (ci := 9) (v := .ref h1) (C := RX12) (T := TX12) (N := 11) hx hb hts in_X12_clause_X12 hown hE.1 hP 0 rfl rfl 4 (by decide +kernel) (hts (.fieldLink RX12 32 "ClauseBook" "clauses" "LClauseBook$Clauses;") (List.mem_of_getElem? (i := 3) rfl)) (fun _ h9 => h9) e0_4 dX12_clause_47 ?_
      refine va_get (D := D) (ci := 1) (v := .int n0) (C := RX2) (T := TX2) (N := 8) hx hb hts in_X12_clause_X2 hown hE.1 hP 1 rfl rfl 0 (by decide +kernel) (hts (.fieldLink RX12 138 "ClauseBook$Clauses" "size" "I") (List.mem_of_getElem? (i := 4) rfl)) (fun _ h9 => h9) rfl dX12_clause_50 ?_
      refine vp_callSi (W.runV (As := [.int x3, .int x4, .int n0]) (rest := []) ⟨hx, hb, hml, hown, hts⟩ (c_X7_mayName l D T ad sa av ta (x1.toNatClampNeg) x3 x4 n0 hk13 (by omega)) (cwV 3 hts gX12_clause_X7_mayName rfl rfl rfl hv_X7_mayName ⟨Nat.le_of_ble_eq_true rfl, Nat.le_of_ble_eq_true rfl⟩) (pRk_VE (i := (x1.toNatClampNeg)) hk13 hP hE hV hS [] rfl) rfl rfl hl.1 rfl (lv_room (Nat.le_of_ble_eq_true rfl)) dX12_clause_53 ⟨Nat.le_of_ble_eq_true rfl, Nat.le_of_ble_eq_true rfl⟩) (fun r_6 hr_6 => ?_)
      rcases bool_post hr_6 with ⟨c_7, rfl⟩ | ⟨c_7, rfl⟩
      · refine lv_if_ne (tgt := 62) hx hb dX12_clause_56 (by decide +kernel) (fun _ => ?_) (fun c9 => absurd c9 (by decide +kernel))
        refine lv_aload_n hx hb dX12_clause_62 rfl (lv_at hl 1 rfl) ?_
        refine va_get (D := D) (ci := 9) (v := .ref h1) (C := RX12) (T := TX12) (N := 11) hx hb hts in_X12_clause_X12 hown hE.1 hP 0 rfl rfl 4 (by decide +kernel) (hts (.fieldLink RX12 32 "ClauseBook" "clauses" "LClauseBook$Clauses;") (List.mem_of_getElem? (i := 3) rfl)) (fun _ h9 => h9) e0_4 dX12_clause_63 ?_
        refine va_get (D := D) (ci := 1) (v := .int n0) (C := RX2) (T := TX2) (N := 8) hx hb hts in_X12_clause_X2 hown hE.1 hP 1 rfl rfl 0 (by decide +kernel) (hts (.fieldLink RX12 138 "ClauseBook$Clauses" "size" "I") (List.mem_of_getElem? (i := 4) rfl)) (fun _ h9 => h9) rfl dX12_clause_66 ?_
        refine lv_bipush (v := 24) hx hb dX12_clause_69 (by decide +kernel) ?_
        refine lv_icmp_lt (tgt := 77) hx hb dX12_clause_71 (by decide +kernel) (fun c_8 => ?_) (fun c_8 => ?_)
        · rw [fa_lt] at c_8
          try rw [ti_24] at c_8
          refine lv_aload_n hx hb dX12_clause_77 rfl (lv_at hl 1 rfl) ?_
          refine va_get (D := D) (ci := 9) (v := .ref h1) (C := RX12) (T := TX12) (N := 11) hx hb hts in_X12_clause_X12 hown hE.1 hP 0 rfl rfl 4 (by decide +kernel) (hts (.fieldLink RX12 32 "ClauseBook" "clauses" "LClauseBook$Clauses;") (List.mem_of_getElem? (i := 3) rfl)) (fun _ h9 => h9) e0_4 dX12_clause_78 ?_
          refine lv_iload_n hx hb dX12_clause_81 rfl (lv_at hl 2 rfl) ?_
          refine lv_iload_n hx hb dX12_clause_82 rfl (lv_at hl 3 rfl) ?_
          refine lv_iload_n hx hb dX12_clause_83 rfl (lv_at hl 4 rfl) ?_
          refine lv_iload hx hb dX12_clause_84 (lv_at hl 5 rfl) ?_
          have hFc := va_free (wc := [(h1, .inr (1, [.int n0, .ref c1, .ref c2, .ref c3, .ref c4, .ref c5, .ref c6, .ref c7])), (c1, .inl (T 0, 24, .inl f1)), (c2, .inl (T 0, 24, .inl f2)), (c3, .inl (T 0, 24, .inl f3)), (c4, .inl (T 0, 24, .inl f4)), (c5, .inl (T 0, 24, .inl f5)), (c6, .inl (T 0, 24, .inl f6)), (c7, .inl (T 0, 24, .inl f7))]) hD hS hA [1, 2, 3, 4, 5, 6, 7, 8] rfl
          refine va_calli (va_runV (As := [.int x1, .int x2, .int x3, .int x4]) (rest := []) ⟨hx, hb, hml, hown, hts⟩ (c_X2_append l D T ad sa av ta _ h1 n0 c1 c2 c3 c4 c5 c6 c7 f1 f2 f3 f4 f5 f6 f7 x1 x2 x3 x4 (by omega) hok (by omega) (fun a => by omega) (fun a => by omega) hme) (cwV 4 hts gX12_clause_X2_append rfl rfl rfl hv_X2_append ⟨Nat.le_of_ble_eq_true rfl, Nat.le_of_ble_eq_true rfl⟩) (pWk_V (q := (RX2, TX2, 8)) (ci := 1) (q0 := 1) hP hE hD hV hS hFc rfl rfl [1, 2, 3, 4, 5, 6, 7, 8] (by decide +kernel) rfl rfl) rfl rfl hl.1 rfl (lv_room (Nat.le_of_ble_eq_true rfl)) dX12_clause_86 ⟨Nat.le_of_ble_eq_true rfl, Nat.le_of_ble_eq_true rfl⟩) hS (fun q _ h => hFc q h) hFc (fun r_9 u_10 t H1 locs ht hvm hr_9 hB hz1 hk1 hS => ?_)
          obtain ⟨haru_10, ⟨hszu_10, hok⟩, hapu_10, hme⟩ := hr_9
          have hapu_10 : ((n0.toInt < 24 → (u_10 1) = upd f1 (n0.toNatClampNeg) x1 ∧ (u_10 2) = upd f2 (n0.toNatClampNeg) x2 ∧ (u_10 3) = upd f3 (n0.toNatClampNeg) (if 1 ≤ (nmT (x1.toNatClampNeg)).toInt then x3 else -1) ∧ (u_10 4) = upd f4 (n0.toNatClampNeg) (if (nmT (x1.toNatClampNeg)).toInt = 2 then x4 else -1)) ∧ (¬ n0.toInt < 24 → (u_10 1) = f1 ∧ (u_10 2) = f2 ∧ (u_10 3) = f3 ∧ (u_10 4) = f4)) := hapu_10
          have hme : (∀ j : Nat, (j : Int) < (u_10 0 0).toInt → mesP (u_10 1) (u_10 2) (u_10 3) (u_10 4) (u_10 5) (u_10 6) (u_10 7) j) := hme
          obtain ⟨hP1, hD1⟩ := hB
          rw [ht] at hP1
          obtain ⟨hP, hD⟩ := va_repl [(h0, .inr (9, fs0)), (h1, .inr (1, [.int (u_10 0 0), .ref c1, .ref c2, .ref c3, .ref c4, .ref c5, .ref c6, .ref c7])), (c1, .inl (T 0, 24, .inl (u_10 1))), (c2, .inl (T 0, 24, .inl (u_10 2))), (c3, .inl (T 0, 24, .inl (u_10 3))), (c4, .inl (T 0, 24, .inl (u_10 4))), (c5, .inl (T 0, 24, .inl (u_10 5))), (c6, .inl (T 0, 24, .inl (u_10 6))), (c7, .inl (T 0, 24, .inl (u_10 7)))] hP hD [1, 2, 3, 4, 5, 6, 7, 8] [1, 2, 3, 4, 5, 6, 7, 8] rfl (by decide +kernel) rfl rfl rfl hk1 hP1
          clear hP1 hD1 hFc
          generalize H1 = H at hP hS ⊢
          obtain ⟨hr9, hr8, hr7⟩ := haru_10.resolve_left (by intro h9; omega)
          exact W.iret hx hb hr (fun t ht hW => ⟨⟨_, (fun k => [fun _ => (u_10 0 0), (u_10 1), (u_10 2), (u_10 3), (u_10 4), (u_10 5), (u_10 6), (u_10 7)].getD k f1), rfl, ⟨⟨(show 0 ≤ ((u_10 0 0)).toInt ∧ ((u_10 0 0)).toInt ≤ 24 from by omega), (show okC (u_10 1) (u_10 3) (u_10 4) (u_10 5) from by first | exact hok | assumption)⟩, (Or.inr (Or.inr ⟨⟨by omega, by omega, by assumption⟩, (by omega), hr8, hr7, (hapu_10.1 (by omega)).1, (hapu_10.1 (by omega)).2.1, (hapu_10.1 (by omega)).2.2.1, (hapu_10.1 (by omega)).2.2.2⟩)), hme⟩, by rw [ht]; exact hP.sub [0, 1, 2, 3, 4, 5, 6, 7, 8] rfl, hD.sub [0, 1, 2, 3, 4, 5, 6, 7, 8] (by decide +kernel) rfl⟩, hS.F ht⟩) hS.2.2 dX12_clause_89
        · rw [fa_lt] at c_8
          try rw [ti_24] at c_8
          refine lv_bipush (v := (-4)) hx hb dX12_clause_74 (by decide +kernel) ?_
          exact W.iret hx hb hr (fun t ht hW => ⟨⟨_, (fun k => [fun _ => n0, f1, f2, f3, f4, f5, f6, f7].getD k f1), rfl, ⟨⟨(show 0 ≤ (n0).toInt ∧ (n0).toInt ≤ 24 from by omega), (show okC f1 f3 f4 f5 from by first | exact hok | assumption)⟩, (Or.inr (Or.inl ⟨⟨by omega, by omega, by assumption⟩, (by omega), (by decide +kernel), ⟨rfl, rfl, rfl, rfl, rfl⟩⟩)), hme⟩, by rw [ht]; exact hP.sub [0, 1, 2, 3, 4, 5, 6, 7, 8] rfl, hD.sub [0, 1, 2, 3, 4, 5, 6, 7, 8] (by decide +kernel) rfl⟩, hS.F ht⟩) hS.2.2 dX12_clause_76
      · refine lv_if_ne (tgt := 62) hx hb dX12_clause_56 (by decide +kernel) (fun c9 => absurd c9 (by decide +kernel)) (fun _ => ?_)
        refine lv_bipush (v := (-2)) hx hb dX12_clause_59 (by decide +kernel) ?_
        exact W.iret hx hb hr (fun t ht hW => ⟨⟨_, (fun k => [fun _ => n0, f1, f2, f3, f4, f5, f6, f7].getD k f1), rfl, ⟨⟨(show 0 ≤ (n0).toInt ∧ (n0).toInt ≤ 24 from by omega), (show okC f1 f3 f4 f5 from by first | exact hok | assumption)⟩, (Or.inl ⟨(fun h9 => by have h8 := h9.1; have h7 := h9.2.1; have h6 := h9.2.2; first | exact absurd h6 (by assumption) | omega), (by decide +kernel), ⟨rfl, rfl, rfl, rfl, rfl⟩⟩), hme⟩, by rw [ht]; exact hP.sub [0, 1, 2, 3, 4, 5, 6, 7, 8] rfl, hD.sub [0, 1, 2, 3, 4, 5, 6, 7, 8] (by decide +kernel) rfl⟩, hS.F ht⟩) hS.2.2 dX12_clause_61
    · refine lv_if_eq (tgt := 59) hx hb dX12_clause_38 (by decide +kernel) (fun _ => ?_) (fun c9 => absurd c9 (by decide +kernel))
      refine lv_bipush (v := (-2)) hx hb dX12_clause_59 (by decide +kernel) ?_
      exact W.iret hx hb hr (fun t ht hW => ⟨⟨_, (fun k => [fun _ => n0, f1, f2, f3, f4, f5, f6, f7].getD k f1), rfl, ⟨⟨(show 0 ≤ (n0).toInt ∧ (n0).toInt ≤ 24 from by omega), (show okC f1 f3 f4 f5 from by first | exact hok | assumption)⟩, (Or.inl ⟨(fun h9 => by have h8 := h9.1; have h7 := h9.2.1; have h6 := h9.2.2; first | exact absurd h6 (by assumption) | omega), (by decide +kernel), ⟨rfl, rfl, rfl, rfl, rfl⟩⟩), hme⟩, by rw [ht]; exact hP.sub [0, 1, 2, 3, 4, 5, 6, 7, 8] rfl, hD.sub [0, 1, 2, 3, 4, 5, 6, 7, 8] (by decide +kernel) rfl⟩, hS.F ht⟩) hS.2.2 dX12_clause_61
  · refine lv_if_ne (tgt := 17) hx hb dX12_clause_11 (by decide +kernel) (fun c9 => absurd c9 (by decide +kernel)) (fun _ => ?_)
    refine lv_bipush (v := (-2)) hx hb dX12_clause_14 (by decide +kernel) ?_
    exact W.iret hx hb hr (fun t ht hW => ⟨⟨_, (fun k => [fun _ => n0, f1, f2, f3, f4, f5, f6, f7].getD k f1), rfl, ⟨⟨(show 0 ≤ (n0).toInt ∧ (n0).toInt ≤ 24 from by omega), (show okC f1 f3 f4 f5 from by first | exact hok | assumption)⟩, (Or.inl ⟨(fun h9 => by have h8 := h9.1; have h7 := h9.2.1; have h6 := h9.2.2; first | exact absurd h6 (by assumption) | omega), (by decide +kernel), ⟨rfl, rfl, rfl, rfl, rfl⟩⟩), hme⟩, by rw [ht]; exact hP.sub [0, 1, 2, 3, 4, 5, 6, 7, 8] rfl, hD.sub [0, 1, 2, 3, 4, 5, 6, 7, 8] (by decide +kernel) rfl⟩, hS.F ht⟩) hS.2.2 dX12_clause_16
theorem dX12_swap_0 : decode cX12_swap 0 = .ok (.aload_n 0, 1) := by decide +kernel
theorem dX12_swap_1 : decode cX12_swap 1 = .ok (.getfield 32, 3) := by decide +kernel
theorem dX12_swap_11 : decode cX12_swap 11 = .ok (.aload_n 0, 1) := by decide +kernel
theorem dX12_swap_12 : decode cX12_swap 12 = .ok (.getfield 32, 3) := by decide +kernel
theorem dX12_swap_15 : decode cX12_swap 15 = .ok (.iload_n 1, 1) := by decide +kernel
theorem dX12_swap_16 : decode cX12_swap 16 = .ok (.invokevirtual 175, 3) := by decide +kernel
theorem dX12_swap_19 : decode cX12_swap 19 = .ok (.iload_n 2, 1) := by decide +kernel
theorem dX12_swap_20 : decode cX12_swap 20 = .ok (.iload_n 3, 1) := by decide +kernel
theorem dX12_swap_21 : decode cX12_swap 21 = .ok (.iload_n 1, 1) := by decide +kernel
theorem dX12_swap_22 : decode cX12_swap 22 = .ok (.invokevirtual 143, 3) := by decide +kernel
theorem dX12_swap_25 : decode cX12_swap 25 = .ok (.ifCond .ne 6, 3) := by decide +kernel
theorem dX12_swap_28 : decode cX12_swap 28 = .ok (.bipush (-2), 2) := by decide +kernel
theorem dX12_swap_30 : decode cX12_swap 30 = .ok (.ireturn, 1) := by decide +kernel
theorem dX12_swap_31 : decode cX12_swap 31 = .ok (.aload_n 0, 1) := by decide +kernel
theorem dX12_swap_32 : decode cX12_swap 32 = .ok (.getfield 32, 3) := by decide +kernel
theorem dX12_swap_35 : decode cX12_swap 35 = .ok (.iload_n 1, 1) := by decide +kernel
theorem dX12_swap_36 : decode cX12_swap 36 = .ok (.iload_n 2, 1) := by decide +kernel
theorem dX12_swap_37 : decode cX12_swap 37 = .ok (.iload_n 3, 1) := by decide +kernel
theorem dX12_swap_38 : decode cX12_swap 38 = .ok (.invokevirtual 179, 3) := by decide +kernel
theorem dX12_swap_4 : decode cX12_swap 4 = .ok (.iload_n 1, 1) := by decide +kernel
theorem dX12_swap_41 : decode cX12_swap 41 = .ok (.aload_n 0, 1) := by decide +kernel
theorem dX12_swap_42 : decode cX12_swap 42 = .ok (.getfield 43, 3) := by decide +kernel
theorem dX12_swap_45 : decode cX12_swap 45 = .ok (.invokevirtual 93, 3) := by decide +kernel
theorem dX12_swap_48 : decode cX12_swap 48 = .ok (.iconst 1, 1) := by decide +kernel
theorem dX12_swap_49 : decode cX12_swap 49 = .ok (.ireturn, 1) := by decide +kernel
theorem dX12_swap_5 : decode cX12_swap 5 = .ok (.invokevirtual 150, 3) := by decide +kernel
theorem dX12_swap_8 : decode cX12_swap 8 = .ok (.ifCond .eq 20, 3) := by decide +kernel
set_option maxRecDepth 20000 in
theorem ggX12_swap_X11_forget : GoodIn wsX12_swap wsX11_forget := goodIn_r _ [51, 52, 72, 73, 74, 75, 76, 77] rfl (by decide +kernel)
set_option maxRecDepth 20000 in
theorem ggX12_swap_X2_has : GoodIn wsX12_swap wsX2_has := goodIn_r _ [7, 8, 9, 10, 11, 64, 65, 66, 67, 68, 69, 70, 71] rfl (by decide +kernel)
set_option maxRecDepth 20000 in
theorem ggX12_swap_X2_kindOf : GoodIn wsX12_swap wsX2_kindOf := goodIn_r _ [15, 16, 64, 65, 66, 67, 68, 69, 70, 71] rfl (by decide +kernel)
set_option maxRecDepth 20000 in
theorem ggX12_swap_X2_rename : GoodIn wsX12_swap wsX2_rename := goodIn_r _ [26, 27, 28, 29, 8, 30, 13, 14, 6, 15, 16, 31, 32, 33, 34, 35, 36, 37, 38, 39, 40, 41, 42, 43, 44, 45, 46, 64, 65, 66, 67, 68, 69, 70, 71] rfl (by decide +kernel)
set_option maxRecDepth 20000 in
theorem ggX12_swap_X7_mayName : GoodIn wsX12_swap wsX7_mayName := goodIn_r _ [21, 22, 9, 10, 11] rfl (by decide +kernel)
set_option maxRecDepth 20000 in
theorem gX12_swap_X11_forget : GoodIn wsX12_swap (wsV RX12 93 RX11 yX11_forget wsX11_forget) := goodIn_app (goodIn_r _ [47, 48, 49, 50] rfl (by decide +kernel)) ggX12_swap_X11_forget
set_option maxRecDepth 20000 in
theorem gX12_swap_X2_has : GoodIn wsX12_swap (wsV RX12 150 RX2 yX2_has wsX2_has) := goodIn_app (goodIn_r _ [3, 4, 5, 6] rfl (by decide +kernel)) ggX12_swap_X2_has
set_option maxRecDepth 20000 in
theorem gX12_swap_X2_kindOf : GoodIn wsX12_swap (wsV RX12 175 RX2 yX2_kindOf wsX2_kindOf) := goodIn_app (goodIn_r _ [12, 13, 14, 6] rfl (by decide +kernel)) ggX12_swap_X2_kindOf
set_option maxRecDepth 20000 in
theorem gX12_swap_X2_rename : GoodIn wsX12_swap (wsV RX12 179 RX2 yX2_rename wsX2_rename) := goodIn_app (goodIn_r _ [23, 24, 25, 6] rfl (by decide +kernel)) ggX12_swap_X2_rename
set_option maxRecDepth 20000 in
theorem gX12_swap_X7_mayName : GoodIn wsX12_swap (wsV RX12 143 RX7 yX7_mayName wsX7_mayName) := goodIn_app (goodIn_r _ [17, 18, 19, 20] rfl (by decide +kernel)) ggX12_swap_X7_mayName
set_option maxRecDepth 20000 in
theorem in_X12_swap_X12 : ∀ w ∈ wsX120, w ∈ wsX12_swap := sub_r [53, 54, 55, 56, 57, 58, 59, 60, 61, 62, 63] rfl
set_option maxHeartbeats 4000000 in
set_option maxRecDepth 100000 in
theorem c_X12_swap (l : Launch) (D : va_G) (T : Nat → ClassId) (ad sa av : Nat → Nat) (ta : Nat) (sz : Nat) (h0 : Nat) (h1 : Nat) (h2 : Nat) (fs0 : List Value) (n0 : Int32) (c1 : Nat) (c2 : Nat) (c3 : Nat) (c4 : Nat) (c5 : Nat) (c6 : Nat) (c7 : Nat) (f1 : Nat → Int32) (f2 : Nat → Int32) (f3 : Nat → Int32) (f4 : Nat → Int32) (f5 : Nat → Int32) (f6 : Nat → Int32) (f7 : Nat → Int32) (v0 : Value) (v1 : Value) (v2 : Value) (v3 : Value) (v4 : Value) (n : Int32) (x1 : Int32) (x2 : Int32) (x3 : Int32) (e0_4 : fs0[4]? = some (.ref h1)) (e0_6 : fs0[6]? = some (.ref h2)) (hn0 : 0 ≤ n0.toInt ∧ n0.toInt ≤ 24) (hok : okC f1 f3 f4 f5) (hme : ∀ j : Nat, (j : Int) < n0.toInt → mesP f1 f2 f3 f4 f5 f6 f7 j) : Met l yX12_swap wsX12_swap ({ frames := 3, cells := 0, slots := 0, locals := 90 }) (pWk [.ref h0, .int x1, .int x2, .int x3] D T [(h0, .inr (9, fs0)), (h1, .inr (1, [.int n0, .ref c1, .ref c2, .ref c3, .ref c4, .ref c5, .ref c6, .ref c7])), (c1, .inl (T 0, 24, .inl f1)), (c2, .inl (T 0, 24, .inl f2)), (c3, .inl (T 0, 24, .inl f3)), (c4, .inl (T 0, 24, .inl f4)), (c5, .inl (T 0, 24, .inl f5)), (c6, .inl (T 0, 24, .inl f6)), (c7, .inl (T 0, 24, .inl f7)), (h2, .inr (8, [v0, v1, v2, v3, v4, .int n]))] sz ad sa av ta) (va_Qi (fun (r : Int32) (u : Nat → Nat → Int32) => ((0 ≤ (u 0 0).toInt ∧ (u 0 0).toInt ≤ 24) ∧ okC (u 1) (u 3) (u 4) (u 5)) ∧ swapC n0 x1 x2 x3 r (u 0 0) f1 f2 f3 f4 (u 1) (u 2) (u 3) (u 4) ∧ (∀ j : Nat, (j : Int) < (u 0 0).toInt → mesP (u 1) (u 2) (u 3) (u 4) (u 5) (u 6) (u 7) j) ∧ agW ((u 0 0) = n0 ∧ (u 1) = f1 ∧ (u 2) = f2 ∧ (u 3) = f3 ∧ (u 4) = f4 ∧ (u 5) = f5) n (u 8 0)) (bW D (va_A [(h0, .inr (9, fs0)), (h1, .inr (1, [.int n0, .ref c1, .ref c2, .ref c3, .ref c4, .ref c5, .ref c6, .ref c7])), (c1, .inl (T 0, 24, .inl f1)), (c2, .inl (T 0, 24, .inl f2)), (c3, .inl (T 0, 24, .inl f3)), (c4, .inl (T 0, 24, .inl f4)), (c5, .inl (T 0, 24, .inl f5)), (c6, .inl (T 0, 24, .inl f6)), (c7, .inl (T 0, 24, .inl f7)), (h2, .inr (8, [v0, v1, v2, v3, v4, .int n]))] sz) (fun (u : Nat → Nat → Int32) => [(h0, .inr (9, fs0)), (h1, .inr (1, [.int (u 0 0), .ref c1, .ref c2, .ref c3, .ref c4, .ref c5, .ref c6, .ref c7])), (c1, .inl (T 0, 24, .inl (u 1))), (c2, .inl (T 0, 24, .inl (u 2))), (c3, .inl (T 0, 24, .inl (u 3))), (c4, .inl (T 0, 24, .inl (u 4))), (c5, .inl (T 0, 24, .inl (u 5))), (c6, .inl (T 0, 24, .inl (u 6))), (c7, .inl (T 0, 24, .inl (u 7))), (h2, .inr (8, [v0, v1, v2, v3, v4, .int (u 8 0)]))])) (va_A [(h0, .inr (9, fs0)), (h1, .inr (1, [.int n0, .ref c1, .ref c2, .ref c3, .ref c4, .ref c5, .ref c6, .ref c7])), (c1, .inl (T 0, 24, .inl f1)), (c2, .inl (T 0, 24, .inl f2)), (c3, .inl (T 0, 24, .inl f3)), (c4, .inl (T 0, 24, .inl f4)), (c5, .inl (T 0, 24, .inl f5)), (c6, .inl (T 0, 24, .inl f6)), (c7, .inl (T 0, 24, .inl f7)), (h2, .inr (8, [v0, v1, v2, v3, v4, .int n]))] sz)) 0 0 (va_A [(h0, .inr (9, fs0)), (h1, .inr (1, [.int n0, .ref c1, .ref c2, .ref c3, .ref c4, .ref c5, .ref c6, .ref c7])), (c1, .inl (T 0, 24, .inl f1)), (c2, .inl (T 0, 24, .inl f2)), (c3, .inl (T 0, 24, .inl f3)), (c4, .inl (T 0, 24, .inl f4)), (c5, .inl (T 0, 24, .inl f5)), (c6, .inl (T 0, 24, .inl f6)), (c7, .inl (T 0, 24, .inl f7)), (h2, .inr (8, [v0, v1, v2, v3, v4, .int n]))] sz) := by
  refine Met.ofW (cc := cX12_swap) (maxL := 4) (ret := (some .int)) (by decide +kernel) rfl ?_
  intro p e s m args below meth c s₁ B hml hv
  obtain ⟨rfl, hsz, hP, hE, hD0, hV⟩ := hv
  have hx := B.exec
  have hb := B.bytes
  have hr := B.returns
  have hts := atoms_spec (ws := wsX12_swap) B.pre
  have hown : s.vm.findClass RX12 = some m.cls := findClass_of_methodNamed B.named
  have hlocks := B.notSynchronized
  subst hsz
  have hD := hD0.self (sz := s.heap.size)
  generalize hAe : va_A [(h0, .inr (9, fs0)), (h1, .inr (1, [.int n0, .ref c1, .ref c2, .ref c3, .ref c4, .ref c5, .ref c6, .ref c7])), (c1, .inl (T 0, 24, .inl f1)), (c2, .inl (T 0, 24, .inl f2)), (c3, .inl (T 0, 24, .inl f3)), (c4, .inl (T 0, 24, .inl f4)), (c5, .inl (T 0, 24, .inl f5)), (c6, .inl (T 0, 24, .inl f6)), (c7, .inl (T 0, 24, .inl f7)), (h2, .inr (8, [v0, v1, v2, v3, v4, .int n]))] s.heap.size = A at hD hV ⊢
  have hA : ∀ q : Nat, s.heap.size ≤ q → A q := fun q h => by rw [← hAe]; exact Or.inr h
  have hS : va_S A s.heap s.heap [] := va_S.rf
  have hP : va_P D vwCl [(h0, .inr (9, fs0)), (h1, .inr (1, [.int n0, .ref c1, .ref c2, .ref c3, .ref c4, .ref c5, .ref c6, .ref c7])), (c1, .inl (T 0, 24, .inl f1)), (c2, .inl (T 0, 24, .inl f2)), (c3, .inl (T 0, 24, .inl f3)), (c4, .inl (T 0, 24, .inl f4)), (c5, .inl (T 0, 24, .inl f5)), (c6, .inl (T 0, 24, .inl f6)), (c7, .inl (T 0, 24, .inl f7)), (h2, .inr (8, [v0, v1, v2, v3, v4, .int n]))] s.heap := hP
  have hl := lv_entry ([.ref h0, .int x1, .int x2, .int x3]) (n := 4) (Nat.le_of_ble_eq_true rfl)
  rw [lg_entry_eq]
  generalize (lg_sl ([.ref h0, .int x1, .int x2, .int x3]) ++ List.replicate (4 - (lg_sl ([.ref h0, .int x1, .int x2, .int x3])).length) Slot.unset).toArray = ls at hl ⊢
  have hl : lv_has ls 4 [(0, .ref h0), (1, .int x1), (2, .int x2), (3, .int x3)] := hl
  clear hD0
  refine lv_aload_n hx hb dX12_swap_0 rfl (lv_at hl 0 rfl) ?_
  refine va_get (D := D) (ci := 9) (v := .ref h1) (C := RX12) (T := TX12) (N := 11) hx hb hts in_X12_swap_X12 hown hE.1 hP 0 rfl rfl 4 (by decide +kernel) (hts (.fieldLink RX12 32 "ClauseBook" "clauses" "LClauseBook$Clauses;") (List.mem_of_getElem? (i := 1) rfl)) (fun _ h9 => h9) e0_4 dX12_swap_1 ?_
  refine lv_iload_n hx hb dX12_swap_4 rfl (lv_at hl 1 rfl) ?_
  refine vp_callSi (W.runV (As := [.int x1]) (rest := []) ⟨hx, hb, hml, hown, hts⟩ (c_X2_has l D T h1 [.int n0, .ref c1, .ref c2, .ref c3, .ref c4, .ref c5, .ref c6, .ref c7] x1 n0 rfl (by omega)) (cwV 1 hts gX12_swap_X2_has rfl rfl rfl hv_X2_has ⟨Nat.le_of_ble_eq_true rfl, Nat.le_of_ble_eq_true rfl⟩) (pR_V (q := (RX2, TX2, 8)) (ci := 1) (q0 := 1) hP hE rfl rfl [1] rfl) rfl rfl hl.1 rfl (lv_room (Nat.le_of_ble_eq_true rfl)) dX12_swap_5 ⟨Nat.le_of_ble_eq_true rfl, Nat.le_of_ble_eq_true rfl⟩) (fun r_1 hr_1 => ?_)
  rcases bool_post hr_1 with ⟨c_2, rfl⟩ | ⟨c_2, rfl⟩
  · refine lv_if_eq (tgt := 28) hx hb dX12_swap_8 (by decide +kernel) (fun c9 => absurd c9 (by decide +kernel)) (fun _ => ?_)
    refine lv_aload_n hx hb dX12_swap_11 rfl (lv_at hl 0 rfl) ?_
    refine va_get (D := D) (ci := 9) (v := .ref h1) (C := RX12) (T := TX12) (N := 11) hx hb hts in_X12_swap_X12 hown hE.1 hP 0 rfl rfl 4 (by decide +kernel) (hts (.fieldLink RX12 32 "ClauseBook" "clauses" "LClauseBook$Clauses;") (List.mem_of_getElem? (i := 1) rfl)) (fun _ h9 => h9) e0_4 dX12_swap_12 ?_
    refine lv_iload_n hx hb dX12_swap_15 rfl (lv_at hl 1 rfl) ?_
    refine va_cse (W.runV (As := [.int x1]) (rest := []) ⟨hx, hb, hml, hown, hts⟩ (c_X2_kindOf l D T ad sa av ta h1 [.int n0, .ref c1, .ref c2, .ref c3, .ref c4, .ref c5, .ref c6, .ref c7] c1 f1 x1 rfl (by omega) ((hok _ (in24 (x := x1) (by omega)).1).1)) (cwV 1 hts gX12_swap_X2_kindOf rfl rfl rfl hv_X2_kindOf ⟨Nat.le_of_ble_eq_true rfl, Nat.le_of_ble_eq_true rfl⟩) (pRk_V (q := (RX2, TX2, 8)) (ci := 1) (q0 := 1) hP hE hV hS rfl rfl [1, 2] rfl) rfl rfl hl.1 rfl (lv_room (Nat.le_of_ble_eq_true rfl)) dX12_swap_16 ⟨Nat.le_of_ble_eq_true rfl, Nat.le_of_ble_eq_true rfl⟩) (fun r_3 hr_3 => ?_)
    subst hr_3
    refine W.eq (g2 := F0 m 19 ls [.ref (ad ((f1 (x1.toNatClampNeg)).toNatClampNeg))]) rfl ?_
    refine lv_iload_n hx hb dX12_swap_19 rfl (lv_at hl 2 rfl) ?_
    refine lv_iload_n hx hb dX12_swap_20 rfl (lv_at hl 3 rfl) ?_
    refine lv_iload_n hx hb dX12_swap_21 rfl (lv_at hl 1 rfl) ?_
    refine vp_callSi (W.runV (As := [.int x2, .int x3, .int x1]) (rest := []) ⟨hx, hb, hml, hown, hts⟩ (c_X7_mayName l D T ad sa av ta ((f1 (x1.toNatClampNeg)).toNatClampNeg) x2 x3 x1 (in13c ((hok _ (in24 (x := x1) (by omega)).1).1)) (by omega)) (cwV 3 hts gX12_swap_X7_mayName rfl rfl rfl hv_X7_mayName ⟨Nat.le_of_ble_eq_true rfl, Nat.le_of_ble_eq_true rfl⟩) (pRk_VE (i := ((f1 (x1.toNatClampNeg)).toNatClampNeg)) (in13c ((hok _ (in24 (x := x1) (by omega)).1).1)) hP hE hV hS [] rfl) rfl rfl hl.1 rfl (lv_room (Nat.le_of_ble_eq_true rfl)) dX12_swap_22 ⟨Nat.le_of_ble_eq_true rfl, Nat.le_of_ble_eq_true rfl⟩) (fun r_4 hr_4 => ?_)
    rcases bool_post hr_4 with ⟨c_5, rfl⟩ | ⟨c_5, rfl⟩
    · refine lv_if_ne (tgt := 31) hx hb dX12_swap_25 (by decide +kernel) (fun _ => ?_) (fun c9 => absurd c9 (by decide +kernel))
      refine lv_aload_n hx hb dX12_swap_31 rfl (lv_at hl 0 rfl) ?_
      refine va_get (D := D) (ci := 9) (v := .ref h1) (C := RX12) (T := TX12) (N := 11) hx hb hts in_X12_swap_X12 hown hE.1 hP 0 rfl rfl 4 (by decide +kernel) (hts (.fieldLink RX12 32 "ClauseBook" "clauses" "LClauseBook$Clauses;") (List.mem_of_getElem? (i := 1) rfl)) (fun _ h9 => h9) e0_4 dX12_swap_32 ?_
      refine lv_iload_n hx hb dX12_swap_35 rfl (lv_at hl 1 rfl) ?_
      refine lv_iload_n hx hb dX12_swap_36 rfl (lv_at hl 2 rfl) ?_
      refine lv_iload_n hx hb dX12_swap_37 rfl (lv_at hl 3 rfl) ?_
      have hFc := va_free (wc := [(h1, .inr (1, [.int n0, .ref c1, .ref c2, .ref c3, .ref c4, .ref c5, .ref c6, .ref c7])), (c1, .inl (T 0, 24, .inl f1)), (c2, .inl (T 0, 24, .inl f2)), (c3, .inl (T 0, 24, .inl f3)), (c4, .inl (T 0, 24, .inl f4)), (c5, .inl (T 0, 24, .inl f5)), (c6, .inl (T 0, 24, .inl f6)), (c7, .inl (T 0, 24, .inl f7))]) hD hS hA [1, 2, 3, 4, 5, 6, 7, 8] rfl
      refine va_callv (va_runV (As := [.int x1, .int x2, .int x3]) (rest := []) ⟨hx, hb, hml, hown, hts⟩ (c_X2_rename l D T ad sa av ta _ h1 n0 c1 c2 c3 c4 c5 c6 c7 f1 f2 f3 f4 f5 f6 f7 x1 x2 x3 (by omega) (by omega) (okC.W hok) (fun a => by omega) (fun a => by omega) (fun j hj => hme j (by omega))) (cwV 3 hts gX12_swap_X2_rename rfl rfl rfl hv_X2_rename ⟨Nat.le_of_ble_eq_true rfl, Nat.le_of_ble_eq_true rfl⟩) (pWk_V (q := (RX2, TX2, 8)) (ci := 1) (q0 := 1) hP hE hD hV hS hFc rfl rfl [1, 2, 3, 4, 5, 6, 7, 8] (by decide +kernel) rfl rfl) rfl rfl hl.1 rfl (lv_room (Nat.le_of_ble_eq_true rfl)) dX12_swap_38 ⟨Nat.le_of_ble_eq_true rfl, Nat.le_of_ble_eq_true rfl⟩) hS (fun q _ h => hFc q h) hFc (fun u_7 t H1 locs ht hvm hr_6 hB hz1 hk1 hS => ?_)
      have hok : okC f1 (u_7 3) (u_7 4) (u_7 5) := hr_6.1
      have hrn3 : (u_7 3) = upd f3 (x1.toNatClampNeg) (if 1 ≤ (nmT ((f1 (x1.toNatClampNeg)).toNatClampNeg)).toInt then x2 else -1) := hr_6.2.1
      have hrn4 : (u_7 4) = upd f4 (x1.toNatClampNeg) (if (nmT ((f1 (x1.toNatClampNeg)).toNatClampNeg)).toInt = 2 then x3 else -1) := hr_6.2.2.1
      have hme : ∀ j : Nat, (j : Int) < n0.toInt → mesP f1 f2 (u_7 3) (u_7 4) (u_7 5) (u_7 6) (u_7 7) j := hr_6.2.2.2
      obtain ⟨hP1, hD1⟩ := hB
      rw [ht] at hP1
      obtain ⟨hP, hD⟩ := va_repl [(h0, .inr (9, fs0)), (h1, .inr (1, [.int n0, .ref c1, .ref c2, .ref c3, .ref c4, .ref c5, .ref c6, .ref c7])), (c1, .inl (T 0, 24, .inl f1)), (c2, .inl (T 0, 24, .inl f2)), (c3, .inl (T 0, 24, .inl (u_7 3))), (c4, .inl (T 0, 24, .inl (u_7 4))), (c5, .inl (T 0, 24, .inl (u_7 5))), (c6, .inl (T 0, 24, .inl (u_7 6))), (c7, .inl (T 0, 24, .inl (u_7 7))), (h2, .inr (8, [v0, v1, v2, v3, v4, .int n]))] hP hD [1, 2, 3, 4, 5, 6, 7, 8] [1, 2, 3, 4, 5, 6, 7, 8] rfl (by decide +kernel) rfl rfl rfl hk1 hP1
      clear hP1 hD1 hFc
      generalize H1 = H at hP hS ⊢
      refine lv_aload_n hx hb dX12_swap_41 rfl (lv_at hl 0 rfl) ?_
      refine va_get (D := D) (ci := 9) (v := .ref h2) (C := RX12) (T := TX12) (N := 11) hx hb hts in_X12_swap_X12 hown hE.1 hP 0 rfl rfl 6 (by decide +kernel) (hts (.fieldLink RX12 43 "ClauseBook" "worth" "LClauseBook$Worth;") (List.mem_of_getElem? (i := 2) rfl)) (fun _ h9 => h9) e0_6 dX12_swap_42 ?_
      have hFc := va_free (wc := [(h2, .inr (8, [v0, v1, v2, v3, v4, .int n]))]) hD hS hA [9] rfl
      refine va_callv (va_runV (As := []) (rest := []) ⟨hx, hb, hml, hown, hts⟩ (c_X11_forget l D T _ h2 (v0) (v1) (v2) (v3) (v4) n) (cwV 0 hts gX12_swap_X11_forget rfl rfl rfl hv_X11_forget ⟨Nat.le_of_ble_eq_true rfl, Nat.le_of_ble_eq_true rfl⟩) (pW_V (q := (RX11, TX11, 6)) (ci := 8) (q0 := 9) hP hE hD rfl rfl [9] (by decide +kernel) rfl rfl) rfl rfl hl.1 rfl (lv_room (Nat.le_of_ble_eq_true rfl)) dX12_swap_45 ⟨Nat.le_of_ble_eq_true rfl, Nat.le_of_ble_eq_true rfl⟩) hS (fun q _ h => hFc q h) hFc (fun u_9 t H1 locs ht hvm hr_8 hB hz1 hk1 hS => ?_)
      have hag9 : u_9 = n + 1 := hr_8
      obtain ⟨hP1, hD1⟩ := hB
      rw [ht] at hP1
      obtain ⟨hP, hD⟩ := va_repl [(h0, .inr (9, fs0)), (h1, .inr (1, [.int n0, .ref c1, .ref c2, .ref c3, .ref c4, .ref c5, .ref c6, .ref c7])), (c1, .inl (T 0, 24, .inl f1)), (c2, .inl (T 0, 24, .inl f2)), (c3, .inl (T 0, 24, .inl (u_7 3))), (c4, .inl (T 0, 24, .inl (u_7 4))), (c5, .inl (T 0, 24, .inl (u_7 5))), (c6, .inl (T 0, 24, .inl (u_7 6))), (c7, .inl (T 0, 24, .inl (u_7 7))), (h2, .inr (8, [v0, v1, v2, v3, v4, .int u_9]))] hP hD [9] [9] rfl (by decide +kernel) rfl rfl rfl hk1 hP1
      clear hP1 hD1 hFc
      generalize H1 = H at hP hS ⊢
      refine lv_iconst (v := 1) hx hb dX12_swap_48 (by decide +kernel) ?_
      exact W.iret hx hb hr (fun t ht hW => ⟨⟨_, (fun k => [fun _ => n0, f1, f2, (u_7 3), (u_7 4), (u_7 5), (u_7 6), (u_7 7), fun _ => u_9].getD k f1), rfl, ⟨⟨(show 0 ≤ (n0).toInt ∧ (n0).toInt ≤ 24 from by omega), (show okC f1 (u_7 3) (u_7 4) (u_7 5) from by first | exact hok | assumption)⟩, ⟨⟨rfl, rfl, rfl⟩, Or.inr ⟨⟨by omega, by assumption⟩, (by decide +kernel), hrn3, hrn4⟩⟩, hme, (Or.inr hag9)⟩, by rw [ht]; exact hP.sub [0, 1, 2, 3, 4, 5, 6, 7, 8, 9] rfl, hD.sub [0, 1, 2, 3, 4, 5, 6, 7, 8, 9] (by decide +kernel) rfl⟩, hS.F ht⟩) hS.2.2 dX12_swap_49
    · refine lv_if_ne (tgt := 31) hx hb dX12_swap_25 (by decide +kernel) (fun c9 => absurd c9 (by decide +kernel)) (fun _ => ?_)
      refine lv_bipush (v := (-2)) hx hb dX12_swap_28 (by decide +kernel) ?_
      exact W.iret hx hb hr (fun t ht hW => ⟨⟨_, (fun k => [fun _ => n0, f1, f2, f3, f4, f5, f6, f7, fun _ => n].getD k f1), rfl, ⟨⟨(show 0 ≤ (n0).toInt ∧ (n0).toInt ≤ 24 from by omega), (show okC f1 f3 f4 f5 from by first | exact hok | assumption)⟩, ⟨⟨rfl, rfl, rfl⟩, Or.inl ⟨(fun h9 => by have h8 := h9.1; have h6 := h9.2; first | exact absurd h6 (by assumption) | omega), (by decide +kernel), rfl, rfl⟩⟩, hme, (Or.inl ⟨⟨rfl, rfl, rfl, rfl, rfl, rfl⟩, rfl⟩)⟩, by rw [ht]; exact hP.sub [0, 1, 2, 3, 4, 5, 6, 7, 8, 9] rfl, hD.sub [0, 1, 2, 3, 4, 5, 6, 7, 8, 9] (by decide +kernel) rfl⟩, hS.F ht⟩) hS.2.2 dX12_swap_30
  · refine lv_if_eq (tgt := 28) hx hb dX12_swap_8 (by decide +kernel) (fun _ => ?_) (fun c9 => absurd c9 (by decide +kernel))
    refine lv_bipush (v := (-2)) hx hb dX12_swap_28 (by decide +kernel) ?_
    exact W.iret hx hb hr (fun t ht hW => ⟨⟨_, (fun k => [fun _ => n0, f1, f2, f3, f4, f5, f6, f7, fun _ => n].getD k f1), rfl, ⟨⟨(show 0 ≤ (n0).toInt ∧ (n0).toInt ≤ 24 from by omega), (show okC f1 f3 f4 f5 from by first | exact hok | assumption)⟩, ⟨⟨rfl, rfl, rfl⟩, Or.inl ⟨(fun h9 => by have h8 := h9.1; have h6 := h9.2; first | exact absurd h6 (by assumption) | omega), (by decide +kernel), rfl, rfl⟩⟩, hme, (Or.inl ⟨⟨rfl, rfl, rfl, rfl, rfl, rfl⟩, rfl⟩)⟩, by rw [ht]; exact hP.sub [0, 1, 2, 3, 4, 5, 6, 7, 8, 9] rfl, hD.sub [0, 1, 2, 3, 4, 5, 6, 7, 8, 9] (by decide +kernel) rfl⟩, hS.F ht⟩) hS.2.2 dX12_swap_30
