section
theorem dX12_value_0 : decode cX12_value 0 = .ok (.aload_n 0, 1) := by decide +kernel
theorem dX12_value_1 : decode cX12_value 1 = .ok (.getfield 32, 3) := by decide +kernel
theorem dX12_value_11 : decode cX12_value 11 = .ok (.iload_n 2, 1) := by decide +kernel
theorem dX12_value_12 : decode cX12_value 12 = .ok (.iload_n 3, 1) := by decide +kernel
theorem dX12_value_13 : decode cX12_value 13 = .ok (.invokestatic 108, 3) := by decide +kernel
theorem dX12_value_16 : decode cX12_value 16 = .ok (.ifCond .eq 13, 3) := by decide +kernel
theorem dX12_value_19 : decode cX12_value 19 = .ok (.iload 4, 2) := by decide +kernel
theorem dX12_value_21 : decode cX12_value 21 = .ok (.iconst 0, 1) := by decide +kernel
theorem dX12_value_22 : decode cX12_value 22 = .ok (.iconst 1, 1) := by decide +kernel
theorem dX12_value_23 : decode cX12_value 23 = .ok (.invokestatic 77, 3) := by decide +kernel
theorem dX12_value_26 : decode cX12_value 26 = .ok (.ifCond .ne 7, 3) := by decide +kernel
theorem dX12_value_29 : decode cX12_value 29 = .ok (.ldc2_w 183, 3) := by decide +kernel
theorem dX12_value_32 : decode cX12_value 32 = .ok (.lreturn, 1) := by decide +kernel
theorem dX12_value_33 : decode cX12_value 33 = .ok (.aload_n 0, 1) := by decide +kernel
theorem dX12_value_34 : decode cX12_value 34 = .ok (.getfield 43, 3) := by decide +kernel
theorem dX12_value_37 : decode cX12_value 37 = .ok (.aload_n 0, 1) := by decide +kernel
theorem dX12_value_38 : decode cX12_value 38 = .ok (.getfield 43, 3) := by decide +kernel
theorem dX12_value_4 : decode cX12_value 4 = .ok (.iload_n 1, 1) := by decide +kernel
theorem dX12_value_41 : decode cX12_value 41 = .ok (.iload_n 1, 1) := by decide +kernel
theorem dX12_value_42 : decode cX12_value 42 = .ok (.iload_n 2, 1) := by decide +kernel
theorem dX12_value_43 : decode cX12_value 43 = .ok (.iload_n 3, 1) := by decide +kernel
theorem dX12_value_44 : decode cX12_value 44 = .ok (.invokevirtual 185, 3) := by decide +kernel
theorem dX12_value_47 : decode cX12_value 47 = .ok (.iload 4, 2) := by decide +kernel
theorem dX12_value_49 : decode cX12_value 49 = .ok (.invokevirtual 189, 3) := by decide +kernel
theorem dX12_value_5 : decode cX12_value 5 = .ok (.invokevirtual 150, 3) := by decide +kernel
theorem dX12_value_52 : decode cX12_value 52 = .ok (.lreturn, 1) := by decide +kernel
theorem dX12_value_8 : decode cX12_value 8 = .ok (.ifCond .eq 21, 3) := by decide +kernel
set_option maxRecDepth 20000 in
theorem ggX12_value_X11_partOf : GoodIn wsX12_value wsX11_partOf := goodIn_r _ [129, 130, 53, 54, 98, 99, 100, 23, 101, 150, 151, 152, 153, 154, 155] rfl (by decide +kernel)
set_option maxRecDepth 40000 in
theorem ggX12_value_X11_settle_0 : GoodIn wsX12_value [.code yX11_settle cX11_settle 8 (some .int)] := goodIn_r _ [24] rfl (by decide +kernel)
set_option maxRecDepth 40000 in
theorem ggX12_value_X11_settle_1 : GoodIn wsX12_value wsX11_settle_r1 := goodIn_r _ [25, 26, 27, 28, 29, 30, 31, 32, 33, 34, 35, 36, 37, 38, 39, 7, 40, 41, 42, 43, 44, 45, 46, 47] rfl (by decide +kernel)
set_option maxRecDepth 40000 in
theorem ggX12_value_X11_settle_2 : GoodIn wsX12_value wsX11_settle_r2 := goodIn_r _ [48, 49, 50, 51, 23, 52, 53, 54, 55, 21, 22, 56, 57, 58, 59, 60, 61, 62, 63, 64, 65, 66, 67, 68] rfl (by decide +kernel)
set_option maxRecDepth 40000 in
theorem ggX12_value_X11_settle_3 : GoodIn wsX12_value wsX11_settle_r3 := goodIn_r _ [69, 70, 71, 72, 73, 74, 75, 76, 77, 78, 79, 80, 81, 82, 83, 84, 85, 86, 87, 88, 89, 90, 91, 92] rfl (by decide +kernel)
set_option maxRecDepth 40000 in
theorem ggX12_value_X11_settle_4 : GoodIn wsX12_value wsX11_settle_r4 := goodIn_r _ [93, 94, 95, 96, 97, 98, 99, 100, 101, 102, 103, 104, 105, 106, 107, 108, 109, 110, 111, 112, 113, 114, 115, 116] rfl (by decide +kernel)
set_option maxRecDepth 40000 in
theorem ggX12_value_X11_settle_5 : GoodIn wsX12_value wsX11_settle_r5 := goodIn_r _ [117, 118, 119, 120, 121, 122, 123, 124, 125] rfl (by decide +kernel)
set_option maxRecDepth 40000 in
theorem ggX12_value_X11_settle_6 : GoodIn wsX12_value wsX110 := goodIn_r _ [150, 151, 152, 153, 154, 155] rfl (by decide +kernel)
set_option maxRecDepth 40000 in
theorem ggX12_value_X11_settle_7 : GoodIn wsX12_value wsX80 := goodIn_r _ [156, 157, 158, 159, 160, 161, 162] rfl (by decide +kernel)
set_option maxRecDepth 40000 in
theorem ggX12_value_X11_settle_8 : GoodIn wsX12_value wsX20 := goodIn_r _ [142, 143, 144, 145, 146, 147, 148, 149] rfl (by decide +kernel)
set_option maxRecDepth 40000 in
theorem ggX12_value_X11_settle : GoodIn wsX12_value wsX11_settle := (goodIn_app ggX12_value_X11_settle_0 (goodIn_app (goodIn_app (goodIn_app (goodIn_app ggX12_value_X11_settle_1 (goodIn_app ggX12_value_X11_settle_2 (goodIn_app ggX12_value_X11_settle_3 (goodIn_app ggX12_value_X11_settle_4 ggX12_value_X11_settle_5)))) ggX12_value_X11_settle_6) ggX12_value_X11_settle_7) ggX12_value_X11_settle_8))
set_option maxRecDepth 20000 in
theorem ggX12_value_X12_isSpot : GoodIn wsX12_value wsX12_isSpot := goodIn_r _ [15, 16, 17, 11, 18, 19, 10, 12] rfl (by decide +kernel)
set_option maxRecDepth 20000 in
theorem ggX12_value_X12_within : GoodIn wsX12_value wsX12_within := goodIn_r _ [12] rfl (by decide +kernel)
set_option maxRecDepth 20000 in
theorem ggX12_value_X2_has : GoodIn wsX12_value wsX2_has := goodIn_r _ [8, 9, 10, 11, 12, 142, 143, 144, 145, 146, 147, 148, 149] rfl (by decide +kernel)
set_option maxRecDepth 20000 in
theorem gX12_value_X11_partOf : GoodIn wsX12_value (wsV RX12 189 RX11 yX11_partOf wsX11_partOf) := goodIn_app (goodIn_r _ [126, 127, 128, 23] rfl (by decide +kernel)) ggX12_value_X11_partOf
set_option maxRecDepth 20000 in
theorem gX12_value_X11_settle : GoodIn wsX12_value (wsV RX12 185 RX11 yX11_settle wsX11_settle) := goodIn_app (goodIn_r _ [20, 21, 22, 23] rfl (by decide +kernel)) ggX12_value_X11_settle
set_option maxRecDepth 20000 in
theorem gX12_value_X12_isSpot : GoodIn wsX12_value (va_wsS RX12 108 yX12_isSpot wsX12_isSpot) := goodIn_app (goodIn_of _ (by decide +kernel)) ggX12_value_X12_isSpot
set_option maxRecDepth 20000 in
theorem gX12_value_X12_within : GoodIn wsX12_value (va_wsS RX12 77 yX12_within wsX12_within) := goodIn_app (goodIn_of _ (by decide +kernel)) ggX12_value_X12_within
set_option maxRecDepth 20000 in
theorem gX12_value_X2_has : GoodIn wsX12_value (wsV RX12 150 RX2 yX2_has wsX2_has) := goodIn_app (goodIn_r _ [4, 5, 6, 7] rfl (by decide +kernel)) ggX12_value_X2_has
theorem hv_X11_partOf : yX11_partOf.cls = RX11 ∧ yX11_partOf.cls ≠ "java/lang/invoke/MethodHandle" ∧ yX11_partOf.cls ≠ "java/lang/invoke/VarHandle" ∧ (parseMethodDescriptor yX11_partOf.desc).map (fun d => d.parameters.length) = some 2 := by decide +kernel
set_option maxRecDepth 20000 in
theorem in_X12_value_X12 : ∀ w ∈ wsX120, w ∈ wsX12_value := sub_r [131, 132, 133, 134, 135, 136, 137, 138, 139, 140, 141] rfl
set_option maxHeartbeats 4000000 in
set_option maxRecDepth 100000 in
theorem c_X12_value (l : Launch) (D : va_G) (T : Nat → ClassId) (ad sa av : Nat → Nat) (ta : Nat) (sz : Nat) (h0 : Nat) (wo : Nat) (fs0 : List Value) (la : Nat) (cl : Nat) (p0 : Nat) (p1 : Nat) (p4 : Nat) (n : Int32) (l9 : Nat → Int32) (n0 : Int32) (c1 : Nat) (c2 : Nat) (c3 : Nat) (c4 : Nat) (c5 : Nat) (c6 : Nat) (c7 : Nat) (f1 : Nat → Int32) (f2 : Nat → Int32) (f3 : Nat → Int32) (f4 : Nat → Int32) (f5 : Nat → Int32) (g0 : Nat → Int64) (g1 : Nat → Int64) (g4 : Nat → Int32) (x1 : Int32) (x2 : Int32) (x3 : Int32) (x4 : Int32) (e0_4 : fs0[4]? = some (.ref cl)) (e0_6 : fs0[6]? = some (.ref wo)) (hn0 : 0 ≤ n0.toInt ∧ n0.toInt ≤ 24) (hok : okC f1 f3 f4 f5) (hmm : memW (VALW l9 f1 f2 f3 f4 f5) n0 n g0 g1 g4) (hlq : (1 ≤ (l9 4).toInt ∧ (l9 4).toInt ≤ 9) ∧ 1 ≤ (l9 6).toInt ∧ (l9 6).toInt ≤ 9) : Met l yX12_value wsX12_value ({ frames := 67, cells := 0, slots := 0, locals := 2197 }) (pWk [.ref h0, .int x1, .int x2, .int x3, .int x4] D T [(h0, .inr (9, fs0)), (wo, .inr (8, [.ref la, .ref cl, .ref p0, .ref p1, .ref p4, .int n])), (la, .inr (5, [.int (l9 0), .int (l9 1), .int (l9 2), .int (l9 3), .int (l9 4), .int (l9 5), .int (l9 6)])), (cl, .inr (1, [.int n0, .ref c1, .ref c2, .ref c3, .ref c4, .ref c5, .ref c6, .ref c7])), (c1, .inl (T 0, 24, .inl f1)), (c2, .inl (T 0, 24, .inl f2)), (c3, .inl (T 0, 24, .inl f3)), (c4, .inl (T 0, 24, .inl f4)), (c5, .inl (T 0, 24, .inl f5)), (p0, .inl (T 1, 676, .inr (.inl g0))), (p1, .inl (T 1, 676, .inr (.inl g1))), (p4, .inl (T 0, 672, .inl g4))] sz ad sa av ta) (va_Ql (fun (r : Int64) (u : (Nat → Int64) × (Nat → Int64) × (Nat → Int32)) => valQ (VALW l9 f1 f2 f3 f4 f5) n0 x1 x2 x3 x4 r ∧ stW (VALW l9 f1 f2 f3 f4 f5) n0 n (fun _ => True) g0 g1 g4 u.1 u.2.1 u.2.2) (bW D (va_A [(h0, .inr (9, fs0)), (wo, .inr (8, [.ref la, .ref cl, .ref p0, .ref p1, .ref p4, .int n])), (la, .inr (5, [.int (l9 0), .int (l9 1), .int (l9 2), .int (l9 3), .int (l9 4), .int (l9 5), .int (l9 6)])), (cl, .inr (1, [.int n0, .ref c1, .ref c2, .ref c3, .ref c4, .ref c5, .ref c6, .ref c7])), (c1, .inl (T 0, 24, .inl f1)), (c2, .inl (T 0, 24, .inl f2)), (c3, .inl (T 0, 24, .inl f3)), (c4, .inl (T 0, 24, .inl f4)), (c5, .inl (T 0, 24, .inl f5)), (p0, .inl (T 1, 676, .inr (.inl g0))), (p1, .inl (T 1, 676, .inr (.inl g1))), (p4, .inl (T 0, 672, .inl g4))] sz) (fun (u : (Nat → Int64) × (Nat → Int64) × (Nat → Int32)) => [(h0, .inr (9, fs0)), (wo, .inr (8, [.ref la, .ref cl, .ref p0, .ref p1, .ref p4, .int n])), (la, .inr (5, [.int (l9 0), .int (l9 1), .int (l9 2), .int (l9 3), .int (l9 4), .int (l9 5), .int (l9 6)])), (cl, .inr (1, [.int n0, .ref c1, .ref c2, .ref c3, .ref c4, .ref c5, .ref c6, .ref c7])), (c1, .inl (T 0, 24, .inl f1)), (c2, .inl (T 0, 24, .inl f2)), (c3, .inl (T 0, 24, .inl f3)), (c4, .inl (T 0, 24, .inl f4)), (c5, .inl (T 0, 24, .inl f5)), (p0, .inl (T 1, 676, .inr (.inl u.1))), (p1, .inl (T 1, 676, .inr (.inl u.2.1))), (p4, .inl (T 0, 672, .inl u.2.2))])) (va_A [(h0, .inr (9, fs0)), (wo, .inr (8, [.ref la, .ref cl, .ref p0, .ref p1, .ref p4, .int n])), (la, .inr (5, [.int (l9 0), .int (l9 1), .int (l9 2), .int (l9 3), .int (l9 4), .int (l9 5), .int (l9 6)])), (cl, .inr (1, [.int n0, .ref c1, .ref c2, .ref c3, .ref c4, .ref c5, .ref c6, .ref c7])), (c1, .inl (T 0, 24, .inl f1)), (c2, .inl (T 0, 24, .inl f2)), (c3, .inl (T 0, 24, .inl f3)), (c4, .inl (T 0, 24, .inl f4)), (c5, .inl (T 0, 24, .inl f5)), (p0, .inl (T 1, 676, .inr (.inl g0))), (p1, .inl (T 1, 676, .inr (.inl g1))), (p4, .inl (T 0, 672, .inl g4))] sz)) 0 0 (va_A [(h0, .inr (9, fs0)), (wo, .inr (8, [.ref la, .ref cl, .ref p0, .ref p1, .ref p4, .int n])), (la, .inr (5, [.int (l9 0), .int (l9 1), .int (l9 2), .int (l9 3), .int (l9 4), .int (l9 5), .int (l9 6)])), (cl, .inr (1, [.int n0, .ref c1, .ref c2, .ref c3, .ref c4, .ref c5, .ref c6, .ref c7])), (c1, .inl (T 0, 24, .inl f1)), (c2, .inl (T 0, 24, .inl f2)), (c3, .inl (T 0, 24, .inl f3)), (c4, .inl (T 0, 24, .inl f4)), (c5, .inl (T 0, 24, .inl f5)), (p0, .inl (T 1, 676, .inr (.inl g0))), (p1, .inl (T 1, 676, .inr (.inl g1))), (p4, .inl (T 0, 672, .inl g4))] sz) := by
  refine Met.ofW (cc := cX12_value) (maxL := 5) (ret := (some .long)) (by decide +kernel) rfl ?_
  intro p e s m args below meth c s₁ B hml hv
  obtain ⟨rfl, hsz, hP, hE, hD0, hV⟩ := hv
  have hx := B.exec
  have hb := B.bytes
  have hr := B.returns
  have hts := atoms_spec (ws := wsX12_value) B.pre
  have hown : s.vm.findClass RX12 = some m.cls := findClass_of_methodNamed B.named
  have hlocks := B.notSynchronized
  subst hsz
  have hD := hD0.self (sz := s.heap.size)
  generalize hAe : va_A [(h0, .inr (9, fs0)), (wo, .inr (8, [.ref la, .ref cl, .ref p0, .ref p1, .ref p4, .int n])), (la, .inr (5, [.int (l9 0), .int (l9 1), .int (l9 2), .int (l9 3), .int (l9 4), .int (l9 5), .int (l9 6)])), (cl, .inr (1, [.int n0, .ref c1, .ref c2, .ref c3, .ref c4, .ref c5, .ref c6, .ref c7])), (c1, .inl (T 0, 24, .inl f1)), (c2, .inl (T 0, 24, .inl f2)), (c3, .inl (T 0, 24, .inl f3)), (c4, .inl (T 0, 24, .inl f4)), (c5, .inl (T 0, 24, .inl f5)), (p0, .inl (T 1, 676, .inr (.inl g0))), (p1, .inl (T 1, 676, .inr (.inl g1))), (p4, .inl (T 0, 672, .inl g4))] s.heap.size = A at hD hV ⊢
  have hA : ∀ q : Nat, s.heap.size ≤ q → A q := fun q h => by rw [← hAe]; exact Or.inr h
  have hS : va_S A s.heap s.heap [] := va_S.rf
  have hP : va_P D vwCl [(h0, .inr (9, fs0)), (wo, .inr (8, [.ref la, .ref cl, .ref p0, .ref p1, .ref p4, .int n])), (la, .inr (5, [.int (l9 0), .int (l9 1), .int (l9 2), .int (l9 3), .int (l9 4), .int (l9 5), .int (l9 6)])), (cl, .inr (1, [.int n0, .ref c1, .ref c2, .ref c3, .ref c4, .ref c5, .ref c6, .ref c7])), (c1, .inl (T 0, 24, .inl f1)), (c2, .inl (T 0, 24, .inl f2)), (c3, .inl (T 0, 24, .inl f3)), (c4, .inl (T 0, 24, .inl f4)), (c5, .inl (T 0, 24, .inl f5)), (p0, .inl (T 1, 676, .inr (.inl g0))), (p1, .inl (T 1, 676, .inr (.inl g1))), (p4, .inl (T 0, 672, .inl g4))] s.heap := hP
  have hl := lv_entry ([.ref h0, .int x1, .int x2, .int x3, .int x4]) (n := 5) (Nat.le_of_ble_eq_true rfl)
  rw [lg_entry_eq]
  generalize (lg_sl ([.ref h0, .int x1, .int x2, .int x3, .int x4]) ++ List.replicate (5 - (lg_sl ([.ref h0, .int x1, .int x2, .int x3, .int x4])).length) Slot.unset).toArray = ls at hl ⊢
  have hl : lv_has ls 5 [(0, .ref h0), (1, .int x1), (2, .int x2), (3, .int x3), (4, .int x4)] := hl
  clear hD0
  have hst : stW (VALW l9 f1 f2 f3 f4 f5) n0 n (fun _ => True) g0 g1 g4 g0 g1 g4 := stW_rf hmm
  refine lv_aload_n hx hb dX12_value_0 rfl (lv_at hl 0 rfl) ?_
  refine va_get (D := D) (ci := 9) (v := .ref cl) (C := RX12) (T := TX12) (N := 11) hx hb hts in_X12_value_X12 hown hE.1 hP 0 rfl rfl 4 (by decide +kernel) (hts (.fieldLink RX12 32 "ClauseBook" "clauses" "LClauseBook$Clauses;") (List.mem_of_getElem? (i := 1) rfl)) (fun _ h9 => h9) e0_4 dX12_value_1 ?_
  refine lv_iload_n hx hb dX12_value_4 rfl (lv_at hl 1 rfl) ?_
  refine vp_callSi (W.runV (As := [.int x1]) (rest := []) ⟨hx, hb, hml, hown, hts⟩ (c_X2_has l D T cl [.int n0, .ref c1, .ref c2, .ref c3, .ref c4, .ref c5, .ref c6, .ref c7] x1 n0 rfl (by omega)) (cwV 1 hts gX12_value_X2_has rfl rfl rfl hv_X2_has ⟨Nat.le_of_ble_eq_true rfl, Nat.le_of_ble_eq_true rfl⟩) (pR_V (q := (RX2, TX2, 8)) (ci := 1) (q0 := 3) hP hE rfl rfl [3] rfl) rfl rfl hl.1 rfl (lv_room (Nat.le_of_ble_eq_true rfl)) dX12_value_5 ⟨Nat.le_of_ble_eq_true rfl, Nat.le_of_ble_eq_true rfl⟩) (fun r_1 hr_1 => ?_)
  rcases bool_post hr_1 with ⟨c_2, rfl⟩ | ⟨c_2, rfl⟩
  · refine lv_if_eq (tgt := 29) hx hb dX12_value_8 (by decide +kernel) (fun c9 => absurd c9 (by decide +kernel)) (fun _ => ?_)
    refine lv_iload_n hx hb dX12_value_11 rfl (lv_at hl 2 rfl) ?_
    refine lv_iload_n hx hb dX12_value_12 rfl (lv_at hl 3 rfl) ?_
    refine vp_callSi (W.runS (As := [.int x2, .int x3]) (rest := []) ⟨hx, hb, hml, hown, hts⟩ (c_X12_isSpot l D T x2 x3) (va_cwS 2 hts gX12_value_X12_isSpot rfl rfl rfl hs_X12_isSpot ⟨Nat.le_of_ble_eq_true rfl, Nat.le_of_ble_eq_true rfl⟩) (pR_S hP hE [] rfl) rfl rfl hl.1 rfl (lv_room (Nat.le_of_ble_eq_true rfl)) dX12_value_13 ⟨Nat.le_of_ble_eq_true rfl, Nat.le_of_ble_eq_true rfl⟩) (fun r_3 hr_3 => ?_)
    rcases bool_post hr_3 with ⟨c_4, rfl⟩ | ⟨c_4, rfl⟩
    · refine lv_if_eq (tgt := 29) hx hb dX12_value_16 (by decide +kernel) (fun c9 => absurd c9 (by decide +kernel)) (fun _ => ?_)
      refine lv_iload hx hb dX12_value_19 (lv_at hl 4 rfl) ?_
      refine lv_iconst (v := 0) hx hb dX12_value_21 (by decide +kernel) ?_
      refine lv_iconst (v := 1) hx hb dX12_value_22 (by decide +kernel) ?_
      refine vp_callSi (W.runS (As := [.int x4, .int 0, .int 1]) (rest := []) ⟨hx, hb, hml, hown, hts⟩ (c_X12_within l D T x4 0 1 0 1 (by decide +kernel) (by decide +kernel)) (va_cwS 3 hts gX12_value_X12_within rfl rfl rfl hs_X12_within ⟨Nat.le_of_ble_eq_true rfl, Nat.le_of_ble_eq_true rfl⟩) (pR_S hP hE [] rfl) rfl rfl hl.1 rfl (lv_room (Nat.le_of_ble_eq_true rfl)) dX12_value_23 ⟨Nat.le_of_ble_eq_true rfl, Nat.le_of_ble_eq_true rfl⟩) (fun r_5 hr_5 => ?_)
      rcases bool_post hr_5 with ⟨c_6, rfl⟩ | ⟨c_6, rfl⟩
      · refine lv_if_ne (tgt := 33) hx hb dX12_value_26 (by decide +kernel) (fun _ => ?_) (fun c9 => absurd c9 (by decide +kernel))
        refine lv_aload_n hx hb dX12_value_33 rfl (lv_at hl 0 rfl) ?_
        refine va_get (D := D) (ci := 9) (v := .ref wo) (C := RX12) (T := TX12) (N := 11) hx hb hts in_X12_value_X12 hown hE.1 hP 0 rfl rfl 6 (by decide +kernel) (hts (.fieldLink RX12 43 "ClauseBook" "worth" "LClauseBook$Worth;") (List.mem_of_getElem? (i := 3) rfl)) (fun _ h9 => h9) e0_6 dX12_value_34 ?_
        refine lv_aload_n hx hb dX12_value_37 rfl (lv_at hl 0 rfl) ?_
        refine va_get (D := D) (ci := 9) (v := .ref wo) (C := RX12) (T := TX12) (N := 11) hx hb hts in_X12_value_X12 hown hE.1 hP 0 rfl rfl 6 (by decide +kernel) (hts (.fieldLink RX12 43 "ClauseBook" "worth" "LClauseBook$Worth;") (List.mem_of_getElem? (i := 3) rfl)) (fun _ h9 => h9) e0_6 dX12_value_38 ?_
        refine lv_iload_n hx hb dX12_value_41 rfl (lv_at hl 1 rfl) ?_
        refine lv_iload_n hx hb dX12_value_42 rfl (lv_at hl 2 rfl) ?_
        refine lv_iload_n hx hb dX12_value_43 rfl (lv_at hl 3 rfl) ?_
        have hFc := va_free (wc := [(wo, .inr (8, [.ref la, .ref cl, .ref p0, .ref p1, .ref p4, .int n])), (la, .inr (5, [.int (l9 0), .int (l9 1), .int (l9 2), .int (l9 3), .int (l9 4), .int (l9 5), .int (l9 6)])), (cl, .inr (1, [.int n0, .ref c1, .ref c2, .ref c3, .ref c4, .ref c5, .ref c6, .ref c7])), (c1, .inl (T 0, 24, .inl f1)), (c2, .inl (T 0, 24, .inl f2)), (c3, .inl (T 0, 24, .inl f3)), (c4, .inl (T 0, 24, .inl f4)), (c5, .inl (T 0, 24, .inl f5)), (p0, .inl (T 1, 676, .inr (.inl g0))), (p1, .inl (T 1, 676, .inr (.inl g1))), (p4, .inl (T 0, 672, .inl g4))]) hD hS hA [1, 2, 3, 4, 5, 6, 7, 8, 9, 10, 11] rfl
        refine va_calli (va_runV (As := [.int x1, .int x2, .int x3]) (rest := [.ref wo]) ⟨hx, hb, hml, hown, hts⟩ (cS_all l D T ad sa av ta 30 _ wo la cl p0 p1 p4 n l9 n0 c1 c2 c3 c4 c5 c6 c7 f1 f2 f3 f4 f5 g0 g1 g4 x1 x2 x3 (by omega) (by omega) (by omega) hok (by omega) hmm hlq (by omega)) (cwV 3 hts gX12_value_X11_settle rfl rfl rfl hv_X11_settle ⟨Nat.le_of_ble_eq_true rfl, Nat.le_of_ble_eq_true rfl⟩) (pWk_V (q := (RX11, TX11, 6)) (ci := 8) (q0 := 1) hP hE hD hV hS hFc rfl rfl [1, 2, 3, 4, 5, 6, 7, 8, 9, 10, 11] (by decide +kernel) rfl rfl) rfl rfl hl.1 rfl (lv_room (Nat.le_of_ble_eq_true rfl)) dX12_value_44 ⟨Nat.le_of_ble_eq_true rfl, Nat.le_of_ble_eq_true rfl⟩) hS (fun q _ h => hFc q h) hFc (fun r_7 u_8 t H1 locs ht hvm hr_7 hB hz1 hk1 hS => ?_)
        obtain ⟨f_9, f_10, f_11⟩ := u_8
        obtain ⟨hqr_7, hsl_r_7, hfo_r_7, hstr_7⟩ := hr_7
        have hqr_7 : 0 ≤ r_7.toInt ∧ r_7.toInt < 672 := hqr_7
        have hsl_r_7 : r_7.toNatClampNeg = slN x1 x2 x3 := hsl_r_7
        have hfo_r_7 : f_11 (slN x1 x2 x3) = n := hfo_r_7
        have hsr_7 : stW (VALW l9 f1 f2 f3 f4 f5) n0 n (rgW x1 x2) g0 g1 g4 f_9 f_10 f_11 := hstr_7
        have hst : stW (VALW l9 f1 f2 f3 f4 f5) n0 n (fun _ => True) g0 g1 g4 f_9 f_10 f_11 := hst.tr hsr_7 (fun _ _ => trivial)
        have hmm : memW (VALW l9 f1 f2 f3 f4 f5) n0 n f_9 f_10 f_11 := hst.1
        have hv_r_7 : (f_9 (r_7.toNatClampNeg), f_10 (r_7.toNatClampNeg)) = (VALW l9 f1 f2 f3 f4 f5) x1 x2 x3 := hst.val (by omega) (by omega) (by first | (rw [ti_0]; omega) | omega) hsl_r_7 hfo_r_7
        have hb_r_7 : 0 ≤ (f_10 (r_7.toNatClampNeg)).toInt := val_nn (VAL_low hlq.1 hlq.2 31 _ _ _) hv_r_7
        obtain ⟨hP1, hD1⟩ := hB
        rw [ht] at hP1
        obtain ⟨hP, hD⟩ := va_repl [(h0, .inr (9, fs0)), (wo, .inr (8, [.ref la, .ref cl, .ref p0, .ref p1, .ref p4, .int n])), (la, .inr (5, [.int (l9 0), .int (l9 1), .int (l9 2), .int (l9 3), .int (l9 4), .int (l9 5), .int (l9 6)])), (cl, .inr (1, [.int n0, .ref c1, .ref c2, .ref c3, .ref c4, .ref c5, .ref c6, .ref c7])), (c1, .inl (T 0, 24, .inl f1)), (c2, .inl (T 0, 24, .inl f2)), (c3, .inl (T 0, 24, .inl f3)), (c4, .inl (T 0, 24, .inl f4)), (c5, .inl (T 0, 24, .inl f5)), (p0, .inl (T 1, 676, .inr (.inl f_9))), (p1, .inl (T 1, 676, .inr (.inl f_10))), (p4, .inl (T 0, 672, .inl f_11))] hP hD [1, 2, 3, 4, 5, 6, 7, 8, 9, 10, 11] [1, 2, 3, 4, 5, 6, 7, 8, 9, 10, 11] rfl (by decide +kernel) rfl rfl rfl hk1 hP1
        clear hP1 hD1 hFc
        generalize H1 = H at hP hS ⊢
        refine lv_iload hx hb dX12_value_47 (lv_at hl 4 rfl) ?_
        refine vp_callSl (W.runV (As := [.int r_7, .int x4]) (rest := []) ⟨hx, hb, hml, hown, hts⟩ (c_X11_partOf l D T wo [.ref la, .ref cl, .ref p0, .ref p1, .ref p4, .int n] p1 f_10 p0 f_9 r_7 x4 rfl rfl (by first | decide | omega)) (cwV 2 hts gX12_value_X11_partOf rfl rfl rfl hv_X11_partOf ⟨Nat.le_of_ble_eq_true rfl, Nat.le_of_ble_eq_true rfl⟩) (pR_V (q := (RX11, TX11, 6)) (ci := 8) (q0 := 1) hP hE rfl rfl [1, 10, 9] rfl) rfl rfl hl.1 rfl (lv_room (Nat.le_of_ble_eq_true rfl)) dX12_value_49 ⟨Nat.le_of_ble_eq_true rfl, Nat.le_of_ble_eq_true rfl⟩) (fun r_12 hr_12 => ?_)
        exact W.lret hx hb hr (fun t ht hW => ⟨⟨_, (f_9, f_10, f_11), rfl, ⟨(show valQ (VALW l9 f1 f2 f3 f4 f5) n0 x1 x2 x3 x4 r_12 from (Or.inr ⟨⟨⟨(by omega), (by omega), (by omega)⟩, (by omega)⟩, partW_of hv_r_7 hr_12⟩)), hst⟩, by rw [ht]; exact hP.sub [0, 1, 2, 3, 4, 5, 6, 7, 8, 9, 10, 11] rfl, hD.sub [0, 1, 2, 3, 4, 5, 6, 7, 8, 9, 10, 11] (by decide +kernel) rfl⟩, hS.F ht⟩) hS.2.2 dX12_value_52
      · refine lv_if_ne (tgt := 33) hx hb dX12_value_26 (by decide +kernel) (fun c9 => absurd c9 (by decide +kernel)) (fun _ => ?_)
        refine lv_ldc2 (v := (-4611686018427387906)) hx hb hown (hts (.constantLong RX12 183 (-4611686018427387906)) (List.mem_of_getElem? (i := 2) rfl)) dX12_value_29 ?_
        exact W.lret hx hb hr (fun t ht hW => ⟨⟨_, (g0, g1, g4), rfl, ⟨(show valQ (VALW l9 f1 f2 f3 f4 f5) n0 x1 x2 x3 x4 ((-4611686018427387906) : Int64) from (Or.inl ⟨(fun h9 => by obtain ⟨⟨h1, h2, h3⟩, h4⟩ := h9; omega), (by decide +kernel)⟩)), hst⟩, by rw [ht]; exact hP.sub [0, 1, 2, 3, 4, 5, 6, 7, 8, 9, 10, 11] rfl, hD.sub [0, 1, 2, 3, 4, 5, 6, 7, 8, 9, 10, 11] (by decide +kernel) rfl⟩, hS.F ht⟩) hS.2.2 dX12_value_32
    · refine lv_if_eq (tgt := 29) hx hb dX12_value_16 (by decide +kernel) (fun _ => ?_) (fun c9 => absurd c9 (by decide +kernel))
      refine lv_ldc2 (v := (-4611686018427387906)) hx hb hown (hts (.constantLong RX12 183 (-4611686018427387906)) (List.mem_of_getElem? (i := 2) rfl)) dX12_value_29 ?_
      exact W.lret hx hb hr (fun t ht hW => ⟨⟨_, (g0, g1, g4), rfl, ⟨(show valQ (VALW l9 f1 f2 f3 f4 f5) n0 x1 x2 x3 x4 ((-4611686018427387906) : Int64) from (Or.inl ⟨(fun h9 => by obtain ⟨⟨h1, h2, h3⟩, h4⟩ := h9; omega), (by decide +kernel)⟩)), hst⟩, by rw [ht]; exact hP.sub [0, 1, 2, 3, 4, 5, 6, 7, 8, 9, 10, 11] rfl, hD.sub [0, 1, 2, 3, 4, 5, 6, 7, 8, 9, 10, 11] (by decide +kernel) rfl⟩, hS.F ht⟩) hS.2.2 dX12_value_32
  · refine lv_if_eq (tgt := 29) hx hb dX12_value_8 (by decide +kernel) (fun _ => ?_) (fun c9 => absurd c9 (by decide +kernel))
    refine lv_ldc2 (v := (-4611686018427387906)) hx hb hown (hts (.constantLong RX12 183 (-4611686018427387906)) (List.mem_of_getElem? (i := 2) rfl)) dX12_value_29 ?_
    exact W.lret hx hb hr (fun t ht hW => ⟨⟨_, (g0, g1, g4), rfl, ⟨(show valQ (VALW l9 f1 f2 f3 f4 f5) n0 x1 x2 x3 x4 ((-4611686018427387906) : Int64) from (Or.inl ⟨(fun h9 => by obtain ⟨⟨h1, h2, h3⟩, h4⟩ := h9; omega), (by decide +kernel)⟩)), hst⟩, by rw [ht]; exact hP.sub [0, 1, 2, 3, 4, 5, 6, 7, 8, 9, 10, 11] rfl, hD.sub [0, 1, 2, 3, 4, 5, 6, 7, 8, 9, 10, 11] (by decide +kernel) rfl⟩, hS.F ht⟩) hS.2.2 dX12_value_32
theorem dX12_mean_0 : decode cX12_mean 0 = .ok (.aload_n 0, 1) := by decide +kernel
theorem dX12_mean_1 : decode cX12_mean 1 = .ok (.getfield 32, 3) := by decide +kernel
theorem dX12_mean_11 : decode cX12_mean 11 = .ok (.iload_n 2, 1) := by decide +kernel
theorem dX12_mean_12 : decode cX12_mean 12 = .ok (.iload_n 3, 1) := by decide +kernel
theorem dX12_mean_13 : decode cX12_mean 13 = .ok (.invokestatic 108, 3) := by decide +kernel
theorem dX12_mean_16 : decode cX12_mean 16 = .ok (.ifCond .eq 19, 3) := by decide +kernel
theorem dX12_mean_19 : decode cX12_mean 19 = .ok (.iload_n 2, 1) := by decide +kernel
theorem dX12_mean_20 : decode cX12_mean 20 = .ok (.bipush 6, 2) := by decide +kernel
theorem dX12_mean_22 : decode cX12_mean 22 = .ok (.if_icmp .eq 13, 3) := by decide +kernel
theorem dX12_mean_25 : decode cX12_mean 25 = .ok (.iload 4, 2) := by decide +kernel
theorem dX12_mean_27 : decode cX12_mean 27 = .ok (.iconst 0, 1) := by decide +kernel
theorem dX12_mean_28 : decode cX12_mean 28 = .ok (.iconst 1, 1) := by decide +kernel
theorem dX12_mean_29 : decode cX12_mean 29 = .ok (.invokestatic 77, 3) := by decide +kernel
theorem dX12_mean_32 : decode cX12_mean 32 = .ok (.ifCond .ne 7, 3) := by decide +kernel
theorem dX12_mean_35 : decode cX12_mean 35 = .ok (.ldc2_w 183, 3) := by decide +kernel
theorem dX12_mean_38 : decode cX12_mean 38 = .ok (.lreturn, 1) := by decide +kernel
theorem dX12_mean_39 : decode cX12_mean 39 = .ok (.aload_n 0, 1) := by decide +kernel
theorem dX12_mean_4 : decode cX12_mean 4 = .ok (.iload_n 1, 1) := by decide +kernel
theorem dX12_mean_40 : decode cX12_mean 40 = .ok (.getfield 43, 3) := by decide +kernel
theorem dX12_mean_43 : decode cX12_mean 43 = .ok (.sipush 674, 3) := by decide +kernel
theorem dX12_mean_46 : decode cX12_mean 46 = .ok (.iload_n 1, 1) := by decide +kernel
theorem dX12_mean_47 : decode cX12_mean 47 = .ok (.iload_n 2, 1) := by decide +kernel
theorem dX12_mean_48 : decode cX12_mean 48 = .ok (.iload_n 3, 1) := by decide +kernel
theorem dX12_mean_49 : decode cX12_mean 49 = .ok (.invokevirtual 193, 3) := by decide +kernel
theorem dX12_mean_5 : decode cX12_mean 5 = .ok (.invokevirtual 150, 3) := by decide +kernel
theorem dX12_mean_52 : decode cX12_mean 52 = .ok (.aload_n 0, 1) := by decide +kernel
theorem dX12_mean_53 : decode cX12_mean 53 = .ok (.getfield 43, 3) := by decide +kernel
theorem dX12_mean_56 : decode cX12_mean 56 = .ok (.sipush 674, 3) := by decide +kernel
theorem dX12_mean_59 : decode cX12_mean 59 = .ok (.iload 4, 2) := by decide +kernel
theorem dX12_mean_61 : decode cX12_mean 61 = .ok (.invokevirtual 189, 3) := by decide +kernel
theorem dX12_mean_64 : decode cX12_mean 64 = .ok (.lreturn, 1) := by decide +kernel
theorem dX12_mean_8 : decode cX12_mean 8 = .ok (.ifCond .eq 27, 3) := by decide +kernel
set_option maxRecDepth 40000 in
theorem ggX12_mean_X11_average_0 : GoodIn wsX12_mean [.code yX11_average cX11_average 7 none] := goodIn_r _ [24] rfl (by decide +kernel)
set_option maxRecDepth 40000 in
theorem ggX12_mean_X11_average_1 : GoodIn wsX12_mean wsX11_average_r1 := goodIn_r _ [25, 26, 27, 28, 29, 30, 31, 32, 33, 34, 23, 35, 36, 37, 38, 39, 40, 41, 42, 43, 44, 45, 46, 47] rfl (by decide +kernel)
set_option maxRecDepth 40000 in
theorem ggX12_mean_X11_average_2 : GoodIn wsX12_mean wsX11_average_r2 := goodIn_r _ [48, 49, 50, 51, 52, 53, 54, 55, 56, 57, 58, 59, 60, 61, 62, 63, 64, 65, 66, 67, 68, 69, 70, 71] rfl (by decide +kernel)
set_option maxRecDepth 40000 in
theorem ggX12_mean_X11_average_3 : GoodIn wsX12_mean wsX11_average_r3 := goodIn_r _ [72, 73, 74, 75, 7, 76, 77, 78, 79, 80, 81, 82, 83, 84, 85, 86, 87, 88, 89, 90, 91, 92, 93, 94] rfl (by decide +kernel)
set_option maxRecDepth 40000 in
theorem ggX12_mean_X11_average_4 : GoodIn wsX12_mean wsX11_average_r4 := goodIn_r _ [95, 96, 97, 98, 99, 100, 101, 102, 103, 104, 105, 106, 107, 108, 109, 110, 111, 112, 113, 114, 115, 116, 117, 118] rfl (by decide +kernel)
set_option maxRecDepth 40000 in
theorem ggX12_mean_X11_average_5 : GoodIn wsX12_mean wsX11_average_r5 := goodIn_r _ [21, 22, 119, 120, 121, 122, 123, 124, 125] rfl (by decide +kernel)
set_option maxRecDepth 40000 in
theorem ggX12_mean_X11_average_6 : GoodIn wsX12_mean wsX110 := goodIn_r _ [150, 151, 152, 153, 154, 155] rfl (by decide +kernel)
set_option maxRecDepth 40000 in
theorem ggX12_mean_X11_average_7 : GoodIn wsX12_mean wsX80 := goodIn_r _ [156, 157, 158, 159, 160, 161, 162] rfl (by decide +kernel)
set_option maxRecDepth 40000 in
theorem ggX12_mean_X11_average_8 : GoodIn wsX12_mean wsX20 := goodIn_r _ [142, 143, 144, 145, 146, 147, 148, 149] rfl (by decide +kernel)
set_option maxRecDepth 40000 in
theorem ggX12_mean_X11_average : GoodIn wsX12_mean wsX11_average := (goodIn_app ggX12_mean_X11_average_0 (goodIn_app (goodIn_app (goodIn_app (goodIn_app ggX12_mean_X11_average_1 (goodIn_app ggX12_mean_X11_average_2 (goodIn_app ggX12_mean_X11_average_3 (goodIn_app ggX12_mean_X11_average_4 ggX12_mean_X11_average_5)))) ggX12_mean_X11_average_6) ggX12_mean_X11_average_7) ggX12_mean_X11_average_8))
set_option maxRecDepth 20000 in
theorem ggX12_mean_X11_partOf : GoodIn wsX12_mean wsX11_partOf := goodIn_r _ [129, 130, 30, 31, 86, 87, 88, 23, 89, 150, 151, 152, 153, 154, 155] rfl (by decide +kernel)
set_option maxRecDepth 20000 in
theorem ggX12_mean_X12_isSpot : GoodIn wsX12_mean wsX12_isSpot := goodIn_r _ [15, 16, 17, 11, 18, 19, 10, 12] rfl (by decide +kernel)
set_option maxRecDepth 20000 in
theorem ggX12_mean_X12_within : GoodIn wsX12_mean wsX12_within := goodIn_r _ [12] rfl (by decide +kernel)
set_option maxRecDepth 20000 in
theorem ggX12_mean_X2_has : GoodIn wsX12_mean wsX2_has := goodIn_r _ [8, 9, 10, 11, 12, 142, 143, 144, 145, 146, 147, 148, 149] rfl (by decide +kernel)
set_option maxRecDepth 20000 in
theorem gX12_mean_X11_average : GoodIn wsX12_mean (wsV RX12 193 RX11 yX11_average wsX11_average) := goodIn_app (goodIn_r _ [20, 21, 22, 23] rfl (by decide +kernel)) ggX12_mean_X11_average
set_option maxRecDepth 20000 in
theorem gX12_mean_X11_partOf : GoodIn wsX12_mean (wsV RX12 189 RX11 yX11_partOf wsX11_partOf) := goodIn_app (goodIn_r _ [126, 127, 128, 23] rfl (by decide +kernel)) ggX12_mean_X11_partOf
set_option maxRecDepth 20000 in
theorem gX12_mean_X12_isSpot : GoodIn wsX12_mean (va_wsS RX12 108 yX12_isSpot wsX12_isSpot) := goodIn_app (goodIn_of _ (by decide +kernel)) ggX12_mean_X12_isSpot
set_option maxRecDepth 20000 in
theorem gX12_mean_X12_within : GoodIn wsX12_mean (va_wsS RX12 77 yX12_within wsX12_within) := goodIn_app (goodIn_of _ (by decide +kernel)) ggX12_mean_X12_within
set_option maxRecDepth 20000 in
theorem gX12_mean_X2_has : GoodIn wsX12_mean (wsV RX12 150 RX2 yX2_has wsX2_has) := goodIn_app (goodIn_r _ [4, 5, 6, 7] rfl (by decide +kernel)) ggX12_mean_X2_has
set_option maxRecDepth 20000 in
theorem in_X12_mean_X12 : ∀ w ∈ wsX120, w ∈ wsX12_mean := sub_r [131, 132, 133, 134, 135, 136, 137, 138, 139, 140, 141] rfl
set_option maxHeartbeats 4000000 in
set_option maxRecDepth 100000 in
theorem c_X12_mean (l : Launch) (D : va_G) (T : Nat → ClassId) (ad sa av : Nat → Nat) (ta : Nat) (sz : Nat) (h0 : Nat) (wo : Nat) (fs0 : List Value) (la : Nat) (cl : Nat) (p0 : Nat) (p1 : Nat) (p4 : Nat) (n : Int32) (l9 : Nat → Int32) (n0 : Int32) (c1 : Nat) (c2 : Nat) (c3 : Nat) (c4 : Nat) (c5 : Nat) (c6 : Nat) (c7 : Nat) (f1 : Nat → Int32) (f2 : Nat → Int32) (f3 : Nat → Int32) (f4 : Nat → Int32) (f5 : Nat → Int32) (g0 : Nat → Int64) (g1 : Nat → Int64) (g4 : Nat → Int32) (x1 : Int32) (x2 : Int32) (x3 : Int32) (x4 : Int32) (e0_4 : fs0[4]? = some (.ref cl)) (e0_6 : fs0[6]? = some (.ref wo)) (hn0 : 0 ≤ n0.toInt ∧ n0.toInt ≤ 24) (hok : okC f1 f3 f4 f5) (hmm : memW (VALW l9 f1 f2 f3 f4 f5) n0 n g0 g1 g4) (hlq : (1 ≤ (l9 4).toInt ∧ (l9 4).toInt ≤ 9) ∧ 1 ≤ (l9 6).toInt ∧ (l9 6).toInt ≤ 9) : Met l yX12_mean wsX12_mean ({ frames := 68, cells := 0, slots := 0, locals := 2226 }) (pWk [.ref h0, .int x1, .int x2, .int x3, .int x4] D T [(h0, .inr (9, fs0)), (wo, .inr (8, [.ref la, .ref cl, .ref p0, .ref p1, .ref p4, .int n])), (la, .inr (5, [.int (l9 0), .int (l9 1), .int (l9 2), .int (l9 3), .int (l9 4), .int (l9 5), .int (l9 6)])), (cl, .inr (1, [.int n0, .ref c1, .ref c2, .ref c3, .ref c4, .ref c5, .ref c6, .ref c7])), (c1, .inl (T 0, 24, .inl f1)), (c2, .inl (T 0, 24, .inl f2)), (c3, .inl (T 0, 24, .inl f3)), (c4, .inl (T 0, 24, .inl f4)), (c5, .inl (T 0, 24, .inl f5)), (p0, .inl (T 1, 676, .inr (.inl g0))), (p1, .inl (T 1, 676, .inr (.inl g1))), (p4, .inl (T 0, 672, .inl g4))] sz ad sa av ta) (va_Ql (fun (r : Int64) (u : (Nat → Int64) × (Nat → Int64) × (Nat → Int32)) => meanQ l9 (VALW l9 f1 f2 f3 f4 f5) n0 x1 x2 x3 x4 r ∧ stW (VALW l9 f1 f2 f3 f4 f5) n0 n (fun _ => True) g0 g1 g4 u.1 u.2.1 u.2.2) (bW D (va_A [(h0, .inr (9, fs0)), (wo, .inr (8, [.ref la, .ref cl, .ref p0, .ref p1, .ref p4, .int n])), (la, .inr (5, [.int (l9 0), .int (l9 1), .int (l9 2), .int (l9 3), .int (l9 4), .int (l9 5), .int (l9 6)])), (cl, .inr (1, [.int n0, .ref c1, .ref c2, .ref c3, .ref c4, .ref c5, .ref c6, .ref c7])), (c1, .inl (T 0, 24, .inl f1)), (c2, .inl (T 0, 24, .inl f2)), (c3, .inl (T 0, 24, .inl f3)), (c4, .inl (T 0, 24, .inl f4)), (c5, .inl (T 0, 24, .inl f5)), (p0, .inl (T 1, 676, .inr (.inl g0))), (p1, .inl (T 1, 676, .inr (.inl g1))), (p4, .inl (T 0, 672, .inl g4))] sz) (fun (u : (Nat → Int64) × (Nat → Int64) × (Nat → Int32)) => [(h0, .inr (9, fs0)), (wo, .inr (8, [.ref la, .ref cl, .ref p0, .ref p1, .ref p4, .int n])), (la, .inr (5, [.int (l9 0), .int (l9 1), .int (l9 2), .int (l9 3), .int (l9 4), .int (l9 5), .int (l9 6)])), (cl, .inr (1, [.int n0, .ref c1, .ref c2, .ref c3, .ref c4, .ref c5, .ref c6, .ref c7])), (c1, .inl (T 0, 24, .inl f1)), (c2, .inl (T 0, 24, .inl f2)), (c3, .inl (T 0, 24, .inl f3)), (c4, .inl (T 0, 24, .inl f4)), (c5, .inl (T 0, 24, .inl f5)), (p0, .inl (T 1, 676, .inr (.inl u.1))), (p1, .inl (T 1, 676, .inr (.inl u.2.1))), (p4, .inl (T 0, 672, .inl u.2.2))])) (va_A [(h0, .inr (9, fs0)), (wo, .inr (8, [.ref la, .ref cl, .ref p0, .ref p1, .ref p4, .int n])), (la, .inr (5, [.int (l9 0), .int (l9 1), .int (l9 2), .int (l9 3), .int (l9 4), .int (l9 5), .int (l9 6)])), (cl, .inr (1, [.int n0, .ref c1, .ref c2, .ref c3, .ref c4, .ref c5, .ref c6, .ref c7])), (c1, .inl (T 0, 24, .inl f1)), (c2, .inl (T 0, 24, .inl f2)), (c3, .inl (T 0, 24, .inl f3)), (c4, .inl (T 0, 24, .inl f4)), (c5, .inl (T 0, 24, .inl f5)), (p0, .inl (T 1, 676, .inr (.inl g0))), (p1, .inl (T 1, 676, .inr (.inl g1))), (p4, .inl (T 0, 672, .inl g4))] sz)) 0 0 (va_A [(h0, .inr (9, fs0)), (wo, .inr (8, [.ref la, .ref cl, .ref p0, .ref p1, .ref p4, .int n])), (la, .inr (5, [.int (l9 0), .int (l9 1), .int (l9 2), .int (l9 3), .int (l9 4), .int (l9 5), .int (l9 6)])), (cl, .inr (1, [.int n0, .ref c1, .ref c2, .ref c3, .ref c4, .ref c5, .ref c6, .ref c7])), (c1, .inl (T 0, 24, .inl f1)), (c2, .inl (T 0, 24, .inl f2)), (c3, .inl (T 0, 24, .inl f3)), (c4, .inl (T 0, 24, .inl f4)), (c5, .inl (T 0, 24, .inl f5)), (p0, .inl (T 1, 676, .inr (.inl g0))), (p1, .inl (T 1, 676, .inr (.inl g1))), (p4, .inl (T 0, 672, .inl g4))] sz) := by
  refine Met.ofW (cc := cX12_mean) (maxL := 5) (ret := (some .long)) (by decide +kernel) rfl ?_
  intro p e s m args below meth c s₁ B hml hv
  obtain ⟨rfl, hsz, hP, hE, hD0, hV⟩ := hv
  have hx := B.exec
  have hb := B.bytes
  have hr := B.returns
  have hts := atoms_spec (ws := wsX12_mean) B.pre
  have hown : s.vm.findClass RX12 = some m.cls := findClass_of_methodNamed B.named
  have hlocks := B.notSynchronized
  subst hsz
  have hD := hD0.self (sz := s.heap.size)
  generalize hAe : va_A [(h0, .inr (9, fs0)), (wo, .inr (8, [.ref la, .ref cl, .ref p0, .ref p1, .ref p4, .int n])), (la, .inr (5, [.int (l9 0), .int (l9 1), .int (l9 2), .int (l9 3), .int (l9 4), .int (l9 5), .int (l9 6)])), (cl, .inr (1, [.int n0, .ref c1, .ref c2, .ref c3, .ref c4, .ref c5, .ref c6, .ref c7])), (c1, .inl (T 0, 24, .inl f1)), (c2, .inl (T 0, 24, .inl f2)), (c3, .inl (T 0, 24, .inl f3)), (c4, .inl (T 0, 24, .inl f4)), (c5, .inl (T 0, 24, .inl f5)), (p0, .inl (T 1, 676, .inr (.inl g0))), (p1, .inl (T 1, 676, .inr (.inl g1))), (p4, .inl (T 0, 672, .inl g4))] s.heap.size = A at hD hV ⊢
  have hA : ∀ q : Nat, s.heap.size ≤ q → A q := fun q h => by rw [← hAe]; exact Or.inr h
  have hS : va_S A s.heap s.heap [] := va_S.rf
  have hP : va_P D vwCl [(h0, .inr (9, fs0)), (wo, .inr (8, [.ref la, .ref cl, .ref p0, .ref p1, .ref p4, .int n])), (la, .inr (5, [.int (l9 0), .int (l9 1), .int (l9 2), .int (l9 3), .int (l9 4), .int (l9 5), .int (l9 6)])), (cl, .inr (1, [.int n0, .ref c1, .ref c2, .ref c3, .ref c4, .ref c5, .ref c6, .ref c7])), (c1, .inl (T 0, 24, .inl f1)), (c2, .inl (T 0, 24, .inl f2)), (c3, .inl (T 0, 24, .inl f3)), (c4, .inl (T 0, 24, .inl f4)), (c5, .inl (T 0, 24, .inl f5)), (p0, .inl (T 1, 676, .inr (.inl g0))), (p1, .inl (T 1, 676, .inr (.inl g1))), (p4, .inl (T 0, 672, .inl g4))] s.heap := hP
  have hl := lv_entry ([.ref h0, .int x1, .int x2, .int x3, .int x4]) (n := 5) (Nat.le_of_ble_eq_true rfl)
  rw [lg_entry_eq]
  generalize (lg_sl ([.ref h0, .int x1, .int x2, .int x3, .int x4]) ++ List.replicate (5 - (lg_sl ([.ref h0, .int x1, .int x2, .int x3, .int x4])).length) Slot.unset).toArray = ls at hl ⊢
  have hl : lv_has ls 5 [(0, .ref h0), (1, .int x1), (2, .int x2), (3, .int x3), (4, .int x4)] := hl
  clear hD0
  have hst : stW (VALW l9 f1 f2 f3 f4 f5) n0 n (fun _ => True) g0 g1 g4 g0 g1 g4 := stW_rf hmm
  refine lv_aload_n hx hb dX12_mean_0 rfl (lv_at hl 0 rfl) ?_
  refine va_get (D := D) (ci := 9) (v := .ref cl) (C := RX12) (T := TX12) (N := 11) hx hb hts in_X12_mean_X12 hown hE.1 hP 0 rfl rfl 4 (by decide +kernel) (hts (.fieldLink RX12 32 "ClauseBook" "clauses" "LClauseBook$Clauses;") (List.mem_of_getElem? (i := 1) rfl)) (fun _ h9 => h9) e0_4 dX12_mean_1 ?_
  refine lv_iload_n hx hb dX12_mean_4 rfl (lv_at hl 1 rfl) ?_
  refine vp_callSi (W.runV (As := [.int x1]) (rest := []) ⟨hx, hb, hml, hown, hts⟩ (c_X2_has l D T cl [.int n0, .ref c1, .ref c2, .ref c3, .ref c4, .ref c5, .ref c6, .ref c7] x1 n0 rfl (by omega)) (cwV 1 hts gX12_mean_X2_has rfl rfl rfl hv_X2_has ⟨Nat.le_of_ble_eq_true rfl, Nat.le_of_ble_eq_true rfl⟩) (pR_V (q := (RX2, TX2, 8)) (ci := 1) (q0 := 3) hP hE rfl rfl [3] rfl) rfl rfl hl.1 rfl (lv_room (Nat.le_of_ble_eq_true rfl)) dX12_mean_5 ⟨Nat.le_of_ble_eq_true rfl, Nat.le_of_ble_eq_true rfl⟩) (fun r_1 hr_1 => ?_)
  rcases bool_post hr_1 with ⟨c_2, rfl⟩ | ⟨c_2, rfl⟩
  · refine lv_if_eq (tgt := 35) hx hb dX12_mean_8 (by decide +kernel) (fun c9 => absurd c9 (by decide +kernel)) (fun _ => ?_)
    refine lv_iload_n hx hb dX12_mean_11 rfl (lv_at hl 2 rfl) ?_
    refine lv_iload_n hx hb dX12_mean_12 rfl (lv_at hl 3 rfl) ?_
    refine vp_callSi (W.runS (As := [.int x2, .int x3]) (rest := []) ⟨hx, hb, hml, hown, hts⟩ (c_X12_isSpot l D T x2 x3) (va_cwS 2 hts gX12_mean_X12_isSpot rfl rfl rfl hs_X12_isSpot ⟨Nat.le_of_ble_eq_true rfl, Nat.le_of_ble_eq_true rfl⟩) (pR_S hP hE [] rfl) rfl rfl hl.1 rfl (lv_room (Nat.le_of_ble_eq_true rfl)) dX12_mean_13 ⟨Nat.le_of_ble_eq_true rfl, Nat.le_of_ble_eq_true rfl⟩) (fun r_3 hr_3 => ?_)
    rcases bool_post hr_3 with ⟨c_4, rfl⟩ | ⟨c_4, rfl⟩
    · refine lv_if_eq (tgt := 35) hx hb dX12_mean_16 (by decide +kernel) (fun c9 => absurd c9 (by decide +kernel)) (fun _ => ?_)
      refine lv_iload_n hx hb dX12_mean_19 rfl (lv_at hl 2 rfl) ?_
      refine lv_bipush (v := 6) hx hb dX12_mean_20 (by decide +kernel) ?_
      refine lv_icmp_eq (tgt := 35) hx hb dX12_mean_22 (by decide +kernel) (fun c_5 => ?_) (fun c_5 => ?_)
      · rw [fa_eq] at c_5
        try rw [ti_6] at c_5
        refine lv_ldc2 (v := (-4611686018427387906)) hx hb hown (hts (.constantLong RX12 183 (-4611686018427387906)) (List.mem_of_getElem? (i := 2) rfl)) dX12_mean_35 ?_
        exact W.lret hx hb hr (fun t ht hW => ⟨⟨_, (g0, g1, g4), rfl, ⟨(show meanQ l9 (VALW l9 f1 f2 f3 f4 f5) n0 x1 x2 x3 x4 ((-4611686018427387906) : Int64) from (Or.inl ⟨(fun h9 => by obtain ⟨⟨h1, h2, h3⟩, h4, h5⟩ := h9; omega), (by decide +kernel)⟩)), hst⟩, by rw [ht]; exact hP.sub [0, 1, 2, 3, 4, 5, 6, 7, 8, 9, 10, 11] rfl, hD.sub [0, 1, 2, 3, 4, 5, 6, 7, 8, 9, 10, 11] (by decide +kernel) rfl⟩, hS.F ht⟩) hS.2.2 dX12_mean_38
      · rw [fa_eq] at c_5
        try rw [ti_6] at c_5
        refine lv_iload hx hb dX12_mean_25 (lv_at hl 4 rfl) ?_
        refine lv_iconst (v := 0) hx hb dX12_mean_27 (by decide +kernel) ?_
        refine lv_iconst (v := 1) hx hb dX12_mean_28 (by decide +kernel) ?_
        refine vp_callSi (W.runS (As := [.int x4, .int 0, .int 1]) (rest := []) ⟨hx, hb, hml, hown, hts⟩ (c_X12_within l D T x4 0 1 0 1 (by decide +kernel) (by decide +kernel)) (va_cwS 3 hts gX12_mean_X12_within rfl rfl rfl hs_X12_within ⟨Nat.le_of_ble_eq_true rfl, Nat.le_of_ble_eq_true rfl⟩) (pR_S hP hE [] rfl) rfl rfl hl.1 rfl (lv_room (Nat.le_of_ble_eq_true rfl)) dX12_mean_29 ⟨Nat.le_of_ble_eq_true rfl, Nat.le_of_ble_eq_true rfl⟩) (fun r_6 hr_6 => ?_)
        rcases bool_post hr_6 with ⟨c_7, rfl⟩ | ⟨c_7, rfl⟩
        · refine lv_if_ne (tgt := 39) hx hb dX12_mean_32 (by decide +kernel) (fun _ => ?_) (fun c9 => absurd c9 (by decide +kernel))
          refine lv_aload_n hx hb dX12_mean_39 rfl (lv_at hl 0 rfl) ?_
          refine va_get (D := D) (ci := 9) (v := .ref wo) (C := RX12) (T := TX12) (N := 11) hx hb hts in_X12_mean_X12 hown hE.1 hP 0 rfl rfl 6 (by decide +kernel) (hts (.fieldLink RX12 43 "ClauseBook" "worth" "LClauseBook$Worth;") (List.mem_of_getElem? (i := 3) rfl)) (fun _ h9 => h9) e0_6 dX12_mean_40 ?_
          refine lv_sipush (v := 674) hx hb dX12_mean_43 (by decide +kernel) ?_
          refine lv_iload_n hx hb dX12_mean_46 rfl (lv_at hl 1 rfl) ?_
          refine lv_iload_n hx hb dX12_mean_47 rfl (lv_at hl 2 rfl) ?_
          refine lv_iload_n hx hb dX12_mean_48 rfl (lv_at hl 3 rfl) ?_
          have hFc := va_free (wc := [(wo, .inr (8, [.ref la, .ref cl, .ref p0, .ref p1, .ref p4, .int n])), (la, .inr (5, [.int (l9 0), .int (l9 1), .int (l9 2), .int (l9 3), .int (l9 4), .int (l9 5), .int (l9 6)])), (cl, .inr (1, [.int n0, .ref c1, .ref c2, .ref c3, .ref c4, .ref c5, .ref c6, .ref c7])), (c1, .inl (T 0, 24, .inl f1)), (c2, .inl (T 0, 24, .inl f2)), (c3, .inl (T 0, 24, .inl f3)), (c4, .inl (T 0, 24, .inl f4)), (c5, .inl (T 0, 24, .inl f5)), (p0, .inl (T 1, 676, .inr (.inl g0))), (p1, .inl (T 1, 676, .inr (.inl g1))), (p4, .inl (T 0, 672, .inl g4))]) hD hS hA [1, 2, 3, 4, 5, 6, 7, 8, 9, 10, 11] rfl
          refine va_callv (va_runV (As := [.int 674, .int x1, .int x2, .int x3]) (rest := []) ⟨hx, hb, hml, hown, hts⟩ (s_X11_average l D T ad sa av ta _ wo la cl p0 p1 p4 n l9 n0 c1 c2 c3 c4 c5 c6 c7 f1 f2 f3 f4 f5 g0 g1 g4 30 674 x1 x2 x3 (by first | decide | omega) (by omega) (by omega) (by omega) hok (by omega) hmm hlq (by decide +kernel) (fun h9 => absurd h9 (by decide +kernel)) (by omega) (cS_all l D T ad sa av ta 30)) (cwV 4 hts gX12_mean_X11_average rfl rfl rfl hv_X11_average ⟨Nat.le_of_ble_eq_true rfl, Nat.le_of_ble_eq_true rfl⟩) (pWk_V (q := (RX11, TX11, 6)) (ci := 8) (q0 := 1) hP hE hD hV hS hFc rfl rfl [1, 2, 3, 4, 5, 6, 7, 8, 9, 10, 11] (by decide +kernel) rfl rfl) rfl rfl hl.1 rfl (lv_room (Nat.le_of_ble_eq_true rfl)) dX12_mean_49 ⟨Nat.le_of_ble_eq_true rfl, Nat.le_of_ble_eq_true rfl⟩) hS (fun q _ h => hFc q h) hFc (fun u_9 t H1 locs ht hvm hr_8 hB hz1 hk1 hS => ?_)
          obtain ⟨f_10, f_11, f_12⟩ := u_9
          have hsahr_8 : stW (VALW l9 f1 f2 f3 f4 f5) n0 n (rgA (674 : Int32) x1 x2) g0 g1 g4 f_10 f_11 f_12 := hr_8.1
          have hst : stW (VALW l9 f1 f2 f3 f4 f5) n0 n (fun _ => True) g0 g1 g4 f_10 f_11 f_12 := hst.tr hsahr_8 (fun _ _ => trivial)
          have hmm : memW (VALW l9 f1 f2 f3 f4 f5) n0 n f_10 f_11 f_12 := hst.1
          have hp_674 : (f_10 ((674 : Int32).toNatClampNeg), f_11 ((674 : Int32).toNatClampNeg)) = avgW l9 (VALW l9 f1 f2 f3 f4 f5) x1 x2 x3 := hr_8.2.1
          obtain ⟨hP1, hD1⟩ := hB
          rw [ht] at hP1
          obtain ⟨hP, hD⟩ := va_repl [(h0, .inr (9, fs0)), (wo, .inr (8, [.ref la, .ref cl, .ref p0, .ref p1, .ref p4, .int n])), (la, .inr (5, [.int (l9 0), .int (l9 1), .int (l9 2), .int (l9 3), .int (l9 4), .int (l9 5), .int (l9 6)])), (cl, .inr (1, [.int n0, .ref c1, .ref c2, .ref c3, .ref c4, .ref c5, .ref c6, .ref c7])), (c1, .inl (T 0, 24, .inl f1)), (c2, .inl (T 0, 24, .inl f2)), (c3, .inl (T 0, 24, .inl f3)), (c4, .inl (T 0, 24, .inl f4)), (c5, .inl (T 0, 24, .inl f5)), (p0, .inl (T 1, 676, .inr (.inl f_10))), (p1, .inl (T 1, 676, .inr (.inl f_11))), (p4, .inl (T 0, 672, .inl f_12))] hP hD [1, 2, 3, 4, 5, 6, 7, 8, 9, 10, 11] [1, 2, 3, 4, 5, 6, 7, 8, 9, 10, 11] rfl (by decide +kernel) rfl rfl rfl hk1 hP1
          clear hP1 hD1 hFc
          generalize H1 = H at hP hS ⊢
          refine lv_aload_n hx hb dX12_mean_52 rfl (lv_at hl 0 rfl) ?_
          refine va_get (D := D) (ci := 9) (v := .ref wo) (C := RX12) (T := TX12) (N := 11) hx hb hts in_X12_mean_X12 hown hE.1 hP 0 rfl rfl 6 (by decide +kernel) (hts (.fieldLink RX12 43 "ClauseBook" "worth" "LClauseBook$Worth;") (List.mem_of_getElem? (i := 3) rfl)) (fun _ h9 => h9) e0_6 dX12_mean_53 ?_
          refine lv_sipush (v := 674) hx hb dX12_mean_56 (by decide +kernel) ?_
          refine lv_iload hx hb dX12_mean_59 (lv_at hl 4 rfl) ?_
          refine vp_callSl (W.runV (As := [.int 674, .int x4]) (rest := []) ⟨hx, hb, hml, hown, hts⟩ (c_X11_partOf l D T wo [.ref la, .ref cl, .ref p0, .ref p1, .ref p4, .int n] p1 f_11 p0 f_10 674 x4 rfl rfl (by first | decide | omega)) (cwV 2 hts gX12_mean_X11_partOf rfl rfl rfl hv_X11_partOf ⟨Nat.le_of_ble_eq_true rfl, Nat.le_of_ble_eq_true rfl⟩) (pR_V (q := (RX11, TX11, 6)) (ci := 8) (q0 := 1) hP hE rfl rfl [1, 10, 9] rfl) rfl rfl hl.1 rfl (lv_room (Nat.le_of_ble_eq_true rfl)) dX12_mean_61 ⟨Nat.le_of_ble_eq_true rfl, Nat.le_of_ble_eq_true rfl⟩) (fun r_13 hr_13 => ?_)
          exact W.lret hx hb hr (fun t ht hW => ⟨⟨_, (f_10, f_11, f_12), rfl, ⟨(show meanQ l9 (VALW l9 f1 f2 f3 f4 f5) n0 x1 x2 x3 x4 r_13 from (Or.inr ⟨⟨⟨(by omega), (by omega), (by omega)⟩, (by omega), (by omega)⟩, partW_of hp_674 hr_13⟩)), hst⟩, by rw [ht]; exact hP.sub [0, 1, 2, 3, 4, 5, 6, 7, 8, 9, 10, 11] rfl, hD.sub [0, 1, 2, 3, 4, 5, 6, 7, 8, 9, 10, 11] (by decide +kernel) rfl⟩, hS.F ht⟩) hS.2.2 dX12_mean_64
        · refine lv_if_ne (tgt := 39) hx hb dX12_mean_32 (by decide +kernel) (fun c9 => absurd c9 (by decide +kernel)) (fun _ => ?_)
          refine lv_ldc2 (v := (-4611686018427387906)) hx hb hown (hts (.constantLong RX12 183 (-4611686018427387906)) (List.mem_of_getElem? (i := 2) rfl)) dX12_mean_35 ?_
          exact W.lret hx hb hr (fun t ht hW => ⟨⟨_, (g0, g1, g4), rfl, ⟨(show meanQ l9 (VALW l9 f1 f2 f3 f4 f5) n0 x1 x2 x3 x4 ((-4611686018427387906) : Int64) from (Or.inl ⟨(fun h9 => by obtain ⟨⟨h1, h2, h3⟩, h4, h5⟩ := h9; omega), (by decide +kernel)⟩)), hst⟩, by rw [ht]; exact hP.sub [0, 1, 2, 3, 4, 5, 6, 7, 8, 9, 10, 11] rfl, hD.sub [0, 1, 2, 3, 4, 5, 6, 7, 8, 9, 10, 11] (by decide +kernel) rfl⟩, hS.F ht⟩) hS.2.2 dX12_mean_38
    · refine lv_if_eq (tgt := 35) hx hb dX12_mean_16 (by decide +kernel) (fun _ => ?_) (fun c9 => absurd c9 (by decide +kernel))
      refine lv_ldc2 (v := (-4611686018427387906)) hx hb hown (hts (.constantLong RX12 183 (-4611686018427387906)) (List.mem_of_getElem? (i := 2) rfl)) dX12_mean_35 ?_
      exact W.lret hx hb hr (fun t ht hW => ⟨⟨_, (g0, g1, g4), rfl, ⟨(show meanQ l9 (VALW l9 f1 f2 f3 f4 f5) n0 x1 x2 x3 x4 ((-4611686018427387906) : Int64) from (Or.inl ⟨(fun h9 => by obtain ⟨⟨h1, h2, h3⟩, h4, h5⟩ := h9; omega), (by decide +kernel)⟩)), hst⟩, by rw [ht]; exact hP.sub [0, 1, 2, 3, 4, 5, 6, 7, 8, 9, 10, 11] rfl, hD.sub [0, 1, 2, 3, 4, 5, 6, 7, 8, 9, 10, 11] (by decide +kernel) rfl⟩, hS.F ht⟩) hS.2.2 dX12_mean_38
  · refine lv_if_eq (tgt := 35) hx hb dX12_mean_8 (by decide +kernel) (fun _ => ?_) (fun c9 => absurd c9 (by decide +kernel))
    refine lv_ldc2 (v := (-4611686018427387906)) hx hb hown (hts (.constantLong RX12 183 (-4611686018427387906)) (List.mem_of_getElem? (i := 2) rfl)) dX12_mean_35 ?_
    exact W.lret hx hb hr (fun t ht hW => ⟨⟨_, (g0, g1, g4), rfl, ⟨(show meanQ l9 (VALW l9 f1 f2 f3 f4 f5) n0 x1 x2 x3 x4 ((-4611686018427387906) : Int64) from (Or.inl ⟨(fun h9 => by obtain ⟨⟨h1, h2, h3⟩, h4, h5⟩ := h9; omega), (by decide +kernel)⟩)), hst⟩, by rw [ht]; exact hP.sub [0, 1, 2, 3, 4, 5, 6, 7, 8, 9, 10, 11] rfl, hD.sub [0, 1, 2, 3, 4, 5, 6, 7, 8, 9, 10, 11] (by decide +kernel) rfl⟩, hS.F ht⟩) hS.2.2 dX12_mean_38
theorem dX12_chosen_0 : decode cX12_chosen 0 = .ok (.aload_n 0, 1) := by decide +kernel
theorem dX12_chosen_1 : decode cX12_chosen 1 = .ok (.getfield 32, 3) := by decide +kernel
theorem dX12_chosen_11 : decode cX12_chosen 11 = .ok (.iload_n 2, 1) := by decide +kernel
theorem dX12_chosen_12 : decode cX12_chosen 12 = .ok (.iload_n 3, 1) := by decide +kernel
theorem dX12_chosen_13 : decode cX12_chosen 13 = .ok (.invokestatic 108, 3) := by decide +kernel
theorem dX12_chosen_16 : decode cX12_chosen 16 = .ok (.ifCond .ne 6, 3) := by decide +kernel
theorem dX12_chosen_19 : decode cX12_chosen 19 = .ok (.bipush (-2), 2) := by decide +kernel
theorem dX12_chosen_21 : decode cX12_chosen 21 = .ok (.ireturn, 1) := by decide +kernel
theorem dX12_chosen_22 : decode cX12_chosen 22 = .ok (.aload_n 0, 1) := by decide +kernel
theorem dX12_chosen_23 : decode cX12_chosen 23 = .ok (.getfield 32, 3) := by decide +kernel
theorem dX12_chosen_26 : decode cX12_chosen 26 = .ok (.iload_n 1, 1) := by decide +kernel
theorem dX12_chosen_27 : decode cX12_chosen 27 = .ok (.invokevirtual 175, 3) := by decide +kernel
theorem dX12_chosen_30 : decode cX12_chosen 30 = .ok (.astore 4, 2) := by decide +kernel
theorem dX12_chosen_32 : decode cX12_chosen 32 = .ok (.aload 4, 2) := by decide +kernel
theorem dX12_chosen_34 : decode cX12_chosen 34 = .ok (.getstatic 231, 3) := by decide +kernel
theorem dX12_chosen_37 : decode cX12_chosen 37 = .ok (.if_acmp .eq 14, 3) := by decide +kernel
theorem dX12_chosen_4 : decode cX12_chosen 4 = .ok (.iload_n 1, 1) := by decide +kernel
theorem dX12_chosen_40 : decode cX12_chosen 40 = .ok (.aload 4, 2) := by decide +kernel
theorem dX12_chosen_42 : decode cX12_chosen 42 = .ok (.getstatic 235, 3) := by decide +kernel
theorem dX12_chosen_45 : decode cX12_chosen 45 = .ok (.if_acmp .eq 6, 3) := by decide +kernel
theorem dX12_chosen_48 : decode cX12_chosen 48 = .ok (.bipush (-2), 2) := by decide +kernel
theorem dX12_chosen_5 : decode cX12_chosen 5 = .ok (.invokevirtual 150, 3) := by decide +kernel
theorem dX12_chosen_50 : decode cX12_chosen 50 = .ok (.ireturn, 1) := by decide +kernel
theorem dX12_chosen_51 : decode cX12_chosen 51 = .ok (.iload_n 2, 1) := by decide +kernel
theorem dX12_chosen_52 : decode cX12_chosen 52 = .ok (.aload_n 0, 1) := by decide +kernel
theorem dX12_chosen_53 : decode cX12_chosen 53 = .ok (.getfield 32, 3) := by decide +kernel
theorem dX12_chosen_56 : decode cX12_chosen 56 = .ok (.getfield 166, 3) := by decide +kernel
theorem dX12_chosen_59 : decode cX12_chosen 59 = .ok (.iload_n 1, 1) := by decide +kernel
theorem dX12_chosen_60 : decode cX12_chosen 60 = .ok (.iaload, 1) := by decide +kernel
theorem dX12_chosen_61 : decode cX12_chosen 61 = .ok (.if_icmp .le 6, 3) := by decide +kernel
theorem dX12_chosen_64 : decode cX12_chosen 64 = .ok (.bipush (-3), 2) := by decide +kernel
theorem dX12_chosen_66 : decode cX12_chosen 66 = .ok (.ireturn, 1) := by decide +kernel
theorem dX12_chosen_67 : decode cX12_chosen 67 = .ok (.aload_n 0, 1) := by decide +kernel
theorem dX12_chosen_68 : decode cX12_chosen 68 = .ok (.getfield 43, 3) := by decide +kernel
theorem dX12_chosen_71 : decode cX12_chosen 71 = .ok (.iload_n 1, 1) := by decide +kernel
theorem dX12_chosen_72 : decode cX12_chosen 72 = .ok (.iload_n 2, 1) := by decide +kernel
theorem dX12_chosen_73 : decode cX12_chosen 73 = .ok (.iload_n 3, 1) := by decide +kernel
theorem dX12_chosen_74 : decode cX12_chosen 74 = .ok (.invokevirtual 238, 3) := by decide +kernel
theorem dX12_chosen_77 : decode cX12_chosen 77 = .ok (.ireturn, 1) := by decide +kernel
theorem dX12_chosen_8 : decode cX12_chosen 8 = .ok (.ifCond .eq 11, 3) := by decide +kernel
set_option maxRecDepth 40000 in
theorem ggX12_chosen_X11_picked_0 : GoodIn wsX12_chosen [.code yX11_picked cX11_picked 10 (some .int)] := goodIn_r _ [31] rfl (by decide +kernel)
set_option maxRecDepth 40000 in
theorem ggX12_chosen_X11_picked_1 : GoodIn wsX12_chosen wsX11_picked_r1 := goodIn_r _ [32, 33, 34, 35, 36, 37, 38, 39, 40, 41, 42, 23, 24, 9, 25, 26, 43, 44, 45, 46, 47, 48, 49, 50] rfl (by decide +kernel)
set_option maxRecDepth 40000 in
theorem ggX12_chosen_X11_picked_2 : GoodIn wsX12_chosen wsX11_picked_r2 := goodIn_r _ [51, 52, 53, 30, 54, 55, 56, 57, 58, 59, 60, 61, 62, 63, 64, 65, 66, 67, 68, 69, 70, 71, 72, 73] rfl (by decide +kernel)
set_option maxRecDepth 40000 in
theorem ggX12_chosen_X11_picked_3 : GoodIn wsX12_chosen wsX11_picked_r3 := goodIn_r _ [74, 75, 76, 77, 78, 79, 80, 81, 82, 83, 84, 85, 86, 87, 88, 89, 90, 91, 92, 93, 94, 95, 96, 97] rfl (by decide +kernel)
set_option maxRecDepth 40000 in
theorem ggX12_chosen_X11_picked_4 : GoodIn wsX12_chosen wsX11_picked_r4 := goodIn_r _ [98, 99, 100, 101, 102, 103, 104, 105, 106, 107, 108, 109, 110, 111, 112, 113, 114, 115, 116, 117, 118, 119, 120, 121] rfl (by decide +kernel)
set_option maxRecDepth 40000 in
theorem ggX12_chosen_X11_picked_5 : GoodIn wsX12_chosen wsX11_picked_r5 := goodIn_r _ [122, 123, 124, 125, 126, 127, 128, 28, 29] rfl (by decide +kernel)
set_option maxRecDepth 40000 in
theorem ggX12_chosen_X11_picked_6 : GoodIn wsX12_chosen wsX110 := goodIn_r _ [148, 149, 150, 151, 152, 153] rfl (by decide +kernel)
set_option maxRecDepth 40000 in
theorem ggX12_chosen_X11_picked_7 : GoodIn wsX12_chosen wsX80 := goodIn_r _ [154, 155, 156, 157, 158, 159, 160] rfl (by decide +kernel)
set_option maxRecDepth 40000 in
theorem ggX12_chosen_X11_picked_8 : GoodIn wsX12_chosen wsX20 := goodIn_r _ [140, 141, 142, 143, 144, 145, 146, 147] rfl (by decide +kernel)
set_option maxRecDepth 40000 in
theorem ggX12_chosen_X11_picked : GoodIn wsX12_chosen wsX11_picked := (goodIn_app ggX12_chosen_X11_picked_0 (goodIn_app (goodIn_app (goodIn_app (goodIn_app ggX12_chosen_X11_picked_1 (goodIn_app ggX12_chosen_X11_picked_2 (goodIn_app ggX12_chosen_X11_picked_3 (goodIn_app ggX12_chosen_X11_picked_4 ggX12_chosen_X11_picked_5)))) ggX12_chosen_X11_picked_6) ggX12_chosen_X11_picked_7) ggX12_chosen_X11_picked_8))
set_option maxRecDepth 20000 in
theorem ggX12_chosen_X12_isSpot : GoodIn wsX12_chosen wsX12_isSpot := goodIn_r _ [17, 18, 19, 13, 20, 21, 12, 14] rfl (by decide +kernel)
set_option maxRecDepth 20000 in
theorem ggX12_chosen_X2_has : GoodIn wsX12_chosen wsX2_has := goodIn_r _ [10, 11, 12, 13, 14, 140, 141, 142, 143, 144, 145, 146, 147] rfl (by decide +kernel)
set_option maxRecDepth 20000 in
theorem ggX12_chosen_X2_kindOf : GoodIn wsX12_chosen wsX2_kindOf := goodIn_r _ [25, 26, 140, 141, 142, 143, 144, 145, 146, 147] rfl (by decide +kernel)
set_option maxRecDepth 20000 in
theorem gX12_chosen_X11_picked : GoodIn wsX12_chosen (wsV RX12 238 RX11 yX11_picked wsX11_picked) := goodIn_app (goodIn_r _ [27, 28, 29, 30] rfl (by decide +kernel)) ggX12_chosen_X11_picked
set_option maxRecDepth 20000 in
theorem gX12_chosen_X12_isSpot : GoodIn wsX12_chosen (va_wsS RX12 108 yX12_isSpot wsX12_isSpot) := goodIn_app (goodIn_of _ (by decide +kernel)) ggX12_chosen_X12_isSpot
set_option maxRecDepth 20000 in
theorem gX12_chosen_X2_has : GoodIn wsX12_chosen (wsV RX12 150 RX2 yX2_has wsX2_has) := goodIn_app (goodIn_r _ [6, 7, 8, 9] rfl (by decide +kernel)) ggX12_chosen_X2_has
set_option maxRecDepth 20000 in
theorem gX12_chosen_X2_kindOf : GoodIn wsX12_chosen (wsV RX12 175 RX2 yX2_kindOf wsX2_kindOf) := goodIn_app (goodIn_r _ [22, 23, 24, 9] rfl (by decide +kernel)) ggX12_chosen_X2_kindOf
set_option maxRecDepth 20000 in
theorem in_X12_chosen_X12 : ∀ w ∈ wsX120, w ∈ wsX12_chosen := sub_r [129, 130, 131, 132, 133, 134, 135, 136, 137, 138, 139] rfl
set_option maxRecDepth 20000 in
theorem in_X12_chosen_X2 : ∀ w ∈ wsX20, w ∈ wsX12_chosen := sub_r [140, 141, 142, 143, 144, 145, 146, 147] rfl
set_option maxHeartbeats 4000000 in
set_option maxRecDepth 100000 in
theorem c_X12_chosen (l : Launch) (D : va_G) (T : Nat → ClassId) (ad sa av : Nat → Nat) (ta : Nat) (sz : Nat) (h0 : Nat) (wo : Nat) (fs0 : List Value) (la : Nat) (cl : Nat) (p0 : Nat) (p1 : Nat) (p4 : Nat) (n : Int32) (l9 : Nat → Int32) (n0 : Int32) (c1 : Nat) (c2 : Nat) (c3 : Nat) (c4 : Nat) (c5 : Nat) (c6 : Nat) (c7 : Nat) (f1 : Nat → Int32) (f2 : Nat → Int32) (f3 : Nat → Int32) (f4 : Nat → Int32) (f5 : Nat → Int32) (g0 : Nat → Int64) (g1 : Nat → Int64) (g4 : Nat → Int32) (x1 : Int32) (x2 : Int32) (x3 : Int32) (e0_4 : fs0[4]? = some (.ref cl)) (e0_6 : fs0[6]? = some (.ref wo)) (hn0 : 0 ≤ n0.toInt ∧ n0.toInt ≤ 24) (hok : okC f1 f3 f4 f5) (hmm : memW (VALW l9 f1 f2 f3 f4 f5) n0 n g0 g1 g4) (hlq : (1 ≤ (l9 4).toInt ∧ (l9 4).toInt ≤ 9) ∧ 1 ≤ (l9 6).toInt ∧ (l9 6).toInt ≤ 9) : Met l yX12_chosen wsX12_chosen ({ frames := 68, cells := 0, slots := 0, locals := 2229 }) (pWk [.ref h0, .int x1, .int x2, .int x3] D T [(h0, .inr (9, fs0)), (wo, .inr (8, [.ref la, .ref cl, .ref p0, .ref p1, .ref p4, .int n])), (la, .inr (5, [.int (l9 0), .int (l9 1), .int (l9 2), .int (l9 3), .int (l9 4), .int (l9 5), .int (l9 6)])), (cl, .inr (1, [.int n0, .ref c1, .ref c2, .ref c3, .ref c4, .ref c5, .ref c6, .ref c7])), (c1, .inl (T 0, 24, .inl f1)), (c2, .inl (T 0, 24, .inl f2)), (c3, .inl (T 0, 24, .inl f3)), (c4, .inl (T 0, 24, .inl f4)), (c5, .inl (T 0, 24, .inl f5)), (p0, .inl (T 1, 676, .inr (.inl g0))), (p1, .inl (T 1, 676, .inr (.inl g1))), (p4, .inl (T 0, 672, .inl g4))] sz ad sa av ta) (va_Qi (fun (r : Int32) (u : (Nat → Int64) × (Nat → Int64) × (Nat → Int32)) => chQ l9 f1 f2 f3 f4 f5 (VALW l9 f1 f2 f3 f4 f5) n0 x1 x2 x3 r ∧ stW (VALW l9 f1 f2 f3 f4 f5) n0 n (fun _ => True) g0 g1 g4 u.1 u.2.1 u.2.2) (bW D (va_A [(h0, .inr (9, fs0)), (wo, .inr (8, [.ref la, .ref cl, .ref p0, .ref p1, .ref p4, .int n])), (la, .inr (5, [.int (l9 0), .int (l9 1), .int (l9 2), .int (l9 3), .int (l9 4), .int (l9 5), .int (l9 6)])), (cl, .inr (1, [.int n0, .ref c1, .ref c2, .ref c3, .ref c4, .ref c5, .ref c6, .ref c7])), (c1, .inl (T 0, 24, .inl f1)), (c2, .inl (T 0, 24, .inl f2)), (c3, .inl (T 0, 24, .inl f3)), (c4, .inl (T 0, 24, .inl f4)), (c5, .inl (T 0, 24, .inl f5)), (p0, .inl (T 1, 676, .inr (.inl g0))), (p1, .inl (T 1, 676, .inr (.inl g1))), (p4, .inl (T 0, 672, .inl g4))] sz) (fun (u : (Nat → Int64) × (Nat → Int64) × (Nat → Int32)) => [(h0, .inr (9, fs0)), (wo, .inr (8, [.ref la, .ref cl, .ref p0, .ref p1, .ref p4, .int n])), (la, .inr (5, [.int (l9 0), .int (l9 1), .int (l9 2), .int (l9 3), .int (l9 4), .int (l9 5), .int (l9 6)])), (cl, .inr (1, [.int n0, .ref c1, .ref c2, .ref c3, .ref c4, .ref c5, .ref c6, .ref c7])), (c1, .inl (T 0, 24, .inl f1)), (c2, .inl (T 0, 24, .inl f2)), (c3, .inl (T 0, 24, .inl f3)), (c4, .inl (T 0, 24, .inl f4)), (c5, .inl (T 0, 24, .inl f5)), (p0, .inl (T 1, 676, .inr (.inl u.1))), (p1, .inl (T 1, 676, .inr (.inl u.2.1))), (p4, .inl (T 0, 672, .inl u.2.2))])) (va_A [(h0, .inr (9, fs0)), (wo, .inr (8, [.ref la, .ref cl, .ref p0, .ref p1, .ref p4, .int n])), (la, .inr (5, [.int (l9 0), .int (l9 1), .int (l9 2), .int (l9 3), .int (l9 4), .int (l9 5), .int (l9 6)])), (cl, .inr (1, [.int n0, .ref c1, .ref c2, .ref c3, .ref c4, .ref c5, .ref c6, .ref c7])), (c1, .inl (T 0, 24, .inl f1)), (c2, .inl (T 0, 24, .inl f2)), (c3, .inl (T 0, 24, .inl f3)), (c4, .inl (T 0, 24, .inl f4)), (c5, .inl (T 0, 24, .inl f5)), (p0, .inl (T 1, 676, .inr (.inl g0))), (p1, .inl (T 1, 676, .inr (.inl g1))), (p4, .inl (T 0, 672, .inl g4))] sz)) 0 0 (va_A [(h0, .inr (9, fs0)), (wo, .inr (8, [.ref la, .ref cl, .ref p0, .ref p1, .ref p4, .int n])), (la, .inr (5, [.int (l9 0), .int (l9 1), .int (l9 2), .int (l9 3), .int (l9 4), .int (l9 5), .int (l9 6)])), (cl, .inr (1, [.int n0, .ref c1, .ref c2, .ref c3, .ref c4, .ref c5, .ref c6, .ref c7])), (c1, .inl (T 0, 24, .inl f1)), (c2, .inl (T 0, 24, .inl f2)), (c3, .inl (T 0, 24, .inl f3)), (c4, .inl (T 0, 24, .inl f4)), (c5, .inl (T 0, 24, .inl f5)), (p0, .inl (T 1, 676, .inr (.inl g0))), (p1, .inl (T 1, 676, .inr (.inl g1))), (p4, .inl (T 0, 672, .inl g4))] sz) := by
  refine Met.ofW (cc := cX12_chosen) (maxL := 5) (ret := (some .int)) (by decide +kernel) rfl ?_
  intro p e s m args below meth c s₁ B hml hv
  obtain ⟨rfl, hsz, hP, hE, hD0, hV⟩ := hv
  have hx := B.exec
  have hb := B.bytes
  have hr := B.returns
  have hts := atoms_spec (ws := wsX12_chosen) B.pre
  have hown : s.vm.findClass RX12 = some m.cls := findClass_of_methodNamed B.named
  have hlocks := B.notSynchronized
  subst hsz
  have hD := hD0.self (sz := s.heap.size)
  generalize hAe : va_A [(h0, .inr (9, fs0)), (wo, .inr (8, [.ref la, .ref cl, .ref p0, .ref p1, .ref p4, .int n])), (la, .inr (5, [.int (l9 0), .int (l9 1), .int (l9 2), .int (l9 3), .int (l9 4), .int (l9 5), .int (l9 6)])), (cl, .inr (1, [.int n0, .ref c1, .ref c2, .ref c3, .ref c4, .ref c5, .ref c6, .ref c7])), (c1, .inl (T 0, 24, .inl f1)), (c2, .inl (T 0, 24, .inl f2)), (c3, .inl (T 0, 24, .inl f3)), (c4, .inl (T 0, 24, .inl f4)), (c5, .inl (T 0, 24, .inl f5)), (p0, .inl (T 1, 676, .inr (.inl g0))), (p1, .inl (T 1, 676, .inr (.inl g1))), (p4, .inl (T 0, 672, .inl g4))] s.heap.size = A at hD hV ⊢
  have hA : ∀ q : Nat, s.heap.size ≤ q → A q := fun q h => by rw [← hAe]; exact Or.inr h
  have hS : va_S A s.heap s.heap [] := va_S.rf
  have hP : va_P D vwCl [(h0, .inr (9, fs0)), (wo, .inr (8, [.ref la, .ref cl, .ref p0, .ref p1, .ref p4, .int n])), (la, .inr (5, [.int (l9 0), .int (l9 1), .int (l9 2), .int (l9 3), .int (l9 4), .int (l9 5), .int (l9 6)])), (cl, .inr (1, [.int n0, .ref c1, .ref c2, .ref c3, .ref c4, .ref c5, .ref c6, .ref c7])), (c1, .inl (T 0, 24, .inl f1)), (c2, .inl (T 0, 24, .inl f2)), (c3, .inl (T 0, 24, .inl f3)), (c4, .inl (T 0, 24, .inl f4)), (c5, .inl (T 0, 24, .inl f5)), (p0, .inl (T 1, 676, .inr (.inl g0))), (p1, .inl (T 1, 676, .inr (.inl g1))), (p4, .inl (T 0, 672, .inl g4))] s.heap := hP
  have hl := lv_entry ([.ref h0, .int x1, .int x2, .int x3]) (n := 5) (Nat.le_of_ble_eq_true rfl)
  rw [lg_entry_eq]
  generalize (lg_sl ([.ref h0, .int x1, .int x2, .int x3]) ++ List.replicate (5 - (lg_sl ([.ref h0, .int x1, .int x2, .int x3])).length) Slot.unset).toArray = ls at hl ⊢
  have hl : lv_has ls 5 [(0, .ref h0), (1, .int x1), (2, .int x2), (3, .int x3)] := hl
  clear hD0
  have hst : stW (VALW l9 f1 f2 f3 f4 f5) n0 n (fun _ => True) g0 g1 g4 g0 g1 g4 := stW_rf hmm
  refine lv_aload_n hx hb dX12_chosen_0 rfl (lv_at hl 0 rfl) ?_
  refine va_get (D := D) (ci := 9) (v := .ref cl) (C := RX12) (T := TX12) (N := 11) hx hb hts in_X12_chosen_X12 hown hE.1 hP 0 rfl rfl 4 (by decide +kernel) (hts (.fieldLink RX12 32 "ClauseBook" "clauses" "LClauseBook$Clauses;") (List.mem_of_getElem? (i := 1) rfl)) (fun _ h9 => h9) e0_4 dX12_chosen_1 ?_
  refine lv_iload_n hx hb dX12_chosen_4 rfl (lv_at hl 1 rfl) ?_
  refine vp_callSi (W.runV (As := [.int x1]) (rest := []) ⟨hx, hb, hml, hown, hts⟩ (c_X2_has l D T cl [.int n0, .ref c1, .ref c2, .ref c3, .ref c4, .ref c5, .ref c6, .ref c7] x1 n0 rfl (by omega)) (cwV 1 hts gX12_chosen_X2_has rfl rfl rfl hv_X2_has ⟨Nat.le_of_ble_eq_true rfl, Nat.le_of_ble_eq_true rfl⟩) (pR_V (q := (RX2, TX2, 8)) (ci := 1) (q0 := 3) hP hE rfl rfl [3] rfl) rfl rfl hl.1 rfl (lv_room (Nat.le_of_ble_eq_true rfl)) dX12_chosen_5 ⟨Nat.le_of_ble_eq_true rfl, Nat.le_of_ble_eq_true rfl⟩) (fun r_1 hr_1 => ?_)
  rcases bool_post hr_1 with ⟨c_2, rfl⟩ | ⟨c_2, rfl⟩
  · refine lv_if_eq (tgt := 19) hx hb dX12_chosen_8 (by decide +kernel) (fun c9 => absurd c9 (by decide +kernel)) (fun _ => ?_)
    refine lv_iload_n hx hb dX12_chosen_11 rfl (lv_at hl 2 rfl) ?_
    refine lv_iload_n hx hb dX12_chosen_12 rfl (lv_at hl 3 rfl) ?_
    refine vp_callSi (W.runS (As := [.int x2, .int x3]) (rest := []) ⟨hx, hb, hml, hown, hts⟩ (c_X12_isSpot l D T x2 x3) (va_cwS 2 hts gX12_chosen_X12_isSpot rfl rfl rfl hs_X12_isSpot ⟨Nat.le_of_ble_eq_true rfl, Nat.le_of_ble_eq_true rfl⟩) (pR_S hP hE [] rfl) rfl rfl hl.1 rfl (lv_room (Nat.le_of_ble_eq_true rfl)) dX12_chosen_13 ⟨Nat.le_of_ble_eq_true rfl, Nat.le_of_ble_eq_true rfl⟩) (fun r_3 hr_3 => ?_)
    rcases bool_post hr_3 with ⟨c_4, rfl⟩ | ⟨c_4, rfl⟩
    · refine lv_if_ne (tgt := 22) hx hb dX12_chosen_16 (by decide +kernel) (fun _ => ?_) (fun c9 => absurd c9 (by decide +kernel))
      refine lv_aload_n hx hb dX12_chosen_22 rfl (lv_at hl 0 rfl) ?_
      refine va_get (D := D) (ci := 9) (v := .ref cl) (C := RX12) (T := TX12) (N := 11) hx hb hts in_X12_chosen_X12 hown hE.1 hP 0 rfl rfl 4 (by decide +kernel) (hts (.fieldLink RX12 32 "ClauseBook" "clauses" "LClauseBook$Clauses;") (List.mem_of_getElem? (i := 1) rfl)) (fun _ h9 => h9) e0_4 dX12_chosen_23 ?_
      refine lv_iload_n hx hb dX12_chosen_26 rfl (lv_at hl 1 rfl) ?_
      refine va_cse (W.runV (As := [.int x1]) (rest := []) ⟨hx, hb, hml, hown, hts⟩ (c_X2_kindOf l D T ad sa av ta cl [.int n0, .ref c1, .ref c2, .ref c3, .ref c4, .ref c5, .ref c6, .ref c7] c1 f1 x1 rfl (by omega) ((hok _ (in24 (x := x1) (by omega)).1).1)) (cwV 1 hts gX12_chosen_X2_kindOf rfl rfl rfl hv_X2_kindOf ⟨Nat.le_of_ble_eq_true rfl, Nat.le_of_ble_eq_true rfl⟩) (pRk_V (q := (RX2, TX2, 8)) (ci := 1) (q0 := 3) hP hE hV hS rfl rfl [3, 4] rfl) rfl rfl hl.1 rfl (lv_room (Nat.le_of_ble_eq_true rfl)) dX12_chosen_27 ⟨Nat.le_of_ble_eq_true rfl, Nat.le_of_ble_eq_true rfl⟩) (fun r_5 hr_5 => ?_)
      subst hr_5
      refine W.eq (g2 := F0 m 30 ls [.ref (ad ((f1 (x1.toNatClampNeg)).toNatClampNeg))]) rfl ?_
      refine lv_astore (lv' := [(4, .ref (ad ((f1 (x1.toNatClampNeg)).toNatClampNeg))), (0, .ref h0), (1, .int x1), (2, .int x2), (3, .int x3)]) hx hb dX12_chosen_30 hl (by decide +kernel) rfl (fun ls hl => ?_)
      refine lv_aload hx hb dX12_chosen_32 (lv_at hl 0 rfl) ?_
      refine va_gets (v := .ref (ad 6)) hx hb (hV.1.1.1 6 (by decide +kernel)).1 hS hown (hts (.fieldLink RX12 231 "ClauseBook$Kind" "BETTER" "LClauseBook$Kind;") (List.mem_of_getElem? (i := 2) rfl)) (fun _ h9 => h9) dX12_chosen_34 ?_
      refine lv_acmp_eq (rx := some (ad ((f1 (x1.toNatClampNeg)).toNatClampNeg))) (ry := some (ad 6)) (tgt := 51) hx hb dX12_chosen_37 (by decide +kernel) (fun c_6 => ?_) (fun c_6 => ?_)
      · have hkc : ((f1 (x1.toNatClampNeg)).toNatClampNeg) = 6 := (hV.1.1.2 _ 6 (in13c ((hok _ (in24 (x := x1) (by omega)).1).1)) (by decide +kernel) (Option.some.inj c_6))
        refine lv_iload_n hx hb dX12_chosen_51 rfl (lv_at hl 3 rfl) ?_
        refine lv_aload_n hx hb dX12_chosen_52 rfl (lv_at hl 1 rfl) ?_
        refine va_get (D := D) (ci := 9) (v := .ref cl) (C := RX12) (T := TX12) (N := 11) hx hb hts in_X12_chosen_X12 hown hE.1 hP 0 rfl rfl 4 (by decide +kernel) (hts (.fieldLink RX12 32 "ClauseBook" "clauses" "LClauseBook$Clauses;") (List.mem_of_getElem? (i := 1) rfl)) (fun _ h9 => h9) e0_4 dX12_chosen_53 ?_
        refine va_get (D := D) (ci := 1) (v := .ref c5) (C := RX2) (T := TX2) (N := 8) hx hb hts in_X12_chosen_X2 hown hE.1 hP 3 rfl rfl 5 (by decide +kernel) (hts (.fieldLink RX12 166 "ClauseBook$Clauses" "end" "[I") (List.mem_of_getElem? (i := 4) rfl)) (fun _ h9 => h9) rfl dX12_chosen_56 ?_
        refine lv_iload_n hx hb dX12_chosen_59 rfl (lv_at hl 2 rfl) ?_
        refine va_iald hx hb hE.1 hP 8 0 rfl rfl (by rw [vp_in_iff]; first | omega | (subst_vars; omega)) dX12_chosen_60 ?_
        refine lv_topi (fun z_7 ez_7 => ?_)
        have hzz_7 : z_7.toInt = (f5 (x1.toNatClampNeg)).toInt := by rw [ez_7]
        refine lv_icmp_le (tgt := 67) hx hb dX12_chosen_61 (by decide +kernel) (fun c_8 => ?_) (fun c_8 => ?_)
        · rw [fa_le] at c_8
          refine lv_aload_n hx hb dX12_chosen_67 rfl (lv_at hl 1 rfl) ?_
          refine va_get (D := D) (ci := 9) (v := .ref wo) (C := RX12) (T := TX12) (N := 11) hx hb hts in_X12_chosen_X12 hown hE.1 hP 0 rfl rfl 6 (by decide +kernel) (hts (.fieldLink RX12 43 "ClauseBook" "worth" "LClauseBook$Worth;") (List.mem_of_getElem? (i := 5) rfl)) (fun _ h9 => h9) e0_6 dX12_chosen_68 ?_
          refine lv_iload_n hx hb dX12_chosen_71 rfl (lv_at hl 2 rfl) ?_
          refine lv_iload_n hx hb dX12_chosen_72 rfl (lv_at hl 3 rfl) ?_
          refine lv_iload_n hx hb dX12_chosen_73 rfl (lv_at hl 4 rfl) ?_
          have hFc := va_free (wc := [(wo, .inr (8, [.ref la, .ref cl, .ref p0, .ref p1, .ref p4, .int n])), (la, .inr (5, [.int (l9 0), .int (l9 1), .int (l9 2), .int (l9 3), .int (l9 4), .int (l9 5), .int (l9 6)])), (cl, .inr (1, [.int n0, .ref c1, .ref c2, .ref c3, .ref c4, .ref c5, .ref c6, .ref c7])), (c1, .inl (T 0, 24, .inl f1)), (c2, .inl (T 0, 24, .inl f2)), (c3, .inl (T 0, 24, .inl f3)), (c4, .inl (T 0, 24, .inl f4)), (c5, .inl (T 0, 24, .inl f5)), (p0, .inl (T 1, 676, .inr (.inl g0))), (p1, .inl (T 1, 676, .inr (.inl g1))), (p4, .inl (T 0, 672, .inl g4))]) hD hS hA [1, 2, 3, 4, 5, 6, 7, 8, 9, 10, 11] rfl
          refine va_calli (va_runV (As := [.int x1, .int x2, .int x3]) (rest := []) ⟨hx, hb, hml, hown, hts⟩ (s_X11_picked l D T ad sa av ta _ wo la cl p0 p1 p4 n l9 n0 c1 c2 c3 c4 c5 c6 c7 f1 f2 f3 f4 f5 g0 g1 g4 30 x1 x2 x3 (by omega) (by omega) (by omega) hok (by omega) hmm hlq (by omega) (by rw [hkc]; decide) (cS_all l D T ad sa av ta 30)) (cwV 3 hts gX12_chosen_X11_picked rfl rfl rfl hv_X11_picked ⟨Nat.le_of_ble_eq_true rfl, Nat.le_of_ble_eq_true rfl⟩) (pWk_V (q := (RX11, TX11, 6)) (ci := 8) (q0 := 1) hP hE hD hV hS hFc rfl rfl [1, 2, 3, 4, 5, 6, 7, 8, 9, 10, 11] (by decide +kernel) rfl rfl) rfl rfl hl.1 rfl (lv_room (Nat.le_of_ble_eq_true rfl)) dX12_chosen_74 ⟨Nat.le_of_ble_eq_true rfl, Nat.le_of_ble_eq_true rfl⟩) hS (fun q _ h => hFc q h) hFc (fun r_9 u_10 t H1 locs ht hvm hr_9 hB hz1 hk1 hS => ?_)
          obtain ⟨f_11, f_12, f_13⟩ := u_10
          obtain ⟨hqr_9, hpk_r_9, hstr_9⟩ := hr_9
          have hqr_9 : r_9.toInt = -5 ∨ (0 ≤ r_9.toInt ∧ r_9.toInt < x1.toInt) := hqr_9
          have hpk_r_9 : r_9 = pickW l9 f1 f2 f3 f4 f5 (VALW l9 f1 f2 f3 f4 f5) x1 x2 x3 := hpk_r_9
          have hsr_9 : stW (VALW l9 f1 f2 f3 f4 f5) n0 n (rgP x1) g0 g1 g4 f_11 f_12 f_13 := hstr_9
          have hst : stW (VALW l9 f1 f2 f3 f4 f5) n0 n (fun _ => True) g0 g1 g4 f_11 f_12 f_13 := hst.tr hsr_9 (fun _ _ => trivial)
          have hmm : memW (VALW l9 f1 f2 f3 f4 f5) n0 n f_11 f_12 f_13 := hst.1
          obtain ⟨hP1, hD1⟩ := hB
          rw [ht] at hP1
          obtain ⟨hP, hD⟩ := va_repl [(h0, .inr (9, fs0)), (wo, .inr (8, [.ref la, .ref cl, .ref p0, .ref p1, .ref p4, .int n])), (la, .inr (5, [.int (l9 0), .int (l9 1), .int (l9 2), .int (l9 3), .int (l9 4), .int (l9 5), .int (l9 6)])), (cl, .inr (1, [.int n0, .ref c1, .ref c2, .ref c3, .ref c4, .ref c5, .ref c6, .ref c7])), (c1, .inl (T 0, 24, .inl f1)), (c2, .inl (T 0, 24, .inl f2)), (c3, .inl (T 0, 24, .inl f3)), (c4, .inl (T 0, 24, .inl f4)), (c5, .inl (T 0, 24, .inl f5)), (p0, .inl (T 1, 676, .inr (.inl f_11))), (p1, .inl (T 1, 676, .inr (.inl f_12))), (p4, .inl (T 0, 672, .inl f_13))] hP hD [1, 2, 3, 4, 5, 6, 7, 8, 9, 10, 11] [1, 2, 3, 4, 5, 6, 7, 8, 9, 10, 11] rfl (by decide +kernel) rfl rfl rfl hk1 hP1
          clear hP1 hD1 hFc
          generalize H1 = H at hP hS ⊢
          exact W.iret hx hb hr (fun t ht hW => ⟨⟨_, (f_11, f_12, f_13), rfl, ⟨(show chQ l9 f1 f2 f3 f4 f5 (VALW l9 f1 f2 f3 f4 f5) n0 x1 x2 x3 r_9 from (Or.inr ⟨⟨⟨(by omega), (by omega), (by omega)⟩, (by rw [hkc]; decide)⟩, Or.inr ⟨(by omega), hpk_r_9⟩⟩)), hst⟩, by rw [ht]; exact hP.sub [0, 1, 2, 3, 4, 5, 6, 7, 8, 9, 10, 11] rfl, hD.sub [0, 1, 2, 3, 4, 5, 6, 7, 8, 9, 10, 11] (by decide +kernel) rfl⟩, hS.F ht⟩) hS.2.2 dX12_chosen_77
        · rw [fa_le] at c_8
          refine lv_bipush (v := (-3)) hx hb dX12_chosen_64 (by decide +kernel) ?_
          exact W.iret hx hb hr (fun t ht hW => ⟨⟨_, (g0, g1, g4), rfl, ⟨(show chQ l9 f1 f2 f3 f4 f5 (VALW l9 f1 f2 f3 f4 f5) n0 x1 x2 x3 ((-3) : Int32) from (Or.inr ⟨⟨⟨(by omega), (by omega), (by omega)⟩, (by rw [hkc]; decide)⟩, Or.inl ⟨(by omega), (by decide +kernel)⟩⟩)), hst⟩, by rw [ht]; exact hP.sub [0, 1, 2, 3, 4, 5, 6, 7, 8, 9, 10, 11] rfl, hD.sub [0, 1, 2, 3, 4, 5, 6, 7, 8, 9, 10, 11] (by decide +kernel) rfl⟩, hS.F ht⟩) hS.2.2 dX12_chosen_66
      · refine lv_aload hx hb dX12_chosen_40 (lv_at hl 0 rfl) ?_
        refine va_gets (v := .ref (ad 7)) hx hb (hV.1.1.1 7 (by decide +kernel)).1 hS hown (hts (.fieldLink RX12 235 "ClauseBook$Kind" "WORSE" "LClauseBook$Kind;") (List.mem_of_getElem? (i := 3) rfl)) (fun _ h9 => h9) dX12_chosen_42 ?_
        refine lv_acmp_eq (rx := some (ad ((f1 (x1.toNatClampNeg)).toNatClampNeg))) (ry := some (ad 7)) (tgt := 51) hx hb dX12_chosen_45 (by decide +kernel) (fun c_14 => ?_) (fun c_14 => ?_)
        · have hkc : ((f1 (x1.toNatClampNeg)).toNatClampNeg) = 7 := (hV.1.1.2 _ 7 (in13c ((hok _ (in24 (x := x1) (by omega)).1).1)) (by decide +kernel) (Option.some.inj c_14))
          refine lv_iload_n hx hb dX12_chosen_51 rfl (lv_at hl 3 rfl) ?_
          refine lv_aload_n hx hb dX12_chosen_52 rfl (lv_at hl 1 rfl) ?_
          refine va_get (D := D) (ci := 9) (v := .ref cl) (C := RX12) (T := TX12) (N := 11) hx hb hts in_X12_chosen_X12 hown hE.1 hP 0 rfl rfl 4 (by decide +kernel) (hts (.fieldLink RX12 32 "ClauseBook" "clauses" "LClauseBook$Clauses;") (List.mem_of_getElem? (i := 1) rfl)) (fun _ h9 => h9) e0_4 dX12_chosen_53 ?_
          refine va_get (D := D) (ci := 1) (v := .ref c5) (C := RX2) (T := TX2) (N := 8) hx hb hts in_X12_chosen_X2 hown hE.1 hP 3 rfl rfl 5 (by decide +kernel) (hts (.fieldLink RX12 166 "ClauseBook$Clauses" "end" "[I") (List.mem_of_getElem? (i := 4) rfl)) (fun _ h9 => h9) rfl dX12_chosen_56 ?_
          refine lv_iload_n hx hb dX12_chosen_59 rfl (lv_at hl 2 rfl) ?_
          refine va_iald hx hb hE.1 hP 8 0 rfl rfl (by rw [vp_in_iff]; first | omega | (subst_vars; omega)) dX12_chosen_60 ?_
          refine lv_topi (fun z_15 ez_15 => ?_)
          have hzz_15 : z_15.toInt = (f5 (x1.toNatClampNeg)).toInt := by rw [ez_15]
          refine lv_icmp_le (tgt := 67) hx hb dX12_chosen_61 (by decide +kernel) (fun c_16 => ?_) (fun c_16 => ?_)
          · rw [fa_le] at c_16
            refine lv_aload_n hx hb dX12_chosen_67 rfl (lv_at hl 1 rfl) ?_
            refine va_get (D := D) (ci := 9) (v := .ref wo) (C := RX12) (T := TX12) (N := 11) hx hb hts in_X12_chosen_X12 hown hE.1 hP 0 rfl rfl 6 (by decide +kernel) (hts (.fieldLink RX12 43 "ClauseBook" "worth" "LClauseBook$Worth;") (List.mem_of_getElem? (i := 5) rfl)) (fun _ h9 => h9) e0_6 dX12_chosen_68 ?_
            refine lv_iload_n hx hb dX12_chosen_71 rfl (lv_at hl 2 rfl) ?_
            refine lv_iload_n hx hb dX12_chosen_72 rfl (lv_at hl 3 rfl) ?_
            refine lv_iload_n hx hb dX12_chosen_73 rfl (lv_at hl 4 rfl) ?_
            have hFc := va_free (wc := [(wo, .inr (8, [.ref la, .ref cl, .ref p0, .ref p1, .ref p4, .int n])), (la, .inr (5, [.int (l9 0), .int (l9 1), .int (l9 2), .int (l9 3), .int (l9 4), .int (l9 5), .int (l9 6)])), (cl, .inr (1, [.int n0, .ref c1, .ref c2, .ref c3, .ref c4, .ref c5, .ref c6, .ref c7])), (c1, .inl (T 0, 24, .inl f1)), (c2, .inl (T 0, 24, .inl f2)), (c3, .inl (T 0, 24, .inl f3)), (c4, .inl (T 0, 24, .inl f4)), (c5, .inl (T 0, 24, .inl f5)), (p0, .inl (T 1, 676, .inr (.inl g0))), (p1, .inl (T 1, 676, .inr (.inl g1))), (p4, .inl (T 0, 672, .inl g4))]) hD hS hA [1, 2, 3, 4, 5, 6, 7, 8, 9, 10, 11] rfl
            refine va_calli (va_runV (As := [.int x1, .int x2, .int x3]) (rest := []) ⟨hx, hb, hml, hown, hts⟩ (s_X11_picked l D T ad sa av ta _ wo la cl p0 p1 p4 n l9 n0 c1 c2 c3 c4 c5 c6 c7 f1 f2 f3 f4 f5 g0 g1 g4 30 x1 x2 x3 (by omega) (by omega) (by omega) hok (by omega) hmm hlq (by omega) (by rw [hkc]; decide) (cS_all l D T ad sa av ta 30)) (cwV 3 hts gX12_chosen_X11_picked rfl rfl rfl hv_X11_picked ⟨Nat.le_of_ble_eq_true rfl, Nat.le_of_ble_eq_true rfl⟩) (pWk_V (q := (RX11, TX11, 6)) (ci := 8) (q0 := 1) hP hE hD hV hS hFc rfl rfl [1, 2, 3, 4, 5, 6, 7, 8, 9, 10, 11] (by decide +kernel) rfl rfl) rfl rfl hl.1 rfl (lv_room (Nat.le_of_ble_eq_true rfl)) dX12_chosen_74 ⟨Nat.le_of_ble_eq_true rfl, Nat.le_of_ble_eq_true rfl⟩) hS (fun q _ h => hFc q h) hFc (fun r_17 u_18 t H1 locs ht hvm hr_17 hB hz1 hk1 hS => ?_)
            obtain ⟨f_19, f_20, f_21⟩ := u_18
            obtain ⟨hqr_17, hpk_r_17, hstr_17⟩ := hr_17
            have hqr_17 : r_17.toInt = -5 ∨ (0 ≤ r_17.toInt ∧ r_17.toInt < x1.toInt) := hqr_17
            have hpk_r_17 : r_17 = pickW l9 f1 f2 f3 f4 f5 (VALW l9 f1 f2 f3 f4 f5) x1 x2 x3 := hpk_r_17
            have hsr_17 : stW (VALW l9 f1 f2 f3 f4 f5) n0 n (rgP x1) g0 g1 g4 f_19 f_20 f_21 := hstr_17
            have hst : stW (VALW l9 f1 f2 f3 f4 f5) n0 n (fun _ => True) g0 g1 g4 f_19 f_20 f_21 := hst.tr hsr_17 (fun _ _ => trivial)
            have hmm : memW (VALW l9 f1 f2 f3 f4 f5) n0 n f_19 f_20 f_21 := hst.1
            obtain ⟨hP1, hD1⟩ := hB
            rw [ht] at hP1
            obtain ⟨hP, hD⟩ := va_repl [(h0, .inr (9, fs0)), (wo, .inr (8, [.ref la, .ref cl, .ref p0, .ref p1, .ref p4, .int n])), (la, .inr (5, [.int (l9 0), .int (l9 1), .int (l9 2), .int (l9 3), .int (l9 4), .int (l9 5), .int (l9 6)])), (cl, .inr (1, [.int n0, .ref c1, .ref c2, .ref c3, .ref c4, .ref c5, .ref c6, .ref c7])), (c1, .inl (T 0, 24, .inl f1)), (c2, .inl (T 0, 24, .inl f2)), (c3, .inl (T 0, 24, .inl f3)), (c4, .inl (T 0, 24, .inl f4)), (c5, .inl (T 0, 24, .inl f5)), (p0, .inl (T 1, 676, .inr (.inl f_19))), (p1, .inl (T 1, 676, .inr (.inl f_20))), (p4, .inl (T 0, 672, .inl f_21))] hP hD [1, 2, 3, 4, 5, 6, 7, 8, 9, 10, 11] [1, 2, 3, 4, 5, 6, 7, 8, 9, 10, 11] rfl (by decide +kernel) rfl rfl rfl hk1 hP1
            clear hP1 hD1 hFc
            generalize H1 = H at hP hS ⊢
            exact W.iret hx hb hr (fun t ht hW => ⟨⟨_, (f_19, f_20, f_21), rfl, ⟨(show chQ l9 f1 f2 f3 f4 f5 (VALW l9 f1 f2 f3 f4 f5) n0 x1 x2 x3 r_17 from (Or.inr ⟨⟨⟨(by omega), (by omega), (by omega)⟩, (by rw [hkc]; decide)⟩, Or.inr ⟨(by omega), hpk_r_17⟩⟩)), hst⟩, by rw [ht]; exact hP.sub [0, 1, 2, 3, 4, 5, 6, 7, 8, 9, 10, 11] rfl, hD.sub [0, 1, 2, 3, 4, 5, 6, 7, 8, 9, 10, 11] (by decide +kernel) rfl⟩, hS.F ht⟩) hS.2.2 dX12_chosen_77
          · rw [fa_le] at c_16
            refine lv_bipush (v := (-3)) hx hb dX12_chosen_64 (by decide +kernel) ?_
            exact W.iret hx hb hr (fun t ht hW => ⟨⟨_, (g0, g1, g4), rfl, ⟨(show chQ l9 f1 f2 f3 f4 f5 (VALW l9 f1 f2 f3 f4 f5) n0 x1 x2 x3 ((-3) : Int32) from (Or.inr ⟨⟨⟨(by omega), (by omega), (by omega)⟩, (by rw [hkc]; decide)⟩, Or.inl ⟨(by omega), (by decide +kernel)⟩⟩)), hst⟩, by rw [ht]; exact hP.sub [0, 1, 2, 3, 4, 5, 6, 7, 8, 9, 10, 11] rfl, hD.sub [0, 1, 2, 3, 4, 5, 6, 7, 8, 9, 10, 11] (by decide +kernel) rfl⟩, hS.F ht⟩) hS.2.2 dX12_chosen_66
        · refine lv_bipush (v := (-2)) hx hb dX12_chosen_48 (by decide +kernel) ?_
          exact W.iret hx hb hr (fun t ht hW => ⟨⟨_, (g0, g1, g4), rfl, ⟨(show chQ l9 f1 f2 f3 f4 f5 (VALW l9 f1 f2 f3 f4 f5) n0 x1 x2 x3 ((-2) : Int32) from (Or.inl ⟨(fun h9 => by obtain ⟨_, h4⟩ := h9; rcases h4 with h4 | h4 <;> first | exact c_6 (congrArg (fun K9 => some (ad K9)) h4) | exact c_14 (congrArg (fun K9 => some (ad K9)) h4)), (by decide +kernel)⟩)), hst⟩, by rw [ht]; exact hP.sub [0, 1, 2, 3, 4, 5, 6, 7, 8, 9, 10, 11] rfl, hD.sub [0, 1, 2, 3, 4, 5, 6, 7, 8, 9, 10, 11] (by decide +kernel) rfl⟩, hS.F ht⟩) hS.2.2 dX12_chosen_50
    · refine lv_if_ne (tgt := 22) hx hb dX12_chosen_16 (by decide +kernel) (fun c9 => absurd c9 (by decide +kernel)) (fun _ => ?_)
      refine lv_bipush (v := (-2)) hx hb dX12_chosen_19 (by decide +kernel) ?_
      exact W.iret hx hb hr (fun t ht hW => ⟨⟨_, (g0, g1, g4), rfl, ⟨(show chQ l9 f1 f2 f3 f4 f5 (VALW l9 f1 f2 f3 f4 f5) n0 x1 x2 x3 ((-2) : Int32) from (Or.inl ⟨(fun h9 => by obtain ⟨⟨h1, h2, h3⟩, h4⟩ := h9; omega), (by decide +kernel)⟩)), hst⟩, by rw [ht]; exact hP.sub [0, 1, 2, 3, 4, 5, 6, 7, 8, 9, 10, 11] rfl, hD.sub [0, 1, 2, 3, 4, 5, 6, 7, 8, 9, 10, 11] (by decide +kernel) rfl⟩, hS.F ht⟩) hS.2.2 dX12_chosen_21
  · refine lv_if_eq (tgt := 19) hx hb dX12_chosen_8 (by decide +kernel) (fun _ => ?_) (fun c9 => absurd c9 (by decide +kernel))
    refine lv_bipush (v := (-2)) hx hb dX12_chosen_19 (by decide +kernel) ?_
    exact W.iret hx hb hr (fun t ht hW => ⟨⟨_, (g0, g1, g4), rfl, ⟨(show chQ l9 f1 f2 f3 f4 f5 (VALW l9 f1 f2 f3 f4 f5) n0 x1 x2 x3 ((-2) : Int32) from (Or.inl ⟨(fun h9 => by obtain ⟨⟨h1, h2, h3⟩, h4⟩ := h9; omega), (by decide +kernel)⟩)), hst⟩, by rw [ht]; exact hP.sub [0, 1, 2, 3, 4, 5, 6, 7, 8, 9, 10, 11] rfl, hD.sub [0, 1, 2, 3, 4, 5, 6, 7, 8, 9, 10, 11] (by decide +kernel) rfl⟩, hS.F ht⟩) hS.2.2 dX12_chosen_21
theorem dX12_taken_0 : decode cX12_taken 0 = .ok (.aload_n 0, 1) := by decide +kernel
theorem dX12_taken_1 : decode cX12_taken 1 = .ok (.getfield 32, 3) := by decide +kernel
theorem dX12_taken_11 : decode cX12_taken 11 = .ok (.iload_n 2, 1) := by decide +kernel
theorem dX12_taken_12 : decode cX12_taken 12 = .ok (.invokestatic 120, 3) := by decide +kernel
theorem dX12_taken_15 : decode cX12_taken 15 = .ok (.ifCond .eq 10, 3) := by decide +kernel
theorem dX12_taken_18 : decode cX12_taken 18 = .ok (.iload_n 3, 1) := by decide +kernel
theorem dX12_taken_19 : decode cX12_taken 19 = .ok (.invokestatic 116, 3) := by decide +kernel
theorem dX12_taken_22 : decode cX12_taken 22 = .ok (.ifCond .ne 6, 3) := by decide +kernel
theorem dX12_taken_25 : decode cX12_taken 25 = .ok (.bipush (-2), 2) := by decide +kernel
theorem dX12_taken_27 : decode cX12_taken 27 = .ok (.ireturn, 1) := by decide +kernel
theorem dX12_taken_28 : decode cX12_taken 28 = .ok (.aload_n 0, 1) := by decide +kernel
theorem dX12_taken_29 : decode cX12_taken 29 = .ok (.getfield 32, 3) := by decide +kernel
theorem dX12_taken_32 : decode cX12_taken 32 = .ok (.iload_n 1, 1) := by decide +kernel
theorem dX12_taken_33 : decode cX12_taken 33 = .ok (.invokevirtual 175, 3) := by decide +kernel
theorem dX12_taken_36 : decode cX12_taken 36 = .ok (.getstatic 241, 3) := by decide +kernel
theorem dX12_taken_39 : decode cX12_taken 39 = .ok (.if_acmp .eq 6, 3) := by decide +kernel
theorem dX12_taken_4 : decode cX12_taken 4 = .ok (.iload_n 1, 1) := by decide +kernel
theorem dX12_taken_42 : decode cX12_taken 42 = .ok (.bipush (-2), 2) := by decide +kernel
theorem dX12_taken_44 : decode cX12_taken 44 = .ok (.ireturn, 1) := by decide +kernel
theorem dX12_taken_45 : decode cX12_taken 45 = .ok (.iload_n 2, 1) := by decide +kernel
theorem dX12_taken_46 : decode cX12_taken 46 = .ok (.aload_n 0, 1) := by decide +kernel
theorem dX12_taken_47 : decode cX12_taken 47 = .ok (.getfield 32, 3) := by decide +kernel
theorem dX12_taken_5 : decode cX12_taken 5 = .ok (.invokevirtual 150, 3) := by decide +kernel
theorem dX12_taken_50 : decode cX12_taken 50 = .ok (.getfield 166, 3) := by decide +kernel
theorem dX12_taken_53 : decode cX12_taken 53 = .ok (.iload_n 1, 1) := by decide +kernel
theorem dX12_taken_54 : decode cX12_taken 54 = .ok (.iaload, 1) := by decide +kernel
theorem dX12_taken_55 : decode cX12_taken 55 = .ok (.if_icmp .le 6, 3) := by decide +kernel
theorem dX12_taken_58 : decode cX12_taken 58 = .ok (.bipush (-3), 2) := by decide +kernel
theorem dX12_taken_60 : decode cX12_taken 60 = .ok (.ireturn, 1) := by decide +kernel
theorem dX12_taken_61 : decode cX12_taken 61 = .ok (.aload_n 0, 1) := by decide +kernel
theorem dX12_taken_62 : decode cX12_taken 62 = .ok (.getfield 43, 3) := by decide +kernel
theorem dX12_taken_65 : decode cX12_taken 65 = .ok (.iload_n 1, 1) := by decide +kernel
theorem dX12_taken_66 : decode cX12_taken 66 = .ok (.iload_n 2, 1) := by decide +kernel
theorem dX12_taken_67 : decode cX12_taken 67 = .ok (.iload_n 3, 1) := by decide +kernel
theorem dX12_taken_68 : decode cX12_taken 68 = .ok (.invokevirtual 244, 3) := by decide +kernel
theorem dX12_taken_71 : decode cX12_taken 71 = .ok (.ireturn, 1) := by decide +kernel
theorem dX12_taken_8 : decode cX12_taken 8 = .ok (.ifCond .eq 17, 3) := by decide +kernel
set_option maxRecDepth 40000 in
theorem ggX12_taken_X11_takenOn_0 : GoodIn wsX12_taken [.code yX11_takenOn cX11_takenOn 9 (some .int)] := goodIn_r _ [30] rfl (by decide +kernel)
set_option maxRecDepth 40000 in
theorem ggX12_taken_X11_takenOn_1 : GoodIn wsX12_taken wsX11_takenOn_r1 := goodIn_r _ [31, 32, 33, 34, 35, 36, 37, 38, 39, 40, 41, 42, 43, 44, 45, 46, 47, 29, 48, 49, 50, 51, 52, 53] rfl (by decide +kernel)
set_option maxRecDepth 40000 in
theorem ggX12_taken_X11_takenOn_2 : GoodIn wsX12_taken wsX11_takenOn_r2 := goodIn_r _ [54, 55, 56, 57, 58, 22, 23, 8, 24, 25, 59, 60, 61, 62, 63, 64, 65, 66, 67, 68, 69, 70, 71, 72] rfl (by decide +kernel)
set_option maxRecDepth 40000 in
theorem ggX12_taken_X11_takenOn_3 : GoodIn wsX12_taken wsX11_takenOn_r3 := goodIn_r _ [73, 74, 75, 76, 77, 78, 79, 80, 81, 82, 83, 84, 85, 86, 87, 88, 89, 90, 91, 92, 93, 94, 95, 96] rfl (by decide +kernel)
set_option maxRecDepth 40000 in
theorem ggX12_taken_X11_takenOn_4 : GoodIn wsX12_taken wsX11_takenOn_r4 := goodIn_r _ [97, 98, 99, 100, 101, 102, 103, 104, 105, 106, 107, 108, 109, 110, 111, 112, 113, 114, 115, 116, 117, 118, 119, 120] rfl (by decide +kernel)
set_option maxRecDepth 40000 in
theorem ggX12_taken_X11_takenOn_5 : GoodIn wsX12_taken wsX11_takenOn_r5 := goodIn_r _ [121, 122, 123, 124, 125, 126, 127, 128, 129, 130, 131, 132, 133, 134, 135, 136, 137, 138, 139, 140] rfl (by decide +kernel)
set_option maxRecDepth 40000 in
theorem ggX12_taken_X11_takenOn_6 : GoodIn wsX12_taken wsX110 := goodIn_r _ [160, 161, 162, 163, 164, 165] rfl (by decide +kernel)
set_option maxRecDepth 40000 in
theorem ggX12_taken_X11_takenOn_7 : GoodIn wsX12_taken wsX20 := goodIn_r _ [152, 153, 154, 155, 156, 157, 158, 159] rfl (by decide +kernel)
set_option maxRecDepth 40000 in
theorem ggX12_taken_X11_takenOn_8 : GoodIn wsX12_taken wsX80 := goodIn_r _ [166, 167, 168, 169, 170, 171, 172] rfl (by decide +kernel)
set_option maxRecDepth 40000 in
theorem ggX12_taken_X11_takenOn : GoodIn wsX12_taken wsX11_takenOn := (goodIn_app ggX12_taken_X11_takenOn_0 (goodIn_app (goodIn_app (goodIn_app (goodIn_app ggX12_taken_X11_takenOn_1 (goodIn_app ggX12_taken_X11_takenOn_2 (goodIn_app ggX12_taken_X11_takenOn_3 (goodIn_app ggX12_taken_X11_takenOn_4 ggX12_taken_X11_takenOn_5)))) ggX12_taken_X11_takenOn_6) ggX12_taken_X11_takenOn_7) ggX12_taken_X11_takenOn_8))
set_option maxRecDepth 20000 in
theorem ggX12_taken_X12_isDay : GoodIn wsX12_taken wsX12_isDay := goodIn_r _ [16, 17, 11, 12, 13] rfl (by decide +kernel)
set_option maxRecDepth 20000 in
theorem ggX12_taken_X12_isPath : GoodIn wsX12_taken wsX12_isPath := goodIn_r _ [20, 17, 11, 12, 13] rfl (by decide +kernel)
set_option maxRecDepth 20000 in
theorem ggX12_taken_X2_has : GoodIn wsX12_taken wsX2_has := goodIn_r _ [9, 10, 11, 12, 13, 152, 153, 154, 155, 156, 157, 158, 159] rfl (by decide +kernel)
set_option maxRecDepth 20000 in
theorem ggX12_taken_X2_kindOf : GoodIn wsX12_taken wsX2_kindOf := goodIn_r _ [24, 25, 152, 153, 154, 155, 156, 157, 158, 159] rfl (by decide +kernel)
set_option maxRecDepth 20000 in
theorem gX12_taken_X11_takenOn : GoodIn wsX12_taken (wsV RX12 244 RX11 yX11_takenOn wsX11_takenOn) := goodIn_app (goodIn_r _ [26, 27, 28, 29] rfl (by decide +kernel)) ggX12_taken_X11_takenOn
set_option maxRecDepth 20000 in
theorem gX12_taken_X12_isDay : GoodIn wsX12_taken (va_wsS RX12 120 yX12_isDay wsX12_isDay) := goodIn_app (goodIn_of _ (by decide +kernel)) ggX12_taken_X12_isDay
set_option maxRecDepth 20000 in
theorem gX12_taken_X12_isPath : GoodIn wsX12_taken (va_wsS RX12 116 yX12_isPath wsX12_isPath) := goodIn_app (goodIn_of _ (by decide +kernel)) ggX12_taken_X12_isPath
set_option maxRecDepth 20000 in
theorem gX12_taken_X2_has : GoodIn wsX12_taken (wsV RX12 150 RX2 yX2_has wsX2_has) := goodIn_app (goodIn_r _ [5, 6, 7, 8] rfl (by decide +kernel)) ggX12_taken_X2_has
set_option maxRecDepth 20000 in
theorem gX12_taken_X2_kindOf : GoodIn wsX12_taken (wsV RX12 175 RX2 yX2_kindOf wsX2_kindOf) := goodIn_app (goodIn_r _ [21, 22, 23, 8] rfl (by decide +kernel)) ggX12_taken_X2_kindOf
set_option maxRecDepth 20000 in
theorem in_X12_taken_X12 : ∀ w ∈ wsX120, w ∈ wsX12_taken := sub_r [141, 142, 143, 144, 145, 146, 147, 148, 149, 150, 151] rfl
set_option maxRecDepth 20000 in
theorem in_X12_taken_X2 : ∀ w ∈ wsX20, w ∈ wsX12_taken := sub_r [152, 153, 154, 155, 156, 157, 158, 159] rfl
set_option maxHeartbeats 4000000 in
set_option maxRecDepth 100000 in
theorem c_X12_taken (l : Launch) (D : va_G) (T : Nat → ClassId) (ad sa av : Nat → Nat) (ta : Nat) (sz : Nat) (h0 : Nat) (wo : Nat) (fs0 : List Value) (la : Nat) (cl : Nat) (p0 : Nat) (p1 : Nat) (p4 : Nat) (n : Int32) (l9 : Nat → Int32) (n0 : Int32) (c1 : Nat) (c2 : Nat) (c3 : Nat) (c4 : Nat) (c5 : Nat) (c6 : Nat) (c7 : Nat) (f1 : Nat → Int32) (f2 : Nat → Int32) (f3 : Nat → Int32) (f4 : Nat → Int32) (f5 : Nat → Int32) (g0 : Nat → Int64) (g1 : Nat → Int64) (g4 : Nat → Int32) (x1 : Int32) (x2 : Int32) (x3 : Int32) (e0_4 : fs0[4]? = some (.ref cl)) (e0_6 : fs0[6]? = some (.ref wo)) (hn0 : 0 ≤ n0.toInt ∧ n0.toInt ≤ 24) (hok : okC f1 f3 f4 f5) (hmm : memW (VALW l9 f1 f2 f3 f4 f5) n0 n g0 g1 g4) (hlq : (1 ≤ (l9 4).toInt ∧ (l9 4).toInt ≤ 9) ∧ 1 ≤ (l9 6).toInt ∧ (l9 6).toInt ≤ 9) : Met l yX12_taken wsX12_taken ({ frames := 69, cells := 0, slots := 0, locals := 2254 }) (pWk [.ref h0, .int x1, .int x2, .int x3] D T [(h0, .inr (9, fs0)), (wo, .inr (8, [.ref la, .ref cl, .ref p0, .ref p1, .ref p4, .int n])), (la, .inr (5, [.int (l9 0), .int (l9 1), .int (l9 2), .int (l9 3), .int (l9 4), .int (l9 5), .int (l9 6)])), (cl, .inr (1, [.int n0, .ref c1, .ref c2, .ref c3, .ref c4, .ref c5, .ref c6, .ref c7])), (c1, .inl (T 0, 24, .inl f1)), (c2, .inl (T 0, 24, .inl f2)), (c3, .inl (T 0, 24, .inl f3)), (c4, .inl (T 0, 24, .inl f4)), (c5, .inl (T 0, 24, .inl f5)), (p0, .inl (T 1, 676, .inr (.inl g0))), (p1, .inl (T 1, 676, .inr (.inl g1))), (p4, .inl (T 0, 672, .inl g4))] sz ad sa av ta) (va_Qi (fun (r : Int32) (u : (Nat → Int64) × (Nat → Int64) × (Nat → Int32)) => tkQ l9 f1 f3 f5 (VALW l9 f1 f2 f3 f4 f5) n0 x1 x2 x3 r ∧ stW (VALW l9 f1 f2 f3 f4 f5) n0 n (fun _ => True) g0 g1 g4 u.1 u.2.1 u.2.2) (bW D (va_A [(h0, .inr (9, fs0)), (wo, .inr (8, [.ref la, .ref cl, .ref p0, .ref p1, .ref p4, .int n])), (la, .inr (5, [.int (l9 0), .int (l9 1), .int (l9 2), .int (l9 3), .int (l9 4), .int (l9 5), .int (l9 6)])), (cl, .inr (1, [.int n0, .ref c1, .ref c2, .ref c3, .ref c4, .ref c5, .ref c6, .ref c7])), (c1, .inl (T 0, 24, .inl f1)), (c2, .inl (T 0, 24, .inl f2)), (c3, .inl (T 0, 24, .inl f3)), (c4, .inl (T 0, 24, .inl f4)), (c5, .inl (T 0, 24, .inl f5)), (p0, .inl (T 1, 676, .inr (.inl g0))), (p1, .inl (T 1, 676, .inr (.inl g1))), (p4, .inl (T 0, 672, .inl g4))] sz) (fun (u : (Nat → Int64) × (Nat → Int64) × (Nat → Int32)) => [(h0, .inr (9, fs0)), (wo, .inr (8, [.ref la, .ref cl, .ref p0, .ref p1, .ref p4, .int n])), (la, .inr (5, [.int (l9 0), .int (l9 1), .int (l9 2), .int (l9 3), .int (l9 4), .int (l9 5), .int (l9 6)])), (cl, .inr (1, [.int n0, .ref c1, .ref c2, .ref c3, .ref c4, .ref c5, .ref c6, .ref c7])), (c1, .inl (T 0, 24, .inl f1)), (c2, .inl (T 0, 24, .inl f2)), (c3, .inl (T 0, 24, .inl f3)), (c4, .inl (T 0, 24, .inl f4)), (c5, .inl (T 0, 24, .inl f5)), (p0, .inl (T 1, 676, .inr (.inl u.1))), (p1, .inl (T 1, 676, .inr (.inl u.2.1))), (p4, .inl (T 0, 672, .inl u.2.2))])) (va_A [(h0, .inr (9, fs0)), (wo, .inr (8, [.ref la, .ref cl, .ref p0, .ref p1, .ref p4, .int n])), (la, .inr (5, [.int (l9 0), .int (l9 1), .int (l9 2), .int (l9 3), .int (l9 4), .int (l9 5), .int (l9 6)])), (cl, .inr (1, [.int n0, .ref c1, .ref c2, .ref c3, .ref c4, .ref c5, .ref c6, .ref c7])), (c1, .inl (T 0, 24, .inl f1)), (c2, .inl (T 0, 24, .inl f2)), (c3, .inl (T 0, 24, .inl f3)), (c4, .inl (T 0, 24, .inl f4)), (c5, .inl (T 0, 24, .inl f5)), (p0, .inl (T 1, 676, .inr (.inl g0))), (p1, .inl (T 1, 676, .inr (.inl g1))), (p4, .inl (T 0, 672, .inl g4))] sz)) 0 0 (va_A [(h0, .inr (9, fs0)), (wo, .inr (8, [.ref la, .ref cl, .ref p0, .ref p1, .ref p4, .int n])), (la, .inr (5, [.int (l9 0), .int (l9 1), .int (l9 2), .int (l9 3), .int (l9 4), .int (l9 5), .int (l9 6)])), (cl, .inr (1, [.int n0, .ref c1, .ref c2, .ref c3, .ref c4, .ref c5, .ref c6, .ref c7])), (c1, .inl (T 0, 24, .inl f1)), (c2, .inl (T 0, 24, .inl f2)), (c3, .inl (T 0, 24, .inl f3)), (c4, .inl (T 0, 24, .inl f4)), (c5, .inl (T 0, 24, .inl f5)), (p0, .inl (T 1, 676, .inr (.inl g0))), (p1, .inl (T 1, 676, .inr (.inl g1))), (p4, .inl (T 0, 672, .inl g4))] sz) := by
  refine Met.ofW (cc := cX12_taken) (maxL := 4) (ret := (some .int)) (by decide +kernel) rfl ?_
  intro p e s m args below meth c s₁ B hml hv
  obtain ⟨rfl, hsz, hP, hE, hD0, hV⟩ := hv
  have hx := B.exec
  have hb := B.bytes
  have hr := B.returns
  have hts := atoms_spec (ws := wsX12_taken) B.pre
  have hown : s.vm.findClass RX12 = some m.cls := findClass_of_methodNamed B.named
  have hlocks := B.notSynchronized
  subst hsz
  have hD := hD0.self (sz := s.heap.size)
  generalize hAe : va_A [(h0, .inr (9, fs0)), (wo, .inr (8, [.ref la, .ref cl, .ref p0, .ref p1, .ref p4, .int n])), (la, .inr (5, [.int (l9 0), .int (l9 1), .int (l9 2), .int (l9 3), .int (l9 4), .int (l9 5), .int (l9 6)])), (cl, .inr (1, [.int n0, .ref c1, .ref c2, .ref c3, .ref c4, .ref c5, .ref c6, .ref c7])), (c1, .inl (T 0, 24, .inl f1)), (c2, .inl (T 0, 24, .inl f2)), (c3, .inl (T 0, 24, .inl f3)), (c4, .inl (T 0, 24, .inl f4)), (c5, .inl (T 0, 24, .inl f5)), (p0, .inl (T 1, 676, .inr (.inl g0))), (p1, .inl (T 1, 676, .inr (.inl g1))), (p4, .inl (T 0, 672, .inl g4))] s.heap.size = A at hD hV ⊢
  have hA : ∀ q : Nat, s.heap.size ≤ q → A q := fun q h => by rw [← hAe]; exact Or.inr h
  have hS : va_S A s.heap s.heap [] := va_S.rf
  have hP : va_P D vwCl [(h0, .inr (9, fs0)), (wo, .inr (8, [.ref la, .ref cl, .ref p0, .ref p1, .ref p4, .int n])), (la, .inr (5, [.int (l9 0), .int (l9 1), .int (l9 2), .int (l9 3), .int (l9 4), .int (l9 5), .int (l9 6)])), (cl, .inr (1, [.int n0, .ref c1, .ref c2, .ref c3, .ref c4, .ref c5, .ref c6, .ref c7])), (c1, .inl (T 0, 24, .inl f1)), (c2, .inl (T 0, 24, .inl f2)), (c3, .inl (T 0, 24, .inl f3)), (c4, .inl (T 0, 24, .inl f4)), (c5, .inl (T 0, 24, .inl f5)), (p0, .inl (T 1, 676, .inr (.inl g0))), (p1, .inl (T 1, 676, .inr (.inl g1))), (p4, .inl (T 0, 672, .inl g4))] s.heap := hP
  have hl := lv_entry ([.ref h0, .int x1, .int x2, .int x3]) (n := 4) (Nat.le_of_ble_eq_true rfl)
  rw [lg_entry_eq]
  generalize (lg_sl ([.ref h0, .int x1, .int x2, .int x3]) ++ List.replicate (4 - (lg_sl ([.ref h0, .int x1, .int x2, .int x3])).length) Slot.unset).toArray = ls at hl ⊢
  have hl : lv_has ls 4 [(0, .ref h0), (1, .int x1), (2, .int x2), (3, .int x3)] := hl
  clear hD0
  have hst : stW (VALW l9 f1 f2 f3 f4 f5) n0 n (fun _ => True) g0 g1 g4 g0 g1 g4 := stW_rf hmm
  refine lv_aload_n hx hb dX12_taken_0 rfl (lv_at hl 0 rfl) ?_
  refine va_get (D := D) (ci := 9) (v := .ref cl) (C := RX12) (T := TX12) (N := 11) hx hb hts in_X12_taken_X12 hown hE.1 hP 0 rfl rfl 4 (by decide +kernel) (hts (.fieldLink RX12 32 "ClauseBook" "clauses" "LClauseBook$Clauses;") (List.mem_of_getElem? (i := 1) rfl)) (fun _ h9 => h9) e0_4 dX12_taken_1 ?_
  refine lv_iload_n hx hb dX12_taken_4 rfl (lv_at hl 1 rfl) ?_
  refine vp_callSi (W.runV (As := [.int x1]) (rest := []) ⟨hx, hb, hml, hown, hts⟩ (c_X2_has l D T cl [.int n0, .ref c1, .ref c2, .ref c3, .ref c4, .ref c5, .ref c6, .ref c7] x1 n0 rfl (by omega)) (cwV 1 hts gX12_taken_X2_has rfl rfl rfl hv_X2_has ⟨Nat.le_of_ble_eq_true rfl, Nat.le_of_ble_eq_true rfl⟩) (pR_V (q := (RX2, TX2, 8)) (ci := 1) (q0 := 3) hP hE rfl rfl [3] rfl) rfl rfl hl.1 rfl (lv_room (Nat.le_of_ble_eq_true rfl)) dX12_taken_5 ⟨Nat.le_of_ble_eq_true rfl, Nat.le_of_ble_eq_true rfl⟩) (fun r_1 hr_1 => ?_)
  rcases bool_post hr_1 with ⟨c_2, rfl⟩ | ⟨c_2, rfl⟩
  · refine lv_if_eq (tgt := 25) hx hb dX12_taken_8 (by decide +kernel) (fun c9 => absurd c9 (by decide +kernel)) (fun _ => ?_)
    refine lv_iload_n hx hb dX12_taken_11 rfl (lv_at hl 2 rfl) ?_
    refine vp_callSi (W.runS (As := [.int x2]) (rest := []) ⟨hx, hb, hml, hown, hts⟩ (c_X12_isDay l D T x2) (va_cwS 1 hts gX12_taken_X12_isDay rfl rfl rfl hs_X12_isDay ⟨Nat.le_of_ble_eq_true rfl, Nat.le_of_ble_eq_true rfl⟩) (pR_S hP hE [] rfl) rfl rfl hl.1 rfl (lv_room (Nat.le_of_ble_eq_true rfl)) dX12_taken_12 ⟨Nat.le_of_ble_eq_true rfl, Nat.le_of_ble_eq_true rfl⟩) (fun r_3 hr_3 => ?_)
    rcases bool_post hr_3 with ⟨c_4, rfl⟩ | ⟨c_4, rfl⟩
    · refine lv_if_eq (tgt := 25) hx hb dX12_taken_15 (by decide +kernel) (fun c9 => absurd c9 (by decide +kernel)) (fun _ => ?_)
      refine lv_iload_n hx hb dX12_taken_18 rfl (lv_at hl 3 rfl) ?_
      refine vp_callSi (W.runS (As := [.int x3]) (rest := []) ⟨hx, hb, hml, hown, hts⟩ (c_X12_isPath l D T x3) (va_cwS 1 hts gX12_taken_X12_isPath rfl rfl rfl hs_X12_isPath ⟨Nat.le_of_ble_eq_true rfl, Nat.le_of_ble_eq_true rfl⟩) (pR_S hP hE [] rfl) rfl rfl hl.1 rfl (lv_room (Nat.le_of_ble_eq_true rfl)) dX12_taken_19 ⟨Nat.le_of_ble_eq_true rfl, Nat.le_of_ble_eq_true rfl⟩) (fun r_5 hr_5 => ?_)
      rcases bool_post hr_5 with ⟨c_6, rfl⟩ | ⟨c_6, rfl⟩
      · refine lv_if_ne (tgt := 28) hx hb dX12_taken_22 (by decide +kernel) (fun _ => ?_) (fun c9 => absurd c9 (by decide +kernel))
        refine lv_aload_n hx hb dX12_taken_28 rfl (lv_at hl 0 rfl) ?_
        refine va_get (D := D) (ci := 9) (v := .ref cl) (C := RX12) (T := TX12) (N := 11) hx hb hts in_X12_taken_X12 hown hE.1 hP 0 rfl rfl 4 (by decide +kernel) (hts (.fieldLink RX12 32 "ClauseBook" "clauses" "LClauseBook$Clauses;") (List.mem_of_getElem? (i := 1) rfl)) (fun _ h9 => h9) e0_4 dX12_taken_29 ?_
        refine lv_iload_n hx hb dX12_taken_32 rfl (lv_at hl 1 rfl) ?_
        refine va_cse (W.runV (As := [.int x1]) (rest := []) ⟨hx, hb, hml, hown, hts⟩ (c_X2_kindOf l D T ad sa av ta cl [.int n0, .ref c1, .ref c2, .ref c3, .ref c4, .ref c5, .ref c6, .ref c7] c1 f1 x1 rfl (by omega) ((hok _ (in24 (x := x1) (by omega)).1).1)) (cwV 1 hts gX12_taken_X2_kindOf rfl rfl rfl hv_X2_kindOf ⟨Nat.le_of_ble_eq_true rfl, Nat.le_of_ble_eq_true rfl⟩) (pRk_V (q := (RX2, TX2, 8)) (ci := 1) (q0 := 3) hP hE hV hS rfl rfl [3, 4] rfl) rfl rfl hl.1 rfl (lv_room (Nat.le_of_ble_eq_true rfl)) dX12_taken_33 ⟨Nat.le_of_ble_eq_true rfl, Nat.le_of_ble_eq_true rfl⟩) (fun r_7 hr_7 => ?_)
        subst hr_7
        refine W.eq (g2 := F0 m 36 ls [.ref (ad ((f1 (x1.toNatClampNeg)).toNatClampNeg))]) rfl ?_
        refine va_gets (v := .ref (ad 11)) hx hb (hV.1.1.1 11 (by decide +kernel)).1 hS hown (hts (.fieldLink RX12 241 "ClauseBook$Kind" "FREE" "LClauseBook$Kind;") (List.mem_of_getElem? (i := 2) rfl)) (fun _ h9 => h9) dX12_taken_36 ?_
        refine lv_acmp_eq (rx := some (ad ((f1 (x1.toNatClampNeg)).toNatClampNeg))) (ry := some (ad 11)) (tgt := 45) hx hb dX12_taken_39 (by decide +kernel) (fun c_8 => ?_) (fun c_8 => ?_)
        · have hkc : ((f1 (x1.toNatClampNeg)).toNatClampNeg) = 11 := (hV.1.1.2 _ 11 (in13c ((hok _ (in24 (x := x1) (by omega)).1).1)) (by decide +kernel) (Option.some.inj c_8))
          refine lv_iload_n hx hb dX12_taken_45 rfl (lv_at hl 2 rfl) ?_
          refine lv_aload_n hx hb dX12_taken_46 rfl (lv_at hl 0 rfl) ?_
          refine va_get (D := D) (ci := 9) (v := .ref cl) (C := RX12) (T := TX12) (N := 11) hx hb hts in_X12_taken_X12 hown hE.1 hP 0 rfl rfl 4 (by decide +kernel) (hts (.fieldLink RX12 32 "ClauseBook" "clauses" "LClauseBook$Clauses;") (List.mem_of_getElem? (i := 1) rfl)) (fun _ h9 => h9) e0_4 dX12_taken_47 ?_
          refine va_get (D := D) (ci := 1) (v := .ref c5) (C := RX2) (T := TX2) (N := 8) hx hb hts in_X12_taken_X2 hown hE.1 hP 3 rfl rfl 5 (by decide +kernel) (hts (.fieldLink RX12 166 "ClauseBook$Clauses" "end" "[I") (List.mem_of_getElem? (i := 3) rfl)) (fun _ h9 => h9) rfl dX12_taken_50 ?_
          refine lv_iload_n hx hb dX12_taken_53 rfl (lv_at hl 1 rfl) ?_
          refine va_iald hx hb hE.1 hP 8 0 rfl rfl (by rw [vp_in_iff]; first | omega | (subst_vars; omega)) dX12_taken_54 ?_
          refine lv_topi (fun z_9 ez_9 => ?_)
          have hzz_9 : z_9.toInt = (f5 (x1.toNatClampNeg)).toInt := by rw [ez_9]
          refine lv_icmp_le (tgt := 61) hx hb dX12_taken_55 (by decide +kernel) (fun c_10 => ?_) (fun c_10 => ?_)
          · rw [fa_le] at c_10
            refine lv_aload_n hx hb dX12_taken_61 rfl (lv_at hl 0 rfl) ?_
            refine va_get (D := D) (ci := 9) (v := .ref wo) (C := RX12) (T := TX12) (N := 11) hx hb hts in_X12_taken_X12 hown hE.1 hP 0 rfl rfl 6 (by decide +kernel) (hts (.fieldLink RX12 43 "ClauseBook" "worth" "LClauseBook$Worth;") (List.mem_of_getElem? (i := 4) rfl)) (fun _ h9 => h9) e0_6 dX12_taken_62 ?_
            refine lv_iload_n hx hb dX12_taken_65 rfl (lv_at hl 1 rfl) ?_
            refine lv_iload_n hx hb dX12_taken_66 rfl (lv_at hl 2 rfl) ?_
            refine lv_iload_n hx hb dX12_taken_67 rfl (lv_at hl 3 rfl) ?_
            have hFc := va_free (wc := [(wo, .inr (8, [.ref la, .ref cl, .ref p0, .ref p1, .ref p4, .int n])), (la, .inr (5, [.int (l9 0), .int (l9 1), .int (l9 2), .int (l9 3), .int (l9 4), .int (l9 5), .int (l9 6)])), (cl, .inr (1, [.int n0, .ref c1, .ref c2, .ref c3, .ref c4, .ref c5, .ref c6, .ref c7])), (c1, .inl (T 0, 24, .inl f1)), (c2, .inl (T 0, 24, .inl f2)), (c3, .inl (T 0, 24, .inl f3)), (c4, .inl (T 0, 24, .inl f4)), (c5, .inl (T 0, 24, .inl f5)), (p0, .inl (T 1, 676, .inr (.inl g0))), (p1, .inl (T 1, 676, .inr (.inl g1))), (p4, .inl (T 0, 672, .inl g4))]) hD hS hA [1, 2, 3, 4, 5, 6, 7, 8, 9, 10, 11] rfl
            refine va_calli (va_runV (As := [.int x1, .int x2, .int x3]) (rest := []) ⟨hx, hb, hml, hown, hts⟩ (c_X11_takenOn l D T ad sa av ta _ wo la cl p0 p1 p4 n l9 n0 c1 c2 c3 c4 c5 c6 c7 f1 f2 f3 f4 f5 g0 g1 g4 x1 x2 x3 (by omega) (by omega) (by omega) hok hkc (by omega) (by omega) hmm hlq) (cwV 3 hts gX12_taken_X11_takenOn rfl rfl rfl hv_X11_takenOn ⟨Nat.le_of_ble_eq_true rfl, Nat.le_of_ble_eq_true rfl⟩) (pWk_V (q := (RX11, TX11, 6)) (ci := 8) (q0 := 1) hP hE hD hV hS hFc rfl rfl [1, 2, 3, 4, 5, 6, 7, 8, 9, 10, 11] (by decide +kernel) rfl rfl) rfl rfl hl.1 rfl (lv_room (Nat.le_of_ble_eq_true rfl)) dX12_taken_68 ⟨Nat.le_of_ble_eq_true rfl, Nat.le_of_ble_eq_true rfl⟩) hS (fun q _ h => hFc q h) hFc (fun r_11 u_12 t H1 locs ht hvm hr_11 hB hz1 hk1 hS => ?_)
            obtain ⟨f_13, f_14, f_15⟩ := u_12
            obtain ⟨hqr_11, htk_r_11, hstr_11⟩ := hr_11
            have hqr_11 : r_11.toInt = -5 ∨ (0 ≤ r_11.toInt ∧ r_11.toInt ≤ 6) := hqr_11
            have htk_r_11 : takQ l9 f3 (VALW l9 f1 f2 f3 f4 f5) (f5 (x1.toNatClampNeg)).toInt x1 x3 x2 r_11 := htk_r_11
            have hsr_11 : stW (VALW l9 f1 f2 f3 f4 f5) n0 n (fun _ => True) g0 g1 g4 f_13 f_14 f_15 := hstr_11
            have hst : stW (VALW l9 f1 f2 f3 f4 f5) n0 n (fun _ => True) g0 g1 g4 f_13 f_14 f_15 := hst.tr hsr_11 (fun _ _ => trivial)
            have hmm : memW (VALW l9 f1 f2 f3 f4 f5) n0 n f_13 f_14 f_15 := hst.1
            obtain ⟨hP1, hD1⟩ := hB
            rw [ht] at hP1
            obtain ⟨hP, hD⟩ := va_repl [(h0, .inr (9, fs0)), (wo, .inr (8, [.ref la, .ref cl, .ref p0, .ref p1, .ref p4, .int n])), (la, .inr (5, [.int (l9 0), .int (l9 1), .int (l9 2), .int (l9 3), .int (l9 4), .int (l9 5), .int (l9 6)])), (cl, .inr (1, [.int n0, .ref c1, .ref c2, .ref c3, .ref c4, .ref c5, .ref c6, .ref c7])), (c1, .inl (T 0, 24, .inl f1)), (c2, .inl (T 0, 24, .inl f2)), (c3, .inl (T 0, 24, .inl f3)), (c4, .inl (T 0, 24, .inl f4)), (c5, .inl (T 0, 24, .inl f5)), (p0, .inl (T 1, 676, .inr (.inl f_13))), (p1, .inl (T 1, 676, .inr (.inl f_14))), (p4, .inl (T 0, 672, .inl f_15))] hP hD [1, 2, 3, 4, 5, 6, 7, 8, 9, 10, 11] [1, 2, 3, 4, 5, 6, 7, 8, 9, 10, 11] rfl (by decide +kernel) rfl rfl rfl hk1 hP1
            clear hP1 hD1 hFc
            generalize H1 = H at hP hS ⊢
            exact W.iret hx hb hr (fun t ht hW => ⟨⟨_, (f_13, f_14, f_15), rfl, ⟨(show tkQ l9 f1 f3 f5 (VALW l9 f1 f2 f3 f4 f5) n0 x1 x2 x3 r_11 from (Or.inr ⟨⟨⟨(by omega), (by omega), (by omega)⟩, hkc⟩, Or.inr ⟨(by omega), htk_r_11⟩⟩)), hst⟩, by rw [ht]; exact hP.sub [0, 1, 2, 3, 4, 5, 6, 7, 8, 9, 10, 11] rfl, hD.sub [0, 1, 2, 3, 4, 5, 6, 7, 8, 9, 10, 11] (by decide +kernel) rfl⟩, hS.F ht⟩) hS.2.2 dX12_taken_71
          · rw [fa_le] at c_10
            refine lv_bipush (v := (-3)) hx hb dX12_taken_58 (by decide +kernel) ?_
            exact W.iret hx hb hr (fun t ht hW => ⟨⟨_, (g0, g1, g4), rfl, ⟨(show tkQ l9 f1 f3 f5 (VALW l9 f1 f2 f3 f4 f5) n0 x1 x2 x3 ((-3) : Int32) from (Or.inr ⟨⟨⟨(by omega), (by omega), (by omega)⟩, hkc⟩, Or.inl ⟨(by omega), (by decide +kernel)⟩⟩)), hst⟩, by rw [ht]; exact hP.sub [0, 1, 2, 3, 4, 5, 6, 7, 8, 9, 10, 11] rfl, hD.sub [0, 1, 2, 3, 4, 5, 6, 7, 8, 9, 10, 11] (by decide +kernel) rfl⟩, hS.F ht⟩) hS.2.2 dX12_taken_60
        · refine lv_bipush (v := (-2)) hx hb dX12_taken_42 (by decide +kernel) ?_
          exact W.iret hx hb hr (fun t ht hW => ⟨⟨_, (g0, g1, g4), rfl, ⟨(show tkQ l9 f1 f3 f5 (VALW l9 f1 f2 f3 f4 f5) n0 x1 x2 x3 ((-2) : Int32) from (Or.inl ⟨(fun h9 => by obtain ⟨_, h4⟩ := h9; first | exact c_8 (congrArg (fun K9 => some (ad K9)) h4)), (by decide +kernel)⟩)), hst⟩, by rw [ht]; exact hP.sub [0, 1, 2, 3, 4, 5, 6, 7, 8, 9, 10, 11] rfl, hD.sub [0, 1, 2, 3, 4, 5, 6, 7, 8, 9, 10, 11] (by decide +kernel) rfl⟩, hS.F ht⟩) hS.2.2 dX12_taken_44
      · refine lv_if_ne (tgt := 28) hx hb dX12_taken_22 (by decide +kernel) (fun c9 => absurd c9 (by decide +kernel)) (fun _ => ?_)
        refine lv_bipush (v := (-2)) hx hb dX12_taken_25 (by decide +kernel) ?_
        exact W.iret hx hb hr (fun t ht hW => ⟨⟨_, (g0, g1, g4), rfl, ⟨(show tkQ l9 f1 f3 f5 (VALW l9 f1 f2 f3 f4 f5) n0 x1 x2 x3 ((-2) : Int32) from (Or.inl ⟨(fun h9 => by obtain ⟨⟨h1, h2, h3⟩, h4⟩ := h9; omega), (by decide +kernel)⟩)), hst⟩, by rw [ht]; exact hP.sub [0, 1, 2, 3, 4, 5, 6, 7, 8, 9, 10, 11] rfl, hD.sub [0, 1, 2, 3, 4, 5, 6, 7, 8, 9, 10, 11] (by decide +kernel) rfl⟩, hS.F ht⟩) hS.2.2 dX12_taken_27
    · refine lv_if_eq (tgt := 25) hx hb dX12_taken_15 (by decide +kernel) (fun _ => ?_) (fun c9 => absurd c9 (by decide +kernel))
      refine lv_bipush (v := (-2)) hx hb dX12_taken_25 (by decide +kernel) ?_
      exact W.iret hx hb hr (fun t ht hW => ⟨⟨_, (g0, g1, g4), rfl, ⟨(show tkQ l9 f1 f3 f5 (VALW l9 f1 f2 f3 f4 f5) n0 x1 x2 x3 ((-2) : Int32) from (Or.inl ⟨(fun h9 => by obtain ⟨⟨h1, h2, h3⟩, h4⟩ := h9; omega), (by decide +kernel)⟩)), hst⟩, by rw [ht]; exact hP.sub [0, 1, 2, 3, 4, 5, 6, 7, 8, 9, 10, 11] rfl, hD.sub [0, 1, 2, 3, 4, 5, 6, 7, 8, 9, 10, 11] (by decide +kernel) rfl⟩, hS.F ht⟩) hS.2.2 dX12_taken_27
  · refine lv_if_eq (tgt := 25) hx hb dX12_taken_8 (by decide +kernel) (fun _ => ?_) (fun c9 => absurd c9 (by decide +kernel))
    refine lv_bipush (v := (-2)) hx hb dX12_taken_25 (by decide +kernel) ?_
    exact W.iret hx hb hr (fun t ht hW => ⟨⟨_, (g0, g1, g4), rfl, ⟨(show tkQ l9 f1 f3 f5 (VALW l9 f1 f2 f3 f4 f5) n0 x1 x2 x3 ((-2) : Int32) from (Or.inl ⟨(fun h9 => by obtain ⟨⟨h1, h2, h3⟩, h4⟩ := h9; omega), (by decide +kernel)⟩)), hst⟩, by rw [ht]; exact hP.sub [0, 1, 2, 3, 4, 5, 6, 7, 8, 9, 10, 11] rfl, hD.sub [0, 1, 2, 3, 4, 5, 6, 7, 8, 9, 10, 11] (by decide +kernel) rfl⟩, hS.F ht⟩) hS.2.2 dX12_taken_27
end
section
/-! the greatest of several, what is alike -/
theorem sg_neg {z : Int} : z.sign < 0 ↔ z < 0 := by
  rcases Int.lt_trichotomy z 0 with h | h | h
  · rw [Int.sign_eq_neg_one_of_neg h]; constructor <;> intro _ <;> omega
  · rw [h]; decide
  · rw [Int.sign_eq_one_of_pos h]; constructor <;> intro _ <;> omega
theorem sg_le {z : Int} : z.sign ≤ 0 ↔ z ≤ 0 := by
  rcases Int.lt_trichotomy z 0 with h | h | h
  · rw [Int.sign_eq_neg_one_of_neg h]; constructor <;> intro _ <;> omega
  · rw [h]; decide
  · rw [Int.sign_eq_one_of_pos h]; constructor <;> intro _ <;> omega
theorem cmpP_refl (p : Int64 × Int64) : cmpP p p = 0 := by
  unfold cmpP cmpW
  rw [Int.sub_self]
  rfl
theorem cmpP_anti (p q : Int64 × Int64) : cmpP q p = -cmpP p q := cmpW_anti _ _ _ _
theorem cmpP_tr {p q r : Int64 × Int64} (hp : 1 ≤ p.2.toInt) (hq : 1 ≤ q.2.toInt) (hr : 1 ≤ r.2.toInt) (a : cmpP p q ≤ 0) (b : cmpP q r < 0) : cmpP p r < 0 := by
  unfold cmpP cmpW at a b ⊢
  have a1 := sg_le.1 a
  have b1 := sg_neg.1 b
  refine sg_neg.2 ?_
  have h1 : (p.1.toInt * q.2.toInt) * r.2.toInt ≤ (q.1.toInt * p.2.toInt) * r.2.toInt := Int.mul_le_mul_of_nonneg_right (by omega) (by omega)
  have h2 : (q.1.toInt * r.2.toInt) * p.2.toInt < (r.1.toInt * q.2.toInt) * p.2.toInt := Int.mul_lt_mul_of_pos_right (by omega) (by omega)
  have e1 : (p.1.toInt * q.2.toInt) * r.2.toInt = (p.1.toInt * r.2.toInt) * q.2.toInt := Int.mul_right_comm _ _ _
  have e2 : (q.1.toInt * p.2.toInt) * r.2.toInt = (q.1.toInt * r.2.toInt) * p.2.toInt := Int.mul_right_comm _ _ _
  have e3 : (r.1.toInt * q.2.toInt) * p.2.toInt = (r.1.toInt * p.2.toInt) * q.2.toInt := Int.mul_right_comm _ _ _
  have h3 : (p.1.toInt * r.2.toInt) * q.2.toInt < (r.1.toInt * p.2.toInt) * q.2.toInt := by omega
  have h4 : p.1.toInt * r.2.toInt < r.1.toInt * p.2.toInt := by
    rcases Int.lt_or_le (p.1.toInt * r.2.toInt) (r.1.toInt * p.2.toInt) with h | h
    · exact h
    · have h5 := Int.mul_le_mul_of_nonneg_right h (show (0 : Int) ≤ q.2.toInt by omega)
      omega
  omega
theorem low_pos {q : Int64 × Int64} (h : lowW q) (h0 : ¬ q.2.toInt = 0) : 1 ≤ q.2.toInt := by
  have := low_nn h
  omega
theorem best_0 {W : Int32 → Int64 × Int64} : bestI W 0 1 := by
  refine ⟨by decide, fun j h1 h2 => ?_, fun j h1 h2 => ?_⟩
  · rw [ti_0] at h2; omega
  · rw [ti_0] at h1
    rw [ti_1] at h2
    have e : j = 0 := Int32.toInt_inj.1 (by rw [ti_0]; omega)
    rw [e, cmpP_refl]
    decide
theorem best_gt {W : Int32 → Int64 × Int64} {b m m' : Int32} (h : bestI W b m) (hi : m'.toInt = m.toInt + 1) (hd : ∀ j : Int32, 0 ≤ j.toInt → j.toInt ≤ m.toInt → 1 ≤ (W j).2.toInt) (c : 0 < cmpP (W m) (W b)) : bestI W m m' := by
  obtain ⟨h1, h2, h3⟩ := h
  refine ⟨by omega, fun j a1 a2 => ?_, fun j a1 a2 => ?_⟩
  · have c2 : cmpP (W b) (W m) < 0 := by rw [cmpP_anti]; omega
    refine cmpP_tr (hd j a1 (by omega)) (hd b h1.1 (by omega)) (hd m (by omega) (by omega)) ?_ c2
    by_cases q : j.toInt < b.toInt
    · have := h2 j a1 q; omega
    · exact h3 j (by omega) a2
  · have e : j = m := Int32.toInt_inj.1 (by omega)
    rw [e, cmpP_refl]
    decide
theorem best_le {W : Int32 → Int64 × Int64} {b m m' : Int32} (h : bestI W b m) (hi : m'.toInt = m.toInt + 1) (c : cmpP (W m) (W b) ≤ 0) : bestI W b m' := by
  obtain ⟨h1, h2, h3⟩ := h
  refine ⟨by omega, h2, fun j a1 a2 => ?_⟩
  by_cases q : j.toInt = m.toInt
  · rw [Int32.toInt_inj.1 q]; exact c
  · exact h3 j a1 (by omega)
theorem mostQ_uniq {V V' : vaF} {n x t r r' : Int32} (hV : ∀ k : Int32, atV n x t k → V x t k = V' x t k) (a : mostQ V n x t r) (b : mostQ V' n x t r') : r = r' := by
  refine Int32.toInt_inj.1 ?_
  rcases a with ⟨a1, a2⟩ | ⟨a1, a2⟩
  · have b := b.resolve_right (fun q => a1 q.1)
    omega
  · have b := (b.resolve_left (fun q => q.1 a1)).2
    have hW : ∀ k : Int32, spK t k → V x t k = V' x t k := fun k h => hV k ⟨a1.1, h⟩
    rcases a2 with ⟨⟨k, k1, k2⟩, a3⟩ | ⟨a3, a4, a5, a6⟩
    · rcases b with ⟨_, b3⟩ | ⟨b3, _⟩
      · omega
      · exact absurd (by rw [← hW k k1]; exact k2) (b3 k k1)
    · rcases b with ⟨⟨k, k1, k2⟩, b3⟩ | ⟨b3, b4, b5, b6⟩
      · exact absurd (by rw [hW k k1]; exact k2) (a3 k k1)
      · rcases Int.lt_trichotomy r.toInt r'.toInt with h | h | h
        · exfalso
          have c1 := b5 r a4.2.1 h
          have c2 := a6 r' (by omega) b4.2.2
          rw [hW r a4, hW r' b4, cmpP_anti] at c2
          omega
        · exact h
        · exfalso
          have c1 := a5 r' b4.2.1 h
          have c2 := b6 r (by omega) a4.2.2
          rw [← hW r a4, ← hW r' b4, cmpP_anti] at c2
          omega
/-- spots ahead of one -/
abbrev bef (dd ss t k : Int32) : Prop := t.toInt < dd.toInt ∨ (t.toInt = dd.toInt ∧ k.toInt < ss.toInt)
theorem bef_step {P : Int32 → Int32 → Prop} {dd ss s' : Int32} (h : ∀ t k : Int32, spK t k → bef dd ss t k → P t k) (hp : P dd ss) (hi : s'.toInt = ss.toInt + 1) : ∀ t k : Int32, spK t k → bef dd s' t k → P t k := by
  intro t k h1 h2
  by_cases e : t.toInt = dd.toInt ∧ k.toInt = ss.toInt
  · rw [Int32.toInt_inj.1 e.1, Int32.toInt_inj.1 e.2]; exact hp
  · exact h t k h1 (by unfold bef at h2 ⊢; omega)
theorem bef_row {P : Int32 → Int32 → Prop} {dd ss d' : Int32} (h : ∀ t k : Int32, spK t k → bef dd ss t k → P t k) (hs : dd.toInt < ss.toInt) (hi : d'.toInt = dd.toInt + 1) : ∀ t k : Int32, spK t k → bef d' 0 t k → P t k := by
  intro t k h1 h2
  have h0 := ti_0
  exact h t k h1 (by unfold bef at h2 ⊢; unfold spK at h1; omega)
theorem bef_0 {P : Int32 → Int32 → Prop} : ∀ t k : Int32, spK t k → bef 0 0 t k → P t k := by
  intro t k h1 h2
  have h0 := ti_0
  exfalso
  unfold bef at h2
  unfold spK at h1
  omega
theorem bef_all {P : Int32 → Int32 → Prop} {dd : Int32} (h : ∀ t k : Int32, spK t k → bef dd 0 t k → P t k) (hd : 7 ≤ dd.toInt) : ∀ t k : Int32, spK t k → P t k := fun t k h1 => h t k h1 (Or.inl (by unfold spK at h1; omega))
def alS (V : vaF) (E : Prop) (x y dd ss sm : Int32) : Prop := (sm.toInt = 1 ∧ E ∧ ∀ t k : Int32, spK t k → bef dd ss t k → V x t k = V y t k) ∨ (sm.toInt = 0 ∧ ¬ (E ∧ ∀ t k : Int32, spK t k → V x t k = V y t k))
theorem als_0y {V : vaF} {E : Prop} {x y : Int32} (h : E) : alS V E x y 0 0 1 := Or.inl ⟨ti_1, h, bef_0⟩
theorem als_0n {V : vaF} {E : Prop} {x y : Int32} (h : ¬ E) : alS V E x y 0 0 0 := Or.inr ⟨ti_0, fun q => h q.1⟩
theorem als_A {V : vaF} {E : Prop} {x y dd ss s' sm : Int32} (h : alS V E x y dd ss sm) (c : sm.toInt = 0) : alS V E x y dd s' 0 := by
  rcases h with ⟨h1, _⟩ | ⟨_, h2⟩
  · omega
  · exact Or.inr ⟨ti_0, h2⟩
theorem als_B {V : vaF} {E : Prop} {x y dd ss s' : Int32} (hd : spK dd ss) (c : ¬ V x dd ss = V y dd ss) : alS V E x y dd s' 0 := Or.inr ⟨ti_0, fun q => c (q.2 dd ss hd)⟩
theorem als_C {V : vaF} {E : Prop} {x y dd ss s' sm : Int32} (h : alS V E x y dd ss sm) (c : ¬ sm.toInt = 0) (e : V x dd ss = V y dd ss) (hi : s'.toInt = ss.toInt + 1) : alS V E x y dd s' 1 := by
  rcases h with ⟨h1, h2, h3⟩ | ⟨h1, _⟩
  · exact Or.inl ⟨ti_1, h2, bef_step h3 e hi⟩
  · exact absurd h1 c
theorem als_row {V : vaF} {E : Prop} {x y dd ss d' sm : Int32} (h : alS V E x y dd ss sm) (hs : dd.toInt < ss.toInt) (hi : d'.toInt = dd.toInt + 1) : alS V E x y d' 0 sm := by
  rcases h with ⟨h1, h2, h3⟩ | h
  · exact Or.inl ⟨h1, h2, bef_row h3 hs hi⟩
  · exact Or.inr h
theorem als_end {V : vaF} {E : Prop} {x y dd sm : Int32} (h : alS V E x y dd 0 sm) (hd : 7 ≤ dd.toInt) : (sm.toInt = 1 ∧ E ∧ ∀ t k : Int32, spK t k → V x t k = V y t k) ∨ (sm.toInt = 0 ∧ ¬ (E ∧ ∀ t k : Int32, spK t k → V x t k = V y t k)) := by
  rcases h with ⟨h1, h2, h3⟩ | h
  · exact Or.inl ⟨h1, h2, bef_all h3 hd⟩
  · exact Or.inr h
theorem alk_of {V : vaF} {fe : Nat → Int32} {n x y r sm : Int32} (hv : (0 ≤ x.toInt ∧ x.toInt < n.toInt) ∧ 0 ≤ y.toInt ∧ y.toInt < n.toInt) (hm : ∀ t k : Int32, spK t k → ¬ mu2 V x y t k) (h : (sm.toInt = 1 ∧ (fe x.toNatClampNeg).toInt = (fe y.toNatClampNeg).toInt ∧ ∀ t k : Int32, spK t k → V x t k = V y t k) ∨ (sm.toInt = 0 ∧ ¬ ((fe x.toNatClampNeg).toInt = (fe y.toNatClampNeg).toInt ∧ ∀ t k : Int32, spK t k → V x t k = V y t k))) (hr : (sm.toInt = 0 → r.toInt = 0) ∧ (¬ sm.toInt = 0 → r.toInt = 1)) : alkQ V fe n x y r := by
  refine Or.inr ⟨hv, Or.inr ⟨hm, ?_⟩⟩
  rcases h with ⟨h1, h2⟩ | ⟨h1, h2⟩
  · exact Or.inl ⟨h2, hr.2 (by omega)⟩
  · exact Or.inr ⟨h2, hr.1 h1⟩
/-- bags -/
abbrev inN (n x : Int32) : Prop := 0 ≤ x.toInt ∧ x.toInt < n.toInt
def bbQ (V : vaF) (n z : Int32) (f : Nat → Int32) (ok : Prop) (t k r : Int32) : Prop := (¬ (ok ∧ spK t k) ∧ r.toInt = -2) ∨ ((ok ∧ spK t k) ∧ (((∃ i : Int32, (0 ≤ i.toInt ∧ i.toInt < z.toInt) ∧ inN n (f i.toNatClampNeg) ∧ (V (f i.toNatClampNeg) t k).2.toInt = 0) ∧ r.toInt = -5) ∨ ((∀ i : Int32, (0 ≤ i.toInt ∧ i.toInt < z.toInt) → inN n (f i.toNatClampNeg) → ¬ (V (f i.toNatClampNeg) t k).2.toInt = 0) ∧ (((∀ i : Int32, (0 ≤ i.toInt ∧ i.toInt < z.toInt) → ¬ inN n (f i.toNatClampNeg)) ∧ r.toInt = -1) ∨ ((0 ≤ r.toInt ∧ r.toInt < z.toInt) ∧ inN n (f r.toNatClampNeg) ∧ ∀ i : Int32, (0 ≤ i.toInt ∧ i.toInt < z.toInt) → inN n (f i.toNatClampNeg) → (i.toInt < r.toInt → cmpP (V (f i.toNatClampNeg) t k) (V (f r.toNatClampNeg) t k) < 0) ∧ (r.toInt ≤ i.toInt → cmpP (V (f i.toNatClampNeg) t k) (V (f r.toNatClampNeg) t k) ≤ 0))))))
/-- behind m of a bag: b is the place of the best so far; -1, if there was none -/
def bbI (V : vaF) (n : Int32) (f : Nat → Int32) (t k m b : Int32) : Prop := (∀ i : Int32, (0 ≤ i.toInt ∧ i.toInt < m.toInt) → inN n (f i.toNatClampNeg) → ¬ (V (f i.toNatClampNeg) t k).2.toInt = 0) ∧ ((b.toInt = -1 ∧ ∀ i : Int32, (0 ≤ i.toInt ∧ i.toInt < m.toInt) → ¬ inN n (f i.toNatClampNeg)) ∨ ((0 ≤ b.toInt ∧ b.toInt < m.toInt) ∧ inN n (f b.toNatClampNeg) ∧ ∀ i : Int32, (0 ≤ i.toInt ∧ i.toInt < m.toInt) → inN n (f i.toNatClampNeg) → (i.toInt < b.toInt → cmpP (V (f i.toNatClampNeg) t k) (V (f b.toNatClampNeg) t k) < 0) ∧ (b.toInt ≤ i.toInt → cmpP (V (f i.toNatClampNeg) t k) (V (f b.toNatClampNeg) t k) ≤ 0)))
theorem bbI_0 {V : vaF} {n : Int32} {f : Nat → Int32} {t k : Int32} : bbI V n f t k 0 (-1) := ⟨fun i h => by rw [ti_0] at h; omega, Or.inl ⟨ti_n1, fun i h => by rw [ti_0] at h; omega⟩⟩
theorem bbI_skip {V : vaF} {n : Int32} {f : Nat → Int32} {t k m b m' : Int32} (h : bbI V n f t k m b) (hi : m'.toInt = m.toInt + 1) (c : ¬ inN n (f m.toNatClampNeg)) : bbI V n f t k m' b := by
  obtain ⟨h1, h2⟩ := h
  have key : ∀ i : Int32, (0 ≤ i.toInt ∧ i.toInt < m'.toInt) → inN n (f i.toNatClampNeg) → 0 ≤ i.toInt ∧ i.toInt < m.toInt := fun i a q => by
    by_cases e : i.toInt = m.toInt
    · rw [Int32.toInt_inj.1 e] at q; exact absurd q c
    · omega
  refine ⟨fun i a q => h1 i (key i a q) q, ?_⟩
  rcases h2 with ⟨h2, h3⟩ | ⟨h2, h3, h4⟩
  · exact Or.inl ⟨h2, fun i a q => h3 i (key i a q) q⟩
  · exact Or.inr ⟨by omega, h3, fun i a q => h4 i (key i a q) q⟩
theorem bbI_take {V : vaF} {n : Int32} {f : Nat → Int32} {t k m b m' : Int32} (h : bbI V n f t k m b) (h0 : 0 ≤ m.toInt) (hi : m'.toInt = m.toInt + 1) (hn : inN n (f m.toNatClampNeg)) (hm : ¬ (V (f m.toNatClampNeg) t k).2.toInt = 0) (hl : ∀ i : Int32, lowW (V (f i.toNatClampNeg) t k)) (c : b.toInt = -1 ∨ 0 < cmpP (V (f m.toNatClampNeg) t k) (V (f b.toNatClampNeg) t k)) : bbI V n f t k m' m := by
  obtain ⟨h1, h2⟩ := h
  have h1' : ∀ i : Int32, (0 ≤ i.toInt ∧ i.toInt < m'.toInt) → inN n (f i.toNatClampNeg) → ¬ (V (f i.toNatClampNeg) t k).2.toInt = 0 := fun i a q => by
    by_cases e : i.toInt = m.toInt
    · rw [Int32.toInt_inj.1 e]; exact hm
    · exact h1 i (by omega) q
  refine ⟨h1', Or.inr ⟨by omega, hn, fun i a q => ⟨fun a2 => ?_, fun a2 => ?_⟩⟩⟩
  · rcases h2 with ⟨h2, h3⟩ | ⟨h2, h3, h4⟩
    · exact absurd q (h3 i (by omega))
    · have c := c.resolve_left (by omega)
      have c2 : cmpP (V (f b.toNatClampNeg) t k) (V (f m.toNatClampNeg) t k) < 0 := by rw [cmpP_anti]; omega
      refine cmpP_tr (low_pos (hl i) (h1' i a q)) (low_pos (hl b) (h1' b (by omega) h3)) (low_pos (hl m) hm) ?_ c2
      by_cases e : i.toInt < b.toInt
      · have := (h4 i (by omega) q).1 e; omega
      · exact (h4 i (by omega) q).2 (by omega)
  · have e : i = m := Int32.toInt_inj.1 (by omega)
    rw [e, cmpP_refl]
    decide
theorem bbI_keep {V : vaF} {n : Int32} {f : Nat → Int32} {t k m b m' : Int32} (h : bbI V n f t k m b) (hi : m'.toInt = m.toInt + 1) (hm : ¬ (V (f m.toNatClampNeg) t k).2.toInt = 0) (hb : ¬ b.toInt = -1) (c : cmpP (V (f m.toNatClampNeg) t k) (V (f b.toNatClampNeg) t k) ≤ 0) : bbI V n f t k m' b := by
  obtain ⟨h1, h2⟩ := h
  refine ⟨fun i a q => ?_, ?_⟩
  · by_cases e : i.toInt = m.toInt
    · rw [Int32.toInt_inj.1 e]; exact hm
    · exact h1 i (by omega) q
  · rcases h2 with ⟨h2, _⟩ | ⟨h2, h3, h4⟩
    · exact absurd h2 hb
    · refine Or.inr ⟨by omega, h3, fun i a q => ?_⟩
      by_cases e : i.toInt = m.toInt
      · rw [Int32.toInt_inj.1 e]; exact ⟨fun a2 => by omega, fun _ => c⟩
      · exact h4 i (by omega) q
theorem bb_of {V : vaF} {n z : Int32} {f : Nat → Int32} {ok : Prop} {t k r : Int32} (hv : ok ∧ spK t k) (h : bbI V n f t k z r) : bbQ V n z f ok t k r := by
  obtain ⟨h1, h2⟩ := h
  refine Or.inr ⟨hv, Or.inr ⟨h1, ?_⟩⟩
  rcases h2 with ⟨h2, h3⟩ | h2
  · exact Or.inl ⟨h3, h2⟩
  · exact Or.inr h2
/-- compare: what a hand holds (z its sort, p) against VALUE -/
def cpQ (V : vaF) (n : Int32) (ok : Prop) (z : Int32) (p : Int64 × Int64) (x t k r : Int32) : Prop := (¬ (ok ∧ atV n x t k) ∧ r.toInt = -2) ∨ ((ok ∧ atV n x t k) ∧ ((z.toInt = 0 ∧ r.toInt = -11) ∨ (z.toInt ≠ 0 ∧ z.toInt ≠ 2 ∧ r.toInt = -13) ∨ (z.toInt = 2 ∧ (((V x t k).2.toInt = 0 ∧ r.toInt = -5) ∨ (¬ (V x t k).2.toInt = 0 ∧ r.toInt = cmpP (V x t k) p)))))
theorem cp_no {V : vaF} {n : Int32} {ok : Prop} {z : Int32} {p : Int64 × Int64} {x t k r : Int32} (h : ¬ (ok ∧ atV n x t k)) (e : r.toInt = -2) : cpQ V n ok z p x t k r := Or.inl ⟨h, e⟩
/-! steps of the loops -/
theorem nm_0 {P : Int32 → Prop} (h : P 0) : ∀ k : Int32, 0 ≤ k.toInt → k.toInt < (1 : Int32).toInt → P k := by
  intro k h1 h2
  rw [ti_1] at h2
  have e : k = 0 := Int32.toInt_inj.1 (by rw [ti_0]; omega)
  rw [e]; exact h
theorem nm_s {P : Int32 → Prop} {m m' : Int32} (h : ∀ k : Int32, 0 ≤ k.toInt → k.toInt < m.toInt → P k) (hp : P m) (hi : m'.toInt = m.toInt + 1) : ∀ k : Int32, 0 ≤ k.toInt → k.toInt < m'.toInt → P k := by
  intro k h1 h2
  by_cases e : k.toInt = m.toInt
  · rw [Int32.toInt_inj.1 e]; exact hp
  · exact h k h1 (by omega)
theorem nmu_of {a b : Int64} {q : Int64 × Int64} (h : (a, b) = q) (c : ¬ b.toInt = 0) : ¬ q.2.toInt = 0 := by rw [← h]; exact c
theorem nmu_to {a b : Int64} {q : Int64 × Int64} (h : (a, b) = q) (c : ¬ q.2.toInt = 0) : ¬ b.toInt = 0 := by rw [← h] at c; exact c
theorem mu_of {a b : Int64} {q : Int64 × Int64} (h : (a, b) = q) (c : b.toInt = 0) : q.2.toInt = 0 := by rw [← h]; exact c
theorem cmp_of {a b c d : Int64} {p q : Int64 × Int64} (h : (a, b) = p) (g : (c, d) = q) : cmpP p q = cmpW a.toInt b.toInt c.toInt d.toInt := by rw [← h, ← g]; rfl
theorem most_of {V : vaF} {n x t b m : Int32} (hv : (0 ≤ x.toInt ∧ x.toInt < n.toInt) ∧ 0 ≤ t.toInt ∧ t.toInt ≤ 6) (h : bestI (V x t) b m) (hm : m.toInt = t.toInt + 1) (hn : ∀ k : Int32, 0 ≤ k.toInt → k.toInt < m.toInt → ¬ (V x t k).2.toInt = 0) : mostQ V n x t b := by
  obtain ⟨h1, h2, h3⟩ := h
  exact Or.inr ⟨hv, Or.inr ⟨fun k hk => hn k hk.2.1 (by have := hk.2.2; omega), ⟨hv.2, by omega, by omega⟩, h2, fun j a b => h3 j a (by omega)⟩⟩
theorem most_mu {V : vaF} {n x t k r : Int32} (hv : (0 ≤ x.toInt ∧ x.toInt < n.toInt) ∧ 0 ≤ t.toInt ∧ t.toInt ≤ 6) (hk : spK t k) (h : (V x t k).2.toInt = 0) (e : r.toInt = -5) : mostQ V n x t r := Or.inr ⟨hv, Or.inl ⟨⟨k, hk, h⟩, e⟩⟩
theorem ul_num {d k : Int32} (hd : 0 ≤ d.toInt ∧ d.toInt ≤ 6) (hk : 0 ≤ k.toInt ∧ k.toInt ≤ 6) : (10 * d + k).toInt = 10 * d.toInt + k.toInt := by
  obtain ⟨j, hj, e⟩ := nI_of (x := d) (by rw [fa_lt, ti_0]; omega)
  obtain ⟨i, hi, e2⟩ := nI_of (x := k) (by rw [fa_lt, ti_0]; omega)
  subst e
  subst e2
  rw [nI_toInt hj] at hd
  rw [nI_toInt hi] at hk
  have key : ∀ a : Fin 7, ∀ b : Fin 7, (10 * nI a.val + nI b.val).toInt = 10 * (nI a.val).toInt + (nI b.val).toInt := by decide +kernel
  exact key ⟨j, by omega⟩ ⟨i, by omega⟩
theorem unlQ_uniq {V V' : vaF} {n x y r r' : Int32} (hV : ∀ t k : Int32, spK t k → inN n x → inN n y → V x t k = V' x t k ∧ V y t k = V' y t k) (a : unlQ V n x y r) (b : unlQ V' n x y r') : r = r' := by
  refine Int32.toInt_inj.1 ?_
  rcases a with ⟨a1, a2⟩ | ⟨a1, a2⟩
  · have b := b.resolve_right (fun q => a1 q.1)
    omega
  · have b := (b.resolve_left (fun q => q.1 a1)).2
    have e1 : ∀ t k : Int32, spK t k → (mu2 V x y t k ↔ mu2 V' x y t k) := fun t k h => by
      unfold mu2; rw [(hV t k h a1.1 a1.2).1, (hV t k h a1.1 a1.2).2]
    have e2 : ∀ t k : Int32, spK t k → (V x t k = V y t k ↔ V' x t k = V' y t k) := fun t k h => by
      rw [(hV t k h a1.1 a1.2).1, (hV t k h a1.1 a1.2).2]
    rcases a2 with ⟨t, k, h1, h2, h3⟩ | ⟨h2, h3⟩
    · rcases b with ⟨t', k', g1, g2, g3⟩ | ⟨g2, g3⟩
      · rcases Int.lt_trichotomy t.toInt t'.toInt with c | c | c
        · exfalso
          have q := g2 t k h1 (Or.inl c)
          rcases h3 with ⟨h3, _⟩ | ⟨_, h3, _⟩
          · exact q.1 ((e1 t k h1).1 h3)
          · exact h3 ((e2 t k h1).2 q.2)
        · rcases Int.lt_trichotomy k.toInt k'.toInt with d | d | d
          · exfalso
            have q := g2 t k h1 (Or.inr ⟨c, d⟩)
            rcases h3 with ⟨h3, _⟩ | ⟨_, h3, _⟩
            · exact q.1 ((e1 t k h1).1 h3)
            · exact h3 ((e2 t k h1).2 q.2)
          · have c2 := Int32.toInt_inj.1 c
            have d2 := Int32.toInt_inj.1 d
            subst c2
            subst d2
            rcases h3 with ⟨h3, h4⟩ | ⟨h3, _, h4⟩
            · rcases g3 with ⟨_, g4⟩ | ⟨g3, _⟩
              · omega
              · exact absurd ((e1 t k h1).1 h3) g3
            · rcases g3 with ⟨g3, _⟩ | ⟨_, _, g4⟩
              · exact absurd ((e1 t k h1).2 g3) h3
              · omega
          · exfalso
            have q := h2 t' k' g1 (Or.inr ⟨c.symm, d⟩)
            rcases g3 with ⟨g3, _⟩ | ⟨_, g3, _⟩
            · exact q.1 ((e1 t' k' g1).2 g3)
            · exact g3 ((e2 t' k' g1).1 q.2)
        · exfalso
          have q := h2 t' k' g1 (Or.inl c)
          rcases g3 with ⟨g3, _⟩ | ⟨_, g3, _⟩
          · exact q.1 ((e1 t' k' g1).2 g3)
          · exact g3 ((e2 t' k' g1).1 q.2)
      · exfalso
        have q := g2 t k h1
        rcases h3 with ⟨h3, _⟩ | ⟨_, h3, _⟩
        · exact q.1 ((e1 t k h1).1 h3)
        · exact h3 ((e2 t k h1).2 q.2)
    · rcases b with ⟨t', k', g1, g2, g3⟩ | ⟨g2, g3⟩
      · exfalso
        have q := h2 t' k' g1
        rcases g3 with ⟨g3, _⟩ | ⟨_, g3, _⟩
        · exact q.1 ((e1 t' k' g1).2 g3)
        · exact g3 ((e2 t' k' g1).1 q.2)
      · omega
theorem alkQ_uniq {V V' : vaF} {fe fe' : Nat → Int32} {n x y r r' : Int32} (hV : ∀ t k : Int32, spK t k → inN n x → inN n y → V x t k = V' x t k ∧ V y t k = V' y t k) (hE : inN n x → inN n y → fe x.toNatClampNeg = fe' x.toNatClampNeg ∧ fe y.toNatClampNeg = fe' y.toNatClampNeg) (a : alkQ V fe n x y r) (b : alkQ V' fe' n x y r') : r = r' := by
  refine Int32.toInt_inj.1 ?_
  rcases a with ⟨a1, a2⟩ | ⟨a1, a2⟩
  · have b := b.resolve_right (fun q => a1 q.1)
    omega
  · have b := (b.resolve_left (fun q => q.1 a1)).2
    have e1 : ∀ t k : Int32, spK t k → (mu2 V x y t k ↔ mu2 V' x y t k) := fun t k h => by
      unfold mu2; rw [(hV t k h a1.1 a1.2).1, (hV t k h a1.1 a1.2).2]
    have e2 : ∀ t k : Int32, spK t k → (V x t k = V y t k ↔ V' x t k = V' y t k) := fun t k h => by
      rw [(hV t k h a1.1 a1.2).1, (hV t k h a1.1 a1.2).2]
    rw [← (hE a1.1 a1.2).1, ← (hE a1.1 a1.2).2] at b
    rcases a2 with ⟨⟨t, k, h1, h2⟩, h3⟩ | ⟨h2, h3⟩
    · rcases b with ⟨_, g3⟩ | ⟨g2, _⟩
      · omega
      · exact absurd ((e1 t k h1).1 h2) (g2 t k h1)
    · rcases b with ⟨⟨t, k, g1, g2⟩, _⟩ | ⟨_, g3⟩
      · exact absurd ((e1 t k g1).2 g2) (h2 t k g1)
      · rcases h3 with ⟨⟨h3, h4⟩, h5⟩ | ⟨h3, h5⟩
        · rcases g3 with ⟨_, g5⟩ | ⟨g3, _⟩
          · omega
          · exact absurd ⟨h3, fun t k h => (e2 t k h).1 (h4 t k h)⟩ g3
        · rcases g3 with ⟨⟨g3, g4⟩, _⟩ | ⟨_, g5⟩
          · exact absurd ⟨g3, fun t k h => (e2 t k h).2 (g4 t k h)⟩ h3
          · omega
theorem chQ_uniq {l fk fn fc fd fe l' fk' fn' fc' fd' fe' : Nat → Int32} {V V' : vaF} {n x t k r r' : Int32} (hk : inN n x → fk x.toNatClampNeg = fk' x.toNatClampNeg ∧ fe x.toNatClampNeg = fe' x.toNatClampNeg) (hp : atV n x t k → pickW l fk fn fc fd fe V x t k = pickW l' fk' fn' fc' fd' fe' V' x t k) (a : chQ l fk fn fc fd fe V n x t k r) (b : chQ l' fk' fn' fc' fd' fe' V' n x t k r') : r = r' := by
  unfold chQ at a b
  by_cases h : atV n x t k
  · rw [← (hk h.1).1, ← (hk h.1).2, ← hp h] at b
    rcases a with ⟨a1, a2⟩ | ⟨a1, a2⟩
    · have b := b.resolve_right (fun q => a1 q.1)
      exact Int32.toInt_inj.1 (by omega)
    · have b := (b.resolve_left (fun q => q.1 a1)).2
      rcases a2 with ⟨a2, a3⟩ | ⟨a2, a3⟩
      · rcases b with ⟨_, b3⟩ | ⟨b2, _⟩
        · exact Int32.toInt_inj.1 (by omega)
        · exact absurd a2 b2
      · rcases b with ⟨b2, _⟩ | ⟨_, b3⟩
        · exact absurd b2 a2
        · rw [a3, b3]
  · have a := a.resolve_right (fun q => h q.1.1)
    have b := b.resolve_right (fun q => h q.1.1)
    exact Int32.toInt_inj.1 (by omega)
theorem bbQ_uniq {V V' : vaF} {n z : Int32} {f f' : Nat → Int32} {ok : Prop} {t k r r' : Int32} (hf : ok → ∀ i : Int32, (0 ≤ i.toInt ∧ i.toInt < z.toInt) → f i.toNatClampNeg = f' i.toNatClampNeg) (hV : ∀ x : Int32, inN n x → spK t k → V x t k = V' x t k) (a : bbQ V n z f ok t k r) (b : bbQ V' n z f' ok t k r') : r = r' := by
  refine Int32.toInt_inj.1 ?_
  rcases a with ⟨a1, a2⟩ | ⟨a1, a2⟩
  · have b := b.resolve_right (fun q => a1 q.1)
    omega
  · have b := (b.resolve_left (fun q => q.1 a1)).2
    have hf := hf a1.1
    have hW : ∀ i : Int32, (0 ≤ i.toInt ∧ i.toInt < z.toInt) → inN n (f i.toNatClampNeg) → V (f i.toNatClampNeg) t k = V' (f' i.toNatClampNeg) t k := fun i h q => by rw [← hf i h]; exact hV _ q a1.2
    have hI : ∀ i : Int32, (0 ≤ i.toInt ∧ i.toInt < z.toInt) → (inN n (f i.toNatClampNeg) ↔ inN n (f' i.toNatClampNeg)) := fun i h => by rw [hf i h]
    rcases a2 with ⟨⟨i, i1, i2, i3⟩, a3⟩ | ⟨a3, a4⟩
    · rcases b with ⟨_, b3⟩ | ⟨b3, _⟩
      · omega
      · exact absurd (by rw [← hW i i1 i2]; exact i3) (b3 i i1 ((hI i i1).1 i2))
    · rcases b with ⟨⟨i, i1, i2, i3⟩, _⟩ | ⟨_, b4⟩
      · have i2 := (hI i i1).2 i2
        exact absurd (by rw [hW i i1 i2]; exact i3) (a3 i i1 i2)
      · rcases a4 with ⟨a4, a5⟩ | ⟨a4, a5, a6⟩
        · rcases b4 with ⟨_, b5⟩ | ⟨b4, b5, _⟩
          · omega
          · exact absurd ((hI r' b4).2 b5) (a4 r' b4)
        · rcases b4 with ⟨b4, _⟩ | ⟨b4, b5, b6⟩
          · exact absurd ((hI r a4).1 a5) (b4 r a4)
          · rcases Int.lt_trichotomy r.toInt r'.toInt with h | h | h
            · exfalso
              have c1 := (b6 r a4 ((hI r a4).1 a5)).1 h
              have c2 := (a6 r' b4 ((hI r' b4).2 b5)).2 (by omega)
              rw [hW r a4 a5, hW r' b4 ((hI r' b4).2 b5), cmpP_anti] at c2
              omega
            · exact h
            · exfalso
              have c1 := (a6 r' b4 ((hI r' b4).2 b5)).1 h
              have c2 := (b6 r a4 ((hI r a4).1 a5)).2 (by omega)
              rw [← hW r a4 a5, ← hW r' b4 ((hI r' b4).2 b5), cmpP_anti] at c2
              omega
theorem cpQ_uniq {V V' : vaF} {n : Int32} {ok : Prop} {z : Int32} {p p' : Int64 × Int64} {x t k r r' : Int32} (hp : ok → z.toInt = 2 → p = p') (hV : atV n x t k → V x t k = V' x t k) (a : cpQ V n ok z p x t k r) (b : cpQ V' n ok z p' x t k r') : r = r' := by
  refine Int32.toInt_inj.1 ?_
  rcases a with ⟨a1, a2⟩ | ⟨a1, a2⟩
  · have b := b.resolve_right (fun q => a1 q.1)
    omega
  · have b := (b.resolve_left (fun q => q.1 a1)).2
    rw [← hV a1.2] at b
    rcases a2 with a2 | a2 | ⟨a2, a3⟩
    · omega
    · omega
    · have e := hp a1.1 a2
      subst e
      omega
theorem nm_le {P : Int32 → Prop} {m : Int32} (h : ∀ k : Int32, 0 ≤ k.toInt → k.toInt < m.toInt → P k) (hp : P m) : ∀ k : Int32, 0 ≤ k.toInt → k.toInt ≤ m.toInt → P k := by
  intro k h1 h2
  by_cases e : k.toInt = m.toInt
  · rw [Int32.toInt_inj.1 e]; exact hp
  · exact h k h1 (by omega)
theorem bb_end {V : vaF} {n : Int32} {f : Nat → Int32} {t k m z b : Int32} (h : bbI V n f t k m b) (h1 : ¬ m.toInt < z.toInt) (h2 : m.toInt ≤ z.toInt) : bbI V n f t k z b := by
  have e : m = z := Int32.toInt_inj.1 (by omega)
  subst e
  exact h
theorem one_le {a b : Int64} {q : Int64 × Int64} (h : (a, b) = q) (c : 1 ≤ q.2.toInt) : 1 ≤ b.toInt := by rw [← h] at c; exact c
theorem dX12_most_0 : decode cX12_most 0 = .ok (.aload_n 0, 1) := by decide +kernel
theorem dX12_most_1 : decode cX12_most 1 = .ok (.getfield 32, 3) := by decide +kernel
theorem dX12_most_101 : decode cX12_most 101 = .ok (.iload 5, 2) := by decide +kernel
theorem dX12_most_103 : decode cX12_most 103 = .ok (.istore_n 3, 1) := by decide +kernel
theorem dX12_most_104 : decode cX12_most 104 = .ok (.iload 6, 2) := by decide +kernel
theorem dX12_most_106 : decode cX12_most 106 = .ok (.istore 4, 2) := by decide +kernel
theorem dX12_most_108 : decode cX12_most 108 = .ok (.iinc 5 1, 3) := by decide +kernel
theorem dX12_most_11 : decode cX12_most 11 = .ok (.iload_n 2, 1) := by decide +kernel
theorem dX12_most_111 : decode cX12_most 111 = .ok (.goto (-58), 3) := by decide +kernel
theorem dX12_most_114 : decode cX12_most 114 = .ok (.iload_n 3, 1) := by decide +kernel
theorem dX12_most_115 : decode cX12_most 115 = .ok (.ireturn, 1) := by decide +kernel
theorem dX12_most_12 : decode cX12_most 12 = .ok (.invokestatic 120, 3) := by decide +kernel
theorem dX12_most_15 : decode cX12_most 15 = .ok (.ifCond .ne 6, 3) := by decide +kernel
theorem dX12_most_18 : decode cX12_most 18 = .ok (.bipush (-2), 2) := by decide +kernel
theorem dX12_most_20 : decode cX12_most 20 = .ok (.ireturn, 1) := by decide +kernel
theorem dX12_most_21 : decode cX12_most 21 = .ok (.iconst 0, 1) := by decide +kernel
theorem dX12_most_22 : decode cX12_most 22 = .ok (.istore_n 3, 1) := by decide +kernel
theorem dX12_most_23 : decode cX12_most 23 = .ok (.aload_n 0, 1) := by decide +kernel
theorem dX12_most_24 : decode cX12_most 24 = .ok (.getfield 43, 3) := by decide +kernel
theorem dX12_most_27 : decode cX12_most 27 = .ok (.iload_n 1, 1) := by decide +kernel
theorem dX12_most_28 : decode cX12_most 28 = .ok (.iload_n 2, 1) := by decide +kernel
theorem dX12_most_29 : decode cX12_most 29 = .ok (.iconst 0, 1) := by decide +kernel
theorem dX12_most_30 : decode cX12_most 30 = .ok (.invokevirtual 185, 3) := by decide +kernel
theorem dX12_most_33 : decode cX12_most 33 = .ok (.istore 4, 2) := by decide +kernel
theorem dX12_most_35 : decode cX12_most 35 = .ok (.aload_n 0, 1) := by decide +kernel
theorem dX12_most_36 : decode cX12_most 36 = .ok (.getfield 43, 3) := by decide +kernel
theorem dX12_most_39 : decode cX12_most 39 = .ok (.iload 4, 2) := by decide +kernel
theorem dX12_most_4 : decode cX12_most 4 = .ok (.iload_n 1, 1) := by decide +kernel
theorem dX12_most_41 : decode cX12_most 41 = .ok (.invokevirtual 197, 3) := by decide +kernel
theorem dX12_most_44 : decode cX12_most 44 = .ok (.ifCond .eq 6, 3) := by decide +kernel
theorem dX12_most_47 : decode cX12_most 47 = .ok (.bipush (-5), 2) := by decide +kernel
theorem dX12_most_49 : decode cX12_most 49 = .ok (.ireturn, 1) := by decide +kernel
theorem dX12_most_5 : decode cX12_most 5 = .ok (.invokevirtual 150, 3) := by decide +kernel
theorem dX12_most_50 : decode cX12_most 50 = .ok (.iconst 1, 1) := by decide +kernel
theorem dX12_most_51 : decode cX12_most 51 = .ok (.istore 5, 2) := by decide +kernel
theorem dX12_most_53 : decode cX12_most 53 = .ok (.iload 5, 2) := by decide +kernel
theorem dX12_most_55 : decode cX12_most 55 = .ok (.iload_n 2, 1) := by decide +kernel
theorem dX12_most_56 : decode cX12_most 56 = .ok (.if_icmp .gt 58, 3) := by decide +kernel
theorem dX12_most_59 : decode cX12_most 59 = .ok (.aload_n 0, 1) := by decide +kernel
theorem dX12_most_60 : decode cX12_most 60 = .ok (.getfield 43, 3) := by decide +kernel
theorem dX12_most_63 : decode cX12_most 63 = .ok (.iload_n 1, 1) := by decide +kernel
theorem dX12_most_64 : decode cX12_most 64 = .ok (.iload_n 2, 1) := by decide +kernel
theorem dX12_most_65 : decode cX12_most 65 = .ok (.iload 5, 2) := by decide +kernel
theorem dX12_most_67 : decode cX12_most 67 = .ok (.invokevirtual 185, 3) := by decide +kernel
theorem dX12_most_70 : decode cX12_most 70 = .ok (.istore 6, 2) := by decide +kernel
theorem dX12_most_72 : decode cX12_most 72 = .ok (.aload_n 0, 1) := by decide +kernel
theorem dX12_most_73 : decode cX12_most 73 = .ok (.getfield 43, 3) := by decide +kernel
theorem dX12_most_76 : decode cX12_most 76 = .ok (.iload 6, 2) := by decide +kernel
theorem dX12_most_78 : decode cX12_most 78 = .ok (.invokevirtual 197, 3) := by decide +kernel
theorem dX12_most_8 : decode cX12_most 8 = .ok (.ifCond .eq 10, 3) := by decide +kernel
theorem dX12_most_81 : decode cX12_most 81 = .ok (.ifCond .eq 6, 3) := by decide +kernel
theorem dX12_most_84 : decode cX12_most 84 = .ok (.bipush (-5), 2) := by decide +kernel
theorem dX12_most_86 : decode cX12_most 86 = .ok (.ireturn, 1) := by decide +kernel
theorem dX12_most_87 : decode cX12_most 87 = .ok (.aload_n 0, 1) := by decide +kernel
theorem dX12_most_88 : decode cX12_most 88 = .ok (.getfield 43, 3) := by decide +kernel
theorem dX12_most_91 : decode cX12_most 91 = .ok (.iload 6, 2) := by decide +kernel
theorem dX12_most_93 : decode cX12_most 93 = .ok (.iload 4, 2) := by decide +kernel
theorem dX12_most_95 : decode cX12_most 95 = .ok (.invokevirtual 247, 3) := by decide +kernel
theorem dX12_most_98 : decode cX12_most 98 = .ok (.ifCond .le 10, 3) := by decide +kernel
set_option maxRecDepth 20000 in
theorem ggX12_most_X11_isMuch : GoodIn wsX12_most wsX11_isMuch := goodIn_r _ [97, 50, 143, 144, 145, 146, 147, 148] rfl (by decide +kernel)
set_option maxRecDepth 20000 in
theorem ggX12_most_X11_order : GoodIn wsX12_most wsX11_order := goodIn_r _ [101, 49, 50, 102, 103, 104, 105, 106, 107, 108, 143, 144, 145, 146, 147, 148] rfl (by decide +kernel)
set_option maxRecDepth 40000 in
theorem ggX12_most_X11_settle_0 : GoodIn wsX12_most [.code yX11_settle cX11_settle 8 (some .int)] := goodIn_r _ [20] rfl (by decide +kernel)
set_option maxRecDepth 40000 in
theorem ggX12_most_X11_settle_1 : GoodIn wsX12_most wsX11_settle_r1 := goodIn_r _ [21, 22, 23, 24, 25, 26, 27, 28, 29, 30, 31, 32, 33, 34, 35, 6, 36, 37, 38, 39, 40, 41, 42, 43] rfl (by decide +kernel)
set_option maxRecDepth 40000 in
theorem ggX12_most_X11_settle_2 : GoodIn wsX12_most wsX11_settle_r2 := goodIn_r _ [44, 45, 46, 47, 19, 48, 49, 50, 51, 17, 18, 52, 53, 54, 55, 56, 57, 58, 59, 60, 61, 62, 63, 64] rfl (by decide +kernel)
set_option maxRecDepth 40000 in
theorem ggX12_most_X11_settle_3 : GoodIn wsX12_most wsX11_settle_r3 := goodIn_r _ [65, 66, 67, 68, 69, 70, 71, 72, 73, 74, 75, 76, 77, 78, 79, 80, 81, 82, 83, 84, 85, 86, 87, 88] rfl (by decide +kernel)
set_option maxRecDepth 40000 in
theorem ggX12_most_X11_settle_4 : GoodIn wsX12_most wsX11_settle_r4 := goodIn_r _ [89, 90, 91, 92, 93, 94, 95, 96, 97, 98, 99, 100, 101, 102, 103, 104, 105, 106, 107, 108, 109, 110, 111, 112] rfl (by decide +kernel)
set_option maxRecDepth 40000 in
theorem ggX12_most_X11_settle_5 : GoodIn wsX12_most wsX11_settle_r5 := goodIn_r _ [113, 114, 115, 116, 117, 118, 119, 120, 121] rfl (by decide +kernel)
set_option maxRecDepth 40000 in
theorem ggX12_most_X11_settle_6 : GoodIn wsX12_most wsX110 := goodIn_r _ [143, 144, 145, 146, 147, 148] rfl (by decide +kernel)
set_option maxRecDepth 40000 in
theorem ggX12_most_X11_settle_7 : GoodIn wsX12_most wsX80 := goodIn_r _ [149, 150, 151, 152, 153, 154, 155] rfl (by decide +kernel)
set_option maxRecDepth 40000 in
theorem ggX12_most_X11_settle_8 : GoodIn wsX12_most wsX20 := goodIn_r _ [135, 136, 137, 138, 139, 140, 141, 142] rfl (by decide +kernel)
set_option maxRecDepth 40000 in
theorem ggX12_most_X11_settle : GoodIn wsX12_most wsX11_settle := (goodIn_app ggX12_most_X11_settle_0 (goodIn_app (goodIn_app (goodIn_app (goodIn_app ggX12_most_X11_settle_1 (goodIn_app ggX12_most_X11_settle_2 (goodIn_app ggX12_most_X11_settle_3 (goodIn_app ggX12_most_X11_settle_4 ggX12_most_X11_settle_5)))) ggX12_most_X11_settle_6) ggX12_most_X11_settle_7) ggX12_most_X11_settle_8))
set_option maxRecDepth 20000 in
theorem ggX12_most_X12_isDay : GoodIn wsX12_most wsX12_isDay := goodIn_r _ [14, 15, 9, 10, 11] rfl (by decide +kernel)
set_option maxRecDepth 20000 in
theorem ggX12_most_X2_has : GoodIn wsX12_most wsX2_has := goodIn_r _ [7, 8, 9, 10, 11, 135, 136, 137, 138, 139, 140, 141, 142] rfl (by decide +kernel)
set_option maxRecDepth 20000 in
theorem gX12_most_X11_isMuch : GoodIn wsX12_most (wsV RX12 197 RX11 yX11_isMuch wsX11_isMuch) := goodIn_app (goodIn_r _ [122, 95, 96, 19] rfl (by decide +kernel)) ggX12_most_X11_isMuch
set_option maxRecDepth 20000 in
theorem gX12_most_X11_order : GoodIn wsX12_most (wsV RX12 247 RX11 yX11_order wsX11_order) := goodIn_app (goodIn_r _ [123, 99, 100, 19] rfl (by decide +kernel)) ggX12_most_X11_order
set_option maxRecDepth 20000 in
theorem gX12_most_X11_settle : GoodIn wsX12_most (wsV RX12 185 RX11 yX11_settle wsX11_settle) := goodIn_app (goodIn_r _ [16, 17, 18, 19] rfl (by decide +kernel)) ggX12_most_X11_settle
set_option maxRecDepth 20000 in
theorem gX12_most_X12_isDay : GoodIn wsX12_most (va_wsS RX12 120 yX12_isDay wsX12_isDay) := goodIn_app (goodIn_of _ (by decide +kernel)) ggX12_most_X12_isDay
set_option maxRecDepth 20000 in
theorem gX12_most_X2_has : GoodIn wsX12_most (wsV RX12 150 RX2 yX2_has wsX2_has) := goodIn_app (goodIn_r _ [3, 4, 5, 6] rfl (by decide +kernel)) ggX12_most_X2_has
set_option maxRecDepth 20000 in
theorem in_X12_most_X12 : ∀ w ∈ wsX120, w ∈ wsX12_most := sub_r [124, 125, 126, 127, 128, 129, 130, 131, 132, 133, 134] rfl
set_option maxHeartbeats 4000000 in
set_option maxRecDepth 100000 in
theorem c_X12_most (l : Launch) (D : va_G) (T : Nat → ClassId) (ad sa av : Nat → Nat) (ta : Nat) (sz : Nat) (h0 : Nat) (wo : Nat) (fs0 : List Value) (la : Nat) (cl : Nat) (p0 : Nat) (p1 : Nat) (p4 : Nat) (n : Int32) (l9 : Nat → Int32) (n0 : Int32) (c1 : Nat) (c2 : Nat) (c3 : Nat) (c4 : Nat) (c5 : Nat) (c6 : Nat) (c7 : Nat) (f1 : Nat → Int32) (f2 : Nat → Int32) (f3 : Nat → Int32) (f4 : Nat → Int32) (f5 : Nat → Int32) (g0 : Nat → Int64) (g1 : Nat → Int64) (g4 : Nat → Int32) (x1 : Int32) (x2 : Int32) (e0_4 : fs0[4]? = some (.ref cl)) (e0_6 : fs0[6]? = some (.ref wo)) (hn0 : 0 ≤ n0.toInt ∧ n0.toInt ≤ 24) (hok : okC f1 f3 f4 f5) (hmm : memW (VALW l9 f1 f2 f3 f4 f5) n0 n g0 g1 g4) (hlq : (1 ≤ (l9 4).toInt ∧ (l9 4).toInt ≤ 9) ∧ 1 ≤ (l9 6).toInt ∧ (l9 6).toInt ≤ 9) : Met l yX12_most wsX12_most ({ frames := 67, cells := 0, slots := 0, locals := 2197 }) (pWk [.ref h0, .int x1, .int x2] D T [(h0, .inr (9, fs0)), (wo, .inr (8, [.ref la, .ref cl, .ref p0, .ref p1, .ref p4, .int n])), (la, .inr (5, [.int (l9 0), .int (l9 1), .int (l9 2), .int (l9 3), .int (l9 4), .int (l9 5), .int (l9 6)])), (cl, .inr (1, [.int n0, .ref c1, .ref c2, .ref c3, .ref c4, .ref c5, .ref c6, .ref c7])), (c1, .inl (T 0, 24, .inl f1)), (c2, .inl (T 0, 24, .inl f2)), (c3, .inl (T 0, 24, .inl f3)), (c4, .inl (T 0, 24, .inl f4)), (c5, .inl (T 0, 24, .inl f5)), (p0, .inl (T 1, 676, .inr (.inl g0))), (p1, .inl (T 1, 676, .inr (.inl g1))), (p4, .inl (T 0, 672, .inl g4))] sz ad sa av ta) (va_Qi (fun (r : Int32) (u : (Nat → Int64) × (Nat → Int64) × (Nat → Int32)) => mostQ (VALW l9 f1 f2 f3 f4 f5) n0 x1 x2 r ∧ stW (VALW l9 f1 f2 f3 f4 f5) n0 n (fun _ => True) g0 g1 g4 u.1 u.2.1 u.2.2) (bW D (va_A [(h0, .inr (9, fs0)), (wo, .inr (8, [.ref la, .ref cl, .ref p0, .ref p1, .ref p4, .int n])), (la, .inr (5, [.int (l9 0), .int (l9 1), .int (l9 2), .int (l9 3), .int (l9 4), .int (l9 5), .int (l9 6)])), (cl, .inr (1, [.int n0, .ref c1, .ref c2, .ref c3, .ref c4, .ref c5, .ref c6, .ref c7])), (c1, .inl (T 0, 24, .inl f1)), (c2, .inl (T 0, 24, .inl f2)), (c3, .inl (T 0, 24, .inl f3)), (c4, .inl (T 0, 24, .inl f4)), (c5, .inl (T 0, 24, .inl f5)), (p0, .inl (T 1, 676, .inr (.inl g0))), (p1, .inl (T 1, 676, .inr (.inl g1))), (p4, .inl (T 0, 672, .inl g4))] sz) (fun (u : (Nat → Int64) × (Nat → Int64) × (Nat → Int32)) => [(h0, .inr (9, fs0)), (wo, .inr (8, [.ref la, .ref cl, .ref p0, .ref p1, .ref p4, .int n])), (la, .inr (5, [.int (l9 0), .int (l9 1), .int (l9 2), .int (l9 3), .int (l9 4), .int (l9 5), .int (l9 6)])), (cl, .inr (1, [.int n0, .ref c1, .ref c2, .ref c3, .ref c4, .ref c5, .ref c6, .ref c7])), (c1, .inl (T 0, 24, .inl f1)), (c2, .inl (T 0, 24, .inl f2)), (c3, .inl (T 0, 24, .inl f3)), (c4, .inl (T 0, 24, .inl f4)), (c5, .inl (T 0, 24, .inl f5)), (p0, .inl (T 1, 676, .inr (.inl u.1))), (p1, .inl (T 1, 676, .inr (.inl u.2.1))), (p4, .inl (T 0, 672, .inl u.2.2))])) (va_A [(h0, .inr (9, fs0)), (wo, .inr (8, [.ref la, .ref cl, .ref p0, .ref p1, .ref p4, .int n])), (la, .inr (5, [.int (l9 0), .int (l9 1), .int (l9 2), .int (l9 3), .int (l9 4), .int (l9 5), .int (l9 6)])), (cl, .inr (1, [.int n0, .ref c1, .ref c2, .ref c3, .ref c4, .ref c5, .ref c6, .ref c7])), (c1, .inl (T 0, 24, .inl f1)), (c2, .inl (T 0, 24, .inl f2)), (c3, .inl (T 0, 24, .inl f3)), (c4, .inl (T 0, 24, .inl f4)), (c5, .inl (T 0, 24, .inl f5)), (p0, .inl (T 1, 676, .inr (.inl g0))), (p1, .inl (T 1, 676, .inr (.inl g1))), (p4, .inl (T 0, 672, .inl g4))] sz)) 0 0 (va_A [(h0, .inr (9, fs0)), (wo, .inr (8, [.ref la, .ref cl, .ref p0, .ref p1, .ref p4, .int n])), (la, .inr (5, [.int (l9 0), .int (l9 1), .int (l9 2), .int (l9 3), .int (l9 4), .int (l9 5), .int (l9 6)])), (cl, .inr (1, [.int n0, .ref c1, .ref c2, .ref c3, .ref c4, .ref c5, .ref c6, .ref c7])), (c1, .inl (T 0, 24, .inl f1)), (c2, .inl (T 0, 24, .inl f2)), (c3, .inl (T 0, 24, .inl f3)), (c4, .inl (T 0, 24, .inl f4)), (c5, .inl (T 0, 24, .inl f5)), (p0, .inl (T 1, 676, .inr (.inl g0))), (p1, .inl (T 1, 676, .inr (.inl g1))), (p4, .inl (T 0, 672, .inl g4))] sz) := by
  refine Met.ofW (cc := cX12_most) (maxL := 7) (ret := (some .int)) (by decide +kernel) rfl ?_
  intro p e s m args below meth c s₁ B hml hv
  obtain ⟨rfl, hsz, hP, hE, hD0, hV⟩ := hv
  have hx := B.exec
  have hb := B.bytes
  have hr := B.returns
  have hts := atoms_spec (ws := wsX12_most) B.pre
  have hown : s.vm.findClass RX12 = some m.cls := findClass_of_methodNamed B.named
  have hlocks := B.notSynchronized
  subst hsz
  have hD := hD0.self (sz := s.heap.size)
  generalize hAe : va_A [(h0, .inr (9, fs0)), (wo, .inr (8, [.ref la, .ref cl, .ref p0, .ref p1, .ref p4, .int n])), (la, .inr (5, [.int (l9 0), .int (l9 1), .int (l9 2), .int (l9 3), .int (l9 4), .int (l9 5), .int (l9 6)])), (cl, .inr (1, [.int n0, .ref c1, .ref c2, .ref c3, .ref c4, .ref c5, .ref c6, .ref c7])), (c1, .inl (T 0, 24, .inl f1)), (c2, .inl (T 0, 24, .inl f2)), (c3, .inl (T 0, 24, .inl f3)), (c4, .inl (T 0, 24, .inl f4)), (c5, .inl (T 0, 24, .inl f5)), (p0, .inl (T 1, 676, .inr (.inl g0))), (p1, .inl (T 1, 676, .inr (.inl g1))), (p4, .inl (T 0, 672, .inl g4))] s.heap.size = A at hD hV ⊢
  have hA : ∀ q : Nat, s.heap.size ≤ q → A q := fun q h => by rw [← hAe]; exact Or.inr h
  have hS : va_S A s.heap s.heap [] := va_S.rf
  have hP : va_P D vwCl [(h0, .inr (9, fs0)), (wo, .inr (8, [.ref la, .ref cl, .ref p0, .ref p1, .ref p4, .int n])), (la, .inr (5, [.int (l9 0), .int (l9 1), .int (l9 2), .int (l9 3), .int (l9 4), .int (l9 5), .int (l9 6)])), (cl, .inr (1, [.int n0, .ref c1, .ref c2, .ref c3, .ref c4, .ref c5, .ref c6, .ref c7])), (c1, .inl (T 0, 24, .inl f1)), (c2, .inl (T 0, 24, .inl f2)), (c3, .inl (T 0, 24, .inl f3)), (c4, .inl (T 0, 24, .inl f4)), (c5, .inl (T 0, 24, .inl f5)), (p0, .inl (T 1, 676, .inr (.inl g0))), (p1, .inl (T 1, 676, .inr (.inl g1))), (p4, .inl (T 0, 672, .inl g4))] s.heap := hP
  have hl := lv_entry ([.ref h0, .int x1, .int x2]) (n := 7) (Nat.le_of_ble_eq_true rfl)
  rw [lg_entry_eq]
  generalize (lg_sl ([.ref h0, .int x1, .int x2]) ++ List.replicate (7 - (lg_sl ([.ref h0, .int x1, .int x2])).length) Slot.unset).toArray = ls at hl ⊢
  have hl : lv_has ls 7 [(0, .ref h0), (1, .int x1), (2, .int x2)] := hl
  clear hD0
  have hst : stW (VALW l9 f1 f2 f3 f4 f5) n0 n (fun _ => True) g0 g1 g4 g0 g1 g4 := stW_rf hmm
  refine lv_aload_n hx hb dX12_most_0 rfl (lv_at hl 0 rfl) ?_
  refine va_get (D := D) (ci := 9) (v := .ref cl) (C := RX12) (T := TX12) (N := 11) hx hb hts in_X12_most_X12 hown hE.1 hP 0 rfl rfl 4 (by decide +kernel) (hts (.fieldLink RX12 32 "ClauseBook" "clauses" "LClauseBook$Clauses;") (List.mem_of_getElem? (i := 1) rfl)) (fun _ h9 => h9) e0_4 dX12_most_1 ?_
  refine lv_iload_n hx hb dX12_most_4 rfl (lv_at hl 1 rfl) ?_
  refine vp_callSi (W.runV (As := [.int x1]) (rest := []) ⟨hx, hb, hml, hown, hts⟩ (c_X2_has l D T cl [.int n0, .ref c1, .ref c2, .ref c3, .ref c4, .ref c5, .ref c6, .ref c7] x1 n0 rfl (by omega)) (cwV 1 hts gX12_most_X2_has rfl rfl rfl hv_X2_has ⟨Nat.le_of_ble_eq_true rfl, Nat.le_of_ble_eq_true rfl⟩) (pR_V (q := (RX2, TX2, 8)) (ci := 1) (q0 := 3) hP hE rfl rfl [3] rfl) rfl rfl hl.1 rfl (lv_room (Nat.le_of_ble_eq_true rfl)) dX12_most_5 ⟨Nat.le_of_ble_eq_true rfl, Nat.le_of_ble_eq_true rfl⟩) (fun r_1 hr_1 => ?_)
  rcases bool_post hr_1 with ⟨c_2, rfl⟩ | ⟨c_2, rfl⟩
  · refine lv_if_eq (tgt := 18) hx hb dX12_most_8 (by decide +kernel) (fun c9 => absurd c9 (by decide +kernel)) (fun _ => ?_)
    refine lv_iload_n hx hb dX12_most_11 rfl (lv_at hl 2 rfl) ?_
    refine vp_callSi (W.runS (As := [.int x2]) (rest := []) ⟨hx, hb, hml, hown, hts⟩ (c_X12_isDay l D T x2) (va_cwS 1 hts gX12_most_X12_isDay rfl rfl rfl hs_X12_isDay ⟨Nat.le_of_ble_eq_true rfl, Nat.le_of_ble_eq_true rfl⟩) (pR_S hP hE [] rfl) rfl rfl hl.1 rfl (lv_room (Nat.le_of_ble_eq_true rfl)) dX12_most_12 ⟨Nat.le_of_ble_eq_true rfl, Nat.le_of_ble_eq_true rfl⟩) (fun r_3 hr_3 => ?_)
    rcases bool_post hr_3 with ⟨c_4, rfl⟩ | ⟨c_4, rfl⟩
    · refine lv_if_ne (tgt := 21) hx hb dX12_most_15 (by decide +kernel) (fun _ => ?_) (fun c9 => absurd c9 (by decide +kernel))
      refine lv_iconst (v := 0) hx hb dX12_most_21 (by decide +kernel) ?_
      refine lv_istore_n (lv' := [(3, .int 0), (0, .ref h0), (1, .int x1), (2, .int x2)]) hx hb dX12_most_22 rfl hl (by decide +kernel) rfl (fun ls hl => ?_)
      refine lv_aload_n hx hb dX12_most_23 rfl (lv_at hl 1 rfl) ?_
      refine va_get (D := D) (ci := 9) (v := .ref wo) (C := RX12) (T := TX12) (N := 11) hx hb hts in_X12_most_X12 hown hE.1 hP 0 rfl rfl 6 (by decide +kernel) (hts (.fieldLink RX12 43 "ClauseBook" "worth" "LClauseBook$Worth;") (List.mem_of_getElem? (i := 2) rfl)) (fun _ h9 => h9) e0_6 dX12_most_24 ?_
      refine lv_iload_n hx hb dX12_most_27 rfl (lv_at hl 2 rfl) ?_
      refine lv_iload_n hx hb dX12_most_28 rfl (lv_at hl 3 rfl) ?_
      refine lv_iconst (v := 0) hx hb dX12_most_29 (by decide +kernel) ?_
      have hFc := va_free (wc := [(wo, .inr (8, [.ref la, .ref cl, .ref p0, .ref p1, .ref p4, .int n])), (la, .inr (5, [.int (l9 0), .int (l9 1), .int (l9 2), .int (l9 3), .int (l9 4), .int (l9 5), .int (l9 6)])), (cl, .inr (1, [.int n0, .ref c1, .ref c2, .ref c3, .ref c4, .ref c5, .ref c6, .ref c7])), (c1, .inl (T 0, 24, .inl f1)), (c2, .inl (T 0, 24, .inl f2)), (c3, .inl (T 0, 24, .inl f3)), (c4, .inl (T 0, 24, .inl f4)), (c5, .inl (T 0, 24, .inl f5)), (p0, .inl (T 1, 676, .inr (.inl g0))), (p1, .inl (T 1, 676, .inr (.inl g1))), (p4, .inl (T 0, 672, .inl g4))]) hD hS hA [1, 2, 3, 4, 5, 6, 7, 8, 9, 10, 11] rfl
      refine va_calli (va_runV (As := [.int x1, .int x2, .int 0]) (rest := []) ⟨hx, hb, hml, hown, hts⟩ (cS_all l D T ad sa av ta 30 _ wo la cl p0 p1 p4 n l9 n0 c1 c2 c3 c4 c5 c6 c7 f1 f2 f3 f4 f5 g0 g1 g4 x1 x2 0 (by omega) (by omega) (by simp only [ti_0]; omega) hok (by omega) hmm hlq (by omega)) (cwV 3 hts gX12_most_X11_settle rfl rfl rfl hv_X11_settle ⟨Nat.le_of_ble_eq_true rfl, Nat.le_of_ble_eq_true rfl⟩) (pWk_V (q := (RX11, TX11, 6)) (ci := 8) (q0 := 1) hP hE hD hV hS hFc rfl rfl [1, 2, 3, 4, 5, 6, 7, 8, 9, 10, 11] (by decide +kernel) rfl rfl) rfl rfl hl.1 rfl (lv_room (Nat.le_of_ble_eq_true rfl)) dX12_most_30 ⟨Nat.le_of_ble_eq_true rfl, Nat.le_of_ble_eq_true rfl⟩) hS (fun q _ h => hFc q h) hFc (fun r_5 u_6 t H1 locs ht hvm hr_5 hB hz1 hk1 hS => ?_)
      obtain ⟨f_7, f_8, f_9⟩ := u_6
      obtain ⟨hqr_5, hsl_r_5, hfo_r_5, hstr_5⟩ := hr_5
      have hqr_5 : 0 ≤ r_5.toInt ∧ r_5.toInt < 672 := hqr_5
      have hsl_r_5 : r_5.toNatClampNeg = slN x1 x2 (0 : Int32) := hsl_r_5
      have hfo_r_5 : f_9 (slN x1 x2 (0 : Int32)) = n := hfo_r_5
      have hsr_5 : stW (VALW l9 f1 f2 f3 f4 f5) n0 n (rgW x1 x2) g0 g1 g4 f_7 f_8 f_9 := hstr_5
      have hst : stW (VALW l9 f1 f2 f3 f4 f5) n0 n (fun _ => True) g0 g1 g4 f_7 f_8 f_9 := hst.tr hsr_5 (fun _ _ => trivial)
      have hmm : memW (VALW l9 f1 f2 f3 f4 f5) n0 n f_7 f_8 f_9 := hst.1
      have hv_r_5 : (f_7 (r_5.toNatClampNeg), f_8 (r_5.toNatClampNeg)) = (VALW l9 f1 f2 f3 f4 f5) x1 x2 (0 : Int32) := hst.val (by omega) (by omega) (by first | (rw [ti_0]; omega) | omega) hsl_r_5 hfo_r_5
      have hb_r_5 : 0 ≤ (f_8 (r_5.toNatClampNeg)).toInt := val_nn (VAL_low hlq.1 hlq.2 31 _ _ _) hv_r_5
      obtain ⟨hP1, hD1⟩ := hB
      rw [ht] at hP1
      obtain ⟨hP, hD⟩ := va_repl [(h0, .inr (9, fs0)), (wo, .inr (8, [.ref la, .ref cl, .ref p0, .ref p1, .ref p4, .int n])), (la, .inr (5, [.int (l9 0), .int (l9 1), .int (l9 2), .int (l9 3), .int (l9 4), .int (l9 5), .int (l9 6)])), (cl, .inr (1, [.int n0, .ref c1, .ref c2, .ref c3, .ref c4, .ref c5, .ref c6, .ref c7])), (c1, .inl (T 0, 24, .inl f1)), (c2, .inl (T 0, 24, .inl f2)), (c3, .inl (T 0, 24, .inl f3)), (c4, .inl (T 0, 24, .inl f4)), (c5, .inl (T 0, 24, .inl f5)), (p0, .inl (T 1, 676, .inr (.inl f_7))), (p1, .inl (T 1, 676, .inr (.inl f_8))), (p4, .inl (T 0, 672, .inl f_9))] hP hD [1, 2, 3, 4, 5, 6, 7, 8, 9, 10, 11] [1, 2, 3, 4, 5, 6, 7, 8, 9, 10, 11] rfl (by decide +kernel) rfl rfl rfl hk1 hP1
      clear hP1 hD1 hFc
      generalize H1 = H at hP hS ⊢
      refine lv_istore (lv' := [(4, .int r_5), (3, .int 0), (0, .ref h0), (1, .int x1), (2, .int x2)]) hx hb dX12_most_33 hl (by decide +kernel) rfl (fun ls hl => ?_)
      refine lv_aload_n hx hb dX12_most_35 rfl (lv_at hl 2 rfl) ?_
      refine va_get (D := D) (ci := 9) (v := .ref wo) (C := RX12) (T := TX12) (N := 11) hx hb hts in_X12_most_X12 hown hE.1 hP 0 rfl rfl 6 (by decide +kernel) (hts (.fieldLink RX12 43 "ClauseBook" "worth" "LClauseBook$Worth;") (List.mem_of_getElem? (i := 2) rfl)) (fun _ h9 => h9) e0_6 dX12_most_36 ?_
      refine lv_iload hx hb dX12_most_39 (lv_at hl 0 rfl) ?_
      refine vp_callSi (W.runV (As := [.int r_5]) (rest := []) ⟨hx, hb, hml, hown, hts⟩ (c_X11_isMuch l D T wo [.ref la, .ref cl, .ref p0, .ref p1, .ref p4, .int n] p1 f_8 r_5 rfl (by first | decide | omega)) (cwV 1 hts gX12_most_X11_isMuch rfl rfl rfl hv_X11_isMuch ⟨Nat.le_of_ble_eq_true rfl, Nat.le_of_ble_eq_true rfl⟩) (pR_V (q := (RX11, TX11, 6)) (ci := 8) (q0 := 1) hP hE rfl rfl [1, 10] rfl) rfl rfl hl.1 rfl (lv_room (Nat.le_of_ble_eq_true rfl)) dX12_most_41 ⟨Nat.le_of_ble_eq_true rfl, Nat.le_of_ble_eq_true rfl⟩) (fun r_10 hr_10 => ?_)
      rcases bool_post hr_10 with ⟨c_11, rfl⟩ | ⟨c_11, rfl⟩
      · refine lv_if_eq (tgt := 50) hx hb dX12_most_44 (by decide +kernel) (fun c9 => absurd c9 (by decide +kernel)) (fun _ => ?_)
        refine lv_bipush (v := (-5)) hx hb dX12_most_47 (by decide +kernel) ?_
        exact W.iret hx hb hr (fun t ht hW => ⟨⟨_, (f_7, f_8, f_9), rfl, ⟨(show mostQ (VALW l9 f1 f2 f3 f4 f5) n0 x1 x2 ((-5) : Int32) from (most_mu ⟨⟨(by omega), (by omega)⟩, (by omega), (by omega)⟩ (k := 0) ⟨(by omega), (by rw [ti_0]; omega)⟩ (mu_of hv_r_5 (by omega)) (by decide +kernel))), hst⟩, by rw [ht]; exact hP.sub [0, 1, 2, 3, 4, 5, 6, 7, 8, 9, 10, 11] rfl, hD.sub [0, 1, 2, 3, 4, 5, 6, 7, 8, 9, 10, 11] (by decide +kernel) rfl⟩, hS.F ht⟩) hS.2.2 dX12_most_49
      · refine lv_if_eq (tgt := 50) hx hb dX12_most_44 (by decide +kernel) (fun _ => ?_) (fun c9 => absurd c9 (by decide +kernel))
        refine lv_iconst (v := 1) hx hb dX12_most_50 (by decide +kernel) ?_
        refine lv_istore (lv' := [(5, .int 1), (4, .int r_5), (3, .int 0), (0, .ref h0), (1, .int x1), (2, .int x2)]) hx hb dX12_most_51 hl (by decide +kernel) rfl (fun ls hl => ?_)
        refine loopW (σ := (Int32) × (Int32) × (Int32) × (Nat → Int64) × (Nat → Int64) × (Nat → Int32)) (fun x9 ls H locs => lv_has ls 7 [(5, .int x9.1), (3, .int x9.2.1), (4, .int x9.2.2.1), (0, .ref h0), (1, .int x1), (2, .int x2)] ∧ va_P D vwCl [(h0, .inr (9, fs0)), (wo, .inr (8, [.ref la, .ref cl, .ref p0, .ref p1, .ref p4, .int n])), (la, .inr (5, [.int (l9 0), .int (l9 1), .int (l9 2), .int (l9 3), .int (l9 4), .int (l9 5), .int (l9 6)])), (cl, .inr (1, [.int n0, .ref c1, .ref c2, .ref c3, .ref c4, .ref c5, .ref c6, .ref c7])), (c1, .inl (T 0, 24, .inl f1)), (c2, .inl (T 0, 24, .inl f2)), (c3, .inl (T 0, 24, .inl f3)), (c4, .inl (T 0, 24, .inl f4)), (c5, .inl (T 0, 24, .inl f5)), (p0, .inl (T 1, 676, .inr (.inl x9.2.2.2.1))), (p1, .inl (T 1, 676, .inr (.inl x9.2.2.2.2.1))), (p4, .inl (T 0, 672, .inl x9.2.2.2.2.2))] H ∧ va_D A [(h0, .inr (9, fs0)), (wo, .inr (8, [.ref la, .ref cl, .ref p0, .ref p1, .ref p4, .int n])), (la, .inr (5, [.int (l9 0), .int (l9 1), .int (l9 2), .int (l9 3), .int (l9 4), .int (l9 5), .int (l9 6)])), (cl, .inr (1, [.int n0, .ref c1, .ref c2, .ref c3, .ref c4, .ref c5, .ref c6, .ref c7])), (c1, .inl (T 0, 24, .inl f1)), (c2, .inl (T 0, 24, .inl f2)), (c3, .inl (T 0, 24, .inl f3)), (c4, .inl (T 0, 24, .inl f4)), (c5, .inl (T 0, 24, .inl f5)), (p0, .inl (T 1, 676, .inr (.inl x9.2.2.2.1))), (p1, .inl (T 1, 676, .inr (.inl x9.2.2.2.2.1))), (p4, .inl (T 0, 672, .inl x9.2.2.2.2.2))] ∧ va_S A s.heap H locs ∧ (((1 ≤ x9.1.toInt ∧ x9.1.toInt ≤ x2.toInt + 1) ∧ 0 ≤ x9.2.2.1.toInt ∧ x9.2.2.1.toInt < 672) ∧ x9.2.2.1.toNatClampNeg = slN x1 x2 x9.2.1 ∧ x9.2.2.2.2.2 (slN x1 x2 x9.2.1) = n ∧ stW (VALW l9 f1 f2 f3 f4 f5) n0 n (fun _ => True) g0 g1 g4 x9.2.2.2.1 x9.2.2.2.2.1 x9.2.2.2.2.2 ∧ bestI ((VALW l9 f1 f2 f3 f4 f5) x1 x2) x9.2.1 x9.1 ∧ ∀ k : Int32, 0 ≤ k.toInt → k.toInt < x9.1.toInt → ¬ ((VALW l9 f1 f2 f3 f4 f5) x1 x2 k).2.toInt = 0)) (fun x9 => (7 - x9.1.toInt).toNat) (fun x9 ls H locs hI ih => ?_) (1, 0, r_5, f_7, f_8, f_9) ls ⟨lv_sub hl [0, 2, 1, 3, 4, 5] rfl, hP.sub [0, 1, 2, 3, 4, 5, 6, 7, 8, 9, 10, 11] rfl, hD.sub [0, 1, 2, 3, 4, 5, 6, 7, 8, 9, 10, 11] (by decide +kernel) rfl, hS, ⟨⟨(by (try dsimp only); simp only [ti_1]; omega), (by omega)⟩, hsl_r_5, hfo_r_5, hst, best_0, nm_0 (P := fun k9 => ¬ ((VALW l9 f1 f2 f3 f4 f5) x1 x2 k9).2.toInt = 0) (nmu_of hv_r_5 (by omega))⟩⟩
        obtain ⟨tt, be, bs, v0, v1, v4⟩ := x9
        obtain ⟨hl, hP, hD, hS, hinv⟩ := hI
        have hl : lv_has ls 7 [(5, .int tt), (3, .int be), (4, .int bs), (0, .ref h0), (1, .int x1), (2, .int x2)] := hl
        have hP : va_P D vwCl [(h0, .inr (9, fs0)), (wo, .inr (8, [.ref la, .ref cl, .ref p0, .ref p1, .ref p4, .int n])), (la, .inr (5, [.int (l9 0), .int (l9 1), .int (l9 2), .int (l9 3), .int (l9 4), .int (l9 5), .int (l9 6)])), (cl, .inr (1, [.int n0, .ref c1, .ref c2, .ref c3, .ref c4, .ref c5, .ref c6, .ref c7])), (c1, .inl (T 0, 24, .inl f1)), (c2, .inl (T 0, 24, .inl f2)), (c3, .inl (T 0, 24, .inl f3)), (c4, .inl (T 0, 24, .inl f4)), (c5, .inl (T 0, 24, .inl f5)), (p0, .inl (T 1, 676, .inr (.inl v0))), (p1, .inl (T 1, 676, .inr (.inl v1))), (p4, .inl (T 0, 672, .inl v4))] H := hP
        have hD : va_D A [(h0, .inr (9, fs0)), (wo, .inr (8, [.ref la, .ref cl, .ref p0, .ref p1, .ref p4, .int n])), (la, .inr (5, [.int (l9 0), .int (l9 1), .int (l9 2), .int (l9 3), .int (l9 4), .int (l9 5), .int (l9 6)])), (cl, .inr (1, [.int n0, .ref c1, .ref c2, .ref c3, .ref c4, .ref c5, .ref c6, .ref c7])), (c1, .inl (T 0, 24, .inl f1)), (c2, .inl (T 0, 24, .inl f2)), (c3, .inl (T 0, 24, .inl f3)), (c4, .inl (T 0, 24, .inl f4)), (c5, .inl (T 0, 24, .inl f5)), (p0, .inl (T 1, 676, .inr (.inl v0))), (p1, .inl (T 1, 676, .inr (.inl v1))), (p4, .inl (T 0, 672, .inl v4))] := hD
        have hinv : ((1 ≤ tt.toInt ∧ tt.toInt ≤ x2.toInt + 1) ∧ 0 ≤ bs.toInt ∧ bs.toInt < 672) ∧ bs.toNatClampNeg = slN x1 x2 be ∧ v4 (slN x1 x2 be) = n ∧ stW (VALW l9 f1 f2 f3 f4 f5) n0 n (fun _ => True) g0 g1 g4 v0 v1 v4 ∧ bestI ((VALW l9 f1 f2 f3 f4 f5) x1 x2) be tt ∧ ∀ k : Int32, 0 ≤ k.toInt → k.toInt < tt.toInt → ¬ ((VALW l9 f1 f2 f3 f4 f5) x1 x2 k).2.toInt = 0 := hinv
        obtain ⟨hrg9, hsl_bs, hfo_bs, hst, hbe, hno⟩ := hinv
        have hbr9 := hbe.1
        have hmm : memW (VALW l9 f1 f2 f3 f4 f5) n0 n v0 v1 v4 := hst.1
        refine lv_iload hx hb dX12_most_53 (lv_at hl 0 rfl) ?_
        refine lv_iload_n hx hb dX12_most_55 rfl (lv_at hl 5 rfl) ?_
        refine lv_icmp_gt (tgt := 114) hx hb dX12_most_56 (by decide +kernel) (fun c_12 => ?_) (fun c_12 => ?_)
        · rw [fa_lt] at c_12
          refine lv_iload_n hx hb dX12_most_114 rfl (lv_at hl 1 rfl) ?_
          exact W.iret hx hb hr (fun t ht hW => ⟨⟨_, (v0, v1, v4), rfl, ⟨(show mostQ (VALW l9 f1 f2 f3 f4 f5) n0 x1 x2 be from (most_of ⟨⟨(by omega), (by omega)⟩, (by omega), (by omega)⟩ hbe (by omega) hno)), hst⟩, by rw [ht]; exact hP.sub [0, 1, 2, 3, 4, 5, 6, 7, 8, 9, 10, 11] rfl, hD.sub [0, 1, 2, 3, 4, 5, 6, 7, 8, 9, 10, 11] (by decide +kernel) rfl⟩, hS.F ht⟩) hS.2.2 dX12_most_115
        · rw [fa_lt] at c_12
          refine lv_aload_n hx hb dX12_most_59 rfl (lv_at hl 3 rfl) ?_
          refine va_get (D := D) (ci := 9) (v := .ref wo) (C := RX12) (T := TX12) (N := 11) hx hb hts in_X12_most_X12 hown hE.1 hP 0 rfl rfl 6 (by decide +kernel) (hts (.fieldLink RX12 43 "ClauseBook" "worth" "LClauseBook$Worth;") (List.mem_of_getElem? (i := 2) rfl)) (fun _ h9 => h9) e0_6 dX12_most_60 ?_
          refine lv_iload_n hx hb dX12_most_63 rfl (lv_at hl 4 rfl) ?_
          refine lv_iload_n hx hb dX12_most_64 rfl (lv_at hl 5 rfl) ?_
          refine lv_iload hx hb dX12_most_65 (lv_at hl 0 rfl) ?_
          have hFc := va_free (wc := [(wo, .inr (8, [.ref la, .ref cl, .ref p0, .ref p1, .ref p4, .int n])), (la, .inr (5, [.int (l9 0), .int (l9 1), .int (l9 2), .int (l9 3), .int (l9 4), .int (l9 5), .int (l9 6)])), (cl, .inr (1, [.int n0, .ref c1, .ref c2, .ref c3, .ref c4, .ref c5, .ref c6, .ref c7])), (c1, .inl (T 0, 24, .inl f1)), (c2, .inl (T 0, 24, .inl f2)), (c3, .inl (T 0, 24, .inl f3)), (c4, .inl (T 0, 24, .inl f4)), (c5, .inl (T 0, 24, .inl f5)), (p0, .inl (T 1, 676, .inr (.inl v0))), (p1, .inl (T 1, 676, .inr (.inl v1))), (p4, .inl (T 0, 672, .inl v4))]) hD hS hA [1, 2, 3, 4, 5, 6, 7, 8, 9, 10, 11] rfl
          refine va_calli (va_runV (As := [.int x1, .int x2, .int tt]) (rest := []) ⟨hx, hb, hml, hown, hts⟩ (cS_all l D T ad sa av ta 30 _ wo la cl p0 p1 p4 n l9 n0 c1 c2 c3 c4 c5 c6 c7 f1 f2 f3 f4 f5 v0 v1 v4 x1 x2 tt (by omega) (by omega) (by omega) hok (by omega) hmm hlq (by omega)) (cwV 3 hts gX12_most_X11_settle rfl rfl rfl hv_X11_settle ⟨Nat.le_of_ble_eq_true rfl, Nat.le_of_ble_eq_true rfl⟩) (pWk_V (q := (RX11, TX11, 6)) (ci := 8) (q0 := 1) hP hE hD hV hS hFc rfl rfl [1, 2, 3, 4, 5, 6, 7, 8, 9, 10, 11] (by decide +kernel) rfl rfl) rfl rfl hl.1 rfl (lv_room (Nat.le_of_ble_eq_true rfl)) dX12_most_67 ⟨Nat.le_of_ble_eq_true rfl, Nat.le_of_ble_eq_true rfl⟩) hS (fun q _ h => hFc q h) hFc (fun r_13 u_14 t H1 locs ht hvm hr_13 hB hz1 hk1 hS => ?_)
          obtain ⟨f_15, f_16, f_17⟩ := u_14
          obtain ⟨hqr_13, hsl_r_13, hfo_r_13, hstr_13⟩ := hr_13
          have hqr_13 : 0 ≤ r_13.toInt ∧ r_13.toInt < 672 := hqr_13
          have hsl_r_13 : r_13.toNatClampNeg = slN x1 x2 tt := hsl_r_13
          have hfo_r_13 : f_17 (slN x1 x2 tt) = n := hfo_r_13
          have hsr_13 : stW (VALW l9 f1 f2 f3 f4 f5) n0 n (rgW x1 x2) v0 v1 v4 f_15 f_16 f_17 := hstr_13
          have hst : stW (VALW l9 f1 f2 f3 f4 f5) n0 n (fun _ => True) g0 g1 g4 f_15 f_16 f_17 := hst.tr hsr_13 (fun _ _ => trivial)
          have hmm : memW (VALW l9 f1 f2 f3 f4 f5) n0 n f_15 f_16 f_17 := hst.1
          have hfo_bs : f_17 (slN x1 x2 be) = n := hsr_13.2.1 _ (slN_lt (by omega) (by omega) (by omega)) hfo_bs
          have hv_bs : (f_15 (bs.toNatClampNeg), f_16 (bs.toNatClampNeg)) = (VALW l9 f1 f2 f3 f4 f5) x1 x2 be := hst.val (by omega) (by omega) (by omega) hsl_bs hfo_bs
          have hb_bs : 0 ≤ (f_16 (bs.toNatClampNeg)).toInt := val_nn (VAL_low hlq.1 hlq.2 31 _ _ _) hv_bs
          have hv_r_13 : (f_15 (r_13.toNatClampNeg), f_16 (r_13.toNatClampNeg)) = (VALW l9 f1 f2 f3 f4 f5) x1 x2 tt := hst.val (by omega) (by omega) (by first | (rw [ti_0]; omega) | omega) hsl_r_13 hfo_r_13
          have hb_r_13 : 0 ≤ (f_16 (r_13.toNatClampNeg)).toInt := val_nn (VAL_low hlq.1 hlq.2 31 _ _ _) hv_r_13
          obtain ⟨hP1, hD1⟩ := hB
          rw [ht] at hP1
          obtain ⟨hP, hD⟩ := va_repl [(h0, .inr (9, fs0)), (wo, .inr (8, [.ref la, .ref cl, .ref p0, .ref p1, .ref p4, .int n])), (la, .inr (5, [.int (l9 0), .int (l9 1), .int (l9 2), .int (l9 3), .int (l9 4), .int (l9 5), .int (l9 6)])), (cl, .inr (1, [.int n0, .ref c1, .ref c2, .ref c3, .ref c4, .ref c5, .ref c6, .ref c7])), (c1, .inl (T 0, 24, .inl f1)), (c2, .inl (T 0, 24, .inl f2)), (c3, .inl (T 0, 24, .inl f3)), (c4, .inl (T 0, 24, .inl f4)), (c5, .inl (T 0, 24, .inl f5)), (p0, .inl (T 1, 676, .inr (.inl f_15))), (p1, .inl (T 1, 676, .inr (.inl f_16))), (p4, .inl (T 0, 672, .inl f_17))] hP hD [1, 2, 3, 4, 5, 6, 7, 8, 9, 10, 11] [1, 2, 3, 4, 5, 6, 7, 8, 9, 10, 11] rfl (by decide +kernel) rfl rfl rfl hk1 hP1
          clear hP1 hD1 hFc
          generalize H1 = H at hP hS ⊢
          refine lv_istore (lv' := [(6, .int r_13), (5, .int tt), (3, .int be), (4, .int bs), (0, .ref h0), (1, .int x1), (2, .int x2)]) hx hb dX12_most_70 hl (by decide +kernel) rfl (fun ls hl => ?_)
          have hnb9 : ¬ (f_16 (bs.toNatClampNeg)).toInt = 0 := nmu_to hv_bs (hno be (by omega) (by omega))
          refine lv_aload_n hx hb dX12_most_72 rfl (lv_at hl 4 rfl) ?_
          refine va_get (D := D) (ci := 9) (v := .ref wo) (C := RX12) (T := TX12) (N := 11) hx hb hts in_X12_most_X12 hown hE.1 hP 0 rfl rfl 6 (by decide +kernel) (hts (.fieldLink RX12 43 "ClauseBook" "worth" "LClauseBook$Worth;") (List.mem_of_getElem? (i := 2) rfl)) (fun _ h9 => h9) e0_6 dX12_most_73 ?_
          refine lv_iload hx hb dX12_most_76 (lv_at hl 0 rfl) ?_
          refine vp_callSi (W.runV (As := [.int r_13]) (rest := []) ⟨hx, hb, hml, hown, hts⟩ (c_X11_isMuch l D T wo [.ref la, .ref cl, .ref p0, .ref p1, .ref p4, .int n] p1 f_16 r_13 rfl (by first | decide | omega)) (cwV 1 hts gX12_most_X11_isMuch rfl rfl rfl hv_X11_isMuch ⟨Nat.le_of_ble_eq_true rfl, Nat.le_of_ble_eq_true rfl⟩) (pR_V (q := (RX11, TX11, 6)) (ci := 8) (q0 := 1) hP hE rfl rfl [1, 10] rfl) rfl rfl hl.1 rfl (lv_room (Nat.le_of_ble_eq_true rfl)) dX12_most_78 ⟨Nat.le_of_ble_eq_true rfl, Nat.le_of_ble_eq_true rfl⟩) (fun r_18 hr_18 => ?_)
          rcases bool_post hr_18 with ⟨c_19, rfl⟩ | ⟨c_19, rfl⟩
          · refine lv_if_eq (tgt := 87) hx hb dX12_most_81 (by decide +kernel) (fun c9 => absurd c9 (by decide +kernel)) (fun _ => ?_)
            refine lv_bipush (v := (-5)) hx hb dX12_most_84 (by decide +kernel) ?_
            exact W.iret hx hb hr (fun t ht hW => ⟨⟨_, (f_15, f_16, f_17), rfl, ⟨(show mostQ (VALW l9 f1 f2 f3 f4 f5) n0 x1 x2 ((-5) : Int32) from (most_mu ⟨⟨(by omega), (by omega)⟩, (by omega), (by omega)⟩ (k := tt) ⟨(by omega), (by omega)⟩ (mu_of hv_r_13 (by omega)) (by decide +kernel))), hst⟩, by rw [ht]; exact hP.sub [0, 1, 2, 3, 4, 5, 6, 7, 8, 9, 10, 11] rfl, hD.sub [0, 1, 2, 3, 4, 5, 6, 7, 8, 9, 10, 11] (by decide +kernel) rfl⟩, hS.F ht⟩) hS.2.2 dX12_most_86
          · refine lv_if_eq (tgt := 87) hx hb dX12_most_81 (by decide +kernel) (fun _ => ?_) (fun c9 => absurd c9 (by decide +kernel))
            have hnm9 : ¬ ((VALW l9 f1 f2 f3 f4 f5) x1 x2 tt).2.toInt = 0 := nmu_of hv_r_13 (by omega)
            refine lv_aload_n hx hb dX12_most_87 rfl (lv_at hl 4 rfl) ?_
            refine va_get (D := D) (ci := 9) (v := .ref wo) (C := RX12) (T := TX12) (N := 11) hx hb hts in_X12_most_X12 hown hE.1 hP 0 rfl rfl 6 (by decide +kernel) (hts (.fieldLink RX12 43 "ClauseBook" "worth" "LClauseBook$Worth;") (List.mem_of_getElem? (i := 2) rfl)) (fun _ h9 => h9) e0_6 dX12_most_88 ?_
            refine lv_iload hx hb dX12_most_91 (lv_at hl 0 rfl) ?_
            refine lv_iload hx hb dX12_most_93 (lv_at hl 3 rfl) ?_
            refine vp_callSi (W.runV (As := [.int r_13, .int bs]) (rest := []) ⟨hx, hb, hml, hown, hts⟩ (c_X11_order l D T wo [.ref la, .ref cl, .ref p0, .ref p1, .ref p4, .int n] p1 f_16 p0 f_15 r_13 bs rfl rfl (by first | decide | omega) (by first | decide | omega) (by first | omega | assumption | decide) (by first | omega | assumption | decide)) (cwV 2 hts gX12_most_X11_order rfl rfl rfl hv_X11_order ⟨Nat.le_of_ble_eq_true rfl, Nat.le_of_ble_eq_true rfl⟩) (pR_V (q := (RX11, TX11, 6)) (ci := 8) (q0 := 1) hP hE rfl rfl [1, 10, 9] rfl) rfl rfl hl.1 rfl (lv_room (Nat.le_of_ble_eq_true rfl)) dX12_most_95 ⟨Nat.le_of_ble_eq_true rfl, Nat.le_of_ble_eq_true rfl⟩) (fun r_20 hr_20 => ?_)
            have hco9 : cmpP ((VALW l9 f1 f2 f3 f4 f5) x1 x2 tt) ((VALW l9 f1 f2 f3 f4 f5) x1 x2 be) = r_20.toInt := (cmp_of hv_r_13 hv_bs).trans hr_20.symm
            refine lv_if_le (tgt := 108) hx hb dX12_most_98 (by decide +kernel) (fun c_21 => ?_) (fun c_21 => ?_)
            · rw [fa_le] at c_21
              try rw [ti_0] at c_21
              obtain ⟨z_22, ez_22⟩ : ∃ y : Int32, y = tt + 1 := ⟨_, rfl⟩
              refine lv_iinc (v := z_22) (lv' := [(5, .int z_22), (6, .int r_13), (3, .int be), (4, .int bs), (0, .ref h0), (1, .int x1), (2, .int x2)]) hx hb dX12_most_108 hl (k := 1) rfl (by rw [ez_22]; rfl) (by decide +kernel) rfl (fun ls hl => ?_)
              refine lv_goto (tgt := 53) hx hb dX12_most_111 (by decide +kernel) ?_
              have hi9 : z_22.toInt = tt.toInt + 1 := (by rw [ez_22]; exact inc1 (i := tt) (n := 1000) (by omega) (by decide +kernel))
              exact ih (z_22, be, bs, f_15, f_16, f_17) ls _ _ ⟨lv_sub hl [0, 2, 3, 4, 5, 6] rfl, hP.sub [0, 1, 2, 3, 4, 5, 6, 7, 8, 9, 10, 11] rfl, hD.sub [0, 1, 2, 3, 4, 5, 6, 7, 8, 9, 10, 11] (by decide +kernel) rfl, hS, ⟨⟨(by (try dsimp only); omega), (by (try dsimp only); omega)⟩, hsl_bs, hfo_bs, hst, best_le hbe hi9 (by rw [hco9]; omega), (nm_s (P := fun k9 => ¬ ((VALW l9 f1 f2 f3 f4 f5) x1 x2 k9).2.toInt = 0) hno hnm9 hi9)⟩⟩ (by (try dsimp only); omega)
            · rw [fa_le] at c_21
              try rw [ti_0] at c_21
              refine lv_iload hx hb dX12_most_101 (lv_at hl 1 rfl) ?_
              refine lv_istore_n (lv' := [(3, .int tt), (6, .int r_13), (5, .int tt), (4, .int bs), (0, .ref h0), (1, .int x1), (2, .int x2)]) hx hb dX12_most_103 rfl hl (by decide +kernel) rfl (fun ls hl => ?_)
              refine lv_iload hx hb dX12_most_104 (lv_at hl 1 rfl) ?_
              refine lv_istore (lv' := [(4, .int r_13), (3, .int tt), (6, .int r_13), (5, .int tt), (0, .ref h0), (1, .int x1), (2, .int x2)]) hx hb dX12_most_106 hl (by decide +kernel) rfl (fun ls hl => ?_)
              obtain ⟨z_23, ez_23⟩ : ∃ y : Int32, y = tt + 1 := ⟨_, rfl⟩
              refine lv_iinc (v := z_23) (lv' := [(5, .int z_23), (4, .int r_13), (3, .int tt), (6, .int r_13), (0, .ref h0), (1, .int x1), (2, .int x2)]) hx hb dX12_most_108 hl (k := 3) rfl (by rw [ez_23]; rfl) (by decide +kernel) rfl (fun ls hl => ?_)
              refine lv_goto (tgt := 53) hx hb dX12_most_111 (by decide +kernel) ?_
              have hi9 : z_23.toInt = tt.toInt + 1 := (by rw [ez_23]; exact inc1 (i := tt) (n := 1000) (by omega) (by decide +kernel))
              exact ih (z_23, tt, r_13, f_15, f_16, f_17) ls _ _ ⟨lv_sub hl [0, 2, 1, 4, 5, 6] rfl, hP.sub [0, 1, 2, 3, 4, 5, 6, 7, 8, 9, 10, 11] rfl, hD.sub [0, 1, 2, 3, 4, 5, 6, 7, 8, 9, 10, 11] (by decide +kernel) rfl, hS, ⟨⟨(by (try dsimp only); omega), (by (try dsimp only); omega)⟩, hsl_r_13, hfo_r_13, hst, best_gt hbe hi9 (fun j9 a9 b9 => low_pos (VAL_low hlq.1 hlq.2 31 _ _ _) (nm_le (P := fun k9 => ¬ ((VALW l9 f1 f2 f3 f4 f5) x1 x2 k9).2.toInt = 0) hno hnm9 j9 a9 b9)) (by rw [hco9]; omega), (nm_s (P := fun k9 => ¬ ((VALW l9 f1 f2 f3 f4 f5) x1 x2 k9).2.toInt = 0) hno hnm9 hi9)⟩⟩ (by (try dsimp only); omega)
    · refine lv_if_ne (tgt := 21) hx hb dX12_most_15 (by decide +kernel) (fun c9 => absurd c9 (by decide +kernel)) (fun _ => ?_)
      refine lv_bipush (v := (-2)) hx hb dX12_most_18 (by decide +kernel) ?_
      exact W.iret hx hb hr (fun t ht hW => ⟨⟨_, (g0, g1, g4), rfl, ⟨(show mostQ (VALW l9 f1 f2 f3 f4 f5) n0 x1 x2 ((-2) : Int32) from (Or.inl ⟨(fun h9 => by obtain ⟨h1, h2⟩ := h9; omega), (by decide +kernel)⟩)), hst⟩, by rw [ht]; exact hP.sub [0, 1, 2, 3, 4, 5, 6, 7, 8, 9, 10, 11] rfl, hD.sub [0, 1, 2, 3, 4, 5, 6, 7, 8, 9, 10, 11] (by decide +kernel) rfl⟩, hS.F ht⟩) hS.2.2 dX12_most_20
  · refine lv_if_eq (tgt := 18) hx hb dX12_most_8 (by decide +kernel) (fun _ => ?_) (fun c9 => absurd c9 (by decide +kernel))
    refine lv_bipush (v := (-2)) hx hb dX12_most_18 (by decide +kernel) ?_
    exact W.iret hx hb hr (fun t ht hW => ⟨⟨_, (g0, g1, g4), rfl, ⟨(show mostQ (VALW l9 f1 f2 f3 f4 f5) n0 x1 x2 ((-2) : Int32) from (Or.inl ⟨(fun h9 => by obtain ⟨h1, h2⟩ := h9; omega), (by decide +kernel)⟩)), hst⟩, by rw [ht]; exact hP.sub [0, 1, 2, 3, 4, 5, 6, 7, 8, 9, 10, 11] rfl, hD.sub [0, 1, 2, 3, 4, 5, 6, 7, 8, 9, 10, 11] (by decide +kernel) rfl⟩, hS.F ht⟩) hS.2.2 dX12_most_20
theorem dX12_alike_0 : decode cX12_alike 0 = .ok (.aload_n 0, 1) := by decide +kernel
theorem dX12_alike_1 : decode cX12_alike 1 = .ok (.getfield 32, 3) := by decide +kernel
theorem dX12_alike_100 : decode cX12_alike 100 = .ok (.aload_n 0, 1) := by decide +kernel
theorem dX12_alike_101 : decode cX12_alike 101 = .ok (.getfield 43, 3) := by decide +kernel
theorem dX12_alike_104 : decode cX12_alike 104 = .ok (.iload 6, 2) := by decide +kernel
theorem dX12_alike_106 : decode cX12_alike 106 = .ok (.invokevirtual 197, 3) := by decide +kernel
theorem dX12_alike_109 : decode cX12_alike 109 = .ok (.ifCond .ne 15, 3) := by decide +kernel
theorem dX12_alike_11 : decode cX12_alike 11 = .ok (.aload_n 0, 1) := by decide +kernel
theorem dX12_alike_112 : decode cX12_alike 112 = .ok (.aload_n 0, 1) := by decide +kernel
theorem dX12_alike_113 : decode cX12_alike 113 = .ok (.getfield 43, 3) := by decide +kernel
theorem dX12_alike_116 : decode cX12_alike 116 = .ok (.iload 7, 2) := by decide +kernel
theorem dX12_alike_118 : decode cX12_alike 118 = .ok (.invokevirtual 197, 3) := by decide +kernel
theorem dX12_alike_12 : decode cX12_alike 12 = .ok (.getfield 32, 3) := by decide +kernel
theorem dX12_alike_121 : decode cX12_alike 121 = .ok (.ifCond .eq 6, 3) := by decide +kernel
theorem dX12_alike_124 : decode cX12_alike 124 = .ok (.bipush (-5), 2) := by decide +kernel
theorem dX12_alike_126 : decode cX12_alike 126 = .ok (.ireturn, 1) := by decide +kernel
theorem dX12_alike_127 : decode cX12_alike 127 = .ok (.iload_n 3, 1) := by decide +kernel
theorem dX12_alike_128 : decode cX12_alike 128 = .ok (.ifCond .eq 21, 3) := by decide +kernel
theorem dX12_alike_131 : decode cX12_alike 131 = .ok (.aload_n 0, 1) := by decide +kernel
theorem dX12_alike_132 : decode cX12_alike 132 = .ok (.getfield 43, 3) := by decide +kernel
theorem dX12_alike_135 : decode cX12_alike 135 = .ok (.iload 6, 2) := by decide +kernel
theorem dX12_alike_137 : decode cX12_alike 137 = .ok (.iload 7, 2) := by decide +kernel
theorem dX12_alike_139 : decode cX12_alike 139 = .ok (.invokevirtual 247, 3) := by decide +kernel
theorem dX12_alike_142 : decode cX12_alike 142 = .ok (.ifCond .ne 7, 3) := by decide +kernel
theorem dX12_alike_145 : decode cX12_alike 145 = .ok (.iconst 1, 1) := by decide +kernel
theorem dX12_alike_146 : decode cX12_alike 146 = .ok (.goto 4, 3) := by decide +kernel
theorem dX12_alike_149 : decode cX12_alike 149 = .ok (.iconst 0, 1) := by decide +kernel
theorem dX12_alike_15 : decode cX12_alike 15 = .ok (.iload_n 2, 1) := by decide +kernel
theorem dX12_alike_150 : decode cX12_alike 150 = .ok (.istore_n 3, 1) := by decide +kernel
theorem dX12_alike_151 : decode cX12_alike 151 = .ok (.iinc 5 1, 3) := by decide +kernel
theorem dX12_alike_154 : decode cX12_alike 154 = .ok (.goto (-89), 3) := by decide +kernel
theorem dX12_alike_157 : decode cX12_alike 157 = .ok (.iinc 4 1, 3) := by decide +kernel
theorem dX12_alike_16 : decode cX12_alike 16 = .ok (.invokevirtual 150, 3) := by decide +kernel
theorem dX12_alike_160 : decode cX12_alike 160 = .ok (.goto (-105), 3) := by decide +kernel
theorem dX12_alike_163 : decode cX12_alike 163 = .ok (.iload_n 3, 1) := by decide +kernel
theorem dX12_alike_164 : decode cX12_alike 164 = .ok (.ifCond .eq 7, 3) := by decide +kernel
theorem dX12_alike_167 : decode cX12_alike 167 = .ok (.iconst 1, 1) := by decide +kernel
theorem dX12_alike_168 : decode cX12_alike 168 = .ok (.goto 4, 3) := by decide +kernel
theorem dX12_alike_171 : decode cX12_alike 171 = .ok (.iconst 0, 1) := by decide +kernel
theorem dX12_alike_172 : decode cX12_alike 172 = .ok (.ireturn, 1) := by decide +kernel
theorem dX12_alike_19 : decode cX12_alike 19 = .ok (.ifCond .ne 6, 3) := by decide +kernel
theorem dX12_alike_22 : decode cX12_alike 22 = .ok (.bipush (-2), 2) := by decide +kernel
theorem dX12_alike_24 : decode cX12_alike 24 = .ok (.ireturn, 1) := by decide +kernel
theorem dX12_alike_25 : decode cX12_alike 25 = .ok (.aload_n 0, 1) := by decide +kernel
theorem dX12_alike_26 : decode cX12_alike 26 = .ok (.getfield 32, 3) := by decide +kernel
theorem dX12_alike_29 : decode cX12_alike 29 = .ok (.getfield 166, 3) := by decide +kernel
theorem dX12_alike_32 : decode cX12_alike 32 = .ok (.iload_n 1, 1) := by decide +kernel
theorem dX12_alike_33 : decode cX12_alike 33 = .ok (.iaload, 1) := by decide +kernel
theorem dX12_alike_34 : decode cX12_alike 34 = .ok (.aload_n 0, 1) := by decide +kernel
theorem dX12_alike_35 : decode cX12_alike 35 = .ok (.getfield 32, 3) := by decide +kernel
theorem dX12_alike_38 : decode cX12_alike 38 = .ok (.getfield 166, 3) := by decide +kernel
theorem dX12_alike_4 : decode cX12_alike 4 = .ok (.iload_n 1, 1) := by decide +kernel
theorem dX12_alike_41 : decode cX12_alike 41 = .ok (.iload_n 2, 1) := by decide +kernel
theorem dX12_alike_42 : decode cX12_alike 42 = .ok (.iaload, 1) := by decide +kernel
theorem dX12_alike_43 : decode cX12_alike 43 = .ok (.if_icmp .ne 7, 3) := by decide +kernel
theorem dX12_alike_46 : decode cX12_alike 46 = .ok (.iconst 1, 1) := by decide +kernel
theorem dX12_alike_47 : decode cX12_alike 47 = .ok (.goto 4, 3) := by decide +kernel
theorem dX12_alike_5 : decode cX12_alike 5 = .ok (.invokevirtual 150, 3) := by decide +kernel
theorem dX12_alike_50 : decode cX12_alike 50 = .ok (.iconst 0, 1) := by decide +kernel
theorem dX12_alike_51 : decode cX12_alike 51 = .ok (.istore_n 3, 1) := by decide +kernel
theorem dX12_alike_52 : decode cX12_alike 52 = .ok (.iconst 0, 1) := by decide +kernel
theorem dX12_alike_53 : decode cX12_alike 53 = .ok (.istore 4, 2) := by decide +kernel
theorem dX12_alike_55 : decode cX12_alike 55 = .ok (.iload 4, 2) := by decide +kernel
theorem dX12_alike_57 : decode cX12_alike 57 = .ok (.bipush 7, 2) := by decide +kernel
theorem dX12_alike_59 : decode cX12_alike 59 = .ok (.if_icmp .ge 104, 3) := by decide +kernel
theorem dX12_alike_62 : decode cX12_alike 62 = .ok (.iconst 0, 1) := by decide +kernel
theorem dX12_alike_63 : decode cX12_alike 63 = .ok (.istore 5, 2) := by decide +kernel
theorem dX12_alike_65 : decode cX12_alike 65 = .ok (.iload 5, 2) := by decide +kernel
theorem dX12_alike_67 : decode cX12_alike 67 = .ok (.iload 4, 2) := by decide +kernel
theorem dX12_alike_69 : decode cX12_alike 69 = .ok (.if_icmp .gt 88, 3) := by decide +kernel
theorem dX12_alike_72 : decode cX12_alike 72 = .ok (.aload_n 0, 1) := by decide +kernel
theorem dX12_alike_73 : decode cX12_alike 73 = .ok (.getfield 43, 3) := by decide +kernel
theorem dX12_alike_76 : decode cX12_alike 76 = .ok (.iload_n 1, 1) := by decide +kernel
theorem dX12_alike_77 : decode cX12_alike 77 = .ok (.iload 4, 2) := by decide +kernel
theorem dX12_alike_79 : decode cX12_alike 79 = .ok (.iload 5, 2) := by decide +kernel
theorem dX12_alike_8 : decode cX12_alike 8 = .ok (.ifCond .eq 14, 3) := by decide +kernel
theorem dX12_alike_81 : decode cX12_alike 81 = .ok (.invokevirtual 185, 3) := by decide +kernel
theorem dX12_alike_84 : decode cX12_alike 84 = .ok (.istore 6, 2) := by decide +kernel
theorem dX12_alike_86 : decode cX12_alike 86 = .ok (.aload_n 0, 1) := by decide +kernel
theorem dX12_alike_87 : decode cX12_alike 87 = .ok (.getfield 43, 3) := by decide +kernel
theorem dX12_alike_90 : decode cX12_alike 90 = .ok (.iload_n 2, 1) := by decide +kernel
theorem dX12_alike_91 : decode cX12_alike 91 = .ok (.iload 4, 2) := by decide +kernel
theorem dX12_alike_93 : decode cX12_alike 93 = .ok (.iload 5, 2) := by decide +kernel
theorem dX12_alike_95 : decode cX12_alike 95 = .ok (.invokevirtual 185, 3) := by decide +kernel
theorem dX12_alike_98 : decode cX12_alike 98 = .ok (.istore 7, 2) := by decide +kernel
set_option maxRecDepth 20000 in
theorem ggX12_alike_X11_isMuch : GoodIn wsX12_alike wsX11_isMuch := goodIn_r _ [94, 47, 140, 141, 142, 143, 144, 145] rfl (by decide +kernel)
set_option maxRecDepth 20000 in
theorem ggX12_alike_X11_order : GoodIn wsX12_alike wsX11_order := goodIn_r _ [98, 46, 47, 99, 100, 101, 102, 103, 104, 105, 140, 141, 142, 143, 144, 145] rfl (by decide +kernel)
set_option maxRecDepth 40000 in
theorem ggX12_alike_X11_settle_0 : GoodIn wsX12_alike [.code yX11_settle cX11_settle 8 (some .int)] := goodIn_r _ [17] rfl (by decide +kernel)
set_option maxRecDepth 40000 in
theorem ggX12_alike_X11_settle_1 : GoodIn wsX12_alike wsX11_settle_r1 := goodIn_r _ [18, 19, 20, 21, 22, 23, 24, 25, 26, 27, 28, 29, 30, 31, 32, 7, 33, 34, 35, 36, 37, 38, 39, 40] rfl (by decide +kernel)
set_option maxRecDepth 40000 in
theorem ggX12_alike_X11_settle_2 : GoodIn wsX12_alike wsX11_settle_r2 := goodIn_r _ [41, 42, 43, 44, 16, 45, 46, 47, 48, 14, 15, 49, 50, 51, 52, 53, 54, 55, 56, 57, 58, 59, 60, 61] rfl (by decide +kernel)
set_option maxRecDepth 40000 in
theorem ggX12_alike_X11_settle_3 : GoodIn wsX12_alike wsX11_settle_r3 := goodIn_r _ [62, 63, 64, 65, 66, 67, 68, 69, 70, 71, 72, 73, 74, 75, 76, 77, 78, 79, 80, 81, 82, 83, 84, 85] rfl (by decide +kernel)
set_option maxRecDepth 40000 in
theorem ggX12_alike_X11_settle_4 : GoodIn wsX12_alike wsX11_settle_r4 := goodIn_r _ [86, 87, 88, 89, 90, 91, 92, 93, 94, 95, 96, 97, 98, 99, 100, 101, 102, 103, 104, 105, 106, 107, 108, 109] rfl (by decide +kernel)
set_option maxRecDepth 40000 in
theorem ggX12_alike_X11_settle_5 : GoodIn wsX12_alike wsX11_settle_r5 := goodIn_r _ [110, 111, 112, 113, 114, 115, 116, 117, 118] rfl (by decide +kernel)
set_option maxRecDepth 40000 in
theorem ggX12_alike_X11_settle_6 : GoodIn wsX12_alike wsX110 := goodIn_r _ [140, 141, 142, 143, 144, 145] rfl (by decide +kernel)
set_option maxRecDepth 40000 in
theorem ggX12_alike_X11_settle_7 : GoodIn wsX12_alike wsX80 := goodIn_r _ [146, 147, 148, 149, 150, 151, 152] rfl (by decide +kernel)
set_option maxRecDepth 40000 in
theorem ggX12_alike_X11_settle_8 : GoodIn wsX12_alike wsX20 := goodIn_r _ [132, 133, 134, 135, 136, 137, 138, 139] rfl (by decide +kernel)
set_option maxRecDepth 40000 in
theorem ggX12_alike_X11_settle : GoodIn wsX12_alike wsX11_settle := (goodIn_app ggX12_alike_X11_settle_0 (goodIn_app (goodIn_app (goodIn_app (goodIn_app ggX12_alike_X11_settle_1 (goodIn_app ggX12_alike_X11_settle_2 (goodIn_app ggX12_alike_X11_settle_3 (goodIn_app ggX12_alike_X11_settle_4 ggX12_alike_X11_settle_5)))) ggX12_alike_X11_settle_6) ggX12_alike_X11_settle_7) ggX12_alike_X11_settle_8))
set_option maxRecDepth 20000 in
theorem ggX12_alike_X2_has : GoodIn wsX12_alike wsX2_has := goodIn_r _ [8, 9, 10, 11, 12, 132, 133, 134, 135, 136, 137, 138, 139] rfl (by decide +kernel)
set_option maxRecDepth 20000 in
theorem gX12_alike_X11_isMuch : GoodIn wsX12_alike (wsV RX12 197 RX11 yX11_isMuch wsX11_isMuch) := goodIn_app (goodIn_r _ [119, 92, 93, 16] rfl (by decide +kernel)) ggX12_alike_X11_isMuch
set_option maxRecDepth 20000 in
theorem gX12_alike_X11_order : GoodIn wsX12_alike (wsV RX12 247 RX11 yX11_order wsX11_order) := goodIn_app (goodIn_r _ [120, 96, 97, 16] rfl (by decide +kernel)) ggX12_alike_X11_order
set_option maxRecDepth 20000 in
theorem gX12_alike_X11_settle : GoodIn wsX12_alike (wsV RX12 185 RX11 yX11_settle wsX11_settle) := goodIn_app (goodIn_r _ [13, 14, 15, 16] rfl (by decide +kernel)) ggX12_alike_X11_settle
set_option maxRecDepth 20000 in
theorem gX12_alike_X2_has : GoodIn wsX12_alike (wsV RX12 150 RX2 yX2_has wsX2_has) := goodIn_app (goodIn_r _ [4, 5, 6, 7] rfl (by decide +kernel)) ggX12_alike_X2_has
set_option maxRecDepth 20000 in
theorem in_X12_alike_X12 : ∀ w ∈ wsX120, w ∈ wsX12_alike := sub_r [121, 122, 123, 124, 125, 126, 127, 128, 129, 130, 131] rfl
set_option maxRecDepth 20000 in
theorem in_X12_alike_X2 : ∀ w ∈ wsX20, w ∈ wsX12_alike := sub_r [132, 133, 134, 135, 136, 137, 138, 139] rfl
set_option maxHeartbeats 4000000 in
set_option maxRecDepth 100000 in
theorem c_X12_alike (l : Launch) (D : va_G) (T : Nat → ClassId) (ad sa av : Nat → Nat) (ta : Nat) (sz : Nat) (h0 : Nat) (wo : Nat) (fs0 : List Value) (la : Nat) (cl : Nat) (p0 : Nat) (p1 : Nat) (p4 : Nat) (n : Int32) (l9 : Nat → Int32) (n0 : Int32) (c1 : Nat) (c2 : Nat) (c3 : Nat) (c4 : Nat) (c5 : Nat) (c6 : Nat) (c7 : Nat) (f1 : Nat → Int32) (f2 : Nat → Int32) (f3 : Nat → Int32) (f4 : Nat → Int32) (f5 : Nat → Int32) (g0 : Nat → Int64) (g1 : Nat → Int64) (g4 : Nat → Int32) (x1 : Int32) (x2 : Int32) (e0_4 : fs0[4]? = some (.ref cl)) (e0_6 : fs0[6]? = some (.ref wo)) (hn0 : 0 ≤ n0.toInt ∧ n0.toInt ≤ 24) (hok : okC f1 f3 f4 f5) (hmm : memW (VALW l9 f1 f2 f3 f4 f5) n0 n g0 g1 g4) (hlq : (1 ≤ (l9 4).toInt ∧ (l9 4).toInt ≤ 9) ∧ 1 ≤ (l9 6).toInt ∧ (l9 6).toInt ≤ 9) : Met l yX12_alike wsX12_alike ({ frames := 67, cells := 0, slots := 0, locals := 2197 }) (pWk [.ref h0, .int x1, .int x2] D T [(h0, .inr (9, fs0)), (wo, .inr (8, [.ref la, .ref cl, .ref p0, .ref p1, .ref p4, .int n])), (la, .inr (5, [.int (l9 0), .int (l9 1), .int (l9 2), .int (l9 3), .int (l9 4), .int (l9 5), .int (l9 6)])), (cl, .inr (1, [.int n0, .ref c1, .ref c2, .ref c3, .ref c4, .ref c5, .ref c6, .ref c7])), (c1, .inl (T 0, 24, .inl f1)), (c2, .inl (T 0, 24, .inl f2)), (c3, .inl (T 0, 24, .inl f3)), (c4, .inl (T 0, 24, .inl f4)), (c5, .inl (T 0, 24, .inl f5)), (p0, .inl (T 1, 676, .inr (.inl g0))), (p1, .inl (T 1, 676, .inr (.inl g1))), (p4, .inl (T 0, 672, .inl g4))] sz ad sa av ta) (va_Qi (fun (r : Int32) (u : (Nat → Int64) × (Nat → Int64) × (Nat → Int32)) => alkQ (VALW l9 f1 f2 f3 f4 f5) f5 n0 x1 x2 r ∧ stW (VALW l9 f1 f2 f3 f4 f5) n0 n (fun _ => True) g0 g1 g4 u.1 u.2.1 u.2.2) (bW D (va_A [(h0, .inr (9, fs0)), (wo, .inr (8, [.ref la, .ref cl, .ref p0, .ref p1, .ref p4, .int n])), (la, .inr (5, [.int (l9 0), .int (l9 1), .int (l9 2), .int (l9 3), .int (l9 4), .int (l9 5), .int (l9 6)])), (cl, .inr (1, [.int n0, .ref c1, .ref c2, .ref c3, .ref c4, .ref c5, .ref c6, .ref c7])), (c1, .inl (T 0, 24, .inl f1)), (c2, .inl (T 0, 24, .inl f2)), (c3, .inl (T 0, 24, .inl f3)), (c4, .inl (T 0, 24, .inl f4)), (c5, .inl (T 0, 24, .inl f5)), (p0, .inl (T 1, 676, .inr (.inl g0))), (p1, .inl (T 1, 676, .inr (.inl g1))), (p4, .inl (T 0, 672, .inl g4))] sz) (fun (u : (Nat → Int64) × (Nat → Int64) × (Nat → Int32)) => [(h0, .inr (9, fs0)), (wo, .inr (8, [.ref la, .ref cl, .ref p0, .ref p1, .ref p4, .int n])), (la, .inr (5, [.int (l9 0), .int (l9 1), .int (l9 2), .int (l9 3), .int (l9 4), .int (l9 5), .int (l9 6)])), (cl, .inr (1, [.int n0, .ref c1, .ref c2, .ref c3, .ref c4, .ref c5, .ref c6, .ref c7])), (c1, .inl (T 0, 24, .inl f1)), (c2, .inl (T 0, 24, .inl f2)), (c3, .inl (T 0, 24, .inl f3)), (c4, .inl (T 0, 24, .inl f4)), (c5, .inl (T 0, 24, .inl f5)), (p0, .inl (T 1, 676, .inr (.inl u.1))), (p1, .inl (T 1, 676, .inr (.inl u.2.1))), (p4, .inl (T 0, 672, .inl u.2.2))])) (va_A [(h0, .inr (9, fs0)), (wo, .inr (8, [.ref la, .ref cl, .ref p0, .ref p1, .ref p4, .int n])), (la, .inr (5, [.int (l9 0), .int (l9 1), .int (l9 2), .int (l9 3), .int (l9 4), .int (l9 5), .int (l9 6)])), (cl, .inr (1, [.int n0, .ref c1, .ref c2, .ref c3, .ref c4, .ref c5, .ref c6, .ref c7])), (c1, .inl (T 0, 24, .inl f1)), (c2, .inl (T 0, 24, .inl f2)), (c3, .inl (T 0, 24, .inl f3)), (c4, .inl (T 0, 24, .inl f4)), (c5, .inl (T 0, 24, .inl f5)), (p0, .inl (T 1, 676, .inr (.inl g0))), (p1, .inl (T 1, 676, .inr (.inl g1))), (p4, .inl (T 0, 672, .inl g4))] sz)) 0 0 (va_A [(h0, .inr (9, fs0)), (wo, .inr (8, [.ref la, .ref cl, .ref p0, .ref p1, .ref p4, .int n])), (la, .inr (5, [.int (l9 0), .int (l9 1), .int (l9 2), .int (l9 3), .int (l9 4), .int (l9 5), .int (l9 6)])), (cl, .inr (1, [.int n0, .ref c1, .ref c2, .ref c3, .ref c4, .ref c5, .ref c6, .ref c7])), (c1, .inl (T 0, 24, .inl f1)), (c2, .inl (T 0, 24, .inl f2)), (c3, .inl (T 0, 24, .inl f3)), (c4, .inl (T 0, 24, .inl f4)), (c5, .inl (T 0, 24, .inl f5)), (p0, .inl (T 1, 676, .inr (.inl g0))), (p1, .inl (T 1, 676, .inr (.inl g1))), (p4, .inl (T 0, 672, .inl g4))] sz) := by
  refine Met.ofW (cc := cX12_alike) (maxL := 8) (ret := (some .int)) (by decide +kernel) rfl ?_
  intro p e s m args below meth c s₁ B hml hv
  obtain ⟨rfl, hsz, hP, hE, hD0, hV⟩ := hv
  have hx := B.exec
  have hb := B.bytes
  have hr := B.returns
  have hts := atoms_spec (ws := wsX12_alike) B.pre
  have hown : s.vm.findClass RX12 = some m.cls := findClass_of_methodNamed B.named
  have hlocks := B.notSynchronized
  subst hsz
  have hD := hD0.self (sz := s.heap.size)
  generalize hAe : va_A [(h0, .inr (9, fs0)), (wo, .inr (8, [.ref la, .ref cl, .ref p0, .ref p1, .ref p4, .int n])), (la, .inr (5, [.int (l9 0), .int (l9 1), .int (l9 2), .int (l9 3), .int (l9 4), .int (l9 5), .int (l9 6)])), (cl, .inr (1, [.int n0, .ref c1, .ref c2, .ref c3, .ref c4, .ref c5, .ref c6, .ref c7])), (c1, .inl (T 0, 24, .inl f1)), (c2, .inl (T 0, 24, .inl f2)), (c3, .inl (T 0, 24, .inl f3)), (c4, .inl (T 0, 24, .inl f4)), (c5, .inl (T 0, 24, .inl f5)), (p0, .inl (T 1, 676, .inr (.inl g0))), (p1, .inl (T 1, 676, .inr (.inl g1))), (p4, .inl (T 0, 672, .inl g4))] s.heap.size = A at hD hV ⊢
  have hA : ∀ q : Nat, s.heap.size ≤ q → A q := fun q h => by rw [← hAe]; exact Or.inr h
  have hS : va_S A s.heap s.heap [] := va_S.rf
  have hP : va_P D vwCl [(h0, .inr (9, fs0)), (wo, .inr (8, [.ref la, .ref cl, .ref p0, .ref p1, .ref p4, .int n])), (la, .inr (5, [.int (l9 0), .int (l9 1), .int (l9 2), .int (l9 3), .int (l9 4), .int (l9 5), .int (l9 6)])), (cl, .inr (1, [.int n0, .ref c1, .ref c2, .ref c3, .ref c4, .ref c5, .ref c6, .ref c7])), (c1, .inl (T 0, 24, .inl f1)), (c2, .inl (T 0, 24, .inl f2)), (c3, .inl (T 0, 24, .inl f3)), (c4, .inl (T 0, 24, .inl f4)), (c5, .inl (T 0, 24, .inl f5)), (p0, .inl (T 1, 676, .inr (.inl g0))), (p1, .inl (T 1, 676, .inr (.inl g1))), (p4, .inl (T 0, 672, .inl g4))] s.heap := hP
  have hl := lv_entry ([.ref h0, .int x1, .int x2]) (n := 8) (Nat.le_of_ble_eq_true rfl)
  rw [lg_entry_eq]
  generalize (lg_sl ([.ref h0, .int x1, .int x2]) ++ List.replicate (8 - (lg_sl ([.ref h0, .int x1, .int x2])).length) Slot.unset).toArray = ls at hl ⊢
  have hl : lv_has ls 8 [(0, .ref h0), (1, .int x1), (2, .int x2)] := hl
  clear hD0
  have hst : stW (VALW l9 f1 f2 f3 f4 f5) n0 n (fun _ => True) g0 g1 g4 g0 g1 g4 := stW_rf hmm
  refine lv_aload_n hx hb dX12_alike_0 rfl (lv_at hl 0 rfl) ?_
  refine va_get (D := D) (ci := 9) (v := .ref cl) (C := RX12) (T := TX12) (N := 11) hx hb hts in_X12_alike_X12 hown hE.1 hP 0 rfl rfl 4 (by decide +kernel) (hts (.fieldLink RX12 32 "ClauseBook" "clauses" "LClauseBook$Clauses;") (List.mem_of_getElem? (i := 1) rfl)) (fun _ h9 => h9) e0_4 dX12_alike_1 ?_
  refine lv_iload_n hx hb dX12_alike_4 rfl (lv_at hl 1 rfl) ?_
  refine vp_callSi (W.runV (As := [.int x1]) (rest := []) ⟨hx, hb, hml, hown, hts⟩ (c_X2_has l D T cl [.int n0, .ref c1, .ref c2, .ref c3, .ref c4, .ref c5, .ref c6, .ref c7] x1 n0 rfl (by omega)) (cwV 1 hts gX12_alike_X2_has rfl rfl rfl hv_X2_has ⟨Nat.le_of_ble_eq_true rfl, Nat.le_of_ble_eq_true rfl⟩) (pR_V (q := (RX2, TX2, 8)) (ci := 1) (q0 := 3) hP hE rfl rfl [3] rfl) rfl rfl hl.1 rfl (lv_room (Nat.le_of_ble_eq_true rfl)) dX12_alike_5 ⟨Nat.le_of_ble_eq_true rfl, Nat.le_of_ble_eq_true rfl⟩) (fun r_1 hr_1 => ?_)
  rcases bool_post hr_1 with ⟨c_2, rfl⟩ | ⟨c_2, rfl⟩
  · refine lv_if_eq (tgt := 22) hx hb dX12_alike_8 (by decide +kernel) (fun c9 => absurd c9 (by decide +kernel)) (fun _ => ?_)
    refine lv_aload_n hx hb dX12_alike_11 rfl (lv_at hl 0 rfl) ?_
    refine va_get (D := D) (ci := 9) (v := .ref cl) (C := RX12) (T := TX12) (N := 11) hx hb hts in_X12_alike_X12 hown hE.1 hP 0 rfl rfl 4 (by decide +kernel) (hts (.fieldLink RX12 32 "ClauseBook" "clauses" "LClauseBook$Clauses;") (List.mem_of_getElem? (i := 1) rfl)) (fun _ h9 => h9) e0_4 dX12_alike_12 ?_
    refine lv_iload_n hx hb dX12_alike_15 rfl (lv_at hl 2 rfl) ?_
    refine vp_callSi (W.runV (As := [.int x2]) (rest := []) ⟨hx, hb, hml, hown, hts⟩ (c_X2_has l D T cl [.int n0, .ref c1, .ref c2, .ref c3, .ref c4, .ref c5, .ref c6, .ref c7] x2 n0 rfl (by omega)) (cwV 1 hts gX12_alike_X2_has rfl rfl rfl hv_X2_has ⟨Nat.le_of_ble_eq_true rfl, Nat.le_of_ble_eq_true rfl⟩) (pR_V (q := (RX2, TX2, 8)) (ci := 1) (q0 := 3) hP hE rfl rfl [3] rfl) rfl rfl hl.1 rfl (lv_room (Nat.le_of_ble_eq_true rfl)) dX12_alike_16 ⟨Nat.le_of_ble_eq_true rfl, Nat.le_of_ble_eq_true rfl⟩) (fun r_3 hr_3 => ?_)
    rcases bool_post hr_3 with ⟨c_4, rfl⟩ | ⟨c_4, rfl⟩
    · refine lv_if_ne (tgt := 25) hx hb dX12_alike_19 (by decide +kernel) (fun _ => ?_) (fun c9 => absurd c9 (by decide +kernel))
      refine lv_aload_n hx hb dX12_alike_25 rfl (lv_at hl 0 rfl) ?_
      refine va_get (D := D) (ci := 9) (v := .ref cl) (C := RX12) (T := TX12) (N := 11) hx hb hts in_X12_alike_X12 hown hE.1 hP 0 rfl rfl 4 (by decide +kernel) (hts (.fieldLink RX12 32 "ClauseBook" "clauses" "LClauseBook$Clauses;") (List.mem_of_getElem? (i := 1) rfl)) (fun _ h9 => h9) e0_4 dX12_alike_26 ?_
      refine va_get (D := D) (ci := 1) (v := .ref c5) (C := RX2) (T := TX2) (N := 8) hx hb hts in_X12_alike_X2 hown hE.1 hP 3 rfl rfl 5 (by decide +kernel) (hts (.fieldLink RX12 166 "ClauseBook$Clauses" "end" "[I") (List.mem_of_getElem? (i := 2) rfl)) (fun _ h9 => h9) rfl dX12_alike_29 ?_
      refine lv_iload_n hx hb dX12_alike_32 rfl (lv_at hl 1 rfl) ?_
      refine va_iald hx hb hE.1 hP 8 0 rfl rfl (by rw [vp_in_iff]; first | omega | (subst_vars; omega)) dX12_alike_33 ?_
      refine lv_topi (fun z_5 ez_5 => ?_)
      refine lv_aload_n hx hb dX12_alike_34 rfl (lv_at hl 0 rfl) ?_
      refine va_get (D := D) (ci := 9) (v := .ref cl) (C := RX12) (T := TX12) (N := 11) hx hb hts in_X12_alike_X12 hown hE.1 hP 0 rfl rfl 4 (by decide +kernel) (hts (.fieldLink RX12 32 "ClauseBook" "clauses" "LClauseBook$Clauses;") (List.mem_of_getElem? (i := 1) rfl)) (fun _ h9 => h9) e0_4 dX12_alike_35 ?_
      refine va_get (D := D) (ci := 1) (v := .ref c5) (C := RX2) (T := TX2) (N := 8) hx hb hts in_X12_alike_X2 hown hE.1 hP 3 rfl rfl 5 (by decide +kernel) (hts (.fieldLink RX12 166 "ClauseBook$Clauses" "end" "[I") (List.mem_of_getElem? (i := 2) rfl)) (fun _ h9 => h9) rfl dX12_alike_38 ?_
      refine lv_iload_n hx hb dX12_alike_41 rfl (lv_at hl 2 rfl) ?_
      refine va_iald hx hb hE.1 hP 8 0 rfl rfl (by rw [vp_in_iff]; first | omega | (subst_vars; omega)) dX12_alike_42 ?_
      refine lv_topi (fun z_6 ez_6 => ?_)
      have hzz_5 : z_5.toInt = (f5 (x1.toNatClampNeg)).toInt := by rw [ez_5]
      have hzz_6 : z_6.toInt = (f5 (x2.toNatClampNeg)).toInt := by rw [ez_6]
      refine lv_icmp_ne (tgt := 50) hx hb dX12_alike_43 (by decide +kernel) (fun c_7 => ?_) (fun c_7 => ?_)
      · rw [fa_eq] at c_7
        refine lv_iconst (v := 0) hx hb dX12_alike_50 (by decide +kernel) ?_
        refine lv_istore_n (lv' := [(3, .int 0), (0, .ref h0), (1, .int x1), (2, .int x2)]) hx hb dX12_alike_51 rfl hl (by decide +kernel) rfl (fun ls hl => ?_)
        refine lv_iconst (v := 0) hx hb dX12_alike_52 (by decide +kernel) ?_
        refine lv_istore (lv' := [(4, .int 0), (3, .int 0), (0, .ref h0), (1, .int x1), (2, .int x2)]) hx hb dX12_alike_53 hl (by decide +kernel) rfl (fun ls hl => ?_)
        refine loopW (σ := (Int32) × (Int32) × (Nat → Int64) × (Nat → Int64) × (Nat → Int32)) (fun x9 ls H locs => lv_has ls 8 [(4, .int x9.1), (3, .int x9.2.1), (0, .ref h0), (1, .int x1), (2, .int x2)] ∧ va_P D vwCl [(h0, .inr (9, fs0)), (wo, .inr (8, [.ref la, .ref cl, .ref p0, .ref p1, .ref p4, .int n])), (la, .inr (5, [.int (l9 0), .int (l9 1), .int (l9 2), .int (l9 3), .int (l9 4), .int (l9 5), .int (l9 6)])), (cl, .inr (1, [.int n0, .ref c1, .ref c2, .ref c3, .ref c4, .ref c5, .ref c6, .ref c7])), (c1, .inl (T 0, 24, .inl f1)), (c2, .inl (T 0, 24, .inl f2)), (c3, .inl (T 0, 24, .inl f3)), (c4, .inl (T 0, 24, .inl f4)), (c5, .inl (T 0, 24, .inl f5)), (p0, .inl (T 1, 676, .inr (.inl x9.2.2.1))), (p1, .inl (T 1, 676, .inr (.inl x9.2.2.2.1))), (p4, .inl (T 0, 672, .inl x9.2.2.2.2))] H ∧ va_D A [(h0, .inr (9, fs0)), (wo, .inr (8, [.ref la, .ref cl, .ref p0, .ref p1, .ref p4, .int n])), (la, .inr (5, [.int (l9 0), .int (l9 1), .int (l9 2), .int (l9 3), .int (l9 4), .int (l9 5), .int (l9 6)])), (cl, .inr (1, [.int n0, .ref c1, .ref c2, .ref c3, .ref c4, .ref c5, .ref c6, .ref c7])), (c1, .inl (T 0, 24, .inl f1)), (c2, .inl (T 0, 24, .inl f2)), (c3, .inl (T 0, 24, .inl f3)), (c4, .inl (T 0, 24, .inl f4)), (c5, .inl (T 0, 24, .inl f5)), (p0, .inl (T 1, 676, .inr (.inl x9.2.2.1))), (p1, .inl (T 1, 676, .inr (.inl x9.2.2.2.1))), (p4, .inl (T 0, 672, .inl x9.2.2.2.2))] ∧ va_S A s.heap H locs ∧ (0 ≤ x9.1.toInt ∧ stW (VALW l9 f1 f2 f3 f4 f5) n0 n (fun _ => True) g0 g1 g4 x9.2.2.1 x9.2.2.2.1 x9.2.2.2.2 ∧ (∀ t k : Int32, spK t k → bef x9.1 0 t k → ¬ mu2 (VALW l9 f1 f2 f3 f4 f5) x1 x2 t k) ∧ alS (VALW l9 f1 f2 f3 f4 f5) ((f5 (x1.toNatClampNeg)).toInt = (f5 (x2.toNatClampNeg)).toInt) x1 x2 x9.1 0 x9.2.1)) (fun x9 => (7 - x9.1.toInt).toNat) (fun x9 ls H locs hI iho => ?_) (0, 0, g0, g1, g4) ls ⟨lv_sub hl [0, 1, 2, 3, 4] rfl, hP.sub [0, 1, 2, 3, 4, 5, 6, 7, 8, 9, 10, 11] rfl, hD.sub [0, 1, 2, 3, 4, 5, 6, 7, 8, 9, 10, 11] (by decide +kernel) rfl, hS, ⟨(by (try dsimp only); decide), hst, bef_0, als_0n (by omega)⟩⟩
        obtain ⟨dd, sm, u0, u1, u4⟩ := x9
        obtain ⟨hl, hP, hD, hS, hinv⟩ := hI
        have hl : lv_has ls 8 [(4, .int dd), (3, .int sm), (0, .ref h0), (1, .int x1), (2, .int x2)] := hl
        have hP : va_P D vwCl [(h0, .inr (9, fs0)), (wo, .inr (8, [.ref la, .ref cl, .ref p0, .ref p1, .ref p4, .int n])), (la, .inr (5, [.int (l9 0), .int (l9 1), .int (l9 2), .int (l9 3), .int (l9 4), .int (l9 5), .int (l9 6)])), (cl, .inr (1, [.int n0, .ref c1, .ref c2, .ref c3, .ref c4, .ref c5, .ref c6, .ref c7])), (c1, .inl (T 0, 24, .inl f1)), (c2, .inl (T 0, 24, .inl f2)), (c3, .inl (T 0, 24, .inl f3)), (c4, .inl (T 0, 24, .inl f4)), (c5, .inl (T 0, 24, .inl f5)), (p0, .inl (T 1, 676, .inr (.inl u0))), (p1, .inl (T 1, 676, .inr (.inl u1))), (p4, .inl (T 0, 672, .inl u4))] H := hP
        have hD : va_D A [(h0, .inr (9, fs0)), (wo, .inr (8, [.ref la, .ref cl, .ref p0, .ref p1, .ref p4, .int n])), (la, .inr (5, [.int (l9 0), .int (l9 1), .int (l9 2), .int (l9 3), .int (l9 4), .int (l9 5), .int (l9 6)])), (cl, .inr (1, [.int n0, .ref c1, .ref c2, .ref c3, .ref c4, .ref c5, .ref c6, .ref c7])), (c1, .inl (T 0, 24, .inl f1)), (c2, .inl (T 0, 24, .inl f2)), (c3, .inl (T 0, 24, .inl f3)), (c4, .inl (T 0, 24, .inl f4)), (c5, .inl (T 0, 24, .inl f5)), (p0, .inl (T 1, 676, .inr (.inl u0))), (p1, .inl (T 1, 676, .inr (.inl u1))), (p4, .inl (T 0, 672, .inl u4))] := hD
        have hinv : 0 ≤ dd.toInt ∧ stW (VALW l9 f1 f2 f3 f4 f5) n0 n (fun _ => True) g0 g1 g4 u0 u1 u4 ∧ (∀ t k : Int32, spK t k → bef dd 0 t k → ¬ mu2 (VALW l9 f1 f2 f3 f4 f5) x1 x2 t k) ∧ alS (VALW l9 f1 f2 f3 f4 f5) ((f5 (x1.toNatClampNeg)).toInt = (f5 (x2.toNatClampNeg)).toInt) x1 x2 dd 0 sm := hinv
        obtain ⟨hdd9, hst, hno, hal⟩ := hinv
        have hdd9 : 0 ≤ dd.toInt := hdd9
        have hmm : memW (VALW l9 f1 f2 f3 f4 f5) n0 n u0 u1 u4 := hst.1
        refine lv_iload hx hb dX12_alike_55 (lv_at hl 0 rfl) ?_
        refine lv_bipush (v := 7) hx hb dX12_alike_57 (by decide +kernel) ?_
        refine lv_icmp_ge (tgt := 163) hx hb dX12_alike_59 (by decide +kernel) (fun c_8 => ?_) (fun c_8 => ?_)
        · rw [fa_le] at c_8
          try rw [ti_7] at c_8
          refine lv_iload_n hx hb dX12_alike_163 rfl (lv_at hl 1 rfl) ?_
          refine lv_if_eq (tgt := 171) hx hb dX12_alike_164 (by decide +kernel) (fun c_9 => ?_) (fun c_9 => ?_)
          · rw [fa_eq] at c_9
            try rw [ti_0] at c_9
            refine lv_iconst (v := 0) hx hb dX12_alike_171 (by decide +kernel) ?_
            exact W.iret hx hb hr (fun t ht hW => ⟨⟨_, (u0, u1, u4), rfl, ⟨(show alkQ (VALW l9 f1 f2 f3 f4 f5) f5 n0 x1 x2 (0 : Int32) from (alk_of ⟨⟨(by omega), (by omega)⟩, (by omega), (by omega)⟩ (bef_all hno (by omega)) (als_end hal (by omega)) ⟨(fun h9 => by first | decide | (exfalso; omega)), (fun h9 => by first | decide | (exfalso; omega))⟩)), hst⟩, by rw [ht]; exact hP.sub [0, 1, 2, 3, 4, 5, 6, 7, 8, 9, 10, 11] rfl, hD.sub [0, 1, 2, 3, 4, 5, 6, 7, 8, 9, 10, 11] (by decide +kernel) rfl⟩, hS.F ht⟩) hS.2.2 dX12_alike_172
          · rw [fa_eq] at c_9
            try rw [ti_0] at c_9
            refine lv_iconst (v := 1) hx hb dX12_alike_167 (by decide +kernel) ?_
            refine lv_goto (tgt := 172) hx hb dX12_alike_168 (by decide +kernel) ?_
            exact W.iret hx hb hr (fun t ht hW => ⟨⟨_, (u0, u1, u4), rfl, ⟨(show alkQ (VALW l9 f1 f2 f3 f4 f5) f5 n0 x1 x2 (1 : Int32) from (alk_of ⟨⟨(by omega), (by omega)⟩, (by omega), (by omega)⟩ (bef_all hno (by omega)) (als_end hal (by omega)) ⟨(fun h9 => by first | decide | (exfalso; omega)), (fun h9 => by first | decide | (exfalso; omega))⟩)), hst⟩, by rw [ht]; exact hP.sub [0, 1, 2, 3, 4, 5, 6, 7, 8, 9, 10, 11] rfl, hD.sub [0, 1, 2, 3, 4, 5, 6, 7, 8, 9, 10, 11] (by decide +kernel) rfl⟩, hS.F ht⟩) hS.2.2 dX12_alike_172
        · rw [fa_le] at c_8
          try rw [ti_7] at c_8
          refine lv_iconst (v := 0) hx hb dX12_alike_62 (by decide +kernel) ?_
          refine lv_istore (lv' := [(5, .int 0), (4, .int dd), (3, .int sm), (0, .ref h0), (1, .int x1), (2, .int x2)]) hx hb dX12_alike_63 hl (by decide +kernel) rfl (fun ls hl => ?_)
          refine loopW (σ := (Int32) × (Int32) × (Nat → Int64) × (Nat → Int64) × (Nat → Int32)) (fun x9 ls H locs => lv_has ls 8 [(5, .int x9.1), (4, .int dd), (3, .int x9.2.1), (0, .ref h0), (1, .int x1), (2, .int x2)] ∧ va_P D vwCl [(h0, .inr (9, fs0)), (wo, .inr (8, [.ref la, .ref cl, .ref p0, .ref p1, .ref p4, .int n])), (la, .inr (5, [.int (l9 0), .int (l9 1), .int (l9 2), .int (l9 3), .int (l9 4), .int (l9 5), .int (l9 6)])), (cl, .inr (1, [.int n0, .ref c1, .ref c2, .ref c3, .ref c4, .ref c5, .ref c6, .ref c7])), (c1, .inl (T 0, 24, .inl f1)), (c2, .inl (T 0, 24, .inl f2)), (c3, .inl (T 0, 24, .inl f3)), (c4, .inl (T 0, 24, .inl f4)), (c5, .inl (T 0, 24, .inl f5)), (p0, .inl (T 1, 676, .inr (.inl x9.2.2.1))), (p1, .inl (T 1, 676, .inr (.inl x9.2.2.2.1))), (p4, .inl (T 0, 672, .inl x9.2.2.2.2))] H ∧ va_D A [(h0, .inr (9, fs0)), (wo, .inr (8, [.ref la, .ref cl, .ref p0, .ref p1, .ref p4, .int n])), (la, .inr (5, [.int (l9 0), .int (l9 1), .int (l9 2), .int (l9 3), .int (l9 4), .int (l9 5), .int (l9 6)])), (cl, .inr (1, [.int n0, .ref c1, .ref c2, .ref c3, .ref c4, .ref c5, .ref c6, .ref c7])), (c1, .inl (T 0, 24, .inl f1)), (c2, .inl (T 0, 24, .inl f2)), (c3, .inl (T 0, 24, .inl f3)), (c4, .inl (T 0, 24, .inl f4)), (c5, .inl (T 0, 24, .inl f5)), (p0, .inl (T 1, 676, .inr (.inl x9.2.2.1))), (p1, .inl (T 1, 676, .inr (.inl x9.2.2.2.1))), (p4, .inl (T 0, 672, .inl x9.2.2.2.2))] ∧ va_S A s.heap H locs ∧ (0 ≤ x9.1.toInt ∧ stW (VALW l9 f1 f2 f3 f4 f5) n0 n (fun _ => True) g0 g1 g4 x9.2.2.1 x9.2.2.2.1 x9.2.2.2.2 ∧ (∀ t k : Int32, spK t k → bef dd x9.1 t k → ¬ mu2 (VALW l9 f1 f2 f3 f4 f5) x1 x2 t k) ∧ alS (VALW l9 f1 f2 f3 f4 f5) ((f5 (x1.toNatClampNeg)).toInt = (f5 (x2.toNatClampNeg)).toInt) x1 x2 dd x9.1 x9.2.1)) (fun x9 => (8 - x9.1.toInt).toNat) (fun x9 ls H locs hI ih => ?_) (0, sm, u0, u1, u4) ls ⟨lv_sub hl [0, 1, 2, 3, 4, 5] rfl, hP.sub [0, 1, 2, 3, 4, 5, 6, 7, 8, 9, 10, 11] rfl, hD.sub [0, 1, 2, 3, 4, 5, 6, 7, 8, 9, 10, 11] (by decide +kernel) rfl, hS, ⟨(by (try dsimp only); decide), hst, hno, hal⟩⟩
          obtain ⟨ss, sq, v0, v1, v4⟩ := x9
          obtain ⟨hl, hP, hD, hS, hinv⟩ := hI
          have hl : lv_has ls 8 [(5, .int ss), (4, .int dd), (3, .int sq), (0, .ref h0), (1, .int x1), (2, .int x2)] := hl
          have hP : va_P D vwCl [(h0, .inr (9, fs0)), (wo, .inr (8, [.ref la, .ref cl, .ref p0, .ref p1, .ref p4, .int n])), (la, .inr (5, [.int (l9 0), .int (l9 1), .int (l9 2), .int (l9 3), .int (l9 4), .int (l9 5), .int (l9 6)])), (cl, .inr (1, [.int n0, .ref c1, .ref c2, .ref c3, .ref c4, .ref c5, .ref c6, .ref c7])), (c1, .inl (T 0, 24, .inl f1)), (c2, .inl (T 0, 24, .inl f2)), (c3, .inl (T 0, 24, .inl f3)), (c4, .inl (T 0, 24, .inl f4)), (c5, .inl (T 0, 24, .inl f5)), (p0, .inl (T 1, 676, .inr (.inl v0))), (p1, .inl (T 1, 676, .inr (.inl v1))), (p4, .inl (T 0, 672, .inl v4))] H := hP
          have hD : va_D A [(h0, .inr (9, fs0)), (wo, .inr (8, [.ref la, .ref cl, .ref p0, .ref p1, .ref p4, .int n])), (la, .inr (5, [.int (l9 0), .int (l9 1), .int (l9 2), .int (l9 3), .int (l9 4), .int (l9 5), .int (l9 6)])), (cl, .inr (1, [.int n0, .ref c1, .ref c2, .ref c3, .ref c4, .ref c5, .ref c6, .ref c7])), (c1, .inl (T 0, 24, .inl f1)), (c2, .inl (T 0, 24, .inl f2)), (c3, .inl (T 0, 24, .inl f3)), (c4, .inl (T 0, 24, .inl f4)), (c5, .inl (T 0, 24, .inl f5)), (p0, .inl (T 1, 676, .inr (.inl v0))), (p1, .inl (T 1, 676, .inr (.inl v1))), (p4, .inl (T 0, 672, .inl v4))] := hD
          have hinv : 0 ≤ ss.toInt ∧ stW (VALW l9 f1 f2 f3 f4 f5) n0 n (fun _ => True) g0 g1 g4 v0 v1 v4 ∧ (∀ t k : Int32, spK t k → bef dd ss t k → ¬ mu2 (VALW l9 f1 f2 f3 f4 f5) x1 x2 t k) ∧ alS (VALW l9 f1 f2 f3 f4 f5) ((f5 (x1.toNatClampNeg)).toInt = (f5 (x2.toNatClampNeg)).toInt) x1 x2 dd ss sq := hinv
          obtain ⟨hss9, hst, hno, hal⟩ := hinv
          have hss9 : 0 ≤ ss.toInt := hss9
          have hmm : memW (VALW l9 f1 f2 f3 f4 f5) n0 n v0 v1 v4 := hst.1
          refine lv_iload hx hb dX12_alike_65 (lv_at hl 0 rfl) ?_
          refine lv_iload hx hb dX12_alike_67 (lv_at hl 1 rfl) ?_
          refine lv_icmp_gt (tgt := 157) hx hb dX12_alike_69 (by decide +kernel) (fun c_10 => ?_) (fun c_10 => ?_)
          · rw [fa_lt] at c_10
            obtain ⟨z_11, ez_11⟩ : ∃ y : Int32, y = dd + 1 := ⟨_, rfl⟩
            refine lv_iinc (v := z_11) (lv' := [(4, .int z_11), (5, .int ss), (3, .int sq), (0, .ref h0), (1, .int x1), (2, .int x2)]) hx hb dX12_alike_157 hl (k := 1) rfl (by rw [ez_11]; rfl) (by decide +kernel) rfl (fun ls hl => ?_)
            refine lv_goto (tgt := 55) hx hb dX12_alike_160 (by decide +kernel) ?_
            have hi9 : z_11.toInt = dd.toInt + 1 := (by rw [ez_11]; exact inc1 (i := dd) (n := 1000) (by omega) (by decide +kernel))
            exact iho (z_11, sq, v0, v1, v4) ls _ _ ⟨lv_sub hl [0, 2, 3, 4, 5] rfl, hP.sub [0, 1, 2, 3, 4, 5, 6, 7, 8, 9, 10, 11] rfl, hD.sub [0, 1, 2, 3, 4, 5, 6, 7, 8, 9, 10, 11] (by decide +kernel) rfl, hS, ⟨(by (try dsimp only); omega), hst, bef_row hno (by omega) hi9, als_row hal (by omega) hi9⟩⟩ (by (try dsimp only); omega)
          · rw [fa_lt] at c_10
            refine lv_aload_n hx hb dX12_alike_72 rfl (lv_at hl 3 rfl) ?_
            refine va_get (D := D) (ci := 9) (v := .ref wo) (C := RX12) (T := TX12) (N := 11) hx hb hts in_X12_alike_X12 hown hE.1 hP 0 rfl rfl 6 (by decide +kernel) (hts (.fieldLink RX12 43 "ClauseBook" "worth" "LClauseBook$Worth;") (List.mem_of_getElem? (i := 3) rfl)) (fun _ h9 => h9) e0_6 dX12_alike_73 ?_
            refine lv_iload_n hx hb dX12_alike_76 rfl (lv_at hl 4 rfl) ?_
            refine lv_iload hx hb dX12_alike_77 (lv_at hl 1 rfl) ?_
            refine lv_iload hx hb dX12_alike_79 (lv_at hl 0 rfl) ?_
            have hFc := va_free (wc := [(wo, .inr (8, [.ref la, .ref cl, .ref p0, .ref p1, .ref p4, .int n])), (la, .inr (5, [.int (l9 0), .int (l9 1), .int (l9 2), .int (l9 3), .int (l9 4), .int (l9 5), .int (l9 6)])), (cl, .inr (1, [.int n0, .ref c1, .ref c2, .ref c3, .ref c4, .ref c5, .ref c6, .ref c7])), (c1, .inl (T 0, 24, .inl f1)), (c2, .inl (T 0, 24, .inl f2)), (c3, .inl (T 0, 24, .inl f3)), (c4, .inl (T 0, 24, .inl f4)), (c5, .inl (T 0, 24, .inl f5)), (p0, .inl (T 1, 676, .inr (.inl v0))), (p1, .inl (T 1, 676, .inr (.inl v1))), (p4, .inl (T 0, 672, .inl v4))]) hD hS hA [1, 2, 3, 4, 5, 6, 7, 8, 9, 10, 11] rfl
            refine va_calli (va_runV (As := [.int x1, .int dd, .int ss]) (rest := []) ⟨hx, hb, hml, hown, hts⟩ (cS_all l D T ad sa av ta 30 _ wo la cl p0 p1 p4 n l9 n0 c1 c2 c3 c4 c5 c6 c7 f1 f2 f3 f4 f5 v0 v1 v4 x1 dd ss (by omega) (by omega) (by omega) hok (by omega) hmm hlq (by omega)) (cwV 3 hts gX12_alike_X11_settle rfl rfl rfl hv_X11_settle ⟨Nat.le_of_ble_eq_true rfl, Nat.le_of_ble_eq_true rfl⟩) (pWk_V (q := (RX11, TX11, 6)) (ci := 8) (q0 := 1) hP hE hD hV hS hFc rfl rfl [1, 2, 3, 4, 5, 6, 7, 8, 9, 10, 11] (by decide +kernel) rfl rfl) rfl rfl hl.1 rfl (lv_room (Nat.le_of_ble_eq_true rfl)) dX12_alike_81 ⟨Nat.le_of_ble_eq_true rfl, Nat.le_of_ble_eq_true rfl⟩) hS (fun q _ h => hFc q h) hFc (fun r_12 u_13 t H1 locs ht hvm hr_12 hB hz1 hk1 hS => ?_)
            obtain ⟨f_14, f_15, f_16⟩ := u_13
            obtain ⟨hqr_12, hsl_r_12, hfo_r_12, hstr_12⟩ := hr_12
            have hqr_12 : 0 ≤ r_12.toInt ∧ r_12.toInt < 672 := hqr_12
            have hsl_r_12 : r_12.toNatClampNeg = slN x1 dd ss := hsl_r_12
            have hfo_r_12 : f_16 (slN x1 dd ss) = n := hfo_r_12
            have hsr_12 : stW (VALW l9 f1 f2 f3 f4 f5) n0 n (rgW x1 dd) v0 v1 v4 f_14 f_15 f_16 := hstr_12
            have hst : stW (VALW l9 f1 f2 f3 f4 f5) n0 n (fun _ => True) g0 g1 g4 f_14 f_15 f_16 := hst.tr hsr_12 (fun _ _ => trivial)
            have hmm : memW (VALW l9 f1 f2 f3 f4 f5) n0 n f_14 f_15 f_16 := hst.1
            have hv_r_12 : (f_14 (r_12.toNatClampNeg), f_15 (r_12.toNatClampNeg)) = (VALW l9 f1 f2 f3 f4 f5) x1 dd ss := hst.val (by omega) (by omega) (by first | (rw [ti_0]; omega) | omega) hsl_r_12 hfo_r_12
            have hb_r_12 : 0 ≤ (f_15 (r_12.toNatClampNeg)).toInt := val_nn (VAL_low hlq.1 hlq.2 31 _ _ _) hv_r_12
            obtain ⟨hP1, hD1⟩ := hB
            rw [ht] at hP1
            obtain ⟨hP, hD⟩ := va_repl [(h0, .inr (9, fs0)), (wo, .inr (8, [.ref la, .ref cl, .ref p0, .ref p1, .ref p4, .int n])), (la, .inr (5, [.int (l9 0), .int (l9 1), .int (l9 2), .int (l9 3), .int (l9 4), .int (l9 5), .int (l9 6)])), (cl, .inr (1, [.int n0, .ref c1, .ref c2, .ref c3, .ref c4, .ref c5, .ref c6, .ref c7])), (c1, .inl (T 0, 24, .inl f1)), (c2, .inl (T 0, 24, .inl f2)), (c3, .inl (T 0, 24, .inl f3)), (c4, .inl (T 0, 24, .inl f4)), (c5, .inl (T 0, 24, .inl f5)), (p0, .inl (T 1, 676, .inr (.inl f_14))), (p1, .inl (T 1, 676, .inr (.inl f_15))), (p4, .inl (T 0, 672, .inl f_16))] hP hD [1, 2, 3, 4, 5, 6, 7, 8, 9, 10, 11] [1, 2, 3, 4, 5, 6, 7, 8, 9, 10, 11] rfl (by decide +kernel) rfl rfl rfl hk1 hP1
            clear hP1 hD1 hFc
            generalize H1 = H at hP hS ⊢
            refine lv_istore (lv' := [(6, .int r_12), (5, .int ss), (4, .int dd), (3, .int sq), (0, .ref h0), (1, .int x1), (2, .int x2)]) hx hb dX12_alike_84 hl (by decide +kernel) rfl (fun ls hl => ?_)
            refine lv_aload_n hx hb dX12_alike_86 rfl (lv_at hl 4 rfl) ?_
            refine va_get (D := D) (ci := 9) (v := .ref wo) (C := RX12) (T := TX12) (N := 11) hx hb hts in_X12_alike_X12 hown hE.1 hP 0 rfl rfl 6 (by decide +kernel) (hts (.fieldLink RX12 43 "ClauseBook" "worth" "LClauseBook$Worth;") (List.mem_of_getElem? (i := 3) rfl)) (fun _ h9 => h9) e0_6 dX12_alike_87 ?_
            refine lv_iload_n hx hb dX12_alike_90 rfl (lv_at hl 6 rfl) ?_
            refine lv_iload hx hb dX12_alike_91 (lv_at hl 2 rfl) ?_
            refine lv_iload hx hb dX12_alike_93 (lv_at hl 1 rfl) ?_
            have hFc := va_free (wc := [(wo, .inr (8, [.ref la, .ref cl, .ref p0, .ref p1, .ref p4, .int n])), (la, .inr (5, [.int (l9 0), .int (l9 1), .int (l9 2), .int (l9 3), .int (l9 4), .int (l9 5), .int (l9 6)])), (cl, .inr (1, [.int n0, .ref c1, .ref c2, .ref c3, .ref c4, .ref c5, .ref c6, .ref c7])), (c1, .inl (T 0, 24, .inl f1)), (c2, .inl (T 0, 24, .inl f2)), (c3, .inl (T 0, 24, .inl f3)), (c4, .inl (T 0, 24, .inl f4)), (c5, .inl (T 0, 24, .inl f5)), (p0, .inl (T 1, 676, .inr (.inl f_14))), (p1, .inl (T 1, 676, .inr (.inl f_15))), (p4, .inl (T 0, 672, .inl f_16))]) hD hS hA [1, 2, 3, 4, 5, 6, 7, 8, 9, 10, 11] rfl
            refine va_calli (va_runV (As := [.int x2, .int dd, .int ss]) (rest := []) ⟨hx, hb, hml, hown, hts⟩ (cS_all l D T ad sa av ta 30 _ wo la cl p0 p1 p4 n l9 n0 c1 c2 c3 c4 c5 c6 c7 f1 f2 f3 f4 f5 f_14 f_15 f_16 x2 dd ss (by omega) (by omega) (by omega) hok (by omega) hmm hlq (by omega)) (cwV 3 hts gX12_alike_X11_settle rfl rfl rfl hv_X11_settle ⟨Nat.le_of_ble_eq_true rfl, Nat.le_of_ble_eq_true rfl⟩) (pWk_V (q := (RX11, TX11, 6)) (ci := 8) (q0 := 1) hP hE hD hV hS hFc rfl rfl [1, 2, 3, 4, 5, 6, 7, 8, 9, 10, 11] (by decide +kernel) rfl rfl) rfl rfl hl.1 rfl (lv_room (Nat.le_of_ble_eq_true rfl)) dX12_alike_95 ⟨Nat.le_of_ble_eq_true rfl, Nat.le_of_ble_eq_true rfl⟩) hS (fun q _ h => hFc q h) hFc (fun r_17 u_18 t H1 locs ht hvm hr_17 hB hz1 hk1 hS => ?_)
            obtain ⟨f_19, f_20, f_21⟩ := u_18
            obtain ⟨hqr_17, hsl_r_17, hfo_r_17, hstr_17⟩ := hr_17
            have hqr_17 : 0 ≤ r_17.toInt ∧ r_17.toInt < 672 := hqr_17
            have hsl_r_17 : r_17.toNatClampNeg = slN x2 dd ss := hsl_r_17
            have hfo_r_17 : f_21 (slN x2 dd ss) = n := hfo_r_17
            have hsr_17 : stW (VALW l9 f1 f2 f3 f4 f5) n0 n (rgW x2 dd) f_14 f_15 f_16 f_19 f_20 f_21 := hstr_17
            have hst : stW (VALW l9 f1 f2 f3 f4 f5) n0 n (fun _ => True) g0 g1 g4 f_19 f_20 f_21 := hst.tr hsr_17 (fun _ _ => trivial)
            have hmm : memW (VALW l9 f1 f2 f3 f4 f5) n0 n f_19 f_20 f_21 := hst.1
            have hfo_r_12 : f_21 (slN x1 dd ss) = n := hsr_17.2.1 _ (slN_lt (by omega) (by omega) (by omega)) hfo_r_12
            have hv_r_12 : (f_19 (r_12.toNatClampNeg), f_20 (r_12.toNatClampNeg)) = (VALW l9 f1 f2 f3 f4 f5) x1 dd ss := hst.val (by omega) (by omega) (by omega) hsl_r_12 hfo_r_12
            have hb_r_12 : 0 ≤ (f_20 (r_12.toNatClampNeg)).toInt := val_nn (VAL_low hlq.1 hlq.2 31 _ _ _) hv_r_12
            have hv_r_17 : (f_19 (r_17.toNatClampNeg), f_20 (r_17.toNatClampNeg)) = (VALW l9 f1 f2 f3 f4 f5) x2 dd ss := hst.val (by omega) (by omega) (by first | (rw [ti_0]; omega) | omega) hsl_r_17 hfo_r_17
            have hb_r_17 : 0 ≤ (f_20 (r_17.toNatClampNeg)).toInt := val_nn (VAL_low hlq.1 hlq.2 31 _ _ _) hv_r_17
            obtain ⟨hP1, hD1⟩ := hB
            rw [ht] at hP1
            obtain ⟨hP, hD⟩ := va_repl [(h0, .inr (9, fs0)), (wo, .inr (8, [.ref la, .ref cl, .ref p0, .ref p1, .ref p4, .int n])), (la, .inr (5, [.int (l9 0), .int (l9 1), .int (l9 2), .int (l9 3), .int (l9 4), .int (l9 5), .int (l9 6)])), (cl, .inr (1, [.int n0, .ref c1, .ref c2, .ref c3, .ref c4, .ref c5, .ref c6, .ref c7])), (c1, .inl (T 0, 24, .inl f1)), (c2, .inl (T 0, 24, .inl f2)), (c3, .inl (T 0, 24, .inl f3)), (c4, .inl (T 0, 24, .inl f4)), (c5, .inl (T 0, 24, .inl f5)), (p0, .inl (T 1, 676, .inr (.inl f_19))), (p1, .inl (T 1, 676, .inr (.inl f_20))), (p4, .inl (T 0, 672, .inl f_21))] hP hD [1, 2, 3, 4, 5, 6, 7, 8, 9, 10, 11] [1, 2, 3, 4, 5, 6, 7, 8, 9, 10, 11] rfl (by decide +kernel) rfl rfl rfl hk1 hP1
            clear hP1 hD1 hFc
            generalize H1 = H at hP hS ⊢
            refine lv_istore (lv' := [(7, .int r_17), (6, .int r_12), (5, .int ss), (4, .int dd), (3, .int sq), (0, .ref h0), (1, .int x1), (2, .int x2)]) hx hb dX12_alike_98 hl (by decide +kernel) rfl (fun ls hl => ?_)
            refine lv_aload_n hx hb dX12_alike_100 rfl (lv_at hl 5 rfl) ?_
            refine va_get (D := D) (ci := 9) (v := .ref wo) (C := RX12) (T := TX12) (N := 11) hx hb hts in_X12_alike_X12 hown hE.1 hP 0 rfl rfl 6 (by decide +kernel) (hts (.fieldLink RX12 43 "ClauseBook" "worth" "LClauseBook$Worth;") (List.mem_of_getElem? (i := 3) rfl)) (fun _ h9 => h9) e0_6 dX12_alike_101 ?_
            refine lv_iload hx hb dX12_alike_104 (lv_at hl 1 rfl) ?_
            refine vp_callSi (W.runV (As := [.int r_12]) (rest := []) ⟨hx, hb, hml, hown, hts⟩ (c_X11_isMuch l D T wo [.ref la, .ref cl, .ref p0, .ref p1, .ref p4, .int n] p1 f_20 r_12 rfl (by first | decide | omega)) (cwV 1 hts gX12_alike_X11_isMuch rfl rfl rfl hv_X11_isMuch ⟨Nat.le_of_ble_eq_true rfl, Nat.le_of_ble_eq_true rfl⟩) (pR_V (q := (RX11, TX11, 6)) (ci := 8) (q0 := 1) hP hE rfl rfl [1, 10] rfl) rfl rfl hl.1 rfl (lv_room (Nat.le_of_ble_eq_true rfl)) dX12_alike_106 ⟨Nat.le_of_ble_eq_true rfl, Nat.le_of_ble_eq_true rfl⟩) (fun r_22 hr_22 => ?_)
            rcases bool_post hr_22 with ⟨c_23, rfl⟩ | ⟨c_23, rfl⟩
            · refine lv_if_ne (tgt := 124) hx hb dX12_alike_109 (by decide +kernel) (fun _ => ?_) (fun c9 => absurd c9 (by decide +kernel))
              refine lv_bipush (v := (-5)) hx hb dX12_alike_124 (by decide +kernel) ?_
              exact W.iret hx hb hr (fun t ht hW => ⟨⟨_, (f_19, f_20, f_21), rfl, ⟨(show alkQ (VALW l9 f1 f2 f3 f4 f5) f5 n0 x1 x2 ((-5) : Int32) from (Or.inr ⟨⟨⟨(by omega), (by omega)⟩, (by omega), (by omega)⟩, Or.inl ⟨⟨dd, ss, ⟨⟨(by omega), (by omega)⟩, (by omega), (by omega)⟩, (by first | exact Or.inl (mu_of hv_r_12 (show (f_20 (r_12.toNatClampNeg)).toInt = 0 from by omega)) | exact Or.inr (mu_of hv_r_17 (show (f_20 (r_17.toNatClampNeg)).toInt = 0 from by omega)))⟩, (by decide +kernel)⟩⟩)), hst⟩, by rw [ht]; exact hP.sub [0, 1, 2, 3, 4, 5, 6, 7, 8, 9, 10, 11] rfl, hD.sub [0, 1, 2, 3, 4, 5, 6, 7, 8, 9, 10, 11] (by decide +kernel) rfl⟩, hS.F ht⟩) hS.2.2 dX12_alike_126
            · refine lv_if_ne (tgt := 124) hx hb dX12_alike_109 (by decide +kernel) (fun c9 => absurd c9 (by decide +kernel)) (fun _ => ?_)
              refine lv_aload_n hx hb dX12_alike_112 rfl (lv_at hl 5 rfl) ?_
              refine va_get (D := D) (ci := 9) (v := .ref wo) (C := RX12) (T := TX12) (N := 11) hx hb hts in_X12_alike_X12 hown hE.1 hP 0 rfl rfl 6 (by decide +kernel) (hts (.fieldLink RX12 43 "ClauseBook" "worth" "LClauseBook$Worth;") (List.mem_of_getElem? (i := 3) rfl)) (fun _ h9 => h9) e0_6 dX12_alike_113 ?_
              refine lv_iload hx hb dX12_alike_116 (lv_at hl 0 rfl) ?_
              refine vp_callSi (W.runV (As := [.int r_17]) (rest := []) ⟨hx, hb, hml, hown, hts⟩ (c_X11_isMuch l D T wo [.ref la, .ref cl, .ref p0, .ref p1, .ref p4, .int n] p1 f_20 r_17 rfl (by first | decide | omega)) (cwV 1 hts gX12_alike_X11_isMuch rfl rfl rfl hv_X11_isMuch ⟨Nat.le_of_ble_eq_true rfl, Nat.le_of_ble_eq_true rfl⟩) (pR_V (q := (RX11, TX11, 6)) (ci := 8) (q0 := 1) hP hE rfl rfl [1, 10] rfl) rfl rfl hl.1 rfl (lv_room (Nat.le_of_ble_eq_true rfl)) dX12_alike_118 ⟨Nat.le_of_ble_eq_true rfl, Nat.le_of_ble_eq_true rfl⟩) (fun r_24 hr_24 => ?_)
              rcases bool_post hr_24 with ⟨c_25, rfl⟩ | ⟨c_25, rfl⟩
              · refine lv_if_eq (tgt := 127) hx hb dX12_alike_121 (by decide +kernel) (fun c9 => absurd c9 (by decide +kernel)) (fun _ => ?_)
                refine lv_bipush (v := (-5)) hx hb dX12_alike_124 (by decide +kernel) ?_
                exact W.iret hx hb hr (fun t ht hW => ⟨⟨_, (f_19, f_20, f_21), rfl, ⟨(show alkQ (VALW l9 f1 f2 f3 f4 f5) f5 n0 x1 x2 ((-5) : Int32) from (Or.inr ⟨⟨⟨(by omega), (by omega)⟩, (by omega), (by omega)⟩, Or.inl ⟨⟨dd, ss, ⟨⟨(by omega), (by omega)⟩, (by omega), (by omega)⟩, (by first | exact Or.inl (mu_of hv_r_12 (show (f_20 (r_12.toNatClampNeg)).toInt = 0 from by omega)) | exact Or.inr (mu_of hv_r_17 (show (f_20 (r_17.toNatClampNeg)).toInt = 0 from by omega)))⟩, (by decide +kernel)⟩⟩)), hst⟩, by rw [ht]; exact hP.sub [0, 1, 2, 3, 4, 5, 6, 7, 8, 9, 10, 11] rfl, hD.sub [0, 1, 2, 3, 4, 5, 6, 7, 8, 9, 10, 11] (by decide +kernel) rfl⟩, hS.F ht⟩) hS.2.2 dX12_alike_126
              · refine lv_if_eq (tgt := 127) hx hb dX12_alike_121 (by decide +kernel) (fun _ => ?_) (fun c9 => absurd c9 (by decide +kernel))
                have hnm9 : ¬ mu2 (VALW l9 f1 f2 f3 f4 f5) x1 x2 dd ss := fun h9 => by rcases h9 with h9 | h9 <;> first | exact absurd h9 (nmu_of hv_r_12 (show ¬ (f_20 (r_12.toNatClampNeg)).toInt = 0 from by omega)) | exact absurd h9 (nmu_of hv_r_17 (show ¬ (f_20 (r_17.toNatClampNeg)).toInt = 0 from by omega))
                have hna9 : ¬ (f_20 (r_12.toNatClampNeg)).toInt = 0 := (by omega)
                have hnb9 : ¬ (f_20 (r_17.toNatClampNeg)).toInt = 0 := (by omega)
                refine lv_iload_n hx hb dX12_alike_127 rfl (lv_at hl 4 rfl) ?_
                refine lv_if_eq (tgt := 149) hx hb dX12_alike_128 (by decide +kernel) (fun c_26 => ?_) (fun c_26 => ?_)
                · rw [fa_eq] at c_26
                  try rw [ti_0] at c_26
                  refine lv_iconst (v := 0) hx hb dX12_alike_149 (by decide +kernel) ?_
                  refine lv_istore_n (lv' := [(3, .int 0), (7, .int r_17), (6, .int r_12), (5, .int ss), (4, .int dd), (0, .ref h0), (1, .int x1), (2, .int x2)]) hx hb dX12_alike_150 rfl hl (by decide +kernel) rfl (fun ls hl => ?_)
                  obtain ⟨z_27, ez_27⟩ : ∃ y : Int32, y = ss + 1 := ⟨_, rfl⟩
                  refine lv_iinc (v := z_27) (lv' := [(5, .int z_27), (3, .int 0), (7, .int r_17), (6, .int r_12), (4, .int dd), (0, .ref h0), (1, .int x1), (2, .int x2)]) hx hb dX12_alike_151 hl (k := 3) rfl (by rw [ez_27]; rfl) (by decide +kernel) rfl (fun ls hl => ?_)
                  refine lv_goto (tgt := 65) hx hb dX12_alike_154 (by decide +kernel) ?_
                  have hi9 : z_27.toInt = ss.toInt + 1 := (by rw [ez_27]; exact inc1 (i := ss) (n := 1000) (by omega) (by decide +kernel))
                  exact ih (z_27, 0, f_19, f_20, f_21) ls _ _ ⟨lv_sub hl [0, 4, 1, 5, 6, 7] rfl, hP.sub [0, 1, 2, 3, 4, 5, 6, 7, 8, 9, 10, 11] rfl, hD.sub [0, 1, 2, 3, 4, 5, 6, 7, 8, 9, 10, 11] (by decide +kernel) rfl, hS, ⟨(by (try dsimp only); omega), hst, bef_step hno hnm9 hi9, als_A hal (by omega)⟩⟩ (by (try dsimp only); omega)
                · rw [fa_eq] at c_26
                  try rw [ti_0] at c_26
                  refine lv_aload_n hx hb dX12_alike_131 rfl (lv_at hl 5 rfl) ?_
                  refine va_get (D := D) (ci := 9) (v := .ref wo) (C := RX12) (T := TX12) (N := 11) hx hb hts in_X12_alike_X12 hown hE.1 hP 0 rfl rfl 6 (by decide +kernel) (hts (.fieldLink RX12 43 "ClauseBook" "worth" "LClauseBook$Worth;") (List.mem_of_getElem? (i := 3) rfl)) (fun _ h9 => h9) e0_6 dX12_alike_132 ?_
                  refine lv_iload hx hb dX12_alike_135 (lv_at hl 1 rfl) ?_
                  refine lv_iload hx hb dX12_alike_137 (lv_at hl 0 rfl) ?_
                  refine vp_callSi (W.runV (As := [.int r_12, .int r_17]) (rest := []) ⟨hx, hb, hml, hown, hts⟩ (c_X11_order l D T wo [.ref la, .ref cl, .ref p0, .ref p1, .ref p4, .int n] p1 f_20 p0 f_19 r_12 r_17 rfl rfl (by first | decide | omega) (by first | decide | omega) (by first | omega | assumption | decide) (by first | omega | assumption | decide)) (cwV 2 hts gX12_alike_X11_order rfl rfl rfl hv_X11_order ⟨Nat.le_of_ble_eq_true rfl, Nat.le_of_ble_eq_true rfl⟩) (pR_V (q := (RX11, TX11, 6)) (ci := 8) (q0 := 1) hP hE rfl rfl [1, 10, 9] rfl) rfl rfl hl.1 rfl (lv_room (Nat.le_of_ble_eq_true rfl)) dX12_alike_139 ⟨Nat.le_of_ble_eq_true rfl, Nat.le_of_ble_eq_true rfl⟩) (fun r_28 hr_28 => ?_)
                  have hco9 : cmpP ((VALW l9 f1 f2 f3 f4 f5) x1 dd ss) ((VALW l9 f1 f2 f3 f4 f5) x2 dd ss) = r_28.toInt := (cmp_of hv_r_12 hv_r_17).trans hr_28.symm
                  refine lv_if_ne (tgt := 149) hx hb dX12_alike_142 (by decide +kernel) (fun c_29 => ?_) (fun c_29 => ?_)
                  · rw [fa_eq] at c_29
                    try rw [ti_0] at c_29
                    refine lv_iconst (v := 0) hx hb dX12_alike_149 (by decide +kernel) ?_
                    refine lv_istore_n (lv' := [(3, .int 0), (7, .int r_17), (6, .int r_12), (5, .int ss), (4, .int dd), (0, .ref h0), (1, .int x1), (2, .int x2)]) hx hb dX12_alike_150 rfl hl (by decide +kernel) rfl (fun ls hl => ?_)
                    obtain ⟨z_30, ez_30⟩ : ∃ y : Int32, y = ss + 1 := ⟨_, rfl⟩
                    refine lv_iinc (v := z_30) (lv' := [(5, .int z_30), (3, .int 0), (7, .int r_17), (6, .int r_12), (4, .int dd), (0, .ref h0), (1, .int x1), (2, .int x2)]) hx hb dX12_alike_151 hl (k := 3) rfl (by rw [ez_30]; rfl) (by decide +kernel) rfl (fun ls hl => ?_)
                    refine lv_goto (tgt := 65) hx hb dX12_alike_154 (by decide +kernel) ?_
                    have hi9 : z_30.toInt = ss.toInt + 1 := (by rw [ez_30]; exact inc1 (i := ss) (n := 1000) (by omega) (by decide +kernel))
                    exact ih (z_30, 0, f_19, f_20, f_21) ls _ _ ⟨lv_sub hl [0, 4, 1, 5, 6, 7] rfl, hP.sub [0, 1, 2, 3, 4, 5, 6, 7, 8, 9, 10, 11] rfl, hD.sub [0, 1, 2, 3, 4, 5, 6, 7, 8, 9, 10, 11] (by decide +kernel) rfl, hS, ⟨(by (try dsimp only); omega), hst, bef_step hno hnm9 hi9, als_B ⟨⟨(by omega), (by omega)⟩, (by omega), (by omega)⟩ (fun h9 => by rw [h9, cmpP_refl] at hco9; omega)⟩⟩ (by (try dsimp only); omega)
                  · rw [fa_eq] at c_29
                    try rw [ti_0] at c_29
                    refine lv_iconst (v := 1) hx hb dX12_alike_145 (by decide +kernel) ?_
                    refine lv_goto (tgt := 150) hx hb dX12_alike_146 (by decide +kernel) ?_
                    refine lv_istore_n (lv' := [(3, .int 1), (7, .int r_17), (6, .int r_12), (5, .int ss), (4, .int dd), (0, .ref h0), (1, .int x1), (2, .int x2)]) hx hb dX12_alike_150 rfl hl (by decide +kernel) rfl (fun ls hl => ?_)
                    obtain ⟨z_31, ez_31⟩ : ∃ y : Int32, y = ss + 1 := ⟨_, rfl⟩
                    refine lv_iinc (v := z_31) (lv' := [(5, .int z_31), (3, .int 1), (7, .int r_17), (6, .int r_12), (4, .int dd), (0, .ref h0), (1, .int x1), (2, .int x2)]) hx hb dX12_alike_151 hl (k := 3) rfl (by rw [ez_31]; rfl) (by decide +kernel) rfl (fun ls hl => ?_)
                    refine lv_goto (tgt := 65) hx hb dX12_alike_154 (by decide +kernel) ?_
                    have hi9 : z_31.toInt = ss.toInt + 1 := (by rw [ez_31]; exact inc1 (i := ss) (n := 1000) (by omega) (by decide +kernel))
                    exact ih (z_31, 1, f_19, f_20, f_21) ls _ _ ⟨lv_sub hl [0, 4, 1, 5, 6, 7] rfl, hP.sub [0, 1, 2, 3, 4, 5, 6, 7, 8, 9, 10, 11] rfl, hD.sub [0, 1, 2, 3, 4, 5, 6, 7, 8, 9, 10, 11] (by decide +kernel) rfl, hS, ⟨(by (try dsimp only); omega), hst, bef_step hno hnm9 hi9, als_C hal (by omega) (low_eq (VAL_low hlq.1 hlq.2 31 _ _ _) (VAL_low hlq.1 hlq.2 31 _ _ _) (nmu_of hv_r_12 hna9) (nmu_of hv_r_17 hnb9) (by rw [hco9]; omega)) hi9⟩⟩ (by (try dsimp only); omega)
      · rw [fa_eq] at c_7
        refine lv_iconst (v := 1) hx hb dX12_alike_46 (by decide +kernel) ?_
        refine lv_goto (tgt := 51) hx hb dX12_alike_47 (by decide +kernel) ?_
        refine lv_istore_n (lv' := [(3, .int 1), (0, .ref h0), (1, .int x1), (2, .int x2)]) hx hb dX12_alike_51 rfl hl (by decide +kernel) rfl (fun ls hl => ?_)
        refine lv_iconst (v := 0) hx hb dX12_alike_52 (by decide +kernel) ?_
        refine lv_istore (lv' := [(4, .int 0), (3, .int 1), (0, .ref h0), (1, .int x1), (2, .int x2)]) hx hb dX12_alike_53 hl (by decide +kernel) rfl (fun ls hl => ?_)
        refine loopW (σ := (Int32) × (Int32) × (Nat → Int64) × (Nat → Int64) × (Nat → Int32)) (fun x9 ls H locs => lv_has ls 8 [(4, .int x9.1), (3, .int x9.2.1), (0, .ref h0), (1, .int x1), (2, .int x2)] ∧ va_P D vwCl [(h0, .inr (9, fs0)), (wo, .inr (8, [.ref la, .ref cl, .ref p0, .ref p1, .ref p4, .int n])), (la, .inr (5, [.int (l9 0), .int (l9 1), .int (l9 2), .int (l9 3), .int (l9 4), .int (l9 5), .int (l9 6)])), (cl, .inr (1, [.int n0, .ref c1, .ref c2, .ref c3, .ref c4, .ref c5, .ref c6, .ref c7])), (c1, .inl (T 0, 24, .inl f1)), (c2, .inl (T 0, 24, .inl f2)), (c3, .inl (T 0, 24, .inl f3)), (c4, .inl (T 0, 24, .inl f4)), (c5, .inl (T 0, 24, .inl f5)), (p0, .inl (T 1, 676, .inr (.inl x9.2.2.1))), (p1, .inl (T 1, 676, .inr (.inl x9.2.2.2.1))), (p4, .inl (T 0, 672, .inl x9.2.2.2.2))] H ∧ va_D A [(h0, .inr (9, fs0)), (wo, .inr (8, [.ref la, .ref cl, .ref p0, .ref p1, .ref p4, .int n])), (la, .inr (5, [.int (l9 0), .int (l9 1), .int (l9 2), .int (l9 3), .int (l9 4), .int (l9 5), .int (l9 6)])), (cl, .inr (1, [.int n0, .ref c1, .ref c2, .ref c3, .ref c4, .ref c5, .ref c6, .ref c7])), (c1, .inl (T 0, 24, .inl f1)), (c2, .inl (T 0, 24, .inl f2)), (c3, .inl (T 0, 24, .inl f3)), (c4, .inl (T 0, 24, .inl f4)), (c5, .inl (T 0, 24, .inl f5)), (p0, .inl (T 1, 676, .inr (.inl x9.2.2.1))), (p1, .inl (T 1, 676, .inr (.inl x9.2.2.2.1))), (p4, .inl (T 0, 672, .inl x9.2.2.2.2))] ∧ va_S A s.heap H locs ∧ (0 ≤ x9.1.toInt ∧ stW (VALW l9 f1 f2 f3 f4 f5) n0 n (fun _ => True) g0 g1 g4 x9.2.2.1 x9.2.2.2.1 x9.2.2.2.2 ∧ (∀ t k : Int32, spK t k → bef x9.1 0 t k → ¬ mu2 (VALW l9 f1 f2 f3 f4 f5) x1 x2 t k) ∧ alS (VALW l9 f1 f2 f3 f4 f5) ((f5 (x1.toNatClampNeg)).toInt = (f5 (x2.toNatClampNeg)).toInt) x1 x2 x9.1 0 x9.2.1)) (fun x9 => (7 - x9.1.toInt).toNat) (fun x9 ls H locs hI iho => ?_) (0, 1, g0, g1, g4) ls ⟨lv_sub hl [0, 1, 2, 3, 4] rfl, hP.sub [0, 1, 2, 3, 4, 5, 6, 7, 8, 9, 10, 11] rfl, hD.sub [0, 1, 2, 3, 4, 5, 6, 7, 8, 9, 10, 11] (by decide +kernel) rfl, hS, ⟨(by (try dsimp only); decide), hst, bef_0, als_0y (by omega)⟩⟩
        obtain ⟨dd, sm, u0, u1, u4⟩ := x9
        obtain ⟨hl, hP, hD, hS, hinv⟩ := hI
        have hl : lv_has ls 8 [(4, .int dd), (3, .int sm), (0, .ref h0), (1, .int x1), (2, .int x2)] := hl
        have hP : va_P D vwCl [(h0, .inr (9, fs0)), (wo, .inr (8, [.ref la, .ref cl, .ref p0, .ref p1, .ref p4, .int n])), (la, .inr (5, [.int (l9 0), .int (l9 1), .int (l9 2), .int (l9 3), .int (l9 4), .int (l9 5), .int (l9 6)])), (cl, .inr (1, [.int n0, .ref c1, .ref c2, .ref c3, .ref c4, .ref c5, .ref c6, .ref c7])), (c1, .inl (T 0, 24, .inl f1)), (c2, .inl (T 0, 24, .inl f2)), (c3, .inl (T 0, 24, .inl f3)), (c4, .inl (T 0, 24, .inl f4)), (c5, .inl (T 0, 24, .inl f5)), (p0, .inl (T 1, 676, .inr (.inl u0))), (p1, .inl (T 1, 676, .inr (.inl u1))), (p4, .inl (T 0, 672, .inl u4))] H := hP
        have hD : va_D A [(h0, .inr (9, fs0)), (wo, .inr (8, [.ref la, .ref cl, .ref p0, .ref p1, .ref p4, .int n])), (la, .inr (5, [.int (l9 0), .int (l9 1), .int (l9 2), .int (l9 3), .int (l9 4), .int (l9 5), .int (l9 6)])), (cl, .inr (1, [.int n0, .ref c1, .ref c2, .ref c3, .ref c4, .ref c5, .ref c6, .ref c7])), (c1, .inl (T 0, 24, .inl f1)), (c2, .inl (T 0, 24, .inl f2)), (c3, .inl (T 0, 24, .inl f3)), (c4, .inl (T 0, 24, .inl f4)), (c5, .inl (T 0, 24, .inl f5)), (p0, .inl (T 1, 676, .inr (.inl u0))), (p1, .inl (T 1, 676, .inr (.inl u1))), (p4, .inl (T 0, 672, .inl u4))] := hD
        have hinv : 0 ≤ dd.toInt ∧ stW (VALW l9 f1 f2 f3 f4 f5) n0 n (fun _ => True) g0 g1 g4 u0 u1 u4 ∧ (∀ t k : Int32, spK t k → bef dd 0 t k → ¬ mu2 (VALW l9 f1 f2 f3 f4 f5) x1 x2 t k) ∧ alS (VALW l9 f1 f2 f3 f4 f5) ((f5 (x1.toNatClampNeg)).toInt = (f5 (x2.toNatClampNeg)).toInt) x1 x2 dd 0 sm := hinv
        obtain ⟨hdd9, hst, hno, hal⟩ := hinv
        have hdd9 : 0 ≤ dd.toInt := hdd9
        have hmm : memW (VALW l9 f1 f2 f3 f4 f5) n0 n u0 u1 u4 := hst.1
        refine lv_iload hx hb dX12_alike_55 (lv_at hl 0 rfl) ?_
        refine lv_bipush (v := 7) hx hb dX12_alike_57 (by decide +kernel) ?_
        refine lv_icmp_ge (tgt := 163) hx hb dX12_alike_59 (by decide +kernel) (fun c_32 => ?_) (fun c_32 => ?_)
        · rw [fa_le] at c_32
          try rw [ti_7] at c_32
          refine lv_iload_n hx hb dX12_alike_163 rfl (lv_at hl 1 rfl) ?_
          refine lv_if_eq (tgt := 171) hx hb dX12_alike_164 (by decide +kernel) (fun c_33 => ?_) (fun c_33 => ?_)
          · rw [fa_eq] at c_33
            try rw [ti_0] at c_33
            refine lv_iconst (v := 0) hx hb dX12_alike_171 (by decide +kernel) ?_
            exact W.iret hx hb hr (fun t ht hW => ⟨⟨_, (u0, u1, u4), rfl, ⟨(show alkQ (VALW l9 f1 f2 f3 f4 f5) f5 n0 x1 x2 (0 : Int32) from (alk_of ⟨⟨(by omega), (by omega)⟩, (by omega), (by omega)⟩ (bef_all hno (by omega)) (als_end hal (by omega)) ⟨(fun h9 => by first | decide | (exfalso; omega)), (fun h9 => by first | decide | (exfalso; omega))⟩)), hst⟩, by rw [ht]; exact hP.sub [0, 1, 2, 3, 4, 5, 6, 7, 8, 9, 10, 11] rfl, hD.sub [0, 1, 2, 3, 4, 5, 6, 7, 8, 9, 10, 11] (by decide +kernel) rfl⟩, hS.F ht⟩) hS.2.2 dX12_alike_172
          · rw [fa_eq] at c_33
            try rw [ti_0] at c_33
            refine lv_iconst (v := 1) hx hb dX12_alike_167 (by decide +kernel) ?_
            refine lv_goto (tgt := 172) hx hb dX12_alike_168 (by decide +kernel) ?_
            exact W.iret hx hb hr (fun t ht hW => ⟨⟨_, (u0, u1, u4), rfl, ⟨(show alkQ (VALW l9 f1 f2 f3 f4 f5) f5 n0 x1 x2 (1 : Int32) from (alk_of ⟨⟨(by omega), (by omega)⟩, (by omega), (by omega)⟩ (bef_all hno (by omega)) (als_end hal (by omega)) ⟨(fun h9 => by first | decide | (exfalso; omega)), (fun h9 => by first | decide | (exfalso; omega))⟩)), hst⟩, by rw [ht]; exact hP.sub [0, 1, 2, 3, 4, 5, 6, 7, 8, 9, 10, 11] rfl, hD.sub [0, 1, 2, 3, 4, 5, 6, 7, 8, 9, 10, 11] (by decide +kernel) rfl⟩, hS.F ht⟩) hS.2.2 dX12_alike_172
        · rw [fa_le] at c_32
          try rw [ti_7] at c_32
          refine lv_iconst (v := 0) hx hb dX12_alike_62 (by decide +kernel) ?_
          refine lv_istore (lv' := [(5, .int 0), (4, .int dd), (3, .int sm), (0, .ref h0), (1, .int x1), (2, .int x2)]) hx hb dX12_alike_63 hl (by decide +kernel) rfl (fun ls hl => ?_)
          refine loopW (σ := (Int32) × (Int32) × (Nat → Int64) × (Nat → Int64) × (Nat → Int32)) (fun x9 ls H locs => lv_has ls 8 [(5, .int x9.1), (4, .int dd), (3, .int x9.2.1), (0, .ref h0), (1, .int x1), (2, .int x2)] ∧ va_P D vwCl [(h0, .inr (9, fs0)), (wo, .inr (8, [.ref la, .ref cl, .ref p0, .ref p1, .ref p4, .int n])), (la, .inr (5, [.int (l9 0), .int (l9 1), .int (l9 2), .int (l9 3), .int (l9 4), .int (l9 5), .int (l9 6)])), (cl, .inr (1, [.int n0, .ref c1, .ref c2, .ref c3, .ref c4, .ref c5, .ref c6, .ref c7])), (c1, .inl (T 0, 24, .inl f1)), (c2, .inl (T 0, 24, .inl f2)), (c3, .inl (T 0, 24, .inl f3)), (c4, .inl (T 0, 24, .inl f4)), (c5, .inl (T 0, 24, .inl f5)), (p0, .inl (T 1, 676, .inr (.inl x9.2.2.1))), (p1, .inl (T 1, 676, .inr (.inl x9.2.2.2.1))), (p4, .inl (T 0, 672, .inl x9.2.2.2.2))] H ∧ va_D A [(h0, .inr (9, fs0)), (wo, .inr (8, [.ref la, .ref cl, .ref p0, .ref p1, .ref p4, .int n])), (la, .inr (5, [.int (l9 0), .int (l9 1), .int (l9 2), .int (l9 3), .int (l9 4), .int (l9 5), .int (l9 6)])), (cl, .inr (1, [.int n0, .ref c1, .ref c2, .ref c3, .ref c4, .ref c5, .ref c6, .ref c7])), (c1, .inl (T 0, 24, .inl f1)), (c2, .inl (T 0, 24, .inl f2)), (c3, .inl (T 0, 24, .inl f3)), (c4, .inl (T 0, 24, .inl f4)), (c5, .inl (T 0, 24, .inl f5)), (p0, .inl (T 1, 676, .inr (.inl x9.2.2.1))), (p1, .inl (T 1, 676, .inr (.inl x9.2.2.2.1))), (p4, .inl (T 0, 672, .inl x9.2.2.2.2))] ∧ va_S A s.heap H locs ∧ (0 ≤ x9.1.toInt ∧ stW (VALW l9 f1 f2 f3 f4 f5) n0 n (fun _ => True) g0 g1 g4 x9.2.2.1 x9.2.2.2.1 x9.2.2.2.2 ∧ (∀ t k : Int32, spK t k → bef dd x9.1 t k → ¬ mu2 (VALW l9 f1 f2 f3 f4 f5) x1 x2 t k) ∧ alS (VALW l9 f1 f2 f3 f4 f5) ((f5 (x1.toNatClampNeg)).toInt = (f5 (x2.toNatClampNeg)).toInt) x1 x2 dd x9.1 x9.2.1)) (fun x9 => (8 - x9.1.toInt).toNat) (fun x9 ls H locs hI ih => ?_) (0, sm, u0, u1, u4) ls ⟨lv_sub hl [0, 1, 2, 3, 4, 5] rfl, hP.sub [0, 1, 2, 3, 4, 5, 6, 7, 8, 9, 10, 11] rfl, hD.sub [0, 1, 2, 3, 4, 5, 6, 7, 8, 9, 10, 11] (by decide +kernel) rfl, hS, ⟨(by (try dsimp only); decide), hst, hno, hal⟩⟩
          obtain ⟨ss, sq, v0, v1, v4⟩ := x9
          obtain ⟨hl, hP, hD, hS, hinv⟩ := hI
          have hl : lv_has ls 8 [(5, .int ss), (4, .int dd), (3, .int sq), (0, .ref h0), (1, .int x1), (2, .int x2)] := hl
          have hP : va_P D vwCl [(h0, .inr (9, fs0)), (wo, .inr (8, [.ref la, .ref cl, .ref p0, .ref p1, .ref p4, .int n])), (la, .inr (5, [.int (l9 0), .int (l9 1), .int (l9 2), .int (l9 3), .int (l9 4), .int (l9 5), .int (l9 6)])), (cl, .inr (1, [.int n0, .ref c1, .ref c2, .ref c3, .ref c4, .ref c5, .ref c6, .ref c7])), (c1, .inl (T 0, 24, .inl f1)), (c2, .inl (T 0, 24, .inl f2)), (c3, .inl (T 0, 24, .inl f3)), (c4, .inl (T 0, 24, .inl f4)), (c5, .inl (T 0, 24, .inl f5)), (p0, .inl (T 1, 676, .inr (.inl v0))), (p1, .inl (T 1, 676, .inr (.inl v1))), (p4, .inl (T 0, 672, .inl v4))] H := hP
          have hD : va_D A [(h0, .inr (9, fs0)), (wo, .inr (8, [.ref la, .ref cl, .ref p0, .ref p1, .ref p4, .int n])), (la, .inr (5, [.int (l9 0), .int (l9 1), .int (l9 2), .int (l9 3), .int (l9 4), .int (l9 5), .int (l9 6)])), (cl, .inr (1, [.int n0, .ref c1, .ref c2, .ref c3, .ref c4, .ref c5, .ref c6, .ref c7])), (c1, .inl (T 0, 24, .inl f1)), (c2, .inl (T 0, 24, .inl f2)), (c3, .inl (T 0, 24, .inl f3)), (c4, .inl (T 0, 24, .inl f4)), (c5, .inl (T 0, 24, .inl f5)), (p0, .inl (T 1, 676, .inr (.inl v0))), (p1, .inl (T 1, 676, .inr (.inl v1))), (p4, .inl (T 0, 672, .inl v4))] := hD
          have hinv : 0 ≤ ss.toInt ∧ stW (VALW l9 f1 f2 f3 f4 f5) n0 n (fun _ => True) g0 g1 g4 v0 v1 v4 ∧ (∀ t k : Int32, spK t k → bef dd ss t k → ¬ mu2 (VALW l9 f1 f2 f3 f4 f5) x1 x2 t k) ∧ alS (VALW l9 f1 f2 f3 f4 f5) ((f5 (x1.toNatClampNeg)).toInt = (f5 (x2.toNatClampNeg)).toInt) x1 x2 dd ss sq := hinv
          obtain ⟨hss9, hst, hno, hal⟩ := hinv
          have hss9 : 0 ≤ ss.toInt := hss9
          have hmm : memW (VALW l9 f1 f2 f3 f4 f5) n0 n v0 v1 v4 := hst.1
          refine lv_iload hx hb dX12_alike_65 (lv_at hl 0 rfl) ?_
          refine lv_iload hx hb dX12_alike_67 (lv_at hl 1 rfl) ?_
          refine lv_icmp_gt (tgt := 157) hx hb dX12_alike_69 (by decide +kernel) (fun c_34 => ?_) (fun c_34 => ?_)
          · rw [fa_lt] at c_34
            obtain ⟨z_35, ez_35⟩ : ∃ y : Int32, y = dd + 1 := ⟨_, rfl⟩
            refine lv_iinc (v := z_35) (lv' := [(4, .int z_35), (5, .int ss), (3, .int sq), (0, .ref h0), (1, .int x1), (2, .int x2)]) hx hb dX12_alike_157 hl (k := 1) rfl (by rw [ez_35]; rfl) (by decide +kernel) rfl (fun ls hl => ?_)
            refine lv_goto (tgt := 55) hx hb dX12_alike_160 (by decide +kernel) ?_
            have hi9 : z_35.toInt = dd.toInt + 1 := (by rw [ez_35]; exact inc1 (i := dd) (n := 1000) (by omega) (by decide +kernel))
            exact iho (z_35, sq, v0, v1, v4) ls _ _ ⟨lv_sub hl [0, 2, 3, 4, 5] rfl, hP.sub [0, 1, 2, 3, 4, 5, 6, 7, 8, 9, 10, 11] rfl, hD.sub [0, 1, 2, 3, 4, 5, 6, 7, 8, 9, 10, 11] (by decide +kernel) rfl, hS, ⟨(by (try dsimp only); omega), hst, bef_row hno (by omega) hi9, als_row hal (by omega) hi9⟩⟩ (by (try dsimp only); omega)
          · rw [fa_lt] at c_34
            refine lv_aload_n hx hb dX12_alike_72 rfl (lv_at hl 3 rfl) ?_
            refine va_get (D := D) (ci := 9) (v := .ref wo) (C := RX12) (T := TX12) (N := 11) hx hb hts in_X12_alike_X12 hown hE.1 hP 0 rfl rfl 6 (by decide +kernel) (hts (.fieldLink RX12 43 "ClauseBook" "worth" "LClauseBook$Worth;") (List.mem_of_getElem? (i := 3) rfl)) (fun _ h9 => h9) e0_6 dX12_alike_73 ?_
            refine lv_iload_n hx hb dX12_alike_76 rfl (lv_at hl 4 rfl) ?_
            refine lv_iload hx hb dX12_alike_77 (lv_at hl 1 rfl) ?_
            refine lv_iload hx hb dX12_alike_79 (lv_at hl 0 rfl) ?_
            have hFc := va_free (wc := [(wo, .inr (8, [.ref la, .ref cl, .ref p0, .ref p1, .ref p4, .int n])), (la, .inr (5, [.int (l9 0), .int (l9 1), .int (l9 2), .int (l9 3), .int (l9 4), .int (l9 5), .int (l9 6)])), (cl, .inr (1, [.int n0, .ref c1, .ref c2, .ref c3, .ref c4, .ref c5, .ref c6, .ref c7])), (c1, .inl (T 0, 24, .inl f1)), (c2, .inl (T 0, 24, .inl f2)), (c3, .inl (T 0, 24, .inl f3)), (c4, .inl (T 0, 24, .inl f4)), (c5, .inl (T 0, 24, .inl f5)), (p0, .inl (T 1, 676, .inr (.inl v0))), (p1, .inl (T 1, 676, .inr (.inl v1))), (p4, .inl (T 0, 672, .inl v4))]) hD hS hA [1, 2, 3, 4, 5, 6, 7, 8, 9, 10, 11] rfl
            refine va_calli (va_runV (As := [.int x1, .int dd, .int ss]) (rest := []) ⟨hx, hb, hml, hown, hts⟩ (cS_all l D T ad sa av ta 30 _ wo la cl p0 p1 p4 n l9 n0 c1 c2 c3 c4 c5 c6 c7 f1 f2 f3 f4 f5 v0 v1 v4 x1 dd ss (by omega) (by omega) (by omega) hok (by omega) hmm hlq (by omega)) (cwV 3 hts gX12_alike_X11_settle rfl rfl rfl hv_X11_settle ⟨Nat.le_of_ble_eq_true rfl, Nat.le_of_ble_eq_true rfl⟩) (pWk_V (q := (RX11, TX11, 6)) (ci := 8) (q0 := 1) hP hE hD hV hS hFc rfl rfl [1, 2, 3, 4, 5, 6, 7, 8, 9, 10, 11] (by decide +kernel) rfl rfl) rfl rfl hl.1 rfl (lv_room (Nat.le_of_ble_eq_true rfl)) dX12_alike_81 ⟨Nat.le_of_ble_eq_true rfl, Nat.le_of_ble_eq_true rfl⟩) hS (fun q _ h => hFc q h) hFc (fun r_36 u_37 t H1 locs ht hvm hr_36 hB hz1 hk1 hS => ?_)
            obtain ⟨f_38, f_39, f_40⟩ := u_37
            obtain ⟨hqr_36, hsl_r_36, hfo_r_36, hstr_36⟩ := hr_36
            have hqr_36 : 0 ≤ r_36.toInt ∧ r_36.toInt < 672 := hqr_36
            have hsl_r_36 : r_36.toNatClampNeg = slN x1 dd ss := hsl_r_36
            have hfo_r_36 : f_40 (slN x1 dd ss) = n := hfo_r_36
            have hsr_36 : stW (VALW l9 f1 f2 f3 f4 f5) n0 n (rgW x1 dd) v0 v1 v4 f_38 f_39 f_40 := hstr_36
            have hst : stW (VALW l9 f1 f2 f3 f4 f5) n0 n (fun _ => True) g0 g1 g4 f_38 f_39 f_40 := hst.tr hsr_36 (fun _ _ => trivial)
            have hmm : memW (VALW l9 f1 f2 f3 f4 f5) n0 n f_38 f_39 f_40 := hst.1
            have hv_r_36 : (f_38 (r_36.toNatClampNeg), f_39 (r_36.toNatClampNeg)) = (VALW l9 f1 f2 f3 f4 f5) x1 dd ss := hst.val (by omega) (by omega) (by first | (rw [ti_0]; omega) | omega) hsl_r_36 hfo_r_36
            have hb_r_36 : 0 ≤ (f_39 (r_36.toNatClampNeg)).toInt := val_nn (VAL_low hlq.1 hlq.2 31 _ _ _) hv_r_36
            obtain ⟨hP1, hD1⟩ := hB
            rw [ht] at hP1
            obtain ⟨hP, hD⟩ := va_repl [(h0, .inr (9, fs0)), (wo, .inr (8, [.ref la, .ref cl, .ref p0, .ref p1, .ref p4, .int n])), (la, .inr (5, [.int (l9 0), .int (l9 1), .int (l9 2), .int (l9 3), .int (l9 4), .int (l9 5), .int (l9 6)])), (cl, .inr (1, [.int n0, .ref c1, .ref c2, .ref c3, .ref c4, .ref c5, .ref c6, .ref c7])), (c1, .inl (T 0, 24, .inl f1)), (c2, .inl (T 0, 24, .inl f2)), (c3, .inl (T 0, 24, .inl f3)), (c4, .inl (T 0, 24, .inl f4)), (c5, .inl (T 0, 24, .inl f5)), (p0, .inl (T 1, 676, .inr (.inl f_38))), (p1, .inl (T 1, 676, .inr (.inl f_39))), (p4, .inl (T 0, 672, .inl f_40))] hP hD [1, 2, 3, 4, 5, 6, 7, 8, 9, 10, 11] [1, 2, 3, 4, 5, 6, 7, 8, 9, 10, 11] rfl (by decide +kernel) rfl rfl rfl hk1 hP1
            clear hP1 hD1 hFc
            generalize H1 = H at hP hS ⊢
            refine lv_istore (lv' := [(6, .int r_36), (5, .int ss), (4, .int dd), (3, .int sq), (0, .ref h0), (1, .int x1), (2, .int x2)]) hx hb dX12_alike_84 hl (by decide +kernel) rfl (fun ls hl => ?_)
            refine lv_aload_n hx hb dX12_alike_86 rfl (lv_at hl 4 rfl) ?_
            refine va_get (D := D) (ci := 9) (v := .ref wo) (C := RX12) (T := TX12) (N := 11) hx hb hts in_X12_alike_X12 hown hE.1 hP 0 rfl rfl 6 (by decide +kernel) (hts (.fieldLink RX12 43 "ClauseBook" "worth" "LClauseBook$Worth;") (List.mem_of_getElem? (i := 3) rfl)) (fun _ h9 => h9) e0_6 dX12_alike_87 ?_
            refine lv_iload_n hx hb dX12_alike_90 rfl (lv_at hl 6 rfl) ?_
            refine lv_iload hx hb dX12_alike_91 (lv_at hl 2 rfl) ?_
            refine lv_iload hx hb dX12_alike_93 (lv_at hl 1 rfl) ?_
            have hFc := va_free (wc := [(wo, .inr (8, [.ref la, .ref cl, .ref p0, .ref p1, .ref p4, .int n])), (la, .inr (5, [.int (l9 0), .int (l9 1), .int (l9 2), .int (l9 3), .int (l9 4), .int (l9 5), .int (l9 6)])), (cl, .inr (1, [.int n0, .ref c1, .ref c2, .ref c3, .ref c4, .ref c5, .ref c6, .ref c7])), (c1, .inl (T 0, 24, .inl f1)), (c2, .inl (T 0, 24, .inl f2)), (c3, .inl (T 0, 24, .inl f3)), (c4, .inl (T 0, 24, .inl f4)), (c5, .inl (T 0, 24, .inl f5)), (p0, .inl (T 1, 676, .inr (.inl f_38))), (p1, .inl (T 1, 676, .inr (.inl f_39))), (p4, .inl (T 0, 672, .inl f_40))]) hD hS hA [1, 2, 3, 4, 5, 6, 7, 8, 9, 10, 11] rfl
            refine va_calli (va_runV (As := [.int x2, .int dd, .int ss]) (rest := []) ⟨hx, hb, hml, hown, hts⟩ (cS_all l D T ad sa av ta 30 _ wo la cl p0 p1 p4 n l9 n0 c1 c2 c3 c4 c5 c6 c7 f1 f2 f3 f4 f5 f_38 f_39 f_40 x2 dd ss (by omega) (by omega) (by omega) hok (by omega) hmm hlq (by omega)) (cwV 3 hts gX12_alike_X11_settle rfl rfl rfl hv_X11_settle ⟨Nat.le_of_ble_eq_true rfl, Nat.le_of_ble_eq_true rfl⟩) (pWk_V (q := (RX11, TX11, 6)) (ci := 8) (q0 := 1) hP hE hD hV hS hFc rfl rfl [1, 2, 3, 4, 5, 6, 7, 8, 9, 10, 11] (by decide +kernel) rfl rfl) rfl rfl hl.1 rfl (lv_room (Nat.le_of_ble_eq_true rfl)) dX12_alike_95 ⟨Nat.le_of_ble_eq_true rfl, Nat.le_of_ble_eq_true rfl⟩) hS (fun q _ h => hFc q h) hFc (fun r_41 u_42 t H1 locs ht hvm hr_41 hB hz1 hk1 hS => ?_)
            obtain ⟨f_43, f_44, f_45⟩ := u_42
            obtain ⟨hqr_41, hsl_r_41, hfo_r_41, hstr_41⟩ := hr_41
            have hqr_41 : 0 ≤ r_41.toInt ∧ r_41.toInt < 672 := hqr_41
            have hsl_r_41 : r_41.toNatClampNeg = slN x2 dd ss := hsl_r_41
            have hfo_r_41 : f_45 (slN x2 dd ss) = n := hfo_r_41
            have hsr_41 : stW (VALW l9 f1 f2 f3 f4 f5) n0 n (rgW x2 dd) f_38 f_39 f_40 f_43 f_44 f_45 := hstr_41
            have hst : stW (VALW l9 f1 f2 f3 f4 f5) n0 n (fun _ => True) g0 g1 g4 f_43 f_44 f_45 := hst.tr hsr_41 (fun _ _ => trivial)
            have hmm : memW (VALW l9 f1 f2 f3 f4 f5) n0 n f_43 f_44 f_45 := hst.1
            have hfo_r_36 : f_45 (slN x1 dd ss) = n := hsr_41.2.1 _ (slN_lt (by omega) (by omega) (by omega)) hfo_r_36
            have hv_r_36 : (f_43 (r_36.toNatClampNeg), f_44 (r_36.toNatClampNeg)) = (VALW l9 f1 f2 f3 f4 f5) x1 dd ss := hst.val (by omega) (by omega) (by omega) hsl_r_36 hfo_r_36
            have hb_r_36 : 0 ≤ (f_44 (r_36.toNatClampNeg)).toInt := val_nn (VAL_low hlq.1 hlq.2 31 _ _ _) hv_r_36
            have hv_r_41 : (f_43 (r_41.toNatClampNeg), f_44 (r_41.toNatClampNeg)) = (VALW l9 f1 f2 f3 f4 f5) x2 dd ss := hst.val (by omega) (by omega) (by first | (rw [ti_0]; omega) | omega) hsl_r_41 hfo_r_41
            have hb_r_41 : 0 ≤ (f_44 (r_41.toNatClampNeg)).toInt := val_nn (VAL_low hlq.1 hlq.2 31 _ _ _) hv_r_41
            obtain ⟨hP1, hD1⟩ := hB
            rw [ht] at hP1
            obtain ⟨hP, hD⟩ := va_repl [(h0, .inr (9, fs0)), (wo, .inr (8, [.ref la, .ref cl, .ref p0, .ref p1, .ref p4, .int n])), (la, .inr (5, [.int (l9 0), .int (l9 1), .int (l9 2), .int (l9 3), .int (l9 4), .int (l9 5), .int (l9 6)])), (cl, .inr (1, [.int n0, .ref c1, .ref c2, .ref c3, .ref c4, .ref c5, .ref c6, .ref c7])), (c1, .inl (T 0, 24, .inl f1)), (c2, .inl (T 0, 24, .inl f2)), (c3, .inl (T 0, 24, .inl f3)), (c4, .inl (T 0, 24, .inl f4)), (c5, .inl (T 0, 24, .inl f5)), (p0, .inl (T 1, 676, .inr (.inl f_43))), (p1, .inl (T 1, 676, .inr (.inl f_44))), (p4, .inl (T 0, 672, .inl f_45))] hP hD [1, 2, 3, 4, 5, 6, 7, 8, 9, 10, 11] [1, 2, 3, 4, 5, 6, 7, 8, 9, 10, 11] rfl (by decide +kernel) rfl rfl rfl hk1 hP1
            clear hP1 hD1 hFc
            generalize H1 = H at hP hS ⊢
            refine lv_istore (lv' := [(7, .int r_41), (6, .int r_36), (5, .int ss), (4, .int dd), (3, .int sq), (0, .ref h0), (1, .int x1), (2, .int x2)]) hx hb dX12_alike_98 hl (by decide +kernel) rfl (fun ls hl => ?_)
            refine lv_aload_n hx hb dX12_alike_100 rfl (lv_at hl 5 rfl) ?_
            refine va_get (D := D) (ci := 9) (v := .ref wo) (C := RX12) (T := TX12) (N := 11) hx hb hts in_X12_alike_X12 hown hE.1 hP 0 rfl rfl 6 (by decide +kernel) (hts (.fieldLink RX12 43 "ClauseBook" "worth" "LClauseBook$Worth;") (List.mem_of_getElem? (i := 3) rfl)) (fun _ h9 => h9) e0_6 dX12_alike_101 ?_
            refine lv_iload hx hb dX12_alike_104 (lv_at hl 1 rfl) ?_
            refine vp_callSi (W.runV (As := [.int r_36]) (rest := []) ⟨hx, hb, hml, hown, hts⟩ (c_X11_isMuch l D T wo [.ref la, .ref cl, .ref p0, .ref p1, .ref p4, .int n] p1 f_44 r_36 rfl (by first | decide | omega)) (cwV 1 hts gX12_alike_X11_isMuch rfl rfl rfl hv_X11_isMuch ⟨Nat.le_of_ble_eq_true rfl, Nat.le_of_ble_eq_true rfl⟩) (pR_V (q := (RX11, TX11, 6)) (ci := 8) (q0 := 1) hP hE rfl rfl [1, 10] rfl) rfl rfl hl.1 rfl (lv_room (Nat.le_of_ble_eq_true rfl)) dX12_alike_106 ⟨Nat.le_of_ble_eq_true rfl, Nat.le_of_ble_eq_true rfl⟩) (fun r_46 hr_46 => ?_)
            rcases bool_post hr_46 with ⟨c_47, rfl⟩ | ⟨c_47, rfl⟩
            · refine lv_if_ne (tgt := 124) hx hb dX12_alike_109 (by decide +kernel) (fun _ => ?_) (fun c9 => absurd c9 (by decide +kernel))
              refine lv_bipush (v := (-5)) hx hb dX12_alike_124 (by decide +kernel) ?_
              exact W.iret hx hb hr (fun t ht hW => ⟨⟨_, (f_43, f_44, f_45), rfl, ⟨(show alkQ (VALW l9 f1 f2 f3 f4 f5) f5 n0 x1 x2 ((-5) : Int32) from (Or.inr ⟨⟨⟨(by omega), (by omega)⟩, (by omega), (by omega)⟩, Or.inl ⟨⟨dd, ss, ⟨⟨(by omega), (by omega)⟩, (by omega), (by omega)⟩, (by first | exact Or.inl (mu_of hv_r_36 (show (f_44 (r_36.toNatClampNeg)).toInt = 0 from by omega)) | exact Or.inr (mu_of hv_r_41 (show (f_44 (r_41.toNatClampNeg)).toInt = 0 from by omega)))⟩, (by decide +kernel)⟩⟩)), hst⟩, by rw [ht]; exact hP.sub [0, 1, 2, 3, 4, 5, 6, 7, 8, 9, 10, 11] rfl, hD.sub [0, 1, 2, 3, 4, 5, 6, 7, 8, 9, 10, 11] (by decide +kernel) rfl⟩, hS.F ht⟩) hS.2.2 dX12_alike_126
            · refine lv_if_ne (tgt := 124) hx hb dX12_alike_109 (by decide +kernel) (fun c9 => absurd c9 (by decide +kernel)) (fun _ => ?_)
              refine lv_aload_n hx hb dX12_alike_112 rfl (lv_at hl 5 rfl) ?_
              refine va_get (D := D) (ci := 9) (v := .ref wo) (C := RX12) (T := TX12) (N := 11) hx hb hts in_X12_alike_X12 hown hE.1 hP 0 rfl rfl 6 (by decide +kernel) (hts (.fieldLink RX12 43 "ClauseBook" "worth" "LClauseBook$Worth;") (List.mem_of_getElem? (i := 3) rfl)) (fun _ h9 => h9) e0_6 dX12_alike_113 ?_
              refine lv_iload hx hb dX12_alike_116 (lv_at hl 0 rfl) ?_
              refine vp_callSi (W.runV (As := [.int r_41]) (rest := []) ⟨hx, hb, hml, hown, hts⟩ (c_X11_isMuch l D T wo [.ref la, .ref cl, .ref p0, .ref p1, .ref p4, .int n] p1 f_44 r_41 rfl (by first | decide | omega)) (cwV 1 hts gX12_alike_X11_isMuch rfl rfl rfl hv_X11_isMuch ⟨Nat.le_of_ble_eq_true rfl, Nat.le_of_ble_eq_true rfl⟩) (pR_V (q := (RX11, TX11, 6)) (ci := 8) (q0 := 1) hP hE rfl rfl [1, 10] rfl) rfl rfl hl.1 rfl (lv_room (Nat.le_of_ble_eq_true rfl)) dX12_alike_118 ⟨Nat.le_of_ble_eq_true rfl, Nat.le_of_ble_eq_true rfl⟩) (fun r_48 hr_48 => ?_)
              rcases bool_post hr_48 with ⟨c_49, rfl⟩ | ⟨c_49, rfl⟩
              · refine lv_if_eq (tgt := 127) hx hb dX12_alike_121 (by decide +kernel) (fun c9 => absurd c9 (by decide +kernel)) (fun _ => ?_)
                refine lv_bipush (v := (-5)) hx hb dX12_alike_124 (by decide +kernel) ?_
                exact W.iret hx hb hr (fun t ht hW => ⟨⟨_, (f_43, f_44, f_45), rfl, ⟨(show alkQ (VALW l9 f1 f2 f3 f4 f5) f5 n0 x1 x2 ((-5) : Int32) from (Or.inr ⟨⟨⟨(by omega), (by omega)⟩, (by omega), (by omega)⟩, Or.inl ⟨⟨dd, ss, ⟨⟨(by omega), (by omega)⟩, (by omega), (by omega)⟩, (by first | exact Or.inl (mu_of hv_r_36 (show (f_44 (r_36.toNatClampNeg)).toInt = 0 from by omega)) | exact Or.inr (mu_of hv_r_41 (show (f_44 (r_41.toNatClampNeg)).toInt = 0 from by omega)))⟩, (by decide +kernel)⟩⟩)), hst⟩, by rw [ht]; exact hP.sub [0, 1, 2, 3, 4, 5, 6, 7, 8, 9, 10, 11] rfl, hD.sub [0, 1, 2, 3, 4, 5, 6, 7, 8, 9, 10, 11] (by decide +kernel) rfl⟩, hS.F ht⟩) hS.2.2 dX12_alike_126
              · refine lv_if_eq (tgt := 127) hx hb dX12_alike_121 (by decide +kernel) (fun _ => ?_) (fun c9 => absurd c9 (by decide +kernel))
                have hnm9 : ¬ mu2 (VALW l9 f1 f2 f3 f4 f5) x1 x2 dd ss := fun h9 => by rcases h9 with h9 | h9 <;> first | exact absurd h9 (nmu_of hv_r_36 (show ¬ (f_44 (r_36.toNatClampNeg)).toInt = 0 from by omega)) | exact absurd h9 (nmu_of hv_r_41 (show ¬ (f_44 (r_41.toNatClampNeg)).toInt = 0 from by omega))
                have hna9 : ¬ (f_44 (r_36.toNatClampNeg)).toInt = 0 := (by omega)
                have hnb9 : ¬ (f_44 (r_41.toNatClampNeg)).toInt = 0 := (by omega)
                refine lv_iload_n hx hb dX12_alike_127 rfl (lv_at hl 4 rfl) ?_
                refine lv_if_eq (tgt := 149) hx hb dX12_alike_128 (by decide +kernel) (fun c_50 => ?_) (fun c_50 => ?_)
                · rw [fa_eq] at c_50
                  try rw [ti_0] at c_50
                  refine lv_iconst (v := 0) hx hb dX12_alike_149 (by decide +kernel) ?_
                  refine lv_istore_n (lv' := [(3, .int 0), (7, .int r_41), (6, .int r_36), (5, .int ss), (4, .int dd), (0, .ref h0), (1, .int x1), (2, .int x2)]) hx hb dX12_alike_150 rfl hl (by decide +kernel) rfl (fun ls hl => ?_)
                  obtain ⟨z_51, ez_51⟩ : ∃ y : Int32, y = ss + 1 := ⟨_, rfl⟩
                  refine lv_iinc (v := z_51) (lv' := [(5, .int z_51), (3, .int 0), (7, .int r_41), (6, .int r_36), (4, .int dd), (0, .ref h0), (1, .int x1), (2, .int x2)]) hx hb dX12_alike_151 hl (k := 3) rfl (by rw [ez_51]; rfl) (by decide +kernel) rfl (fun ls hl => ?_)
                  refine lv_goto (tgt := 65) hx hb dX12_alike_154 (by decide +kernel) ?_
                  have hi9 : z_51.toInt = ss.toInt + 1 := (by rw [ez_51]; exact inc1 (i := ss) (n := 1000) (by omega) (by decide +kernel))
                  exact ih (z_51, 0, f_43, f_44, f_45) ls _ _ ⟨lv_sub hl [0, 4, 1, 5, 6, 7] rfl, hP.sub [0, 1, 2, 3, 4, 5, 6, 7, 8, 9, 10, 11] rfl, hD.sub [0, 1, 2, 3, 4, 5, 6, 7, 8, 9, 10, 11] (by decide +kernel) rfl, hS, ⟨(by (try dsimp only); omega), hst, bef_step hno hnm9 hi9, als_A hal (by omega)⟩⟩ (by (try dsimp only); omega)
                · rw [fa_eq] at c_50
                  try rw [ti_0] at c_50
                  refine lv_aload_n hx hb dX12_alike_131 rfl (lv_at hl 5 rfl) ?_
                  refine va_get (D := D) (ci := 9) (v := .ref wo) (C := RX12) (T := TX12) (N := 11) hx hb hts in_X12_alike_X12 hown hE.1 hP 0 rfl rfl 6 (by decide +kernel) (hts (.fieldLink RX12 43 "ClauseBook" "worth" "LClauseBook$Worth;") (List.mem_of_getElem? (i := 3) rfl)) (fun _ h9 => h9) e0_6 dX12_alike_132 ?_
                  refine lv_iload hx hb dX12_alike_135 (lv_at hl 1 rfl) ?_
                  refine lv_iload hx hb dX12_alike_137 (lv_at hl 0 rfl) ?_
                  refine vp_callSi (W.runV (As := [.int r_36, .int r_41]) (rest := []) ⟨hx, hb, hml, hown, hts⟩ (c_X11_order l D T wo [.ref la, .ref cl, .ref p0, .ref p1, .ref p4, .int n] p1 f_44 p0 f_43 r_36 r_41 rfl rfl (by first | decide | omega) (by first | decide | omega) (by first | omega | assumption | decide) (by first | omega | assumption | decide)) (cwV 2 hts gX12_alike_X11_order rfl rfl rfl hv_X11_order ⟨Nat.le_of_ble_eq_true rfl, Nat.le_of_ble_eq_true rfl⟩) (pR_V (q := (RX11, TX11, 6)) (ci := 8) (q0 := 1) hP hE rfl rfl [1, 10, 9] rfl) rfl rfl hl.1 rfl (lv_room (Nat.le_of_ble_eq_true rfl)) dX12_alike_139 ⟨Nat.le_of_ble_eq_true rfl, Nat.le_of_ble_eq_true rfl⟩) (fun r_52 hr_52 => ?_)
                  have hco9 : cmpP ((VALW l9 f1 f2 f3 f4 f5) x1 dd ss) ((VALW l9 f1 f2 f3 f4 f5) x2 dd ss) = r_52.toInt := (cmp_of hv_r_36 hv_r_41).trans hr_52.symm
                  refine lv_if_ne (tgt := 149) hx hb dX12_alike_142 (by decide +kernel) (fun c_53 => ?_) (fun c_53 => ?_)
                  · rw [fa_eq] at c_53
                    try rw [ti_0] at c_53
                    refine lv_iconst (v := 0) hx hb dX12_alike_149 (by decide +kernel) ?_
                    refine lv_istore_n (lv' := [(3, .int 0), (7, .int r_41), (6, .int r_36), (5, .int ss), (4, .int dd), (0, .ref h0), (1, .int x1), (2, .int x2)]) hx hb dX12_alike_150 rfl hl (by decide +kernel) rfl (fun ls hl => ?_)
                    obtain ⟨z_54, ez_54⟩ : ∃ y : Int32, y = ss + 1 := ⟨_, rfl⟩
                    refine lv_iinc (v := z_54) (lv' := [(5, .int z_54), (3, .int 0), (7, .int r_41), (6, .int r_36), (4, .int dd), (0, .ref h0), (1, .int x1), (2, .int x2)]) hx hb dX12_alike_151 hl (k := 3) rfl (by rw [ez_54]; rfl) (by decide +kernel) rfl (fun ls hl => ?_)
                    refine lv_goto (tgt := 65) hx hb dX12_alike_154 (by decide +kernel) ?_
                    have hi9 : z_54.toInt = ss.toInt + 1 := (by rw [ez_54]; exact inc1 (i := ss) (n := 1000) (by omega) (by decide +kernel))
                    exact ih (z_54, 0, f_43, f_44, f_45) ls _ _ ⟨lv_sub hl [0, 4, 1, 5, 6, 7] rfl, hP.sub [0, 1, 2, 3, 4, 5, 6, 7, 8, 9, 10, 11] rfl, hD.sub [0, 1, 2, 3, 4, 5, 6, 7, 8, 9, 10, 11] (by decide +kernel) rfl, hS, ⟨(by (try dsimp only); omega), hst, bef_step hno hnm9 hi9, als_B ⟨⟨(by omega), (by omega)⟩, (by omega), (by omega)⟩ (fun h9 => by rw [h9, cmpP_refl] at hco9; omega)⟩⟩ (by (try dsimp only); omega)
                  · rw [fa_eq] at c_53
                    try rw [ti_0] at c_53
                    refine lv_iconst (v := 1) hx hb dX12_alike_145 (by decide +kernel) ?_
                    refine lv_goto (tgt := 150) hx hb dX12_alike_146 (by decide +kernel) ?_
                    refine lv_istore_n (lv' := [(3, .int 1), (7, .int r_41), (6, .int r_36), (5, .int ss), (4, .int dd), (0, .ref h0), (1, .int x1), (2, .int x2)]) hx hb dX12_alike_150 rfl hl (by decide +kernel) rfl (fun ls hl => ?_)
                    obtain ⟨z_55, ez_55⟩ : ∃ y : Int32, y = ss + 1 := ⟨_, rfl⟩
                    refine lv_iinc (v := z_55) (lv' := [(5, .int z_55), (3, .int 1), (7, .int r_41), (6, .int r_36), (4, .int dd), (0, .ref h0), (1, .int x1), (2, .int x2)]) hx hb dX12_alike_151 hl (k := 3) rfl (by rw [ez_55]; rfl) (by decide +kernel) rfl (fun ls hl => ?_)
                    refine lv_goto (tgt := 65) hx hb dX12_alike_154 (by decide +kernel) ?_
                    have hi9 : z_55.toInt = ss.toInt + 1 := (by rw [ez_55]; exact inc1 (i := ss) (n := 1000) (by omega) (by decide +kernel))
                    exact ih (z_55, 1, f_43, f_44, f_45) ls _ _ ⟨lv_sub hl [0, 4, 1, 5, 6, 7] rfl, hP.sub [0, 1, 2, 3, 4, 5, 6, 7, 8, 9, 10, 11] rfl, hD.sub [0, 1, 2, 3, 4, 5, 6, 7, 8, 9, 10, 11] (by decide +kernel) rfl, hS, ⟨(by (try dsimp only); omega), hst, bef_step hno hnm9 hi9, als_C hal (by omega) (low_eq (VAL_low hlq.1 hlq.2 31 _ _ _) (VAL_low hlq.1 hlq.2 31 _ _ _) (nmu_of hv_r_36 hna9) (nmu_of hv_r_41 hnb9) (by rw [hco9]; omega)) hi9⟩⟩ (by (try dsimp only); omega)
    · refine lv_if_ne (tgt := 25) hx hb dX12_alike_19 (by decide +kernel) (fun c9 => absurd c9 (by decide +kernel)) (fun _ => ?_)
      refine lv_bipush (v := (-2)) hx hb dX12_alike_22 (by decide +kernel) ?_
      exact W.iret hx hb hr (fun t ht hW => ⟨⟨_, (g0, g1, g4), rfl, ⟨(show alkQ (VALW l9 f1 f2 f3 f4 f5) f5 n0 x1 x2 ((-2) : Int32) from (Or.inl ⟨(fun h9 => by obtain ⟨h1, h2⟩ := h9; omega), (by decide +kernel)⟩)), hst⟩, by rw [ht]; exact hP.sub [0, 1, 2, 3, 4, 5, 6, 7, 8, 9, 10, 11] rfl, hD.sub [0, 1, 2, 3, 4, 5, 6, 7, 8, 9, 10, 11] (by decide +kernel) rfl⟩, hS.F ht⟩) hS.2.2 dX12_alike_24
  · refine lv_if_eq (tgt := 22) hx hb dX12_alike_8 (by decide +kernel) (fun _ => ?_) (fun c9 => absurd c9 (by decide +kernel))
    refine lv_bipush (v := (-2)) hx hb dX12_alike_22 (by decide +kernel) ?_
    exact W.iret hx hb hr (fun t ht hW => ⟨⟨_, (g0, g1, g4), rfl, ⟨(show alkQ (VALW l9 f1 f2 f3 f4 f5) f5 n0 x1 x2 ((-2) : Int32) from (Or.inl ⟨(fun h9 => by obtain ⟨h1, h2⟩ := h9; omega), (by decide +kernel)⟩)), hst⟩, by rw [ht]; exact hP.sub [0, 1, 2, 3, 4, 5, 6, 7, 8, 9, 10, 11] rfl, hD.sub [0, 1, 2, 3, 4, 5, 6, 7, 8, 9, 10, 11] (by decide +kernel) rfl⟩, hS.F ht⟩) hS.2.2 dX12_alike_24
theorem dX12_unlike_0 : decode cX12_unlike 0 = .ok (.aload_n 0, 1) := by decide +kernel
theorem dX12_unlike_1 : decode cX12_unlike 1 = .ok (.getfield 32, 3) := by decide +kernel
theorem dX12_unlike_101 : decode cX12_unlike 101 = .ok (.iload 6, 2) := by decide +kernel
theorem dX12_unlike_103 : decode cX12_unlike 103 = .ok (.invokevirtual 247, 3) := by decide +kernel
theorem dX12_unlike_106 : decode cX12_unlike 106 = .ok (.ifCond .eq 11, 3) := by decide +kernel
theorem dX12_unlike_109 : decode cX12_unlike 109 = .ok (.bipush 10, 2) := by decide +kernel
theorem dX12_unlike_11 : decode cX12_unlike 11 = .ok (.aload_n 0, 1) := by decide +kernel
theorem dX12_unlike_111 : decode cX12_unlike 111 = .ok (.iload_n 3, 1) := by decide +kernel
theorem dX12_unlike_112 : decode cX12_unlike 112 = .ok (.imul, 1) := by decide +kernel
theorem dX12_unlike_113 : decode cX12_unlike 113 = .ok (.iload 4, 2) := by decide +kernel
theorem dX12_unlike_115 : decode cX12_unlike 115 = .ok (.iadd, 1) := by decide +kernel
theorem dX12_unlike_116 : decode cX12_unlike 116 = .ok (.ireturn, 1) := by decide +kernel
theorem dX12_unlike_117 : decode cX12_unlike 117 = .ok (.iinc 4 1, 3) := by decide +kernel
theorem dX12_unlike_12 : decode cX12_unlike 12 = .ok (.getfield 32, 3) := by decide +kernel
theorem dX12_unlike_120 : decode cX12_unlike 120 = .ok (.goto (-84), 3) := by decide +kernel
theorem dX12_unlike_123 : decode cX12_unlike 123 = .ok (.iinc 3 1, 3) := by decide +kernel
theorem dX12_unlike_126 : decode cX12_unlike 126 = .ok (.goto (-99), 3) := by decide +kernel
theorem dX12_unlike_129 : decode cX12_unlike 129 = .ok (.iconst (-1), 1) := by decide +kernel
theorem dX12_unlike_130 : decode cX12_unlike 130 = .ok (.ireturn, 1) := by decide +kernel
theorem dX12_unlike_15 : decode cX12_unlike 15 = .ok (.iload_n 2, 1) := by decide +kernel
theorem dX12_unlike_16 : decode cX12_unlike 16 = .ok (.invokevirtual 150, 3) := by decide +kernel
theorem dX12_unlike_19 : decode cX12_unlike 19 = .ok (.ifCond .ne 6, 3) := by decide +kernel
theorem dX12_unlike_22 : decode cX12_unlike 22 = .ok (.bipush (-2), 2) := by decide +kernel
theorem dX12_unlike_24 : decode cX12_unlike 24 = .ok (.ireturn, 1) := by decide +kernel
theorem dX12_unlike_25 : decode cX12_unlike 25 = .ok (.iconst 0, 1) := by decide +kernel
theorem dX12_unlike_26 : decode cX12_unlike 26 = .ok (.istore_n 3, 1) := by decide +kernel
theorem dX12_unlike_27 : decode cX12_unlike 27 = .ok (.iload_n 3, 1) := by decide +kernel
theorem dX12_unlike_28 : decode cX12_unlike 28 = .ok (.bipush 7, 2) := by decide +kernel
theorem dX12_unlike_30 : decode cX12_unlike 30 = .ok (.if_icmp .ge 99, 3) := by decide +kernel
theorem dX12_unlike_33 : decode cX12_unlike 33 = .ok (.iconst 0, 1) := by decide +kernel
theorem dX12_unlike_34 : decode cX12_unlike 34 = .ok (.istore 4, 2) := by decide +kernel
theorem dX12_unlike_36 : decode cX12_unlike 36 = .ok (.iload 4, 2) := by decide +kernel
theorem dX12_unlike_38 : decode cX12_unlike 38 = .ok (.iload_n 3, 1) := by decide +kernel
theorem dX12_unlike_39 : decode cX12_unlike 39 = .ok (.if_icmp .gt 84, 3) := by decide +kernel
theorem dX12_unlike_4 : decode cX12_unlike 4 = .ok (.iload_n 1, 1) := by decide +kernel
theorem dX12_unlike_42 : decode cX12_unlike 42 = .ok (.aload_n 0, 1) := by decide +kernel
theorem dX12_unlike_43 : decode cX12_unlike 43 = .ok (.getfield 43, 3) := by decide +kernel
theorem dX12_unlike_46 : decode cX12_unlike 46 = .ok (.iload_n 1, 1) := by decide +kernel
theorem dX12_unlike_47 : decode cX12_unlike 47 = .ok (.iload_n 3, 1) := by decide +kernel
theorem dX12_unlike_48 : decode cX12_unlike 48 = .ok (.iload 4, 2) := by decide +kernel
theorem dX12_unlike_5 : decode cX12_unlike 5 = .ok (.invokevirtual 150, 3) := by decide +kernel
theorem dX12_unlike_50 : decode cX12_unlike 50 = .ok (.invokevirtual 185, 3) := by decide +kernel
theorem dX12_unlike_53 : decode cX12_unlike 53 = .ok (.istore 5, 2) := by decide +kernel
theorem dX12_unlike_55 : decode cX12_unlike 55 = .ok (.aload_n 0, 1) := by decide +kernel
theorem dX12_unlike_56 : decode cX12_unlike 56 = .ok (.getfield 43, 3) := by decide +kernel
theorem dX12_unlike_59 : decode cX12_unlike 59 = .ok (.iload_n 2, 1) := by decide +kernel
theorem dX12_unlike_60 : decode cX12_unlike 60 = .ok (.iload_n 3, 1) := by decide +kernel
theorem dX12_unlike_61 : decode cX12_unlike 61 = .ok (.iload 4, 2) := by decide +kernel
theorem dX12_unlike_63 : decode cX12_unlike 63 = .ok (.invokevirtual 185, 3) := by decide +kernel
theorem dX12_unlike_66 : decode cX12_unlike 66 = .ok (.istore 6, 2) := by decide +kernel
theorem dX12_unlike_68 : decode cX12_unlike 68 = .ok (.aload_n 0, 1) := by decide +kernel
theorem dX12_unlike_69 : decode cX12_unlike 69 = .ok (.getfield 43, 3) := by decide +kernel
theorem dX12_unlike_72 : decode cX12_unlike 72 = .ok (.iload 5, 2) := by decide +kernel
theorem dX12_unlike_74 : decode cX12_unlike 74 = .ok (.invokevirtual 197, 3) := by decide +kernel
theorem dX12_unlike_77 : decode cX12_unlike 77 = .ok (.ifCond .ne 15, 3) := by decide +kernel
theorem dX12_unlike_8 : decode cX12_unlike 8 = .ok (.ifCond .eq 14, 3) := by decide +kernel
theorem dX12_unlike_80 : decode cX12_unlike 80 = .ok (.aload_n 0, 1) := by decide +kernel
theorem dX12_unlike_81 : decode cX12_unlike 81 = .ok (.getfield 43, 3) := by decide +kernel
theorem dX12_unlike_84 : decode cX12_unlike 84 = .ok (.iload 6, 2) := by decide +kernel
theorem dX12_unlike_86 : decode cX12_unlike 86 = .ok (.invokevirtual 197, 3) := by decide +kernel
theorem dX12_unlike_89 : decode cX12_unlike 89 = .ok (.ifCond .eq 6, 3) := by decide +kernel
theorem dX12_unlike_92 : decode cX12_unlike 92 = .ok (.bipush (-5), 2) := by decide +kernel
theorem dX12_unlike_94 : decode cX12_unlike 94 = .ok (.ireturn, 1) := by decide +kernel
theorem dX12_unlike_95 : decode cX12_unlike 95 = .ok (.aload_n 0, 1) := by decide +kernel
theorem dX12_unlike_96 : decode cX12_unlike 96 = .ok (.getfield 43, 3) := by decide +kernel
theorem dX12_unlike_99 : decode cX12_unlike 99 = .ok (.iload 5, 2) := by decide +kernel
set_option maxRecDepth 20000 in
theorem ggX12_unlike_X11_isMuch : GoodIn wsX12_unlike wsX11_isMuch := goodIn_r _ [93, 46, 139, 140, 141, 142, 143, 144] rfl (by decide +kernel)
set_option maxRecDepth 20000 in
theorem ggX12_unlike_X11_order : GoodIn wsX12_unlike wsX11_order := goodIn_r _ [97, 45, 46, 98, 99, 100, 101, 102, 103, 104, 139, 140, 141, 142, 143, 144] rfl (by decide +kernel)
set_option maxRecDepth 40000 in
theorem ggX12_unlike_X11_settle_0 : GoodIn wsX12_unlike [.code yX11_settle cX11_settle 8 (some .int)] := goodIn_r _ [16] rfl (by decide +kernel)
set_option maxRecDepth 40000 in
theorem ggX12_unlike_X11_settle_1 : GoodIn wsX12_unlike wsX11_settle_r1 := goodIn_r _ [17, 18, 19, 20, 21, 22, 23, 24, 25, 26, 27, 28, 29, 30, 31, 6, 32, 33, 34, 35, 36, 37, 38, 39] rfl (by decide +kernel)
set_option maxRecDepth 40000 in
theorem ggX12_unlike_X11_settle_2 : GoodIn wsX12_unlike wsX11_settle_r2 := goodIn_r _ [40, 41, 42, 43, 15, 44, 45, 46, 47, 13, 14, 48, 49, 50, 51, 52, 53, 54, 55, 56, 57, 58, 59, 60] rfl (by decide +kernel)
set_option maxRecDepth 40000 in
theorem ggX12_unlike_X11_settle_3 : GoodIn wsX12_unlike wsX11_settle_r3 := goodIn_r _ [61, 62, 63, 64, 65, 66, 67, 68, 69, 70, 71, 72, 73, 74, 75, 76, 77, 78, 79, 80, 81, 82, 83, 84] rfl (by decide +kernel)
set_option maxRecDepth 40000 in
theorem ggX12_unlike_X11_settle_4 : GoodIn wsX12_unlike wsX11_settle_r4 := goodIn_r _ [85, 86, 87, 88, 89, 90, 91, 92, 93, 94, 95, 96, 97, 98, 99, 100, 101, 102, 103, 104, 105, 106, 107, 108] rfl (by decide +kernel)
set_option maxRecDepth 40000 in
theorem ggX12_unlike_X11_settle_5 : GoodIn wsX12_unlike wsX11_settle_r5 := goodIn_r _ [109, 110, 111, 112, 113, 114, 115, 116, 117] rfl (by decide +kernel)
set_option maxRecDepth 40000 in
theorem ggX12_unlike_X11_settle_6 : GoodIn wsX12_unlike wsX110 := goodIn_r _ [139, 140, 141, 142, 143, 144] rfl (by decide +kernel)
set_option maxRecDepth 40000 in
theorem ggX12_unlike_X11_settle_7 : GoodIn wsX12_unlike wsX80 := goodIn_r _ [145, 146, 147, 148, 149, 150, 151] rfl (by decide +kernel)
set_option maxRecDepth 40000 in
theorem ggX12_unlike_X11_settle_8 : GoodIn wsX12_unlike wsX20 := goodIn_r _ [131, 132, 133, 134, 135, 136, 137, 138] rfl (by decide +kernel)
set_option maxRecDepth 40000 in
theorem ggX12_unlike_X11_settle : GoodIn wsX12_unlike wsX11_settle := (goodIn_app ggX12_unlike_X11_settle_0 (goodIn_app (goodIn_app (goodIn_app (goodIn_app ggX12_unlike_X11_settle_1 (goodIn_app ggX12_unlike_X11_settle_2 (goodIn_app ggX12_unlike_X11_settle_3 (goodIn_app ggX12_unlike_X11_settle_4 ggX12_unlike_X11_settle_5)))) ggX12_unlike_X11_settle_6) ggX12_unlike_X11_settle_7) ggX12_unlike_X11_settle_8))
set_option maxRecDepth 20000 in
theorem ggX12_unlike_X2_has : GoodIn wsX12_unlike wsX2_has := goodIn_r _ [7, 8, 9, 10, 11, 131, 132, 133, 134, 135, 136, 137, 138] rfl (by decide +kernel)
set_option maxRecDepth 20000 in
theorem gX12_unlike_X11_isMuch : GoodIn wsX12_unlike (wsV RX12 197 RX11 yX11_isMuch wsX11_isMuch) := goodIn_app (goodIn_r _ [118, 91, 92, 15] rfl (by decide +kernel)) ggX12_unlike_X11_isMuch
set_option maxRecDepth 20000 in
theorem gX12_unlike_X11_order : GoodIn wsX12_unlike (wsV RX12 247 RX11 yX11_order wsX11_order) := goodIn_app (goodIn_r _ [119, 95, 96, 15] rfl (by decide +kernel)) ggX12_unlike_X11_order
set_option maxRecDepth 20000 in
theorem gX12_unlike_X11_settle : GoodIn wsX12_unlike (wsV RX12 185 RX11 yX11_settle wsX11_settle) := goodIn_app (goodIn_r _ [12, 13, 14, 15] rfl (by decide +kernel)) ggX12_unlike_X11_settle
set_option maxRecDepth 20000 in
theorem gX12_unlike_X2_has : GoodIn wsX12_unlike (wsV RX12 150 RX2 yX2_has wsX2_has) := goodIn_app (goodIn_r _ [3, 4, 5, 6] rfl (by decide +kernel)) ggX12_unlike_X2_has
set_option maxRecDepth 20000 in
theorem in_X12_unlike_X12 : ∀ w ∈ wsX120, w ∈ wsX12_unlike := sub_r [120, 121, 122, 123, 124, 125, 126, 127, 128, 129, 130] rfl
set_option maxHeartbeats 4000000 in
set_option maxRecDepth 100000 in
theorem c_X12_unlike (l : Launch) (D : va_G) (T : Nat → ClassId) (ad sa av : Nat → Nat) (ta : Nat) (sz : Nat) (h0 : Nat) (wo : Nat) (fs0 : List Value) (la : Nat) (cl : Nat) (p0 : Nat) (p1 : Nat) (p4 : Nat) (n : Int32) (l9 : Nat → Int32) (n0 : Int32) (c1 : Nat) (c2 : Nat) (c3 : Nat) (c4 : Nat) (c5 : Nat) (c6 : Nat) (c7 : Nat) (f1 : Nat → Int32) (f2 : Nat → Int32) (f3 : Nat → Int32) (f4 : Nat → Int32) (f5 : Nat → Int32) (g0 : Nat → Int64) (g1 : Nat → Int64) (g4 : Nat → Int32) (x1 : Int32) (x2 : Int32) (e0_4 : fs0[4]? = some (.ref cl)) (e0_6 : fs0[6]? = some (.ref wo)) (hn0 : 0 ≤ n0.toInt ∧ n0.toInt ≤ 24) (hok : okC f1 f3 f4 f5) (hmm : memW (VALW l9 f1 f2 f3 f4 f5) n0 n g0 g1 g4) (hlq : (1 ≤ (l9 4).toInt ∧ (l9 4).toInt ≤ 9) ∧ 1 ≤ (l9 6).toInt ∧ (l9 6).toInt ≤ 9) : Met l yX12_unlike wsX12_unlike ({ frames := 67, cells := 0, slots := 0, locals := 2197 }) (pWk [.ref h0, .int x1, .int x2] D T [(h0, .inr (9, fs0)), (wo, .inr (8, [.ref la, .ref cl, .ref p0, .ref p1, .ref p4, .int n])), (la, .inr (5, [.int (l9 0), .int (l9 1), .int (l9 2), .int (l9 3), .int (l9 4), .int (l9 5), .int (l9 6)])), (cl, .inr (1, [.int n0, .ref c1, .ref c2, .ref c3, .ref c4, .ref c5, .ref c6, .ref c7])), (c1, .inl (T 0, 24, .inl f1)), (c2, .inl (T 0, 24, .inl f2)), (c3, .inl (T 0, 24, .inl f3)), (c4, .inl (T 0, 24, .inl f4)), (c5, .inl (T 0, 24, .inl f5)), (p0, .inl (T 1, 676, .inr (.inl g0))), (p1, .inl (T 1, 676, .inr (.inl g1))), (p4, .inl (T 0, 672, .inl g4))] sz ad sa av ta) (va_Qi (fun (r : Int32) (u : (Nat → Int64) × (Nat → Int64) × (Nat → Int32)) => unlQ (VALW l9 f1 f2 f3 f4 f5) n0 x1 x2 r ∧ stW (VALW l9 f1 f2 f3 f4 f5) n0 n (fun _ => True) g0 g1 g4 u.1 u.2.1 u.2.2) (bW D (va_A [(h0, .inr (9, fs0)), (wo, .inr (8, [.ref la, .ref cl, .ref p0, .ref p1, .ref p4, .int n])), (la, .inr (5, [.int (l9 0), .int (l9 1), .int (l9 2), .int (l9 3), .int (l9 4), .int (l9 5), .int (l9 6)])), (cl, .inr (1, [.int n0, .ref c1, .ref c2, .ref c3, .ref c4, .ref c5, .ref c6, .ref c7])), (c1, .inl (T 0, 24, .inl f1)), (c2, .inl (T 0, 24, .inl f2)), (c3, .inl (T 0, 24, .inl f3)), (c4, .inl (T 0, 24, .inl f4)), (c5, .inl (T 0, 24, .inl f5)), (p0, .inl (T 1, 676, .inr (.inl g0))), (p1, .inl (T 1, 676, .inr (.inl g1))), (p4, .inl (T 0, 672, .inl g4))] sz) (fun (u : (Nat → Int64) × (Nat → Int64) × (Nat → Int32)) => [(h0, .inr (9, fs0)), (wo, .inr (8, [.ref la, .ref cl, .ref p0, .ref p1, .ref p4, .int n])), (la, .inr (5, [.int (l9 0), .int (l9 1), .int (l9 2), .int (l9 3), .int (l9 4), .int (l9 5), .int (l9 6)])), (cl, .inr (1, [.int n0, .ref c1, .ref c2, .ref c3, .ref c4, .ref c5, .ref c6, .ref c7])), (c1, .inl (T 0, 24, .inl f1)), (c2, .inl (T 0, 24, .inl f2)), (c3, .inl (T 0, 24, .inl f3)), (c4, .inl (T 0, 24, .inl f4)), (c5, .inl (T 0, 24, .inl f5)), (p0, .inl (T 1, 676, .inr (.inl u.1))), (p1, .inl (T 1, 676, .inr (.inl u.2.1))), (p4, .inl (T 0, 672, .inl u.2.2))])) (va_A [(h0, .inr (9, fs0)), (wo, .inr (8, [.ref la, .ref cl, .ref p0, .ref p1, .ref p4, .int n])), (la, .inr (5, [.int (l9 0), .int (l9 1), .int (l9 2), .int (l9 3), .int (l9 4), .int (l9 5), .int (l9 6)])), (cl, .inr (1, [.int n0, .ref c1, .ref c2, .ref c3, .ref c4, .ref c5, .ref c6, .ref c7])), (c1, .inl (T 0, 24, .inl f1)), (c2, .inl (T 0, 24, .inl f2)), (c3, .inl (T 0, 24, .inl f3)), (c4, .inl (T 0, 24, .inl f4)), (c5, .inl (T 0, 24, .inl f5)), (p0, .inl (T 1, 676, .inr (.inl g0))), (p1, .inl (T 1, 676, .inr (.inl g1))), (p4, .inl (T 0, 672, .inl g4))] sz)) 0 0 (va_A [(h0, .inr (9, fs0)), (wo, .inr (8, [.ref la, .ref cl, .ref p0, .ref p1, .ref p4, .int n])), (la, .inr (5, [.int (l9 0), .int (l9 1), .int (l9 2), .int (l9 3), .int (l9 4), .int (l9 5), .int (l9 6)])), (cl, .inr (1, [.int n0, .ref c1, .ref c2, .ref c3, .ref c4, .ref c5, .ref c6, .ref c7])), (c1, .inl (T 0, 24, .inl f1)), (c2, .inl (T 0, 24, .inl f2)), (c3, .inl (T 0, 24, .inl f3)), (c4, .inl (T 0, 24, .inl f4)), (c5, .inl (T 0, 24, .inl f5)), (p0, .inl (T 1, 676, .inr (.inl g0))), (p1, .inl (T 1, 676, .inr (.inl g1))), (p4, .inl (T 0, 672, .inl g4))] sz) := by
  refine Met.ofW (cc := cX12_unlike) (maxL := 7) (ret := (some .int)) (by decide +kernel) rfl ?_
  intro p e s m args below meth c s₁ B hml hv
  obtain ⟨rfl, hsz, hP, hE, hD0, hV⟩ := hv
  have hx := B.exec
  have hb := B.bytes
  have hr := B.returns
  have hts := atoms_spec (ws := wsX12_unlike) B.pre
  have hown : s.vm.findClass RX12 = some m.cls := findClass_of_methodNamed B.named
  have hlocks := B.notSynchronized
  subst hsz
  have hD := hD0.self (sz := s.heap.size)
  generalize hAe : va_A [(h0, .inr (9, fs0)), (wo, .inr (8, [.ref la, .ref cl, .ref p0, .ref p1, .ref p4, .int n])), (la, .inr (5, [.int (l9 0), .int (l9 1), .int (l9 2), .int (l9 3), .int (l9 4), .int (l9 5), .int (l9 6)])), (cl, .inr (1, [.int n0, .ref c1, .ref c2, .ref c3, .ref c4, .ref c5, .ref c6, .ref c7])), (c1, .inl (T 0, 24, .inl f1)), (c2, .inl (T 0, 24, .inl f2)), (c3, .inl (T 0, 24, .inl f3)), (c4, .inl (T 0, 24, .inl f4)), (c5, .inl (T 0, 24, .inl f5)), (p0, .inl (T 1, 676, .inr (.inl g0))), (p1, .inl (T 1, 676, .inr (.inl g1))), (p4, .inl (T 0, 672, .inl g4))] s.heap.size = A at hD hV ⊢
  have hA : ∀ q : Nat, s.heap.size ≤ q → A q := fun q h => by rw [← hAe]; exact Or.inr h
  have hS : va_S A s.heap s.heap [] := va_S.rf
  have hP : va_P D vwCl [(h0, .inr (9, fs0)), (wo, .inr (8, [.ref la, .ref cl, .ref p0, .ref p1, .ref p4, .int n])), (la, .inr (5, [.int (l9 0), .int (l9 1), .int (l9 2), .int (l9 3), .int (l9 4), .int (l9 5), .int (l9 6)])), (cl, .inr (1, [.int n0, .ref c1, .ref c2, .ref c3, .ref c4, .ref c5, .ref c6, .ref c7])), (c1, .inl (T 0, 24, .inl f1)), (c2, .inl (T 0, 24, .inl f2)), (c3, .inl (T 0, 24, .inl f3)), (c4, .inl (T 0, 24, .inl f4)), (c5, .inl (T 0, 24, .inl f5)), (p0, .inl (T 1, 676, .inr (.inl g0))), (p1, .inl (T 1, 676, .inr (.inl g1))), (p4, .inl (T 0, 672, .inl g4))] s.heap := hP
  have hl := lv_entry ([.ref h0, .int x1, .int x2]) (n := 7) (Nat.le_of_ble_eq_true rfl)
  rw [lg_entry_eq]
  generalize (lg_sl ([.ref h0, .int x1, .int x2]) ++ List.replicate (7 - (lg_sl ([.ref h0, .int x1, .int x2])).length) Slot.unset).toArray = ls at hl ⊢
  have hl : lv_has ls 7 [(0, .ref h0), (1, .int x1), (2, .int x2)] := hl
  clear hD0
  have hst : stW (VALW l9 f1 f2 f3 f4 f5) n0 n (fun _ => True) g0 g1 g4 g0 g1 g4 := stW_rf hmm
  refine lv_aload_n hx hb dX12_unlike_0 rfl (lv_at hl 0 rfl) ?_
  refine va_get (D := D) (ci := 9) (v := .ref cl) (C := RX12) (T := TX12) (N := 11) hx hb hts in_X12_unlike_X12 hown hE.1 hP 0 rfl rfl 4 (by decide +kernel) (hts (.fieldLink RX12 32 "ClauseBook" "clauses" "LClauseBook$Clauses;") (List.mem_of_getElem? (i := 1) rfl)) (fun _ h9 => h9) e0_4 dX12_unlike_1 ?_
  refine lv_iload_n hx hb dX12_unlike_4 rfl (lv_at hl 1 rfl) ?_
  refine vp_callSi (W.runV (As := [.int x1]) (rest := []) ⟨hx, hb, hml, hown, hts⟩ (c_X2_has l D T cl [.int n0, .ref c1, .ref c2, .ref c3, .ref c4, .ref c5, .ref c6, .ref c7] x1 n0 rfl (by omega)) (cwV 1 hts gX12_unlike_X2_has rfl rfl rfl hv_X2_has ⟨Nat.le_of_ble_eq_true rfl, Nat.le_of_ble_eq_true rfl⟩) (pR_V (q := (RX2, TX2, 8)) (ci := 1) (q0 := 3) hP hE rfl rfl [3] rfl) rfl rfl hl.1 rfl (lv_room (Nat.le_of_ble_eq_true rfl)) dX12_unlike_5 ⟨Nat.le_of_ble_eq_true rfl, Nat.le_of_ble_eq_true rfl⟩) (fun r_1 hr_1 => ?_)
  rcases bool_post hr_1 with ⟨c_2, rfl⟩ | ⟨c_2, rfl⟩
  · refine lv_if_eq (tgt := 22) hx hb dX12_unlike_8 (by decide +kernel) (fun c9 => absurd c9 (by decide +kernel)) (fun _ => ?_)
    refine lv_aload_n hx hb dX12_unlike_11 rfl (lv_at hl 0 rfl) ?_
    refine va_get (D := D) (ci := 9) (v := .ref cl) (C := RX12) (T := TX12) (N := 11) hx hb hts in_X12_unlike_X12 hown hE.1 hP 0 rfl rfl 4 (by decide +kernel) (hts (.fieldLink RX12 32 "ClauseBook" "clauses" "LClauseBook$Clauses;") (List.mem_of_getElem? (i := 1) rfl)) (fun _ h9 => h9) e0_4 dX12_unlike_12 ?_
    refine lv_iload_n hx hb dX12_unlike_15 rfl (lv_at hl 2 rfl) ?_
    refine vp_callSi (W.runV (As := [.int x2]) (rest := []) ⟨hx, hb, hml, hown, hts⟩ (c_X2_has l D T cl [.int n0, .ref c1, .ref c2, .ref c3, .ref c4, .ref c5, .ref c6, .ref c7] x2 n0 rfl (by omega)) (cwV 1 hts gX12_unlike_X2_has rfl rfl rfl hv_X2_has ⟨Nat.le_of_ble_eq_true rfl, Nat.le_of_ble_eq_true rfl⟩) (pR_V (q := (RX2, TX2, 8)) (ci := 1) (q0 := 3) hP hE rfl rfl [3] rfl) rfl rfl hl.1 rfl (lv_room (Nat.le_of_ble_eq_true rfl)) dX12_unlike_16 ⟨Nat.le_of_ble_eq_true rfl, Nat.le_of_ble_eq_true rfl⟩) (fun r_3 hr_3 => ?_)
    rcases bool_post hr_3 with ⟨c_4, rfl⟩ | ⟨c_4, rfl⟩
    · refine lv_if_ne (tgt := 25) hx hb dX12_unlike_19 (by decide +kernel) (fun _ => ?_) (fun c9 => absurd c9 (by decide +kernel))
      refine lv_iconst (v := 0) hx hb dX12_unlike_25 (by decide +kernel) ?_
      refine lv_istore_n (lv' := [(3, .int 0), (0, .ref h0), (1, .int x1), (2, .int x2)]) hx hb dX12_unlike_26 rfl hl (by decide +kernel) rfl (fun ls hl => ?_)
      refine loopW (σ := (Int32) × (Nat → Int64) × (Nat → Int64) × (Nat → Int32)) (fun x9 ls H locs => lv_has ls 7 [(3, .int x9.1), (0, .ref h0), (1, .int x1), (2, .int x2)] ∧ va_P D vwCl [(h0, .inr (9, fs0)), (wo, .inr (8, [.ref la, .ref cl, .ref p0, .ref p1, .ref p4, .int n])), (la, .inr (5, [.int (l9 0), .int (l9 1), .int (l9 2), .int (l9 3), .int (l9 4), .int (l9 5), .int (l9 6)])), (cl, .inr (1, [.int n0, .ref c1, .ref c2, .ref c3, .ref c4, .ref c5, .ref c6, .ref c7])), (c1, .inl (T 0, 24, .inl f1)), (c2, .inl (T 0, 24, .inl f2)), (c3, .inl (T 0, 24, .inl f3)), (c4, .inl (T 0, 24, .inl f4)), (c5, .inl (T 0, 24, .inl f5)), (p0, .inl (T 1, 676, .inr (.inl x9.2.1))), (p1, .inl (T 1, 676, .inr (.inl x9.2.2.1))), (p4, .inl (T 0, 672, .inl x9.2.2.2))] H ∧ va_D A [(h0, .inr (9, fs0)), (wo, .inr (8, [.ref la, .ref cl, .ref p0, .ref p1, .ref p4, .int n])), (la, .inr (5, [.int (l9 0), .int (l9 1), .int (l9 2), .int (l9 3), .int (l9 4), .int (l9 5), .int (l9 6)])), (cl, .inr (1, [.int n0, .ref c1, .ref c2, .ref c3, .ref c4, .ref c5, .ref c6, .ref c7])), (c1, .inl (T 0, 24, .inl f1)), (c2, .inl (T 0, 24, .inl f2)), (c3, .inl (T 0, 24, .inl f3)), (c4, .inl (T 0, 24, .inl f4)), (c5, .inl (T 0, 24, .inl f5)), (p0, .inl (T 1, 676, .inr (.inl x9.2.1))), (p1, .inl (T 1, 676, .inr (.inl x9.2.2.1))), (p4, .inl (T 0, 672, .inl x9.2.2.2))] ∧ va_S A s.heap H locs ∧ (0 ≤ x9.1.toInt ∧ stW (VALW l9 f1 f2 f3 f4 f5) n0 n (fun _ => True) g0 g1 g4 x9.2.1 x9.2.2.1 x9.2.2.2 ∧ (∀ t k : Int32, spK t k → bef x9.1 0 t k → ¬ mu2 (VALW l9 f1 f2 f3 f4 f5) x1 x2 t k ∧ (VALW l9 f1 f2 f3 f4 f5) x1 t k = (VALW l9 f1 f2 f3 f4 f5) x2 t k))) (fun x9 => (7 - x9.1.toInt).toNat) (fun x9 ls H locs hI iho => ?_) (0, g0, g1, g4) ls ⟨lv_sub hl [0, 1, 2, 3] rfl, hP.sub [0, 1, 2, 3, 4, 5, 6, 7, 8, 9, 10, 11] rfl, hD.sub [0, 1, 2, 3, 4, 5, 6, 7, 8, 9, 10, 11] (by decide +kernel) rfl, hS, ⟨(by (try dsimp only); decide), hst, bef_0⟩⟩
      obtain ⟨dd, u0, u1, u4⟩ := x9
      obtain ⟨hl, hP, hD, hS, hinv⟩ := hI
      have hl : lv_has ls 7 [(3, .int dd), (0, .ref h0), (1, .int x1), (2, .int x2)] := hl
      have hP : va_P D vwCl [(h0, .inr (9, fs0)), (wo, .inr (8, [.ref la, .ref cl, .ref p0, .ref p1, .ref p4, .int n])), (la, .inr (5, [.int (l9 0), .int (l9 1), .int (l9 2), .int (l9 3), .int (l9 4), .int (l9 5), .int (l9 6)])), (cl, .inr (1, [.int n0, .ref c1, .ref c2, .ref c3, .ref c4, .ref c5, .ref c6, .ref c7])), (c1, .inl (T 0, 24, .inl f1)), (c2, .inl (T 0, 24, .inl f2)), (c3, .inl (T 0, 24, .inl f3)), (c4, .inl (T 0, 24, .inl f4)), (c5, .inl (T 0, 24, .inl f5)), (p0, .inl (T 1, 676, .inr (.inl u0))), (p1, .inl (T 1, 676, .inr (.inl u1))), (p4, .inl (T 0, 672, .inl u4))] H := hP
      have hD : va_D A [(h0, .inr (9, fs0)), (wo, .inr (8, [.ref la, .ref cl, .ref p0, .ref p1, .ref p4, .int n])), (la, .inr (5, [.int (l9 0), .int (l9 1), .int (l9 2), .int (l9 3), .int (l9 4), .int (l9 5), .int (l9 6)])), (cl, .inr (1, [.int n0, .ref c1, .ref c2, .ref c3, .ref c4, .ref c5, .ref c6, .ref c7])), (c1, .inl (T 0, 24, .inl f1)), (c2, .inl (T 0, 24, .inl f2)), (c3, .inl (T 0, 24, .inl f3)), (c4, .inl (T 0, 24, .inl f4)), (c5, .inl (T 0, 24, .inl f5)), (p0, .inl (T 1, 676, .inr (.inl u0))), (p1, .inl (T 1, 676, .inr (.inl u1))), (p4, .inl (T 0, 672, .inl u4))] := hD
      have hinv : 0 ≤ dd.toInt ∧ stW (VALW l9 f1 f2 f3 f4 f5) n0 n (fun _ => True) g0 g1 g4 u0 u1 u4 ∧ (∀ t k : Int32, spK t k → bef dd 0 t k → ¬ mu2 (VALW l9 f1 f2 f3 f4 f5) x1 x2 t k ∧ (VALW l9 f1 f2 f3 f4 f5) x1 t k = (VALW l9 f1 f2 f3 f4 f5) x2 t k) := hinv
      obtain ⟨hdd9, hst, hno⟩ := hinv
      have hdd9 : 0 ≤ dd.toInt := hdd9
      have hmm : memW (VALW l9 f1 f2 f3 f4 f5) n0 n u0 u1 u4 := hst.1
      refine lv_iload_n hx hb dX12_unlike_27 rfl (lv_at hl 0 rfl) ?_
      refine lv_bipush (v := 7) hx hb dX12_unlike_28 (by decide +kernel) ?_
      refine lv_icmp_ge (tgt := 129) hx hb dX12_unlike_30 (by decide +kernel) (fun c_5 => ?_) (fun c_5 => ?_)
      · rw [fa_le] at c_5
        try rw [ti_7] at c_5
        refine lv_iconst (v := (-1)) hx hb dX12_unlike_129 (by decide +kernel) ?_
        exact W.iret hx hb hr (fun t ht hW => ⟨⟨_, (u0, u1, u4), rfl, ⟨(show unlQ (VALW l9 f1 f2 f3 f4 f5) n0 x1 x2 ((-1) : Int32) from (Or.inr ⟨⟨⟨(by omega), (by omega)⟩, (by omega), (by omega)⟩, Or.inr ⟨bef_all hno (by omega), (by decide +kernel)⟩⟩)), hst⟩, by rw [ht]; exact hP.sub [0, 1, 2, 3, 4, 5, 6, 7, 8, 9, 10, 11] rfl, hD.sub [0, 1, 2, 3, 4, 5, 6, 7, 8, 9, 10, 11] (by decide +kernel) rfl⟩, hS.F ht⟩) hS.2.2 dX12_unlike_130
      · rw [fa_le] at c_5
        try rw [ti_7] at c_5
        refine lv_iconst (v := 0) hx hb dX12_unlike_33 (by decide +kernel) ?_
        refine lv_istore (lv' := [(4, .int 0), (3, .int dd), (0, .ref h0), (1, .int x1), (2, .int x2)]) hx hb dX12_unlike_34 hl (by decide +kernel) rfl (fun ls hl => ?_)
        refine loopW (σ := (Int32) × (Nat → Int64) × (Nat → Int64) × (Nat → Int32)) (fun x9 ls H locs => lv_has ls 7 [(4, .int x9.1), (3, .int dd), (0, .ref h0), (1, .int x1), (2, .int x2)] ∧ va_P D vwCl [(h0, .inr (9, fs0)), (wo, .inr (8, [.ref la, .ref cl, .ref p0, .ref p1, .ref p4, .int n])), (la, .inr (5, [.int (l9 0), .int (l9 1), .int (l9 2), .int (l9 3), .int (l9 4), .int (l9 5), .int (l9 6)])), (cl, .inr (1, [.int n0, .ref c1, .ref c2, .ref c3, .ref c4, .ref c5, .ref c6, .ref c7])), (c1, .inl (T 0, 24, .inl f1)), (c2, .inl (T 0, 24, .inl f2)), (c3, .inl (T 0, 24, .inl f3)), (c4, .inl (T 0, 24, .inl f4)), (c5, .inl (T 0, 24, .inl f5)), (p0, .inl (T 1, 676, .inr (.inl x9.2.1))), (p1, .inl (T 1, 676, .inr (.inl x9.2.2.1))), (p4, .inl (T 0, 672, .inl x9.2.2.2))] H ∧ va_D A [(h0, .inr (9, fs0)), (wo, .inr (8, [.ref la, .ref cl, .ref p0, .ref p1, .ref p4, .int n])), (la, .inr (5, [.int (l9 0), .int (l9 1), .int (l9 2), .int (l9 3), .int (l9 4), .int (l9 5), .int (l9 6)])), (cl, .inr (1, [.int n0, .ref c1, .ref c2, .ref c3, .ref c4, .ref c5, .ref c6, .ref c7])), (c1, .inl (T 0, 24, .inl f1)), (c2, .inl (T 0, 24, .inl f2)), (c3, .inl (T 0, 24, .inl f3)), (c4, .inl (T 0, 24, .inl f4)), (c5, .inl (T 0, 24, .inl f5)), (p0, .inl (T 1, 676, .inr (.inl x9.2.1))), (p1, .inl (T 1, 676, .inr (.inl x9.2.2.1))), (p4, .inl (T 0, 672, .inl x9.2.2.2))] ∧ va_S A s.heap H locs ∧ (0 ≤ x9.1.toInt ∧ stW (VALW l9 f1 f2 f3 f4 f5) n0 n (fun _ => True) g0 g1 g4 x9.2.1 x9.2.2.1 x9.2.2.2 ∧ (∀ t k : Int32, spK t k → bef dd x9.1 t k → ¬ mu2 (VALW l9 f1 f2 f3 f4 f5) x1 x2 t k ∧ (VALW l9 f1 f2 f3 f4 f5) x1 t k = (VALW l9 f1 f2 f3 f4 f5) x2 t k))) (fun x9 => (8 - x9.1.toInt).toNat) (fun x9 ls H locs hI ih => ?_) (0, u0, u1, u4) ls ⟨lv_sub hl [0, 1, 2, 3, 4] rfl, hP.sub [0, 1, 2, 3, 4, 5, 6, 7, 8, 9, 10, 11] rfl, hD.sub [0, 1, 2, 3, 4, 5, 6, 7, 8, 9, 10, 11] (by decide +kernel) rfl, hS, ⟨(by (try dsimp only); decide), hst, hno⟩⟩
        obtain ⟨ss, v0, v1, v4⟩ := x9
        obtain ⟨hl, hP, hD, hS, hinv⟩ := hI
        have hl : lv_has ls 7 [(4, .int ss), (3, .int dd), (0, .ref h0), (1, .int x1), (2, .int x2)] := hl
        have hP : va_P D vwCl [(h0, .inr (9, fs0)), (wo, .inr (8, [.ref la, .ref cl, .ref p0, .ref p1, .ref p4, .int n])), (la, .inr (5, [.int (l9 0), .int (l9 1), .int (l9 2), .int (l9 3), .int (l9 4), .int (l9 5), .int (l9 6)])), (cl, .inr (1, [.int n0, .ref c1, .ref c2, .ref c3, .ref c4, .ref c5, .ref c6, .ref c7])), (c1, .inl (T 0, 24, .inl f1)), (c2, .inl (T 0, 24, .inl f2)), (c3, .inl (T 0, 24, .inl f3)), (c4, .inl (T 0, 24, .inl f4)), (c5, .inl (T 0, 24, .inl f5)), (p0, .inl (T 1, 676, .inr (.inl v0))), (p1, .inl (T 1, 676, .inr (.inl v1))), (p4, .inl (T 0, 672, .inl v4))] H := hP
        have hD : va_D A [(h0, .inr (9, fs0)), (wo, .inr (8, [.ref la, .ref cl, .ref p0, .ref p1, .ref p4, .int n])), (la, .inr (5, [.int (l9 0), .int (l9 1), .int (l9 2), .int (l9 3), .int (l9 4), .int (l9 5), .int (l9 6)])), (cl, .inr (1, [.int n0, .ref c1, .ref c2, .ref c3, .ref c4, .ref c5, .ref c6, .ref c7])), (c1, .inl (T 0, 24, .inl f1)), (c2, .inl (T 0, 24, .inl f2)), (c3, .inl (T 0, 24, .inl f3)), (c4, .inl (T 0, 24, .inl f4)), (c5, .inl (T 0, 24, .inl f5)), (p0, .inl (T 1, 676, .inr (.inl v0))), (p1, .inl (T 1, 676, .inr (.inl v1))), (p4, .inl (T 0, 672, .inl v4))] := hD
        have hinv : 0 ≤ ss.toInt ∧ stW (VALW l9 f1 f2 f3 f4 f5) n0 n (fun _ => True) g0 g1 g4 v0 v1 v4 ∧ (∀ t k : Int32, spK t k → bef dd ss t k → ¬ mu2 (VALW l9 f1 f2 f3 f4 f5) x1 x2 t k ∧ (VALW l9 f1 f2 f3 f4 f5) x1 t k = (VALW l9 f1 f2 f3 f4 f5) x2 t k) := hinv
        obtain ⟨hss9, hst, hno⟩ := hinv
        have hss9 : 0 ≤ ss.toInt := hss9
        have hmm : memW (VALW l9 f1 f2 f3 f4 f5) n0 n v0 v1 v4 := hst.1
        refine lv_iload hx hb dX12_unlike_36 (lv_at hl 0 rfl) ?_
        refine lv_iload_n hx hb dX12_unlike_38 rfl (lv_at hl 1 rfl) ?_
        refine lv_icmp_gt (tgt := 123) hx hb dX12_unlike_39 (by decide +kernel) (fun c_6 => ?_) (fun c_6 => ?_)
        · rw [fa_lt] at c_6
          obtain ⟨z_7, ez_7⟩ : ∃ y : Int32, y = dd + 1 := ⟨_, rfl⟩
          refine lv_iinc (v := z_7) (lv' := [(3, .int z_7), (4, .int ss), (0, .ref h0), (1, .int x1), (2, .int x2)]) hx hb dX12_unlike_123 hl (k := 1) rfl (by rw [ez_7]; rfl) (by decide +kernel) rfl (fun ls hl => ?_)
          refine lv_goto (tgt := 27) hx hb dX12_unlike_126 (by decide +kernel) ?_
          have hi9 : z_7.toInt = dd.toInt + 1 := (by rw [ez_7]; exact inc1 (i := dd) (n := 1000) (by omega) (by decide +kernel))
          exact iho (z_7, v0, v1, v4) ls _ _ ⟨lv_sub hl [0, 2, 3, 4] rfl, hP.sub [0, 1, 2, 3, 4, 5, 6, 7, 8, 9, 10, 11] rfl, hD.sub [0, 1, 2, 3, 4, 5, 6, 7, 8, 9, 10, 11] (by decide +kernel) rfl, hS, ⟨(by (try dsimp only); omega), hst, bef_row hno (by omega) hi9⟩⟩ (by (try dsimp only); omega)
        · rw [fa_lt] at c_6
          refine lv_aload_n hx hb dX12_unlike_42 rfl (lv_at hl 2 rfl) ?_
          refine va_get (D := D) (ci := 9) (v := .ref wo) (C := RX12) (T := TX12) (N := 11) hx hb hts in_X12_unlike_X12 hown hE.1 hP 0 rfl rfl 6 (by decide +kernel) (hts (.fieldLink RX12 43 "ClauseBook" "worth" "LClauseBook$Worth;") (List.mem_of_getElem? (i := 2) rfl)) (fun _ h9 => h9) e0_6 dX12_unlike_43 ?_
          refine lv_iload_n hx hb dX12_unlike_46 rfl (lv_at hl 3 rfl) ?_
          refine lv_iload_n hx hb dX12_unlike_47 rfl (lv_at hl 1 rfl) ?_
          refine lv_iload hx hb dX12_unlike_48 (lv_at hl 0 rfl) ?_
          have hFc := va_free (wc := [(wo, .inr (8, [.ref la, .ref cl, .ref p0, .ref p1, .ref p4, .int n])), (la, .inr (5, [.int (l9 0), .int (l9 1), .int (l9 2), .int (l9 3), .int (l9 4), .int (l9 5), .int (l9 6)])), (cl, .inr (1, [.int n0, .ref c1, .ref c2, .ref c3, .ref c4, .ref c5, .ref c6, .ref c7])), (c1, .inl (T 0, 24, .inl f1)), (c2, .inl (T 0, 24, .inl f2)), (c3, .inl (T 0, 24, .inl f3)), (c4, .inl (T 0, 24, .inl f4)), (c5, .inl (T 0, 24, .inl f5)), (p0, .inl (T 1, 676, .inr (.inl v0))), (p1, .inl (T 1, 676, .inr (.inl v1))), (p4, .inl (T 0, 672, .inl v4))]) hD hS hA [1, 2, 3, 4, 5, 6, 7, 8, 9, 10, 11] rfl
          refine va_calli (va_runV (As := [.int x1, .int dd, .int ss]) (rest := []) ⟨hx, hb, hml, hown, hts⟩ (cS_all l D T ad sa av ta 30 _ wo la cl p0 p1 p4 n l9 n0 c1 c2 c3 c4 c5 c6 c7 f1 f2 f3 f4 f5 v0 v1 v4 x1 dd ss (by omega) (by omega) (by omega) hok (by omega) hmm hlq (by omega)) (cwV 3 hts gX12_unlike_X11_settle rfl rfl rfl hv_X11_settle ⟨Nat.le_of_ble_eq_true rfl, Nat.le_of_ble_eq_true rfl⟩) (pWk_V (q := (RX11, TX11, 6)) (ci := 8) (q0 := 1) hP hE hD hV hS hFc rfl rfl [1, 2, 3, 4, 5, 6, 7, 8, 9, 10, 11] (by decide +kernel) rfl rfl) rfl rfl hl.1 rfl (lv_room (Nat.le_of_ble_eq_true rfl)) dX12_unlike_50 ⟨Nat.le_of_ble_eq_true rfl, Nat.le_of_ble_eq_true rfl⟩) hS (fun q _ h => hFc q h) hFc (fun r_8 u_9 t H1 locs ht hvm hr_8 hB hz1 hk1 hS => ?_)
          obtain ⟨f_10, f_11, f_12⟩ := u_9
          obtain ⟨hqr_8, hsl_r_8, hfo_r_8, hstr_8⟩ := hr_8
          have hqr_8 : 0 ≤ r_8.toInt ∧ r_8.toInt < 672 := hqr_8
          have hsl_r_8 : r_8.toNatClampNeg = slN x1 dd ss := hsl_r_8
          have hfo_r_8 : f_12 (slN x1 dd ss) = n := hfo_r_8
          have hsr_8 : stW (VALW l9 f1 f2 f3 f4 f5) n0 n (rgW x1 dd) v0 v1 v4 f_10 f_11 f_12 := hstr_8
          have hst : stW (VALW l9 f1 f2 f3 f4 f5) n0 n (fun _ => True) g0 g1 g4 f_10 f_11 f_12 := hst.tr hsr_8 (fun _ _ => trivial)
          have hmm : memW (VALW l9 f1 f2 f3 f4 f5) n0 n f_10 f_11 f_12 := hst.1
          have hv_r_8 : (f_10 (r_8.toNatClampNeg), f_11 (r_8.toNatClampNeg)) = (VALW l9 f1 f2 f3 f4 f5) x1 dd ss := hst.val (by omega) (by omega) (by first | (rw [ti_0]; omega) | omega) hsl_r_8 hfo_r_8
          have hb_r_8 : 0 ≤ (f_11 (r_8.toNatClampNeg)).toInt := val_nn (VAL_low hlq.1 hlq.2 31 _ _ _) hv_r_8
          obtain ⟨hP1, hD1⟩ := hB
          rw [ht] at hP1
          obtain ⟨hP, hD⟩ := va_repl [(h0, .inr (9, fs0)), (wo, .inr (8, [.ref la, .ref cl, .ref p0, .ref p1, .ref p4, .int n])), (la, .inr (5, [.int (l9 0), .int (l9 1), .int (l9 2), .int (l9 3), .int (l9 4), .int (l9 5), .int (l9 6)])), (cl, .inr (1, [.int n0, .ref c1, .ref c2, .ref c3, .ref c4, .ref c5, .ref c6, .ref c7])), (c1, .inl (T 0, 24, .inl f1)), (c2, .inl (T 0, 24, .inl f2)), (c3, .inl (T 0, 24, .inl f3)), (c4, .inl (T 0, 24, .inl f4)), (c5, .inl (T 0, 24, .inl f5)), (p0, .inl (T 1, 676, .inr (.inl f_10))), (p1, .inl (T 1, 676, .inr (.inl f_11))), (p4, .inl (T 0, 672, .inl f_12))] hP hD [1, 2, 3, 4, 5, 6, 7, 8, 9, 10, 11] [1, 2, 3, 4, 5, 6, 7, 8, 9, 10, 11] rfl (by decide +kernel) rfl rfl rfl hk1 hP1
          clear hP1 hD1 hFc
          generalize H1 = H at hP hS ⊢
          refine lv_istore (lv' := [(5, .int r_8), (4, .int ss), (3, .int dd), (0, .ref h0), (1, .int x1), (2, .int x2)]) hx hb dX12_unlike_53 hl (by decide +kernel) rfl (fun ls hl => ?_)
          refine lv_aload_n hx hb dX12_unlike_55 rfl (lv_at hl 3 rfl) ?_
          refine va_get (D := D) (ci := 9) (v := .ref wo) (C := RX12) (T := TX12) (N := 11) hx hb hts in_X12_unlike_X12 hown hE.1 hP 0 rfl rfl 6 (by decide +kernel) (hts (.fieldLink RX12 43 "ClauseBook" "worth" "LClauseBook$Worth;") (List.mem_of_getElem? (i := 2) rfl)) (fun _ h9 => h9) e0_6 dX12_unlike_56 ?_
          refine lv_iload_n hx hb dX12_unlike_59 rfl (lv_at hl 5 rfl) ?_
          refine lv_iload_n hx hb dX12_unlike_60 rfl (lv_at hl 2 rfl) ?_
          refine lv_iload hx hb dX12_unlike_61 (lv_at hl 1 rfl) ?_
          have hFc := va_free (wc := [(wo, .inr (8, [.ref la, .ref cl, .ref p0, .ref p1, .ref p4, .int n])), (la, .inr (5, [.int (l9 0), .int (l9 1), .int (l9 2), .int (l9 3), .int (l9 4), .int (l9 5), .int (l9 6)])), (cl, .inr (1, [.int n0, .ref c1, .ref c2, .ref c3, .ref c4, .ref c5, .ref c6, .ref c7])), (c1, .inl (T 0, 24, .inl f1)), (c2, .inl (T 0, 24, .inl f2)), (c3, .inl (T 0, 24, .inl f3)), (c4, .inl (T 0, 24, .inl f4)), (c5, .inl (T 0, 24, .inl f5)), (p0, .inl (T 1, 676, .inr (.inl f_10))), (p1, .inl (T 1, 676, .inr (.inl f_11))), (p4, .inl (T 0, 672, .inl f_12))]) hD hS hA [1, 2, 3, 4, 5, 6, 7, 8, 9, 10, 11] rfl
          refine va_calli (va_runV (As := [.int x2, .int dd, .int ss]) (rest := []) ⟨hx, hb, hml, hown, hts⟩ (cS_all l D T ad sa av ta 30 _ wo la cl p0 p1 p4 n l9 n0 c1 c2 c3 c4 c5 c6 c7 f1 f2 f3 f4 f5 f_10 f_11 f_12 x2 dd ss (by omega) (by omega) (by omega) hok (by omega) hmm hlq (by omega)) (cwV 3 hts gX12_unlike_X11_settle rfl rfl rfl hv_X11_settle ⟨Nat.le_of_ble_eq_true rfl, Nat.le_of_ble_eq_true rfl⟩) (pWk_V (q := (RX11, TX11, 6)) (ci := 8) (q0 := 1) hP hE hD hV hS hFc rfl rfl [1, 2, 3, 4, 5, 6, 7, 8, 9, 10, 11] (by decide +kernel) rfl rfl) rfl rfl hl.1 rfl (lv_room (Nat.le_of_ble_eq_true rfl)) dX12_unlike_63 ⟨Nat.le_of_ble_eq_true rfl, Nat.le_of_ble_eq_true rfl⟩) hS (fun q _ h => hFc q h) hFc (fun r_13 u_14 t H1 locs ht hvm hr_13 hB hz1 hk1 hS => ?_)
          obtain ⟨f_15, f_16, f_17⟩ := u_14
          obtain ⟨hqr_13, hsl_r_13, hfo_r_13, hstr_13⟩ := hr_13
          have hqr_13 : 0 ≤ r_13.toInt ∧ r_13.toInt < 672 := hqr_13
          have hsl_r_13 : r_13.toNatClampNeg = slN x2 dd ss := hsl_r_13
          have hfo_r_13 : f_17 (slN x2 dd ss) = n := hfo_r_13
          have hsr_13 : stW (VALW l9 f1 f2 f3 f4 f5) n0 n (rgW x2 dd) f_10 f_11 f_12 f_15 f_16 f_17 := hstr_13
          have hst : stW (VALW l9 f1 f2 f3 f4 f5) n0 n (fun _ => True) g0 g1 g4 f_15 f_16 f_17 := hst.tr hsr_13 (fun _ _ => trivial)
          have hmm : memW (VALW l9 f1 f2 f3 f4 f5) n0 n f_15 f_16 f_17 := hst.1
          have hfo_r_8 : f_17 (slN x1 dd ss) = n := hsr_13.2.1 _ (slN_lt (by omega) (by omega) (by omega)) hfo_r_8
          have hv_r_8 : (f_15 (r_8.toNatClampNeg), f_16 (r_8.toNatClampNeg)) = (VALW l9 f1 f2 f3 f4 f5) x1 dd ss := hst.val (by omega) (by omega) (by omega) hsl_r_8 hfo_r_8
          have hb_r_8 : 0 ≤ (f_16 (r_8.toNatClampNeg)).toInt := val_nn (VAL_low hlq.1 hlq.2 31 _ _ _) hv_r_8
          have hv_r_13 : (f_15 (r_13.toNatClampNeg), f_16 (r_13.toNatClampNeg)) = (VALW l9 f1 f2 f3 f4 f5) x2 dd ss := hst.val (by omega) (by omega) (by first | (rw [ti_0]; omega) | omega) hsl_r_13 hfo_r_13
          have hb_r_13 : 0 ≤ (f_16 (r_13.toNatClampNeg)).toInt := val_nn (VAL_low hlq.1 hlq.2 31 _ _ _) hv_r_13
          obtain ⟨hP1, hD1⟩ := hB
          rw [ht] at hP1
          obtain ⟨hP, hD⟩ := va_repl [(h0, .inr (9, fs0)), (wo, .inr (8, [.ref la, .ref cl, .ref p0, .ref p1, .ref p4, .int n])), (la, .inr (5, [.int (l9 0), .int (l9 1), .int (l9 2), .int (l9 3), .int (l9 4), .int (l9 5), .int (l9 6)])), (cl, .inr (1, [.int n0, .ref c1, .ref c2, .ref c3, .ref c4, .ref c5, .ref c6, .ref c7])), (c1, .inl (T 0, 24, .inl f1)), (c2, .inl (T 0, 24, .inl f2)), (c3, .inl (T 0, 24, .inl f3)), (c4, .inl (T 0, 24, .inl f4)), (c5, .inl (T 0, 24, .inl f5)), (p0, .inl (T 1, 676, .inr (.inl f_15))), (p1, .inl (T 1, 676, .inr (.inl f_16))), (p4, .inl (T 0, 672, .inl f_17))] hP hD [1, 2, 3, 4, 5, 6, 7, 8, 9, 10, 11] [1, 2, 3, 4, 5, 6, 7, 8, 9, 10, 11] rfl (by decide +kernel) rfl rfl rfl hk1 hP1
          clear hP1 hD1 hFc
          generalize H1 = H at hP hS ⊢
          refine lv_istore (lv' := [(6, .int r_13), (5, .int r_8), (4, .int ss), (3, .int dd), (0, .ref h0), (1, .int x1), (2, .int x2)]) hx hb dX12_unlike_66 hl (by decide +kernel) rfl (fun ls hl => ?_)
          refine lv_aload_n hx hb dX12_unlike_68 rfl (lv_at hl 4 rfl) ?_
          refine va_get (D := D) (ci := 9) (v := .ref wo) (C := RX12) (T := TX12) (N := 11) hx hb hts in_X12_unlike_X12 hown hE.1 hP 0 rfl rfl 6 (by decide +kernel) (hts (.fieldLink RX12 43 "ClauseBook" "worth" "LClauseBook$Worth;") (List.mem_of_getElem? (i := 2) rfl)) (fun _ h9 => h9) e0_6 dX12_unlike_69 ?_
          refine lv_iload hx hb dX12_unlike_72 (lv_at hl 1 rfl) ?_
          refine vp_callSi (W.runV (As := [.int r_8]) (rest := []) ⟨hx, hb, hml, hown, hts⟩ (c_X11_isMuch l D T wo [.ref la, .ref cl, .ref p0, .ref p1, .ref p4, .int n] p1 f_16 r_8 rfl (by first | decide | omega)) (cwV 1 hts gX12_unlike_X11_isMuch rfl rfl rfl hv_X11_isMuch ⟨Nat.le_of_ble_eq_true rfl, Nat.le_of_ble_eq_true rfl⟩) (pR_V (q := (RX11, TX11, 6)) (ci := 8) (q0 := 1) hP hE rfl rfl [1, 10] rfl) rfl rfl hl.1 rfl (lv_room (Nat.le_of_ble_eq_true rfl)) dX12_unlike_74 ⟨Nat.le_of_ble_eq_true rfl, Nat.le_of_ble_eq_true rfl⟩) (fun r_18 hr_18 => ?_)
          rcases bool_post hr_18 with ⟨c_19, rfl⟩ | ⟨c_19, rfl⟩
          · refine lv_if_ne (tgt := 92) hx hb dX12_unlike_77 (by decide +kernel) (fun _ => ?_) (fun c9 => absurd c9 (by decide +kernel))
            refine lv_bipush (v := (-5)) hx hb dX12_unlike_92 (by decide +kernel) ?_
            exact W.iret hx hb hr (fun t ht hW => ⟨⟨_, (f_15, f_16, f_17), rfl, ⟨(show unlQ (VALW l9 f1 f2 f3 f4 f5) n0 x1 x2 ((-5) : Int32) from (Or.inr ⟨⟨⟨(by omega), (by omega)⟩, (by omega), (by omega)⟩, Or.inl ⟨dd, ss, ⟨⟨(by omega), (by omega)⟩, (by omega), (by omega)⟩, hno, Or.inl ⟨(by first | exact Or.inl (mu_of hv_r_8 (show (f_16 (r_8.toNatClampNeg)).toInt = 0 from by omega)) | exact Or.inr (mu_of hv_r_13 (show (f_16 (r_13.toNatClampNeg)).toInt = 0 from by omega))), (by decide +kernel)⟩⟩⟩)), hst⟩, by rw [ht]; exact hP.sub [0, 1, 2, 3, 4, 5, 6, 7, 8, 9, 10, 11] rfl, hD.sub [0, 1, 2, 3, 4, 5, 6, 7, 8, 9, 10, 11] (by decide +kernel) rfl⟩, hS.F ht⟩) hS.2.2 dX12_unlike_94
          · refine lv_if_ne (tgt := 92) hx hb dX12_unlike_77 (by decide +kernel) (fun c9 => absurd c9 (by decide +kernel)) (fun _ => ?_)
            refine lv_aload_n hx hb dX12_unlike_80 rfl (lv_at hl 4 rfl) ?_
            refine va_get (D := D) (ci := 9) (v := .ref wo) (C := RX12) (T := TX12) (N := 11) hx hb hts in_X12_unlike_X12 hown hE.1 hP 0 rfl rfl 6 (by decide +kernel) (hts (.fieldLink RX12 43 "ClauseBook" "worth" "LClauseBook$Worth;") (List.mem_of_getElem? (i := 2) rfl)) (fun _ h9 => h9) e0_6 dX12_unlike_81 ?_
            refine lv_iload hx hb dX12_unlike_84 (lv_at hl 0 rfl) ?_
            refine vp_callSi (W.runV (As := [.int r_13]) (rest := []) ⟨hx, hb, hml, hown, hts⟩ (c_X11_isMuch l D T wo [.ref la, .ref cl, .ref p0, .ref p1, .ref p4, .int n] p1 f_16 r_13 rfl (by first | decide | omega)) (cwV 1 hts gX12_unlike_X11_isMuch rfl rfl rfl hv_X11_isMuch ⟨Nat.le_of_ble_eq_true rfl, Nat.le_of_ble_eq_true rfl⟩) (pR_V (q := (RX11, TX11, 6)) (ci := 8) (q0 := 1) hP hE rfl rfl [1, 10] rfl) rfl rfl hl.1 rfl (lv_room (Nat.le_of_ble_eq_true rfl)) dX12_unlike_86 ⟨Nat.le_of_ble_eq_true rfl, Nat.le_of_ble_eq_true rfl⟩) (fun r_20 hr_20 => ?_)
            rcases bool_post hr_20 with ⟨c_21, rfl⟩ | ⟨c_21, rfl⟩
            · refine lv_if_eq (tgt := 95) hx hb dX12_unlike_89 (by decide +kernel) (fun c9 => absurd c9 (by decide +kernel)) (fun _ => ?_)
              refine lv_bipush (v := (-5)) hx hb dX12_unlike_92 (by decide +kernel) ?_
              exact W.iret hx hb hr (fun t ht hW => ⟨⟨_, (f_15, f_16, f_17), rfl, ⟨(show unlQ (VALW l9 f1 f2 f3 f4 f5) n0 x1 x2 ((-5) : Int32) from (Or.inr ⟨⟨⟨(by omega), (by omega)⟩, (by omega), (by omega)⟩, Or.inl ⟨dd, ss, ⟨⟨(by omega), (by omega)⟩, (by omega), (by omega)⟩, hno, Or.inl ⟨(by first | exact Or.inl (mu_of hv_r_8 (show (f_16 (r_8.toNatClampNeg)).toInt = 0 from by omega)) | exact Or.inr (mu_of hv_r_13 (show (f_16 (r_13.toNatClampNeg)).toInt = 0 from by omega))), (by decide +kernel)⟩⟩⟩)), hst⟩, by rw [ht]; exact hP.sub [0, 1, 2, 3, 4, 5, 6, 7, 8, 9, 10, 11] rfl, hD.sub [0, 1, 2, 3, 4, 5, 6, 7, 8, 9, 10, 11] (by decide +kernel) rfl⟩, hS.F ht⟩) hS.2.2 dX12_unlike_94
            · refine lv_if_eq (tgt := 95) hx hb dX12_unlike_89 (by decide +kernel) (fun _ => ?_) (fun c9 => absurd c9 (by decide +kernel))
              have hnm9 : ¬ mu2 (VALW l9 f1 f2 f3 f4 f5) x1 x2 dd ss := fun h9 => by rcases h9 with h9 | h9 <;> first | exact absurd h9 (nmu_of hv_r_8 (show ¬ (f_16 (r_8.toNatClampNeg)).toInt = 0 from by omega)) | exact absurd h9 (nmu_of hv_r_13 (show ¬ (f_16 (r_13.toNatClampNeg)).toInt = 0 from by omega))
              have hna9 : ¬ (f_16 (r_8.toNatClampNeg)).toInt = 0 := (by omega)
              have hnb9 : ¬ (f_16 (r_13.toNatClampNeg)).toInt = 0 := (by omega)
              refine lv_aload_n hx hb dX12_unlike_95 rfl (lv_at hl 4 rfl) ?_
              refine va_get (D := D) (ci := 9) (v := .ref wo) (C := RX12) (T := TX12) (N := 11) hx hb hts in_X12_unlike_X12 hown hE.1 hP 0 rfl rfl 6 (by decide +kernel) (hts (.fieldLink RX12 43 "ClauseBook" "worth" "LClauseBook$Worth;") (List.mem_of_getElem? (i := 2) rfl)) (fun _ h9 => h9) e0_6 dX12_unlike_96 ?_
              refine lv_iload hx hb dX12_unlike_99 (lv_at hl 1 rfl) ?_
              refine lv_iload hx hb dX12_unlike_101 (lv_at hl 0 rfl) ?_
              refine vp_callSi (W.runV (As := [.int r_8, .int r_13]) (rest := []) ⟨hx, hb, hml, hown, hts⟩ (c_X11_order l D T wo [.ref la, .ref cl, .ref p0, .ref p1, .ref p4, .int n] p1 f_16 p0 f_15 r_8 r_13 rfl rfl (by first | decide | omega) (by first | decide | omega) (by first | omega | assumption | decide) (by first | omega | assumption | decide)) (cwV 2 hts gX12_unlike_X11_order rfl rfl rfl hv_X11_order ⟨Nat.le_of_ble_eq_true rfl, Nat.le_of_ble_eq_true rfl⟩) (pR_V (q := (RX11, TX11, 6)) (ci := 8) (q0 := 1) hP hE rfl rfl [1, 10, 9] rfl) rfl rfl hl.1 rfl (lv_room (Nat.le_of_ble_eq_true rfl)) dX12_unlike_103 ⟨Nat.le_of_ble_eq_true rfl, Nat.le_of_ble_eq_true rfl⟩) (fun r_22 hr_22 => ?_)
              have hco9 : cmpP ((VALW l9 f1 f2 f3 f4 f5) x1 dd ss) ((VALW l9 f1 f2 f3 f4 f5) x2 dd ss) = r_22.toInt := (cmp_of hv_r_8 hv_r_13).trans hr_22.symm
              refine lv_if_eq (tgt := 117) hx hb dX12_unlike_106 (by decide +kernel) (fun c_23 => ?_) (fun c_23 => ?_)
              · rw [fa_eq] at c_23
                try rw [ti_0] at c_23
                obtain ⟨z_24, ez_24⟩ : ∃ y : Int32, y = ss + 1 := ⟨_, rfl⟩
                refine lv_iinc (v := z_24) (lv' := [(4, .int z_24), (6, .int r_13), (5, .int r_8), (3, .int dd), (0, .ref h0), (1, .int x1), (2, .int x2)]) hx hb dX12_unlike_117 hl (k := 2) rfl (by rw [ez_24]; rfl) (by decide +kernel) rfl (fun ls hl => ?_)
                refine lv_goto (tgt := 36) hx hb dX12_unlike_120 (by decide +kernel) ?_
                have hi9 : z_24.toInt = ss.toInt + 1 := (by rw [ez_24]; exact inc1 (i := ss) (n := 1000) (by omega) (by decide +kernel))
                exact ih (z_24, f_15, f_16, f_17) ls _ _ ⟨lv_sub hl [0, 3, 4, 5, 6] rfl, hP.sub [0, 1, 2, 3, 4, 5, 6, 7, 8, 9, 10, 11] rfl, hD.sub [0, 1, 2, 3, 4, 5, 6, 7, 8, 9, 10, 11] (by decide +kernel) rfl, hS, ⟨(by (try dsimp only); omega), hst, bef_step hno ⟨hnm9, (low_eq (VAL_low hlq.1 hlq.2 31 _ _ _) (VAL_low hlq.1 hlq.2 31 _ _ _) (nmu_of hv_r_8 hna9) (nmu_of hv_r_13 hnb9) (by rw [hco9]; omega))⟩ hi9⟩⟩ (by (try dsimp only); omega)
              · rw [fa_eq] at c_23
                try rw [ti_0] at c_23
                refine lv_bipush (v := 10) hx hb dX12_unlike_109 (by decide +kernel) ?_
                refine lv_iload_n hx hb dX12_unlike_111 rfl (lv_at hl 3 rfl) ?_
                refine lv_imul hx hb dX12_unlike_112 ?_
                refine lv_iload hx hb dX12_unlike_113 (lv_at hl 2 rfl) ?_
                refine lv_iadd hx hb dX12_unlike_115 ?_
                exact W.iret hx hb hr (fun t ht hW => ⟨⟨_, (f_15, f_16, f_17), rfl, ⟨(show unlQ (VALW l9 f1 f2 f3 f4 f5) n0 x1 x2 ((10 * dd) + ss) from (Or.inr ⟨⟨⟨(by omega), (by omega)⟩, (by omega), (by omega)⟩, Or.inl ⟨dd, ss, ⟨⟨(by omega), (by omega)⟩, (by omega), (by omega)⟩, hno, Or.inr ⟨hnm9, (fun h9 => by rw [h9, cmpP_refl] at hco9; omega), (by first | exact ul_num (by omega) (by omega) | (rw [ez]; exact ul_num (by omega) (by omega)))⟩⟩⟩)), hst⟩, by rw [ht]; exact hP.sub [0, 1, 2, 3, 4, 5, 6, 7, 8, 9, 10, 11] rfl, hD.sub [0, 1, 2, 3, 4, 5, 6, 7, 8, 9, 10, 11] (by decide +kernel) rfl⟩, hS.F ht⟩) hS.2.2 dX12_unlike_116
    · refine lv_if_ne (tgt := 25) hx hb dX12_unlike_19 (by decide +kernel) (fun c9 => absurd c9 (by decide +kernel)) (fun _ => ?_)
      refine lv_bipush (v := (-2)) hx hb dX12_unlike_22 (by decide +kernel) ?_
      exact W.iret hx hb hr (fun t ht hW => ⟨⟨_, (g0, g1, g4), rfl, ⟨(show unlQ (VALW l9 f1 f2 f3 f4 f5) n0 x1 x2 ((-2) : Int32) from (Or.inl ⟨(fun h9 => by obtain ⟨h1, h2⟩ := h9; omega), (by decide +kernel)⟩)), hst⟩, by rw [ht]; exact hP.sub [0, 1, 2, 3, 4, 5, 6, 7, 8, 9, 10, 11] rfl, hD.sub [0, 1, 2, 3, 4, 5, 6, 7, 8, 9, 10, 11] (by decide +kernel) rfl⟩, hS.F ht⟩) hS.2.2 dX12_unlike_24
  · refine lv_if_eq (tgt := 22) hx hb dX12_unlike_8 (by decide +kernel) (fun _ => ?_) (fun c9 => absurd c9 (by decide +kernel))
    refine lv_bipush (v := (-2)) hx hb dX12_unlike_22 (by decide +kernel) ?_
    exact W.iret hx hb hr (fun t ht hW => ⟨⟨_, (g0, g1, g4), rfl, ⟨(show unlQ (VALW l9 f1 f2 f3 f4 f5) n0 x1 x2 ((-2) : Int32) from (Or.inl ⟨(fun h9 => by obtain ⟨h1, h2⟩ := h9; omega), (by decide +kernel)⟩)), hst⟩, by rw [ht]; exact hP.sub [0, 1, 2, 3, 4, 5, 6, 7, 8, 9, 10, 11] rfl, hD.sub [0, 1, 2, 3, 4, 5, 6, 7, 8, 9, 10, 11] (by decide +kernel) rfl⟩, hS.F ht⟩) hS.2.2 dX12_unlike_24
end
