theorem dX12_value_0 : decode cX12_value 0 = .ok (.aload_n 0, 1) := by decide +kernel
theorem dX12_value_1 : decode cX12_value 1 = .ok (.getfield 32, 3) := by decide +kernel
theorem dX12_value_11 : decode cX12_value 11 = .ok (.iload_n 2, 1) := by decide +kernel
theorem dX12_value_12 : decode cX12_value 12 = .ok (.iload_n 3, 1) := by decide +kernel
theorem dX12_value_13 : decode cX12_value 13 = .ok (.invokestatic 108, 3) := by decide +kernel
theorem dX12_value_16 : decode cX12_value 16 = .ok (.ifCond .eq 13, 3) := by decide +kernel
theorem dX12_value_19 : decode cX12_value 19 = .ok (.iload 4, 2) := by decide +kernel
theorem dX12_value_21 : decode cX12_value 21 = .ok (.iconst 0, 1) := by decide +kernel
theorem dX12_value_22 : decode cX12_value 22 = .ok (.iconst 1, 1) := by decide +kernel
theorem dX12_value_23 : decode cX12_value 23 = .ok (.invokestatic 77, 3) := by decide +kernel
theorem dX12_value_26 : decode cX12_value 26 = .ok (.ifCond .ne 7, 3) := by decide +kernel
theorem dX12_value_29 : decode cX12_value 29 = .ok (.ldc2_w 183, 3) := by decide +kernel
theorem dX12_value_32 : decode cX12_value 32 = .ok (.lreturn, 1) := by decide +kernel
theorem dX12_value_33 : decode cX12_value 33 = .ok (.aload_n 0, 1) := by decide +kernel
theorem dX12_value_34 : decode cX12_value 34 = .ok (.getfield 43, 3) := by decide +kernel
theorem dX12_value_37 : decode cX12_value 37 = .ok (.aload_n 0, 1) := by decide +kernel
theorem dX12_value_38 : decode cX12_value 38 = .ok (.getfield 43, 3) := by decide +kernel
theorem dX12_value_4 : decode cX12_value 4 = .ok (.iload_n 1, 1) := by decide +kernel
theorem dX12_value_41 : decode cX12_value 41 = .ok (.iload_n 1, 1) := by decide +kernel
theorem dX12_value_42 : decode cX12_value 42 = .ok (.iload_n 2, 1) := by decide +kernel
theorem dX12_value_43 : decode cX12_value 43 = .ok (.iload_n 3, 1) := by decide +kernel
theorem dX12_value_44 : decode cX12_value 44 = .ok (.invokevirtual 185, 3) := by decide +kernel
theorem dX12_value_47 : decode cX12_value 47 = .ok (.iload 4, 2) := by decide +kernel
theorem dX12_value_49 : decode cX12_value 49 = .ok (.invokevirtual 189, 3) := by decide +kernel
theorem dX12_value_5 : decode cX12_value 5 = .ok (.invokevirtual 150, 3) := by decide +kernel
theorem dX12_value_52 : decode cX12_value 52 = .ok (.lreturn, 1) := by decide +kernel
theorem dX12_value_8 : decode cX12_value 8 = .ok (.ifCond .eq 21, 3) := by decide +kernel
set_option maxRecDepth 20000 in
theorem ggX12_value_X11_partOf : GoodIn wsX12_value wsX11_partOf := goodIn_r _ [129, 130, 53, 54, 98, 99, 100, 23, 101, 150, 151, 152, 153, 154, 155] rfl (by decide +kernel)
set_option maxRecDepth 40000 in
theorem ggX12_value_X11_settle_0 : GoodIn wsX12_value [.code yX11_settle cX11_settle 8 (some .int)] := goodIn_r _ [24] rfl (by decide +kernel)
set_option maxRecDepth 40000 in
theorem ggX12_value_X11_settle_1 : GoodIn wsX12_value wsX11_settle_r1 := goodIn_r _ [25, 26, 27, 28, 29, 30, 31, 32, 33, 34, 35, 36, 37, 38, 39, 7, 40, 41, 42, 43, 44, 45, 46, 47] rfl (by decide +kernel)
set_option maxRecDepth 40000 in
theorem ggX12_value_X11_settle_2 : GoodIn wsX12_value wsX11_settle_r2 := goodIn_r _ [48, 49, 50, 51, 23, 52, 53, 54, 55, 21, 22, 56, 57, 58, 59, 60, 61, 62, 63, 64, 65, 66, 67, 68] rfl (by decide +kernel)
set_option maxRecDepth 40000 in
theorem ggX12_value_X11_settle_3 : GoodIn wsX12_value wsX11_settle_r3 := goodIn_r _ [69, 70, 71, 72, 73, 74, 75, 76, 77, 78, 79, 80, 81, 82, 83, 84, 85, 86, 87, 88, 89, 90, 91, 92] rfl (by decide +kernel)
set_option maxRecDepth 40000 in
theorem ggX12_value_X11_settle_4 : GoodIn wsX12_value wsX11_settle_r4 := goodIn_r _ [93, 94, 95, 96, 97, 98, 99, 100, 101, 102, 103, 104, 105, 106, 107, 108, 109, 110, 111, 112, 113, 114, 115, 116] rfl (by decide +kernel)
set_option maxRecDepth 40000 in
theorem ggX12_value_X11_settle_5 : GoodIn wsX12_value wsX11_settle_r5 := goodIn_r _ [117, 118, 119, 120, 121, 122, 123, 124, 125] rfl (by decide +kernel)
set_option maxRecDepth 40000 in
theorem ggX12_value_X11_settle_6 : GoodIn wsX12_value wsX110 := goodIn_r _ [150, 151, 152, 153, 154, 155] rfl (by decide +kernel)
set_option maxRecDepth 40000 in
theorem ggX12_value_X11_settle_7 : GoodIn wsX12_value wsX80 := goodIn_r _ [156, 157, 158, 159, 160, 161, 162] rfl (by decide +kernel)
set_option maxRecDepth 40000 in
theorem ggX12_value_X11_settle_8 : GoodIn wsX12_value wsX20 := goodIn_r _ [142, 143, 144, 145, 146, 147, 148, 149] rfl (by decide +kernel)
set_option maxRecDepth 40000 in
theorem ggX12_value_X11_settle : GoodIn wsX12_value wsX11_settle := (goodIn_app ggX12_value_X11_settle_0 (goodIn_app (goodIn_app (goodIn_app (goodIn_app ggX12_value_X11_settle_1 (goodIn_app ggX12_value_X11_settle_2 (goodIn_app ggX12_value_X11_settle_3 (goodIn_app ggX12_value_X11_settle_4 ggX12_value_X11_settle_5)))) ggX12_value_X11_settle_6) ggX12_value_X11_settle_7) ggX12_value_X11_settle_8))
set_option maxRecDepth 20000 in
theorem ggX12_value_X12_isSpot : GoodIn wsX12_value wsX12_isSpot := goodIn_r _ [15, 16, 17, 11, 18, 19, 10, 12] rfl (by decide +kernel)
set_option maxRecDepth 20000 in
theorem ggX12_value_X12_within : GoodIn wsX12_value wsX12_within := goodIn_r _ [12] rfl (by decide +kernel)
set_option maxRecDepth 20000 in
theorem ggX12_value_X2_has : GoodIn wsX12_value wsX2_has := goodIn_r _ [8, 9, 10, 11, 12, 142, 143, 144, 145, 146, 147, 148, 149] rfl (by decide +kernel)
set_option maxRecDepth 20000 in
theorem gX12_value_X11_partOf : GoodIn wsX12_value (wsV RX12 189 RX11 yX11_partOf wsX11_partOf) := goodIn_app (goodIn_r _ [126, 127, 128, 23] rfl (by decide +kernel)) ggX12_value_X11_partOf
set_option maxRecDepth 20000 in
theorem gX12_value_X11_settle : GoodIn wsX12_value (wsV RX12 185 RX11 yX11_settle wsX11_settle) := goodIn_app (goodIn_r _ [20, 21, 22, 23] rfl (by decide +kernel)) ggX12_value_X11_settle
set_option maxRecDepth 20000 in
theorem gX12_value_X12_isSpot : GoodIn wsX12_value (va_wsS RX12 108 yX12_isSpot wsX12_isSpot) := goodIn_app (goodIn_of _ (by decide +kernel)) ggX12_value_X12_isSpot
set_option maxRecDepth 20000 in
theorem gX12_value_X12_within : GoodIn wsX12_value (va_wsS RX12 77 yX12_within wsX12_within) := goodIn_app (goodIn_of _ (by decide +kernel)) ggX12_value_X12_within
set_option maxRecDepth 20000 in
theorem gX12_value_X2_has : GoodIn wsX12_value (wsV RX12 150 RX2 yX2_has wsX2_has) := goodIn_app (goodIn_r _ [4, 5, 6, 7] rfl (by decide +kernel)) ggX12_value_X2_has
theorem hv_X11_partOf : yX11_partOf.cls = RX11 ∧ yX11_partOf.cls ≠ "java/lang/invoke/MethodHandle" ∧ yX11_partOf.cls ≠ "java/lang/invoke/VarHandle" ∧ (parseMethodDescriptor yX11_partOf.desc).map (fun d => d.parameters.length) = some 2 := by decide +kernel
set_option maxRecDepth 20000 in
theorem in_X12_value_X12 : ∀ w ∈ wsX120, w ∈ wsX12_value := sub_r [131, 132, 133, 134, 135, 136, 137, 138, 139, 140, 141] rfl
set_option maxHeartbeats 4000000 in
set_option maxRecDepth 100000 in
theorem c_X12_value (l : Launch) (D : va_G) (T : Nat → ClassId) (ad sa av : Nat → Nat) (ta : Nat) (sz : Nat) (h0 : Nat) (wo : Nat) (fs0 : List Value) (la : Nat) (cl : Nat) (p0 : Nat) (p1 : Nat) (p4 : Nat) (n : Int32) (l9 : Nat → Int32) (n0 : Int32) (c1 : Nat) (c2 : Nat) (c3 : Nat) (c4 : Nat) (c5 : Nat) (c6 : Nat) (c7 : Nat) (f1 : Nat → Int32) (f2 : Nat → Int32) (f3 : Nat → Int32) (f4 : Nat → Int32) (f5 : Nat → Int32) (g0 : Nat → Int64) (g1 : Nat → Int64) (g4 : Nat → Int32) (x1 : Int32) (x2 : Int32) (x3 : Int32) (x4 : Int32) (e0_4 : fs0[4]? = some (.ref cl)) (e0_6 : fs0[6]? = some (.ref wo)) (hn0 : 0 ≤ n0.toInt ∧ n0.toInt ≤ 24) (hok : okC f1 f3 f4 f5) (hmm : memW (VALW l9 f1 f2 f3 f4 f5) n0 n g0 g1 g4) (hlq : (1 ≤ (l9 4).toInt ∧ (l9 4).toInt ≤ 9) ∧ 1 ≤ (l9 6).toInt ∧ (l9 6).toInt ≤ 9) : Met l yX12_value wsX12_value ({ frames := 67, cells := 0, slots := 0, locals := 2197 }) (pWk [.ref h0, .int x1, .int x2, .int x3, .int x4] D T [(h0, .inr (9, fs0)), (wo, .inr (8, [.ref la, .ref cl, .ref p0, .ref p1, .ref p4, .int n])), (la, .inr (5, [.int (l9 0), .int (l9 1), .int (l9 2), .int (l9 3), .int (l9 4), .int (l9 5), .int (l9 6)])), (cl, .inr (1, [.int n0, .ref c1, .ref c2, .ref c3, .ref c4, .ref c5, .ref c6, .ref c7])), (c1, .inl (T 0, 24, .inl f1)), (c2, .inl (T 0, 24, .inl f2)), (c3, .inl (T 0, 24, .inl f3)), (c4, .inl (T 0, 24, .inl f4)), (c5, .inl (T 0, 24, .inl f5)), (p0, .inl (T 1, 676, .inr (.inl g0))), (p1, .inl (T 1, 676, .inr (.inl g1))), (p4, .inl (T 0, 672, .inl g4))] sz ad sa av ta) (va_Ql (fun (r : Int64) (u : (Nat → Int64) × (Nat → Int64) × (Nat → Int32)) => valQ (VALW l9 f1 f2 f3 f4 f5) n0 x1 x2 x3 x4 r ∧ stW (VALW l9 f1 f2 f3 f4 f5) n0 n (fun _ => True) g0 g1 g4 u.1 u.2.1 u.2.2) (bW D (va_A [(h0, .inr (9, fs0)), (wo, .inr (8, [.ref la, .ref cl, .ref p0, .ref p1, .ref p4, .int n])), (la, .inr (5, [.int (l9 0), .int (l9 1), .int (l9 2), .int (l9 3), .int (l9 4), .int (l9 5), .int (l9 6)])), (cl, .inr (1, [.int n0, .ref c1, .ref c2, .ref c3, .ref c4, .ref c5, .ref c6, .ref c7])), (c1, .inl (T 0, 24, .inl f1)), (c2, .inl (T 0, 24, .inl f2)), (c3, .inl (T 0, 24, .inl f3)), (c4, .inl (T 0, 24, .inl f4)), (c5, .inl (T 0, 24, .inl f5)), (p0, .inl (T 1, 676, .inr (.inl g0))), (p1, .inl (T 1, 676, .inr (.inl g1))), (p4, .inl (T 0, 672, .inl g4))] sz) (fun (u : (Nat → Int64) × (Nat → Int64) × (Nat → Int32)) => [(h0, .inr (9, fs0)), (wo, .inr (8, [.ref la, .ref cl, .ref p0, .ref p1, .ref p4, .int n])), (la, .inr (5, [.int (l9 0), .int (l9 1), .int (l9 2), .int (l9 3), .int (l9 4), .int (l9 5), .int (l9 6)])), (cl, .inr (1, [.int n0, .ref c1, .ref c2, .ref c3, .ref c4, .ref c5, .ref c6, .ref c7])), (c1, .inl (T 0, 24, .inl f1)), (c2, .inl (T 0, 24, .inl f2)), (c3, .inl (T 0, 24, .inl f3)), (c4, .inl (T 0, 24, .inl f4)), (c5, .inl (T 0, 24, .inl f5)), (p0, .inl (T 1, 676, .inr (.inl u.1))), (p1, .inl (T 1, 676, .inr (.inl u.2.1))), (p4, .inl (T 0, 672, .inl u.2.2))])) (va_A [(h0, .inr (9, fs0)), (wo, .inr (8, [.ref la, .ref cl, .ref p0, .ref p1, .ref p4, .int n])), (la, .inr (5, [.int (l9 0), .int (l9 1), .int (l9 2), .int (l9 3), .int (l9 4), .int (l9 5), .int (l9 6)])), (cl, .inr (1, [.int n0, .ref c1, .ref c2, .ref c3, .ref c4, .ref c5, .ref c6, .ref c7])), (c1, .inl (T 0, 24, .inl f1)), (c2, .inl (T 0, 24, .inl f2)), (c3, .inl (T 0, 24, .inl f3)), (c4, .inl (T 0, 24, .inl f4)), (c5, .inl (T 0, 24, .inl f5)), (p0, .inl (T 1, 676, .inr (.inl g0))), (p1, .inl (T 1, 676, .inr (.inl g1))), (p4, .inl (T 0, 672, .inl g4))] sz)) 0 0 (va_A [(h0, .inr (9, fs0)), (wo, .inr (8, [.ref la, .ref cl, .ref p0, .ref p1, .ref p4, .int n])), (la, .inr (5, [.int (l9 0), .int (l9 1), .int (l9 2), .int (l9 3), .int (l9 4), .int (l9 5), .int (l9 6)])), (cl, .inr (1, [.int n0, .ref c1, .ref c2, .ref c3, .ref c4, .ref c5, .ref c6, .ref c7])), (c1, .inl (T 0, 24, .inl f1)), (c2, .inl (T 0, 24, .inl f2)), (c3, .inl (T 0, 24, .inl f3)), (c4, .inl (T 0, 24, .inl f4)), (c5, .inl (T 0, 24, .inl f5)), (p0, .inl (T 1, 676, .inr (.inl g0))), (p1, .inl (T 1, 676, .inr (.inl g1))), (p4, .inl (T 0, 672, .inl g4))] sz) := by
  refine Met.ofW (cc := cX12_value) (maxL := 5) (ret := (some .long)) (by decide +kernel) rfl ?_
  intro p e s m args below meth c s₁ B hml hv
  obtain ⟨rfl, hsz, hP, hE, hD0, hV⟩ := hv
  have hx := B.exec
  have hb := B.bytes
  have hr := B.returns
  have hts := atoms_spec (ws := wsX12_value) B.pre
  have hown : s.vm.findClass RX12 = some m.cls := findClass_of_methodNamed B.named
  have hlocks := B.notSynchronized
  subst hsz
  have hD := hD0.self (sz := s.heap.size)
  generalize hAe : va_A [(h0, .inr (9, fs0)), (wo, .inr (8, [.ref la, .ref cl, .ref p0, .ref p1, .ref p4, .int n])), (la, .inr (5, [.int (l9 0), .int (l9 1), .int (l9 2), .int (l9 3), .int (l9 4), .int (l9 5), .int (l9 6)])), (cl, .inr (1, [.int n0, .ref c1, .ref c2, .ref c3, .ref c4, .ref c5, .ref c6, .ref c7])), (c1, .inl (T 0, 24, .inl f1)), (c2, .inl (T 0, 24, .inl f2)), (c3, .inl (T 0, 24, .inl f3)), (c4, .inl (T 0, 24, .inl f4)), (c5, .inl (T 0, 24, .inl f5)), (p0, .inl (T 1, 676, .inr (.inl g0))), (p1, .inl (T 1, 676, .inr (.inl g1))), (p4, .inl (T 0, 672, .inl g4))] s.heap.size = A at hD hV ⊢
  have hA : ∀ q : Nat, s.heap.size ≤ q → A q := fun q h => by rw [← hAe]; exact Or.inr h
  have hS : va_S A s.heap s.heap [] := va_S.rf
  have hP : va_P D vwCl [(h0, .inr (9, fs0)), (wo, .inr (8, [.ref la, .ref cl, .ref p0, .ref p1, .ref p4, .int n])), (la, .inr (5, [.int (l9 0), .int (l9 1), .int (l9 2), .int (l9 3), .int (l9 4), .int (l9 5), .int (l9 6)])), (cl, .inr (1, [.int n0, .ref c1, .ref c2, .ref c3, .ref c4, .ref c5, .ref c6, .ref c7])), (c1, .inl (T 0, 24, .inl f1)), (c2, .inl (T 0, 24, .inl f2)), (c3, .inl (T 0, 24, .inl f3)), (c4, .inl (T 0, 24, .inl f4)), (c5, .inl (T 0, 24, .inl f5)), (p0, .inl (T 1, 676, .inr (.inl g0))), (p1, .inl (T 1, 676, .inr (.inl g1))), (p4, .inl (T 0, 672, .inl g4))] s.heap := hP
  have hl := lv_entry ([.ref h0, .int x1, .int x2, .int x3, .int x4]) (n := 5) (Nat.le_of_ble_eq_true rfl)
  rw [lg_entry_eq]
  generalize (lg_sl ([.ref h0, .int x1, .int x2, .int x3, .int x4]) ++ List.replicate (5 - (lg_sl ([.ref h0, .int x1, .int x2, .int x3, .int x4])).length) Slot.unset).toArray = ls at hl ⊢
  have hl : lv_has ls 5 [(0, .ref h0), (1, .int x1), (2, .int x2), (3, .int x3), (4, .int x4)] := hl
  clear hD0
  have hst : stW (VALW l9 f1 f2 f3 f4 f5) n0 n (fun _ => True) g0 g1 g4 g0 g1 g4 := stW_rf hmm
  refine lv_aload_n hx hb dX12_value_0 rfl (lv_at hl 0 rfl) ?_
  refine va_get (D := D) (ci := 9) (v := .ref cl) (C := RX12) (T := TX12) (N := 11) hx hb hts in_X12_value_X12 hown hE.1 hP 0 rfl rfl 4 (by decide +kernel) (hts (.fieldLink RX12 32 "ClauseBook" "clauses" "LClauseBook$Clauses;") (List.mem_of_getElem? (i := 1) rfl)) (fun _ h9 => h9) e0_4 dX12_value_1 ?_
  refine lv_iload_n hx hb dX12_value_4 rfl (lv_at hl 1 rfl) ?_
  refine vp_callSi (W.runV (As := [.int x1]) (rest := []) ⟨hx, hb, hml, hown, hts⟩ (c_X2_has l D T cl [.int n0, .ref c1, .ref c2, .ref c3, .ref c4, .ref c5, .ref c6, .ref c7] x1 n0 rfl (by omega)) (cwV 1 hts gX12_value_X2_has rfl rfl rfl hv_X2_has ⟨Nat.le_of_ble_eq_true rfl, Nat.le_of_ble_eq_true rfl⟩) (pR_V (q := (RX2, TX2, 8)) (ci := 1) (q0 := 3) hP hE rfl rfl [3] rfl) rfl rfl hl.1 rfl (lv_room (Nat.le_of_ble_eq_true rfl)) dX12_value_5 ⟨Nat.le_of_ble_eq_true rfl, Nat.le_of_ble_eq_true rfl⟩) (fun r_1 hr_1 => ?_)
  rcases bool_post hr_1 with ⟨c_2, rfl⟩ | ⟨c_2, rfl⟩
  · refine lv_if_eq (tgt := 29) hx hb dX12_value_8 (by decide +kernel) (fun c9 => absurd c9 (by decide +kernel)) (fun _ => ?_)
    refine lv_iload_n hx hb dX12_value_11 rfl (lv_at hl 2 rfl) ?_
    refine lv_iload_n hx hb dX12_value_12 rfl (lv_at hl 3 rfl) ?_
    refine vp_callSi (W.runS (As := [.int x2, .int x3]) (rest := []) ⟨hx, hb, hml, hown, hts⟩ (c_X12_isSpot l D T x2 x3) (va_cwS 2 hts gX12_value_X12_isSpot rfl rfl rfl hs_X12_isSpot ⟨Nat.le_of_ble_eq_true rfl, Nat.le_of_ble_eq_true rfl⟩) (pR_S hP hE [] rfl) rfl rfl hl.1 rfl (lv_room (Nat.le_of_ble_eq_true rfl)) dX12_value_13 ⟨Nat.le_of_ble_eq_true rfl, Nat.le_of_ble_eq_true rfl⟩) (fun r_3 hr_3 => ?_)
    rcases bool_post hr_3 with ⟨c_4, rfl⟩ | ⟨c_4, rfl⟩
    · refine lv_if_eq (tgt := 29) hx hb dX12_value_16 (by decide +kernel) (fun c9 => absurd c9 (by decide +kernel)) (fun _ => ?_)
      refine lv_iload hx hb dX12_value_19 (lv_at hl 4 rfl) ?_
      refine lv_iconst (v := 0) hx hb dX12_value_21 (by decide +kernel) ?_
      refine lv_iconst (v := 1) hx hb dX12_value_22 (by decide +kernel) ?_
      refine vp_callSi (W.runS (As := [.int x4, .int 0, .int 1]) (rest := []) ⟨hx, hb, hml, hown, hts⟩ (c_X12_within l D T x4 0 1 0 1 (by decide +kernel) (by decide +kernel)) (va_cwS 3 hts gX12_value_X12_within rfl rfl rfl hs_X12_within ⟨Nat.le_of_ble_eq_true rfl, Nat.le_of_ble_eq_true rfl⟩) (pR_S hP hE [] rfl) rfl rfl hl.1 rfl (lv_room (Nat.le_of_ble_eq_true rfl)) dX12_value_23 ⟨Nat.le_of_ble_eq_true rfl, Nat.le_of_ble_eq_true rfl⟩) (fun r_5 hr_5 => ?_)
      rcases bool_post hr_5 with ⟨c_6, rfl⟩ | ⟨c_6, rfl⟩
      · refine lv_if_ne (tgt := 33) hx hb dX12_value_26 (by decide +kernel) (fun _ => ?_) (fun c9 => absurd c9 (by decide +kernel))
        refine lv_aload_n hx hb dX12_value_33 rfl (lv_at hl 0 rfl) ?_
        refine va_get (D := D) (ci := 9) (v := .ref wo) (C := RX12) (T := TX12) (N := 11) hx hb hts in_X12_value_X12 hown hE.1 hP 0 rfl rfl 6 (by decide +kernel) (hts (.fieldLink RX12 43 "ClauseBook" "worth" "LClauseBook$Worth;") (List.mem_of_getElem? (i := 3) rfl)) (fun _ h9 => h9) e0_6 dX12_value_34 ?_
        refine lv_aload_n hx hb dX12_value_37 rfl (lv_at hl 0 rfl) ?_
        refine va_get (D := D) (ci := 9) (v := .ref wo) (C := RX12) (T := TX12) (N := 11) hx hb hts in_X12_value_X12 hown hE.1 hP 0 rfl rfl 6 (by decide +kernel) (hts (.fieldLink RX12 43 "ClauseBook" "worth" "LClauseBook$Worth;") (List.mem_of_getElem? (i := 3) rfl)) (fun _ h9 => h9) e0_6 dX12_value_38 ?_
        refine lv_iload_n hx hb dX12_value_41 rfl (lv_at hl 1 rfl) ?_
        refine lv_iload_n hx hb dX12_value_42 rfl (lv_at hl 2 rfl) ?_
        refine lv_iload_n hx hb dX12_value_43 rfl (lv_at hl 3 rfl) ?_
        have hFc := va_free (wc := [(wo, .inr (8, [.ref la, .ref cl, .ref p0, .ref p1, .ref p4, .int n])), (la, .inr (5, [.int (l9 0), .int (l9 1), .int (l9 2), .int (l9 3), .int (l9 4), .int (l9 5), .int (l9 6)])), (cl, .inr (1, [.int n0, .ref c1, .ref c2, .ref c3, .ref c4, .ref c5, .ref c6, .ref c7])), (c1, .inl (T 0, 24, .inl f1)), (c2, .inl (T 0, 24, .inl f2)), (c3, .inl (T 0, 24, .inl f3)), (c4, .inl (T 0, 24, .inl f4)), (c5, .inl (T 0, 24, .inl f5)), (p0, .inl (T 1, 676, .inr (.inl g0))), (p1, .inl (T 1, 676, .inr (.inl g1))), (p4, .inl (T 0, 672, .inl g4))]) hD hS hA [1, 2, 3, 4, 5, 6, 7, 8, 9, 10, 11] rfl
        refine va_calli (va_runV (As := [.int x1, .int x2, .int x3]) (rest := [.ref wo]) ⟨hx, hb, hml, hown, hts⟩ (cS_all l D T ad sa av ta 30 _ wo la cl p0 p1 p4 n l9 n0 c1 c2 c3 c4 c5 c6 c7 f1 f2 f3 f4 f5 g0 g1 g4 x1 x2 x3 (by omega) (by omega) (by omega) hok (by omega) hmm hlq (by omega)) (cwV 3 hts gX12_value_X11_settle rfl rfl rfl hv_X11_settle ⟨Nat.le_of_ble_eq_true rfl, Nat.le_of_ble_eq_true rfl⟩) (pWk_V (q := (RX11, TX11, 6)) (ci := 8) (q0 := 1) hP hE hD hV hS hFc rfl rfl [1, 2, 3, 4, 5, 6, 7, 8, 9, 10, 11] (by decide +kernel) rfl rfl) rfl rfl hl.1 rfl (lv_room (Nat.le_of_ble_eq_true rfl)) dX12_value_44 ⟨Nat.le_of_ble_eq_true rfl, Nat.le_of_ble_eq_true rfl⟩) hS (fun q _ h => hFc q h) hFc (fun r_7 u_8 t H1 locs ht hvm hr_7 hB hz1 hk1 hS => ?_)
        obtain ⟨f_9, f_10, f_11⟩ := u_8
        obtain ⟨hqr_7, hsl_r_7, hfo_r_7, hstr_7⟩ := hr_7
        have hqr_7 : 0 ≤ r_7.toInt ∧ r_7.toInt < 672 := hqr_7
        have hsl_r_7 : r_7.toNatClampNeg = slN x1 x2 x3 := hsl_r_7
        have hfo_r_7 : f_11 (slN x1 x2 x3) = n := hfo_r_7
        have hsr_7 : stW (VALW l9 f1 f2 f3 f4 f5) n0 n (rgW x1 x2) g0 g1 g4 f_9 f_10 f_11 := hstr_7
        have hst : stW (VALW l9 f1 f2 f3 f4 f5) n0 n (fun _ => True) g0 g1 g4 f_9 f_10 f_11 := hst.tr hsr_7 (fun _ _ => trivial)
        have hmm : memW (VALW l9 f1 f2 f3 f4 f5) n0 n f_9 f_10 f_11 := hst.1
        have hv_r_7 : (f_9 (r_7.toNatClampNeg), f_10 (r_7.toNatClampNeg)) = (VALW l9 f1 f2 f3 f4 f5) x1 x2 x3 := hst.val (by omega) (by omega) (by first | omega | (rw [ti_0]; omega)) hsl_r_7 hfo_r_7
        have hb_r_7 : 0 ≤ (f_10 (r_7.toNatClampNeg)).toInt := val_nn (VAL_low hlq.1 hlq.2 31 _ _ _) hv_r_7
        obtain ⟨hP1, hD1⟩ := hB
        rw [ht] at hP1
        obtain ⟨hP, hD⟩ := va_repl [(h0, .inr (9, fs0)), (wo, .inr (8, [.ref la, .ref cl, .ref p0, .ref p1, .ref p4, .int n])), (la, .inr (5, [.int (l9 0), .int (l9 1), .int (l9 2), .int (l9 3), .int (l9 4), .int (l9 5), .int (l9 6)])), (cl, .inr (1, [.int n0, .ref c1, .ref c2, .ref c3, .ref c4, .ref c5, .ref c6, .ref c7])), (c1, .inl (T 0, 24, .inl f1)), (c2, .inl (T 0, 24, .inl f2)), (c3, .inl (T 0, 24, .inl f3)), (c4, .inl (T 0, 24, .inl f4)), (c5, .inl (T 0, 24, .inl f5)), (p0, .inl (T 1, 676, .inr (.inl f_9))), (p1, .inl (T 1, 676, .inr (.inl f_10))), (p4, .inl (T 0, 672, .inl f_11))] hP hD [1, 2, 3, 4, 5, 6, 7, 8, 9, 10, 11] [1, 2, 3, 4, 5, 6, 7, 8, 9, 10, 11] rfl (by decide +kernel) rfl rfl rfl hk1 hP1
        clear hP1 hD1 hFc
        generalize H1 = H at hP hS ⊢
        refine lv_iload hx hb dX12_value_47 (lv_at hl 4 rfl) ?_
        refine vp_callSl (W.runV (As := [.int r_7, .int x4]) (rest := []) ⟨hx, hb, hml, hown, hts⟩ (c_X11_partOf l D T wo [.ref la, .ref cl, .ref p0, .ref p1, .ref p4, .int n] p1 f_10 p0 f_9 r_7 x4 rfl rfl (by first | decide | omega)) (cwV 2 hts gX12_value_X11_partOf rfl rfl rfl hv_X11_partOf ⟨Nat.le_of_ble_eq_true rfl, Nat.le_of_ble_eq_true rfl⟩) (pR_V (q := (RX11, TX11, 6)) (ci := 8) (q0 := 1) hP hE rfl rfl [1, 10, 9] rfl) rfl rfl hl.1 rfl (lv_room (Nat.le_of_ble_eq_true rfl)) dX12_value_49 ⟨Nat.le_of_ble_eq_true rfl, Nat.le_of_ble_eq_true rfl⟩) (fun r_12 hr_12 => ?_)
        exact W.lret hx hb hr (fun t ht hW => ⟨⟨_, (f_9, f_10, f_11), rfl, ⟨(show valQ (VALW l9 f1 f2 f3 f4 f5) n0 x1 x2 x3 x4 r_12 from (Or.inr ⟨⟨⟨(by omega), (by omega), (by omega)⟩, (by omega)⟩, partW_of hv_r_7 hr_12⟩)), hst⟩, by rw [ht]; exact hP.sub [0, 1, 2, 3, 4, 5, 6, 7, 8, 9, 10, 11] rfl, hD.sub [0, 1, 2, 3, 4, 5, 6, 7, 8, 9, 10, 11] (by decide +kernel) rfl⟩, hS.F ht⟩) hS.2.2 dX12_value_52
      · refine lv_if_ne (tgt := 33) hx hb dX12_value_26 (by decide +kernel) (fun c9 => absurd c9 (by decide +kernel)) (fun _ => ?_)
        refine lv_ldc2 (v := (-4611686018427387906)) hx hb hown (hts (.constantLong RX12 183 (-4611686018427387906)) (List.mem_of_getElem? (i := 2) rfl)) dX12_value_29 ?_
        exact W.lret hx hb hr (fun t ht hW => ⟨⟨_, (g0, g1, g4), rfl, ⟨(show valQ (VALW l9 f1 f2 f3 f4 f5) n0 x1 x2 x3 x4 ((-4611686018427387906) : Int64) from (Or.inl ⟨(fun h9 => by obtain ⟨⟨h1, h2, h3⟩, h4⟩ := h9; omega), (by decide +kernel)⟩)), hst⟩, by rw [ht]; exact hP.sub [0, 1, 2, 3, 4, 5, 6, 7, 8, 9, 10, 11] rfl, hD.sub [0, 1, 2, 3, 4, 5, 6, 7, 8, 9, 10, 11] (by decide +kernel) rfl⟩, hS.F ht⟩) hS.2.2 dX12_value_32
    · refine lv_if_eq (tgt := 29) hx hb dX12_value_16 (by decide +kernel) (fun _ => ?_) (fun c9 => absurd c9 (by decide +kernel))
      refine lv_ldc2 (v := (-4611686018427387906)) hx hb hown (hts (.constantLong RX12 183 (-4611686018427387906)) (List.mem_of_getElem? (i := 2) rfl)) dX12_value_29 ?_
      exact W.lret hx hb hr (fun t ht hW => ⟨⟨_, (g0, g1, g4), rfl, ⟨(show valQ (VALW l9 f1 f2 f3 f4 f5) n0 x1 x2 x3 x4 ((-4611686018427387906) : Int64) from (Or.inl ⟨(fun h9 => by obtain ⟨⟨h1, h2, h3⟩, h4⟩ := h9; omega), (by decide +kernel)⟩)), hst⟩, by rw [ht]; exact hP.sub [0, 1, 2, 3, 4, 5, 6, 7, 8, 9, 10, 11] rfl, hD.sub [0, 1, 2, 3, 4, 5, 6, 7, 8, 9, 10, 11] (by decide +kernel) rfl⟩, hS.F ht⟩) hS.2.2 dX12_value_32
  · refine lv_if_eq (tgt := 29) hx hb dX12_value_8 (by decide +kernel) (fun _ => ?_) (fun c9 => absurd c9 (by decide +kernel))
    refine lv_ldc2 (v := (-4611686018427387906)) hx hb hown (hts (.constantLong RX12 183 (-4611686018427387906)) (List.mem_of_getElem? (i := 2) rfl)) dX12_value_29 ?_
    exact W.lret hx hb hr (fun t ht hW => ⟨⟨_, (g0, g1, g4), rfl, ⟨(show valQ (VALW l9 f1 f2 f3 f4 f5) n0 x1 x2 x3 x4 ((-4611686018427387906) : Int64) from (Or.inl ⟨(fun h9 => by obtain ⟨⟨h1, h2, h3⟩, h4⟩ := h9; omega), (by decide +kernel)⟩)), hst⟩, by rw [ht]; exact hP.sub [0, 1, 2, 3, 4, 5, 6, 7, 8, 9, 10, 11] rfl, hD.sub [0, 1, 2, 3, 4, 5, 6, 7, 8, 9, 10, 11] (by decide +kernel) rfl⟩, hS.F ht⟩) hS.2.2 dX12_value_32
theorem dX12_mean_0 : decode cX12_mean 0 = .ok (.aload_n 0, 1) := by decide +kernel
theorem dX12_mean_1 : decode cX12_mean 1 = .ok (.getfield 32, 3) := by decide +kernel
theorem dX12_mean_11 : decode cX12_mean 11 = .ok (.iload_n 2, 1) := by decide +kernel
theorem dX12_mean_12 : decode cX12_mean 12 = .ok (.iload_n 3, 1) := by decide +kernel
theorem dX12_mean_13 : decode cX12_mean 13 = .ok (.invokestatic 108, 3) := by decide +kernel
theorem dX12_mean_16 : decode cX12_mean 16 = .ok (.ifCond .eq 19, 3) := by decide +kernel
theorem dX12_mean_19 : decode cX12_mean 19 = .ok (.iload_n 2, 1) := by decide +kernel
theorem dX12_mean_20 : decode cX12_mean 20 = .ok (.bipush 6, 2) := by decide +kernel
theorem dX12_mean_22 : decode cX12_mean 22 = .ok (.if_icmp .eq 13, 3) := by decide +kernel
theorem dX12_mean_25 : decode cX12_mean 25 = .ok (.iload 4, 2) := by decide +kernel
theorem dX12_mean_27 : decode cX12_mean 27 = .ok (.iconst 0, 1) := by decide +kernel
theorem dX12_mean_28 : decode cX12_mean 28 = .ok (.iconst 1, 1) := by decide +kernel
theorem dX12_mean_29 : decode cX12_mean 29 = .ok (.invokestatic 77, 3) := by decide +kernel
theorem dX12_mean_32 : decode cX12_mean 32 = .ok (.ifCond .ne 7, 3) := by decide +kernel
theorem dX12_mean_35 : decode cX12_mean 35 = .ok (.ldc2_w 183, 3) := by decide +kernel
theorem dX12_mean_38 : decode cX12_mean 38 = .ok (.lreturn, 1) := by decide +kernel
theorem dX12_mean_39 : decode cX12_mean 39 = .ok (.aload_n 0, 1) := by decide +kernel
theorem dX12_mean_4 : decode cX12_mean 4 = .ok (.iload_n 1, 1) := by decide +kernel
theorem dX12_mean_40 : decode cX12_mean 40 = .ok (.getfield 43, 3) := by decide +kernel
theorem dX12_mean_43 : decode cX12_mean 43 = .ok (.sipush 674, 3) := by decide +kernel
theorem dX12_mean_46 : decode cX12_mean 46 = .ok (.iload_n 1, 1) := by decide +kernel
theorem dX12_mean_47 : decode cX12_mean 47 = .ok (.iload_n 2, 1) := by decide +kernel
theorem dX12_mean_48 : decode cX12_mean 48 = .ok (.iload_n 3, 1) := by decide +kernel
theorem dX12_mean_49 : decode cX12_mean 49 = .ok (.invokevirtual 193, 3) := by decide +kernel
theorem dX12_mean_5 : decode cX12_mean 5 = .ok (.invokevirtual 150, 3) := by decide +kernel
theorem dX12_mean_52 : decode cX12_mean 52 = .ok (.aload_n 0, 1) := by decide +kernel
theorem dX12_mean_53 : decode cX12_mean 53 = .ok (.getfield 43, 3) := by decide +kernel
theorem dX12_mean_56 : decode cX12_mean 56 = .ok (.sipush 674, 3) := by decide +kernel
theorem dX12_mean_59 : decode cX12_mean 59 = .ok (.iload 4, 2) := by decide +kernel
theorem dX12_mean_61 : decode cX12_mean 61 = .ok (.invokevirtual 189, 3) := by decide +kernel
theorem dX12_mean_64 : decode cX12_mean 64 = .ok (.lreturn, 1) := by decide +kernel
theorem dX12_mean_8 : decode cX12_mean 8 = .ok (.ifCond .eq 27, 3) := by decide +kernel
set_option maxRecDepth 40000 in
theorem ggX12_mean_X11_average_0 : GoodIn wsX12_mean [.code yX11_average cX11_average 7 none] := goodIn_r _ [24] rfl (by decide +kernel)
set_option maxRecDepth 40000 in
theorem ggX12_mean_X11_average_1 : GoodIn wsX12_mean wsX11_average_r1 := goodIn_r _ [25, 26, 27, 28, 29, 30, 31, 32, 33, 34, 23, 35, 36, 37, 38, 39, 40, 41, 42, 43, 44, 45, 46, 47] rfl (by decide +kernel)
set_option maxRecDepth 40000 in
theorem ggX12_mean_X11_average_2 : GoodIn wsX12_mean wsX11_average_r2 := goodIn_r _ [48, 49, 50, 51, 52, 53, 54, 55, 56, 57, 58, 59, 60, 61, 62, 63, 64, 65, 66, 67, 68, 69, 70, 71] rfl (by decide +kernel)
set_option maxRecDepth 40000 in
theorem ggX12_mean_X11_average_3 : GoodIn wsX12_mean wsX11_average_r3 := goodIn_r _ [72, 73, 74, 75, 7, 76, 77, 78, 79, 80, 81, 82, 83, 84, 85, 86, 87, 88, 89, 90, 91, 92, 93, 94] rfl (by decide +kernel)
set_option maxRecDepth 40000 in
theorem ggX12_mean_X11_average_4 : GoodIn wsX12_mean wsX11_average_r4 := goodIn_r _ [95, 96, 97, 98, 99, 100, 101, 102, 103, 104, 105, 106, 107, 108, 109, 110, 111, 112, 113, 114, 115, 116, 117, 118] rfl (by decide +kernel)
set_option maxRecDepth 40000 in
theorem ggX12_mean_X11_average_5 : GoodIn wsX12_mean wsX11_average_r5 := goodIn_r _ [21, 22, 119, 120, 121, 122, 123, 124, 125] rfl (by decide +kernel)
set_option maxRecDepth 40000 in
theorem ggX12_mean_X11_average_6 : GoodIn wsX12_mean wsX110 := goodIn_r _ [150, 151, 152, 153, 154, 155] rfl (by decide +kernel)
set_option maxRecDepth 40000 in
theorem ggX12_mean_X11_average_7 : GoodIn wsX12_mean wsX80 := goodIn_r _ [156, 157, 158, 159, 160, 161, 162] rfl (by decide +kernel)
set_option maxRecDepth 40000 in
theorem ggX12_mean_X11_average_8 : GoodIn wsX12_mean wsX20 := goodIn_r _ [142, 143, 144, 145, 146, 147, 148, 149] rfl (by decide +kernel)
set_option maxRecDepth 40000 in
theorem ggX12_mean_X11_average : GoodIn wsX12_mean wsX11_average := (goodIn_app ggX12_mean_X11_average_0 (goodIn_app (goodIn_app (goodIn_app (goodIn_app ggX12_mean_X11_average_1 (goodIn_app ggX12_mean_X11_average_2 (goodIn_app ggX12_mean_X11_average_3 (goodIn_app ggX12_mean_X11_average_4 ggX12_mean_X11_average_5)))) ggX12_mean_X11_average_6) ggX12_mean_X11_average_7) ggX12_mean_X11_average_8))
set_option maxRecDepth 20000 in
theorem ggX12_mean_X11_partOf : GoodIn wsX12_mean wsX11_partOf := goodIn_r _ [129, 130, 30, 31, 86, 87, 88, 23, 89, 150, 151, 152, 153, 154, 155] rfl (by decide +kernel)
set_option maxRecDepth 20000 in
theorem ggX12_mean_X12_isSpot : GoodIn wsX12_mean wsX12_isSpot := goodIn_r _ [15, 16, 17, 11, 18, 19, 10, 12] rfl (by decide +kernel)
set_option maxRecDepth 20000 in
theorem ggX12_mean_X12_within : GoodIn wsX12_mean wsX12_within := goodIn_r _ [12] rfl (by decide +kernel)
set_option maxRecDepth 20000 in
theorem ggX12_mean_X2_has : GoodIn wsX12_mean wsX2_has := goodIn_r _ [8, 9, 10, 11, 12, 142, 143, 144, 145, 146, 147, 148, 149] rfl (by decide +kernel)
set_option maxRecDepth 20000 in
theorem gX12_mean_X11_average : GoodIn wsX12_mean (wsV RX12 193 RX11 yX11_average wsX11_average) := goodIn_app (goodIn_r _ [20, 21, 22, 23] rfl (by decide +kernel)) ggX12_mean_X11_average
set_option maxRecDepth 20000 in
theorem gX12_mean_X11_partOf : GoodIn wsX12_mean (wsV RX12 189 RX11 yX11_partOf wsX11_partOf) := goodIn_app (goodIn_r _ [126, 127, 128, 23] rfl (by decide +kernel)) ggX12_mean_X11_partOf
set_option maxRecDepth 20000 in
theorem gX12_mean_X12_isSpot : GoodIn wsX12_mean (va_wsS RX12 108 yX12_isSpot wsX12_isSpot) := goodIn_app (goodIn_of _ (by decide +kernel)) ggX12_mean_X12_isSpot
set_option maxRecDepth 20000 in
theorem gX12_mean_X12_within : GoodIn wsX12_mean (va_wsS RX12 77 yX12_within wsX12_within) := goodIn_app (goodIn_of _ (by decide +kernel)) ggX12_mean_X12_within
set_option maxRecDepth 20000 in
theorem gX12_mean_X2_has : GoodIn wsX12_mean (wsV RX12 150 RX2 yX2_has wsX2_has) := goodIn_app (goodIn_r _ [4, 5, 6, 7] rfl (by decide +kernel)) ggX12_mean_X2_has
set_option maxRecDepth 20000 in
theorem in_X12_mean_X12 : ∀ w ∈ wsX120, w ∈ wsX12_mean := sub_r [131, 132, 133, 134, 135, 136, 137, 138, 139, 140, 141] rfl
set_option maxHeartbeats 4000000 in
set_option maxRecDepth 100000 in
theorem c_X12_mean (l : Launch) (D : va_G) (T : Nat → ClassId) (ad sa av : Nat → Nat) (ta : Nat) (sz : Nat) (h0 : Nat) (wo : Nat) (fs0 : List Value) (la : Nat) (cl : Nat) (p0 : Nat) (p1 : Nat) (p4 : Nat) (n : Int32) (l9 : Nat → Int32) (n0 : Int32) (c1 : Nat) (c2 : Nat) (c3 : Nat) (c4 : Nat) (c5 : Nat) (c6 : Nat) (c7 : Nat) (f1 : Nat → Int32) (f2 : Nat → Int32) (f3 : Nat → Int32) (f4 : Nat → Int32) (f5 : Nat → Int32) (g0 : Nat → Int64) (g1 : Nat → Int64) (g4 : Nat → Int32) (x1 : Int32) (x2 : Int32) (x3 : Int32) (x4 : Int32) (e0_4 : fs0[4]? = some (.ref cl)) (e0_6 : fs0[6]? = some (.ref wo)) (hn0 : 0 ≤ n0.toInt ∧ n0.toInt ≤ 24) (hok : okC f1 f3 f4 f5) (hmm : memW (VALW l9 f1 f2 f3 f4 f5) n0 n g0 g1 g4) (hlq : (1 ≤ (l9 4).toInt ∧ (l9 4).toInt ≤ 9) ∧ 1 ≤ (l9 6).toInt ∧ (l9 6).toInt ≤ 9) : Met l yX12_mean wsX12_mean ({ frames := 68, cells := 0, slots := 0, locals := 2226 }) (pWk [.ref h0, .int x1, .int x2, .int x3, .int x4] D T [(h0, .inr (9, fs0)), (wo, .inr (8, [.ref la, .ref cl, .ref p0, .ref p1, .ref p4, .int n])), (la, .inr (5, [.int (l9 0), .int (l9 1), .int (l9 2), .int (l9 3), .int (l9 4), .int (l9 5), .int (l9 6)])), (cl, .inr (1, [.int n0, .ref c1, .ref c2, .ref c3, .ref c4, .ref c5, .ref c6, .ref c7])), (c1, .inl (T 0, 24, .inl f1)), (c2, .inl (T 0, 24, .inl f2)), (c3, .inl (T 0, 24, .inl f3)), (c4, .inl (T 0, 24, .inl f4)), (c5, .inl (T 0, 24, .inl f5)), (p0, .inl (T 1, 676, .inr (.inl g0))), (p1, .inl (T 1, 676, .inr (.inl g1))), (p4, .inl (T 0, 672, .inl g4))] sz ad sa av ta) (va_Ql (fun (r : Int64) (u : (Nat → Int64) × (Nat → Int64) × (Nat → Int32)) => meanQ l9 (VALW l9 f1 f2 f3 f4 f5) n0 x1 x2 x3 x4 r ∧ stW (VALW l9 f1 f2 f3 f4 f5) n0 n (fun _ => True) g0 g1 g4 u.1 u.2.1 u.2.2) (bW D (va_A [(h0, .inr (9, fs0)), (wo, .inr (8, [.ref la, .ref cl, .ref p0, .ref p1, .ref p4, .int n])), (la, .inr (5, [.int (l9 0), .int (l9 1), .int (l9 2), .int (l9 3), .int (l9 4), .int (l9 5), .int (l9 6)])), (cl, .inr (1, [.int n0, .ref c1, .ref c2, .ref c3, .ref c4, .ref c5, .ref c6, .ref c7])), (c1, .inl (T 0, 24, .inl f1)), (c2, .inl (T 0, 24, .inl f2)), (c3, .inl (T 0, 24, .inl f3)), (c4, .inl (T 0, 24, .inl f4)), (c5, .inl (T 0, 24, .inl f5)), (p0, .inl (T 1, 676, .inr (.inl g0))), (p1, .inl (T 1, 676, .inr (.inl g1))), (p4, .inl (T 0, 672, .inl g4))] sz) (fun (u : (Nat → Int64) × (Nat → Int64) × (Nat → Int32)) => [(h0, .inr (9, fs0)), (wo, .inr (8, [.ref la, .ref cl, .ref p0, .ref p1, .ref p4, .int n])), (la, .inr (5, [.int (l9 0), .int (l9 1), .int (l9 2), .int (l9 3), .int (l9 4), .int (l9 5), .int (l9 6)])), (cl, .inr (1, [.int n0, .ref c1, .ref c2, .ref c3, .ref c4, .ref c5, .ref c6, .ref c7])), (c1, .inl (T 0, 24, .inl f1)), (c2, .inl (T 0, 24, .inl f2)), (c3, .inl (T 0, 24, .inl f3)), (c4, .inl (T 0, 24, .inl f4)), (c5, .inl (T 0, 24, .inl f5)), (p0, .inl (T 1, 676, .inr (.inl u.1))), (p1, .inl (T 1, 676, .inr (.inl u.2.1))), (p4, .inl (T 0, 672, .inl u.2.2))])) (va_A [(h0, .inr (9, fs0)), (wo, .inr (8, [.ref la, .ref cl, .ref p0, .ref p1, .ref p4, .int n])), (la, .inr (5, [.int (l9 0), .int (l9 1), .int (l9 2), .int (l9 3), .int (l9 4), .int (l9 5), .int (l9 6)])), (cl, .inr (1, [.int n0, .ref c1, .ref c2, .ref c3, .ref c4, .ref c5, .ref c6, .ref c7])), (c1, .inl (T 0, 24, .inl f1)), (c2, .inl (T 0, 24, .inl f2)), (c3, .inl (T 0, 24, .inl f3)), (c4, .inl (T 0, 24, .inl f4)), (c5, .inl (T 0, 24, .inl f5)), (p0, .inl (T 1, 676, .inr (.inl g0))), (p1, .inl (T 1, 676, .inr (.inl g1))), (p4, .inl (T 0, 672, .inl g4))] sz)) 0 0 (va_A [(h0, .inr (9, fs0)), (wo, .inr (8, [.ref la, .ref cl, .ref p0, .ref p1, .ref p4, .int n])), (la, .inr (5, [.int (l9 0), .int (l9 1), .int (l9 2), .int (l9 3), .int (l9 4), .int (l9 5), .int (l9 6)])), (cl, .inr (1, [.int n0, .ref c1, .ref c2, .ref c3, .ref c4, .ref c5, .ref c6, .ref c7])), (c1, .inl (T 0, 24, .inl f1)), (c2, .inl (T 0, 24, .inl f2)), (c3, .inl (T 0, 24, .inl f3)), (c4, .inl (T 0, 24, .inl f4)), (c5, .inl (T 0, 24, .inl f5)), (p0, .inl (T 1, 676, .inr (.inl g0))), (p1, .inl (T 1, 676, .inr (.inl g1))), (p4, .inl (T 0, 672, .inl g4))] sz) := by
  refine Met.ofW (cc := cX12_mean) (maxL := 5) (ret := (some .long)) (by decide +kernel) rfl ?_
  intro p e s m args below meth c s₁ B hml hv
  obtain ⟨rfl, hsz, hP, hE, hD0, hV⟩ := hv
  have hx := B.exec
  have hb := B.bytes
  have hr := B.returns
  have hts := atoms_spec (ws := wsX12_mean) B.pre
  have hown : s.vm.findClass RX12 = some m.cls := findClass_of_methodNamed B.named
  have hlocks := B.notSynchronized
  subst hsz
  have hD := hD0.self (sz := s.heap.size)
  generalize hAe : va_A [(h0, .inr (9, fs0)), (wo, .inr (8, [.ref la, .ref cl, .ref p0, .ref p1, .ref p4, .int n])), (la, .inr (5, [.int (l9 0), .int (l9 1), .int (l9 2), .int (l9 3), .int (l9 4), .int (l9 5), .int (l9 6)])), (cl, .inr (1, [.int n0, .ref c1, .ref c2, .ref c3, .ref c4, .ref c5, .ref c6, .ref c7])), (c1, .inl (T 0, 24, .inl f1)), (c2, .inl (T 0, 24, .inl f2)), (c3, .inl (T 0, 24, .inl f3)), (c4, .inl (T 0, 24, .inl f4)), (c5, .inl (T 0, 24, .inl f5)), (p0, .inl (T 1, 676, .inr (.inl g0))), (p1, .inl (T 1, 676, .inr (.inl g1))), (p4, .inl (T 0, 672, .inl g4))] s.heap.size = A at hD hV ⊢
  have hA : ∀ q : Nat, s.heap.size ≤ q → A q := fun q h => by rw [← hAe]; exact Or.inr h
  have hS : va_S A s.heap s.heap [] := va_S.rf
  have hP : va_P D vwCl [(h0, .inr (9, fs0)), (wo, .inr (8, [.ref la, .ref cl, .ref p0, .ref p1, .ref p4, .int n])), (la, .inr (5, [.int (l9 0), .int (l9 1), .int (l9 2), .int (l9 3), .int (l9 4), .int (l9 5), .int (l9 6)])), (cl, .inr (1, [.int n0, .ref c1, .ref c2, .ref c3, .ref c4, .ref c5, .ref c6, .ref c7])), (c1, .inl (T 0, 24, .inl f1)), (c2, .inl (T 0, 24, .inl f2)), (c3, .inl (T 0, 24, .inl f3)), (c4, .inl (T 0, 24, .inl f4)), (c5, .inl (T 0, 24, .inl f5)), (p0, .inl (T 1, 676, .inr (.inl g0))), (p1, .inl (T 1, 676, .inr (.inl g1))), (p4, .inl (T 0, 672, .inl g4))] s.heap := hP
  have hl := lv_entry ([.ref h0, .int x1, .int x2, .int x3, .int x4]) (n := 5) (Nat.le_of_ble_eq_true rfl)
  rw [lg_entry_eq]
  generalize (lg_sl ([.ref h0, .int x1, .int x2, .int x3, .int x4]) ++ List.replicate (5 - (lg_sl ([.ref h0, .int x1, .int x2, .int x3, .int x4])).length) Slot.unset).toArray = ls at hl ⊢
  have hl : lv_has ls 5 [(0, .ref h0), (1, .int x1), (2, .int x2), (3, .int x3), (4, .int x4)] := hl
  clear hD0
  have hst : stW (VALW l9 f1 f2 f3 f4 f5) n0 n (fun _ => True) g0 g1 g4 g0 g1 g4 := stW_rf hmm
  refine lv_aload_n hx hb dX12_mean_0 rfl (lv_at hl 0 rfl) ?_
  refine va_get (D := D) (ci := 9) (v := .ref cl) (C := RX12) (T := TX12) (N := 11) hx hb hts in_X12_mean_X12 hown hE.1 hP 0 rfl rfl 4 (by decide +kernel) (hts (.fieldLink RX12 32 "ClauseBook" "clauses" "LClauseBook$Clauses;") (List.mem_of_getElem? (i := 1) rfl)) (fun _ h9 => h9) e0_4 dX12_mean_1 ?_
  refine lv_iload_n hx hb dX12_mean_4 rfl (lv_at hl 1 rfl) ?_
  refine vp_callSi (W.runV (As := [.int x1]) (rest := []) ⟨hx, hb, hml, hown, hts⟩ (c_X2_has l D T cl [.int n0, .ref c1, .ref c2, .ref c3, .ref c4, .ref c5, .ref c6, .ref c7] x1 n0 rfl (by omega)) (cwV 1 hts gX12_mean_X2_has rfl rfl rfl hv_X2_has ⟨Nat.le_of_ble_eq_true rfl, Nat.le_of_ble_eq_true rfl⟩) (pR_V (q := (RX2, TX2, 8)) (ci := 1) (q0 := 3) hP hE rfl rfl [3] rfl) rfl rfl hl.1 rfl (lv_room (Nat.le_of_ble_eq_true rfl)) dX12_mean_5 ⟨Nat.le_of_ble_eq_true rfl, Nat.le_of_ble_eq_true rfl⟩) (fun r_1 hr_1 => ?_)
  rcases bool_post hr_1 with ⟨c_2, rfl⟩ | ⟨c_2, rfl⟩
  · refine lv_if_eq (tgt := 35) hx hb dX12_mean_8 (by decide +kernel) (fun c9 => absurd c9 (by decide +kernel)) (fun _ => ?_)
    refine lv_iload_n hx hb dX12_mean_11 rfl (lv_at hl 2 rfl) ?_
    refine lv_iload_n hx hb dX12_mean_12 rfl (lv_at hl 3 rfl) ?_
    refine vp_callSi (W.runS (As := [.int x2, .int x3]) (rest := []) ⟨hx, hb, hml, hown, hts⟩ (c_X12_isSpot l D T x2 x3) (va_cwS 2 hts gX12_mean_X12_isSpot rfl rfl rfl hs_X12_isSpot ⟨Nat.le_of_ble_eq_true rfl, Nat.le_of_ble_eq_true rfl⟩) (pR_S hP hE [] rfl) rfl rfl hl.1 rfl (lv_room (Nat.le_of_ble_eq_true rfl)) dX12_mean_13 ⟨Nat.le_of_ble_eq_true rfl, Nat.le_of_ble_eq_true rfl⟩) (fun r_3 hr_3 => ?_)
    rcases bool_post hr_3 with ⟨c_4, rfl⟩ | ⟨c_4, rfl⟩
    · refine lv_if_eq (tgt := 35) hx hb dX12_mean_16 (by decide +kernel) (fun c9 => absurd c9 (by decide +kernel)) (fun _ => ?_)
      refine lv_iload_n hx hb dX12_mean_19 rfl (lv_at hl 2 rfl) ?_
      refine lv_bipush (v := 6) hx hb dX12_mean_20 (by decide +kernel) ?_
      refine lv_icmp_eq (tgt := 35) hx hb dX12_mean_22 (by decide +kernel) (fun c_5 => ?_) (fun c_5 => ?_)
      · rw [fa_eq] at c_5
        try rw [ti_6] at c_5
        refine lv_ldc2 (v := (-4611686018427387906)) hx hb hown (hts (.constantLong RX12 183 (-4611686018427387906)) (List.mem_of_getElem? (i := 2) rfl)) dX12_mean_35 ?_
        exact W.lret hx hb hr (fun t ht hW => ⟨⟨_, (g0, g1, g4), rfl, ⟨(show meanQ l9 (VALW l9 f1 f2 f3 f4 f5) n0 x1 x2 x3 x4 ((-4611686018427387906) : Int64) from (Or.inl ⟨(fun h9 => by obtain ⟨⟨h1, h2, h3⟩, h4, h5⟩ := h9; omega), (by decide +kernel)⟩)), hst⟩, by rw [ht]; exact hP.sub [0, 1, 2, 3, 4, 5, 6, 7, 8, 9, 10, 11] rfl, hD.sub [0, 1, 2, 3, 4, 5, 6, 7, 8, 9, 10, 11] (by decide +kernel) rfl⟩, hS.F ht⟩) hS.2.2 dX12_mean_38
      · rw [fa_eq] at c_5
        try rw [ti_6] at c_5
        refine lv_iload hx hb dX12_mean_25 (lv_at hl 4 rfl) ?_
        refine lv_iconst (v := 0) hx hb dX12_mean_27 (by decide +kernel) ?_
        refine lv_iconst (v := 1) hx hb dX12_mean_28 (by decide +kernel) ?_
        refine vp_callSi (W.runS (As := [.int x4, .int 0, .int 1]) (rest := []) ⟨hx, hb, hml, hown, hts⟩ (c_X12_within l D T x4 0 1 0 1 (by decide +kernel) (by decide +kernel)) (va_cwS 3 hts gX12_mean_X12_within rfl rfl rfl hs_X12_within ⟨Nat.le_of_ble_eq_true rfl, Nat.le_of_ble_eq_true rfl⟩) (pR_S hP hE [] rfl) rfl rfl hl.1 rfl (lv_room (Nat.le_of_ble_eq_true rfl)) dX12_mean_29 ⟨Nat.le_of_ble_eq_true rfl, Nat.le_of_ble_eq_true rfl⟩) (fun r_6 hr_6 => ?_)
        rcases bool_post hr_6 with ⟨c_7, rfl⟩ | ⟨c_7, rfl⟩
        · refine lv_if_ne (tgt := 39) hx hb dX12_mean_32 (by decide +kernel) (fun _ => ?_) (fun c9 => absurd c9 (by decide +kernel))
          refine lv_aload_n hx hb dX12_mean_39 rfl (lv_at hl 0 rfl) ?_
          refine va_get (D := D) (ci := 9) (v := .ref wo) (C := RX12) (T := TX12) (N := 11) hx hb hts in_X12_mean_X12 hown hE.1 hP 0 rfl rfl 6 (by decide +kernel) (hts (.fieldLink RX12 43 "ClauseBook" "worth" "LClauseBook$Worth;") (List.mem_of_getElem? (i := 3) rfl)) (fun _ h9 => h9) e0_6 dX12_mean_40 ?_
          refine lv_sipush (v := 674) hx hb dX12_mean_43 (by decide +kernel) ?_
          refine lv_iload_n hx hb dX12_mean_46 rfl (lv_at hl 1 rfl) ?_
          refine lv_iload_n hx hb dX12_mean_47 rfl (lv_at hl 2 rfl) ?_
          refine lv_iload_n hx hb dX12_mean_48 rfl (lv_at hl 3 rfl) ?_
          have hFc := va_free (wc := [(wo, .inr (8, [.ref la, .ref cl, .ref p0, .ref p1, .ref p4, .int n])), (la, .inr (5, [.int (l9 0), .int (l9 1), .int (l9 2), .int (l9 3), .int (l9 4), .int (l9 5), .int (l9 6)])), (cl, .inr (1, [.int n0, .ref c1, .ref c2, .ref c3, .ref c4, .ref c5, .ref c6, .ref c7])), (c1, .inl (T 0, 24, .inl f1)), (c2, .inl (T 0, 24, .inl f2)), (c3, .inl (T 0, 24, .inl f3)), (c4, .inl (T 0, 24, .inl f4)), (c5, .inl (T 0, 24, .inl f5)), (p0, .inl (T 1, 676, .inr (.inl g0))), (p1, .inl (T 1, 676, .inr (.inl g1))), (p4, .inl (T 0, 672, .inl g4))]) hD hS hA [1, 2, 3, 4, 5, 6, 7, 8, 9, 10, 11] rfl
          refine va_callv (va_runV (As := [.int 674, .int x1, .int x2, .int x3]) (rest := []) ⟨hx, hb, hml, hown, hts⟩ (s_X11_average l D T ad sa av ta _ wo la cl p0 p1 p4 n l9 n0 c1 c2 c3 c4 c5 c6 c7 f1 f2 f3 f4 f5 g0 g1 g4 30 674 x1 x2 x3 (by first | decide | omega) (by omega) (by omega) (by omega) hok (by omega) hmm hlq (by decide +kernel) (fun h9 => absurd h9 (by decide +kernel)) (by omega) (cS_all l D T ad sa av ta 30)) (cwV 4 hts gX12_mean_X11_average rfl rfl rfl hv_X11_average ⟨Nat.le_of_ble_eq_true rfl, Nat.le_of_ble_eq_true rfl⟩) (pWk_V (q := (RX11, TX11, 6)) (ci := 8) (q0 := 1) hP hE hD hV hS hFc rfl rfl [1, 2, 3, 4, 5, 6, 7, 8, 9, 10, 11] (by decide +kernel) rfl rfl) rfl rfl hl.1 rfl (lv_room (Nat.le_of_ble_eq_true rfl)) dX12_mean_49 ⟨Nat.le_of_ble_eq_true rfl, Nat.le_of_ble_eq_true rfl⟩) hS (fun q _ h => hFc q h) hFc (fun u_9 t H1 locs ht hvm hr_8 hB hz1 hk1 hS => ?_)
          obtain ⟨f_10, f_11, f_12⟩ := u_9
          have hsahr_8 : stW (VALW l9 f1 f2 f3 f4 f5) n0 n (rgA (674 : Int32) x1 x2) g0 g1 g4 f_10 f_11 f_12 := hr_8.1
          have hst : stW (VALW l9 f1 f2 f3 f4 f5) n0 n (fun _ => True) g0 g1 g4 f_10 f_11 f_12 := hst.tr hsahr_8 (fun _ _ => trivial)
          have hmm : memW (VALW l9 f1 f2 f3 f4 f5) n0 n f_10 f_11 f_12 := hst.1
          have hp_674 : (f_10 ((674 : Int32).toNatClampNeg), f_11 ((674 : Int32).toNatClampNeg)) = avgW l9 (VALW l9 f1 f2 f3 f4 f5) x1 x2 x3 := hr_8.2.1
          obtain ⟨hP1, hD1⟩ := hB
          rw [ht] at hP1
          obtain ⟨hP, hD⟩ := va_repl [(h0, .inr (9, fs0)), (wo, .inr (8, [.ref la, .ref cl, .ref p0, .ref p1, .ref p4, .int n])), (la, .inr (5, [.int (l9 0), .int (l9 1), .int (l9 2), .int (l9 3), .int (l9 4), .int (l9 5), .int (l9 6)])), (cl, .inr (1, [.int n0, .ref c1, .ref c2, .ref c3, .ref c4, .ref c5, .ref c6, .ref c7])), (c1, .inl (T 0, 24, .inl f1)), (c2, .inl (T 0, 24, .inl f2)), (c3, .inl (T 0, 24, .inl f3)), (c4, .inl (T 0, 24, .inl f4)), (c5, .inl (T 0, 24, .inl f5)), (p0, .inl (T 1, 676, .inr (.inl f_10))), (p1, .inl (T 1, 676, .inr (.inl f_11))), (p4, .inl (T 0, 672, .inl f_12))] hP hD [1, 2, 3, 4, 5, 6, 7, 8, 9, 10, 11] [1, 2, 3, 4, 5, 6, 7, 8, 9, 10, 11] rfl (by decide +kernel) rfl rfl rfl hk1 hP1
          clear hP1 hD1 hFc
          generalize H1 = H at hP hS ⊢
          refine lv_aload_n hx hb dX12_mean_52 rfl (lv_at hl 0 rfl) ?_
          refine va_get (D := D) (ci := 9) (v := .ref wo) (C := RX12) (T := TX12) (N := 11) hx hb hts in_X12_mean_X12 hown hE.1 hP 0 rfl rfl 6 (by decide +kernel) (hts (.fieldLink RX12 43 "ClauseBook" "worth" "LClauseBook$Worth;") (List.mem_of_getElem? (i := 3) rfl)) (fun _ h9 => h9) e0_6 dX12_mean_53 ?_
          refine lv_sipush (v := 674) hx hb dX12_mean_56 (by decide +kernel) ?_
          refine lv_iload hx hb dX12_mean_59 (lv_at hl 4 rfl) ?_
          refine vp_callSl (W.runV (As := [.int 674, .int x4]) (rest := []) ⟨hx, hb, hml, hown, hts⟩ (c_X11_partOf l D T wo [.ref la, .ref cl, .ref p0, .ref p1, .ref p4, .int n] p1 f_11 p0 f_10 674 x4 rfl rfl (by first | decide | omega)) (cwV 2 hts gX12_mean_X11_partOf rfl rfl rfl hv_X11_partOf ⟨Nat.le_of_ble_eq_true rfl, Nat.le_of_ble_eq_true rfl⟩) (pR_V (q := (RX11, TX11, 6)) (ci := 8) (q0 := 1) hP hE rfl rfl [1, 10, 9] rfl) rfl rfl hl.1 rfl (lv_room (Nat.le_of_ble_eq_true rfl)) dX12_mean_61 ⟨Nat.le_of_ble_eq_true rfl, Nat.le_of_ble_eq_true rfl⟩) (fun r_13 hr_13 => ?_)
          exact W.lret hx hb hr (fun t ht hW => ⟨⟨_, (f_10, f_11, f_12), rfl, ⟨(show meanQ l9 (VALW l9 f1 f2 f3 f4 f5) n0 x1 x2 x3 x4 r_13 from (Or.inr ⟨⟨⟨(by omega), (by omega), (by omega)⟩, (by omega), (by omega)⟩, partW_of hp_674 hr_13⟩)), hst⟩, by rw [ht]; exact hP.sub [0, 1, 2, 3, 4, 5, 6, 7, 8, 9, 10, 11] rfl, hD.sub [0, 1, 2, 3, 4, 5, 6, 7, 8, 9, 10, 11] (by decide +kernel) rfl⟩, hS.F ht⟩) hS.2.2 dX12_mean_64
        · refine lv_if_ne (tgt := 39) hx hb dX12_mean_32 (by decide +kernel) (fun c9 => absurd c9 (by decide +kernel)) (fun _ => ?_)
          refine lv_ldc2 (v := (-4611686018427387906)) hx hb hown (hts (.constantLong RX12 183 (-4611686018427387906)) (List.mem_of_getElem? (i := 2) rfl)) dX12_mean_35 ?_
          exact W.lret hx hb hr (fun t ht hW => ⟨⟨_, (g0, g1, g4), rfl, ⟨(show meanQ l9 (VALW l9 f1 f2 f3 f4 f5) n0 x1 x2 x3 x4 ((-4611686018427387906) : Int64) from (Or.inl ⟨(fun h9 => by obtain ⟨⟨h1, h2, h3⟩, h4, h5⟩ := h9; omega), (by decide +kernel)⟩)), hst⟩, by rw [ht]; exact hP.sub [0, 1, 2, 3, 4, 5, 6, 7, 8, 9, 10, 11] rfl, hD.sub [0, 1, 2, 3, 4, 5, 6, 7, 8, 9, 10, 11] (by decide +kernel) rfl⟩, hS.F ht⟩) hS.2.2 dX12_mean_38
    · refine lv_if_eq (tgt := 35) hx hb dX12_mean_16 (by decide +kernel) (fun _ => ?_) (fun c9 => absurd c9 (by decide +kernel))
      refine lv_ldc2 (v := (-4611686018427387906)) hx hb hown (hts (.constantLong RX12 183 (-4611686018427387906)) (List.mem_of_getElem? (i := 2) rfl)) dX12_mean_35 ?_
      exact W.lret hx hb hr (fun t ht hW => ⟨⟨_, (g0, g1, g4), rfl, ⟨(show meanQ l9 (VALW l9 f1 f2 f3 f4 f5) n0 x1 x2 x3 x4 ((-4611686018427387906) : Int64) from (Or.inl ⟨(fun h9 => by obtain ⟨⟨h1, h2, h3⟩, h4, h5⟩ := h9; omega), (by decide +kernel)⟩)), hst⟩, by rw [ht]; exact hP.sub [0, 1, 2, 3, 4, 5, 6, 7, 8, 9, 10, 11] rfl, hD.sub [0, 1, 2, 3, 4, 5, 6, 7, 8, 9, 10, 11] (by decide +kernel) rfl⟩, hS.F ht⟩) hS.2.2 dX12_mean_38
  · refine lv_if_eq (tgt := 35) hx hb dX12_mean_8 (by decide +kernel) (fun _ => ?_) (fun c9 => absurd c9 (by decide +kernel))
    refine lv_ldc2 (v := (-4611686018427387906)) hx hb hown (hts (.constantLong RX12 183 (-4611686018427387906)) (List.mem_of_getElem? (i := 2) rfl)) dX12_mean_35 ?_
    exact W.lret hx hb hr (fun t ht hW => ⟨⟨_, (g0, g1, g4), rfl, ⟨(show meanQ l9 (VALW l9 f1 f2 f3 f4 f5) n0 x1 x2 x3 x4 ((-4611686018427387906) : Int64) from (Or.inl ⟨(fun h9 => by obtain ⟨⟨h1, h2, h3⟩, h4, h5⟩ := h9; omega), (by decide +kernel)⟩)), hst⟩, by rw [ht]; exact hP.sub [0, 1, 2, 3, 4, 5, 6, 7, 8, 9, 10, 11] rfl, hD.sub [0, 1, 2, 3, 4, 5, 6, 7, 8, 9, 10, 11] (by decide +kernel) rfl⟩, hS.F ht⟩) hS.2.2 dX12_mean_38
theorem dX12_chosen_0 : decode cX12_chosen 0 = .ok (.aload_n 0, 1) := by decide +kernel
theorem dX12_chosen_1 : decode cX12_chosen 1 = .ok (.getfield 32, 3) := by decide +kernel
theorem dX12_chosen_11 : decode cX12_chosen 11 = .ok (.iload_n 2, 1) := by decide +kernel
theorem dX12_chosen_12 : decode cX12_chosen 12 = .ok (.iload_n 3, 1) := by decide +kernel
theorem dX12_chosen_13 : decode cX12_chosen 13 = .ok (.invokestatic 108, 3) := by decide +kernel
theorem dX12_chosen_16 : decode cX12_chosen 16 = .ok (.ifCond .ne 6, 3) := by decide +kernel
theorem dX12_chosen_19 : decode cX12_chosen 19 = .ok (.bipush (-2), 2) := by decide +kernel
theorem dX12_chosen_21 : decode cX12_chosen 21 = .ok (.ireturn, 1) := by decide +kernel
theorem dX12_chosen_22 : decode cX12_chosen 22 = .ok (.aload_n 0, 1) := by decide +kernel
theorem dX12_chosen_23 : decode cX12_chosen 23 = .ok (.getfield 32, 3) := by decide +kernel
theorem dX12_chosen_26 : decode cX12_chosen 26 = .ok (.iload_n 1, 1) := by decide +kernel
theorem dX12_chosen_27 : decode cX12_chosen 27 = .ok (.invokevirtual 175, 3) := by decide +kernel
theorem dX12_chosen_30 : decode cX12_chosen 30 = .ok (.astore 4, 2) := by decide +kernel
theorem dX12_chosen_32 : decode cX12_chosen 32 = .ok (.aload 4, 2) := by decide +kernel
theorem dX12_chosen_34 : decode cX12_chosen 34 = .ok (.getstatic 231, 3) := by decide +kernel
theorem dX12_chosen_37 : decode cX12_chosen 37 = .ok (.if_acmp .eq 14, 3) := by decide +kernel
theorem dX12_chosen_4 : decode cX12_chosen 4 = .ok (.iload_n 1, 1) := by decide +kernel
theorem dX12_chosen_40 : decode cX12_chosen 40 = .ok (.aload 4, 2) := by decide +kernel
theorem dX12_chosen_42 : decode cX12_chosen 42 = .ok (.getstatic 235, 3) := by decide +kernel
theorem dX12_chosen_45 : decode cX12_chosen 45 = .ok (.if_acmp .eq 6, 3) := by decide +kernel
theorem dX12_chosen_48 : decode cX12_chosen 48 = .ok (.bipush (-2), 2) := by decide +kernel
theorem dX12_chosen_5 : decode cX12_chosen 5 = .ok (.invokevirtual 150, 3) := by decide +kernel
theorem dX12_chosen_50 : decode cX12_chosen 50 = .ok (.ireturn, 1) := by decide +kernel
theorem dX12_chosen_51 : decode cX12_chosen 51 = .ok (.iload_n 2, 1) := by decide +kernel
theorem dX12_chosen_52 : decode cX12_chosen 52 = .ok (.aload_n 0, 1) := by decide +kernel
theorem dX12_chosen_53 : decode cX12_chosen 53 = .ok (.getfield 32, 3) := by decide +kernel
theorem dX12_chosen_56 : decode cX12_chosen 56 = .ok (.getfield 166, 3) := by decide +kernel
theorem dX12_chosen_59 : decode cX12_chosen 59 = .ok (.iload_n 1, 1) := by decide +kernel
theorem dX12_chosen_60 : decode cX12_chosen 60 = .ok (.iaload, 1) := by decide +kernel
theorem dX12_chosen_61 : decode cX12_chosen 61 = .ok (.if_icmp .le 6, 3) := by decide +kernel
theorem dX12_chosen_64 : decode cX12_chosen 64 = .ok (.bipush (-3), 2) := by decide +kernel
theorem dX12_chosen_66 : decode cX12_chosen 66 = .ok (.ireturn, 1) := by decide +kernel
theorem dX12_chosen_67 : decode cX12_chosen 67 = .ok (.aload_n 0, 1) := by decide +kernel
theorem dX12_chosen_68 : decode cX12_chosen 68 = .ok (.getfield 43, 3) := by decide +kernel
theorem dX12_chosen_71 : decode cX12_chosen 71 = .ok (.iload_n 1, 1) := by decide +kernel
theorem dX12_chosen_72 : decode cX12_chosen 72 = .ok (.iload_n 2, 1) := by decide +kernel
theorem dX12_chosen_73 : decode cX12_chosen 73 = .ok (.iload_n 3, 1) := by decide +kernel
theorem dX12_chosen_74 : decode cX12_chosen 74 = .ok (.invokevirtual 238, 3) := by decide +kernel
theorem dX12_chosen_77 : decode cX12_chosen 77 = .ok (.ireturn, 1) := by decide +kernel
theorem dX12_chosen_8 : decode cX12_chosen 8 = .ok (.ifCond .eq 11, 3) := by decide +kernel
set_option maxRecDepth 40000 in
theorem ggX12_chosen_X11_picked_0 : GoodIn wsX12_chosen [.code yX11_picked cX11_picked 10 (some .int)] := goodIn_r _ [31] rfl (by decide +kernel)
set_option maxRecDepth 40000 in
theorem ggX12_chosen_X11_picked_1 : GoodIn wsX12_chosen wsX11_picked_r1 := goodIn_r _ [32, 33, 34, 35, 36, 37, 38, 39, 40, 41, 42, 23, 24, 9, 25, 26, 43, 44, 45, 46, 47, 48, 49, 50] rfl (by decide +kernel)
set_option maxRecDepth 40000 in
theorem ggX12_chosen_X11_picked_2 : GoodIn wsX12_chosen wsX11_picked_r2 := goodIn_r _ [51, 52, 53, 30, 54, 55, 56, 57, 58, 59, 60, 61, 62, 63, 64, 65, 66, 67, 68, 69, 70, 71, 72, 73] rfl (by decide +kernel)
set_option maxRecDepth 40000 in
theorem ggX12_chosen_X11_picked_3 : GoodIn wsX12_chosen wsX11_picked_r3 := goodIn_r _ [74, 75, 76, 77, 78, 79, 80, 81, 82, 83, 84, 85, 86, 87, 88, 89, 90, 91, 92, 93, 94, 95, 96, 97] rfl (by decide +kernel)
set_option maxRecDepth 40000 in
theorem ggX12_chosen_X11_picked_4 : GoodIn wsX12_chosen wsX11_picked_r4 := goodIn_r _ [98, 99, 100, 101, 102, 103, 104, 105, 106, 107, 108, 109, 110, 111, 112, 113, 114, 115, 116, 117, 118, 119, 120, 121] rfl (by decide +kernel)
set_option maxRecDepth 40000 in
theorem ggX12_chosen_X11_picked_5 : GoodIn wsX12_chosen wsX11_picked_r5 := goodIn_r _ [122, 123, 124, 125, 126, 127, 128, 28, 29] rfl (by decide +kernel)
set_option maxRecDepth 40000 in
theorem ggX12_chosen_X11_picked_6 : GoodIn wsX12_chosen wsX110 := goodIn_r _ [148, 149, 150, 151, 152, 153] rfl (by decide +kernel)
set_option maxRecDepth 40000 in
theorem ggX12_chosen_X11_picked_7 : GoodIn wsX12_chosen wsX80 := goodIn_r _ [154, 155, 156, 157, 158, 159, 160] rfl (by decide +kernel)
set_option maxRecDepth 40000 in
theorem ggX12_chosen_X11_picked_8 : GoodIn wsX12_chosen wsX20 := goodIn_r _ [140, 141, 142, 143, 144, 145, 146, 147] rfl (by decide +kernel)
set_option maxRecDepth 40000 in
theorem ggX12_chosen_X11_picked : GoodIn wsX12_chosen wsX11_picked := (goodIn_app ggX12_chosen_X11_picked_0 (goodIn_app (goodIn_app (goodIn_app (goodIn_app ggX12_chosen_X11_picked_1 (goodIn_app ggX12_chosen_X11_picked_2 (goodIn_app ggX12_chosen_X11_picked_3 (goodIn_app ggX12_chosen_X11_picked_4 ggX12_chosen_X11_picked_5)))) ggX12_chosen_X11_picked_6) ggX12_chosen_X11_picked_7) ggX12_chosen_X11_picked_8))
set_option maxRecDepth 20000 in
theorem ggX12_chosen_X12_isSpot : GoodIn wsX12_chosen wsX12_isSpot := goodIn_r _ [17, 18, 19, 13, 20, 21, 12, 14] rfl (by decide +kernel)
set_option maxRecDepth 20000 in
theorem ggX12_chosen_X2_has : GoodIn wsX12_chosen wsX2_has := goodIn_r _ [10, 11, 12, 13, 14, 140, 141, 142, 143, 144, 145, 146, 147] rfl (by decide +kernel)
set_option maxRecDepth 20000 in
theorem ggX12_chosen_X2_kindOf : GoodIn wsX12_chosen wsX2_kindOf := goodIn_r _ [25, 26, 140, 141, 142, 143, 144, 145, 146, 147] rfl (by decide +kernel)
set_option maxRecDepth 20000 in
theorem gX12_chosen_X11_picked : GoodIn wsX12_chosen (wsV RX12 238 RX11 yX11_picked wsX11_picked) := goodIn_app (goodIn_r _ [27, 28, 29, 30] rfl (by decide +kernel)) ggX12_chosen_X11_picked
set_option maxRecDepth 20000 in
theorem gX12_chosen_X12_isSpot : GoodIn wsX12_chosen (va_wsS RX12 108 yX12_isSpot wsX12_isSpot) := goodIn_app (goodIn_of _ (by decide +kernel)) ggX12_chosen_X12_isSpot
set_option maxRecDepth 20000 in
theorem gX12_chosen_X2_has : GoodIn wsX12_chosen (wsV RX12 150 RX2 yX2_has wsX2_has) := goodIn_app (goodIn_r _ [6, 7, 8, 9] rfl (by decide +kernel)) ggX12_chosen_X2_has
set_option maxRecDepth 20000 in
theorem gX12_chosen_X2_kindOf : GoodIn wsX12_chosen (wsV RX12 175 RX2 yX2_kindOf wsX2_kindOf) := goodIn_app (goodIn_r _ [22, 23, 24, 9] rfl (by decide +kernel)) ggX12_chosen_X2_kindOf
set_option maxRecDepth 20000 in
theorem in_X12_chosen_X12 : ∀ w ∈ wsX120, w ∈ wsX12_chosen := sub_r [129, 130, 131, 132, 133, 134, 135, 136, 137, 138, 139] rfl
set_option maxRecDepth 20000 in
theorem in_X12_chosen_X2 : ∀ w ∈ wsX20, w ∈ wsX12_chosen := sub_r [140, 141, 142, 143, 144, 145, 146, 147] rfl
set_option maxHeartbeats 4000000 in
set_option maxRecDepth 100000 in
theorem c_X12_chosen (l : Launch) (D : va_G) (T : Nat → ClassId) (ad sa av : Nat → Nat) (ta : Nat) (sz : Nat) (h0 : Nat) (wo : Nat) (fs0 : List Value) (la : Nat) (cl : Nat) (p0 : Nat) (p1 : Nat) (p4 : Nat) (n : Int32) (l9 : Nat → Int32) (n0 : Int32) (c1 : Nat) (c2 : Nat) (c3 : Nat) (c4 : Nat) (c5 : Nat) (c6 : Nat) (c7 : Nat) (f1 : Nat → Int32) (f2 : Nat → Int32) (f3 : Nat → Int32) (f4 : Nat → Int32) (f5 : Nat → Int32) (g0 : Nat → Int64) (g1 : Nat → Int64) (g4 : Nat → Int32) (x1 : Int32) (x2 : Int32) (x3 : Int32) (e0_4 : fs0[4]? = some (.ref cl)) (e0_6 : fs0[6]? = some (.ref wo)) (hn0 : 0 ≤ n0.toInt ∧ n0.toInt ≤ 24) (hok : okC f1 f3 f4 f5) (hmm : memW (VALW l9 f1 f2 f3 f4 f5) n0 n g0 g1 g4) (hlq : (1 ≤ (l9 4).toInt ∧ (l9 4).toInt ≤ 9) ∧ 1 ≤ (l9 6).toInt ∧ (l9 6).toInt ≤ 9) : Met l yX12_chosen wsX12_chosen ({ frames := 68, cells := 0, slots := 0, locals := 2229 }) (pWk [.ref h0, .int x1, .int x2, .int x3] D T [(h0, .inr (9, fs0)), (wo, .inr (8, [.ref la, .ref cl, .ref p0, .ref p1, .ref p4, .int n])), (la, .inr (5, [.int (l9 0), .int (l9 1), .int (l9 2), .int (l9 3), .int (l9 4), .int (l9 5), .int (l9 6)])), (cl, .inr (1, [.int n0, .ref c1, .ref c2, .ref c3, .ref c4, .ref c5, .ref c6, .ref c7])), (c1, .inl (T 0, 24, .inl f1)), (c2, .inl (T 0, 24, .inl f2)), (c3, .inl (T 0, 24, .inl f3)), (c4, .inl (T 0, 24, .inl f4)), (c5, .inl (T 0, 24, .inl f5)), (p0, .inl (T 1, 676, .inr (.inl g0))), (p1, .inl (T 1, 676, .inr (.inl g1))), (p4, .inl (T 0, 672, .inl g4))] sz ad sa av ta) (va_Qi (fun (r : Int32) (u : (Nat → Int64) × (Nat → Int64) × (Nat → Int32)) => chQ l9 f1 f2 f3 f4 f5 (VALW l9 f1 f2 f3 f4 f5) n0 x1 x2 x3 r ∧ stW (VALW l9 f1 f2 f3 f4 f5) n0 n (fun _ => True) g0 g1 g4 u.1 u.2.1 u.2.2) (bW D (va_A [(h0, .inr (9, fs0)), (wo, .inr (8, [.ref la, .ref cl, .ref p0, .ref p1, .ref p4, .int n])), (la, .inr (5, [.int (l9 0), .int (l9 1), .int (l9 2), .int (l9 3), .int (l9 4), .int (l9 5), .int (l9 6)])), (cl, .inr (1, [.int n0, .ref c1, .ref c2, .ref c3, .ref c4, .ref c5, .ref c6, .ref c7])), (c1, .inl (T 0, 24, .inl f1)), (c2, .inl (T 0, 24, .inl f2)), (c3, .inl (T 0, 24, .inl f3)), (c4, .inl (T 0, 24, .inl f4)), (c5, .inl (T 0, 24, .inl f5)), (p0, .inl (T 1, 676, .inr (.inl g0))), (p1, .inl (T 1, 676, .inr (.inl g1))), (p4, .inl (T 0, 672, .inl g4))] sz) (fun (u : (Nat → Int64) × (Nat → Int64) × (Nat → Int32)) => [(h0, .inr (9, fs0)), (wo, .inr (8, [.ref la, .ref cl, .ref p0, .ref p1, .ref p4, .int n])), (la, .inr (5, [.int (l9 0), .int (l9 1), .int (l9 2), .int (l9 3), .int (l9 4), .int (l9 5), .int (l9 6)])), (cl, .inr (1, [.int n0, .ref c1, .ref c2, .ref c3, .ref c4, .ref c5, .ref c6, .ref c7])), (c1, .inl (T 0, 24, .inl f1)), (c2, .inl (T 0, 24, .inl f2)), (c3, .inl (T 0, 24, .inl f3)), (c4, .inl (T 0, 24, .inl f4)), (c5, .inl (T 0, 24, .inl f5)), (p0, .inl (T 1, 676, .inr (.inl u.1))), (p1, .inl (T 1, 676, .inr (.inl u.2.1))), (p4, .inl (T 0, 672, .inl u.2.2))])) (va_A [(h0, .inr (9, fs0)), (wo, .inr (8, [.ref la, .ref cl, .ref p0, .ref p1, .ref p4, .int n])), (la, .inr (5, [.int (l9 0), .int (l9 1), .int (l9 2), .int (l9 3), .int (l9 4), .int (l9 5), .int (l9 6)])), (cl, .inr (1, [.int n0, .ref c1, .ref c2, .ref c3, .ref c4, .ref c5, .ref c6, .ref c7])), (c1, .inl (T 0, 24, .inl f1)), (c2, .inl (T 0, 24, .inl f2)), (c3, .inl (T 0, 24, .inl f3)), (c4, .inl (T 0, 24, .inl f4)), (c5, .inl (T 0, 24, .inl f5)), (p0, .inl (T 1, 676, .inr (.inl g0))), (p1, .inl (T 1, 676, .inr (.inl g1))), (p4, .inl (T 0, 672, .inl g4))] sz)) 0 0 (va_A [(h0, .inr (9, fs0)), (wo, .inr (8, [.ref la, .ref cl, .ref p0, .ref p1, .ref p4, .int n])), (la, .inr (5, [.int (l9 0), .int (l9 1), .int (l9 2), .int (l9 3), .int (l9 4), .int (l9 5), .int (l9 6)])), (cl, .inr (1, [.int n0, .ref c1, .ref c2, .ref c3, .ref c4, .ref c5, .ref c6, .ref c7])), (c1, .inl (T 0, 24, .inl f1)), (c2, .inl (T 0, 24, .inl f2)), (c3, .inl (T 0, 24, .inl f3)), (c4, .inl (T 0, 24, .inl f4)), (c5, .inl (T 0, 24, .inl f5)), (p0, .inl (T 1, 676, .inr (.inl g0))), (p1, .inl (T 1, 676, .inr (.inl g1))), (p4, .inl (T 0, 672, .inl g4))] sz) := by
  refine Met.ofW (cc := cX12_chosen) (maxL := 5) (ret := (some .int)) (by decide +kernel) rfl ?_
  intro p e s m args below meth c s₁ B hml hv
  obtain ⟨rfl, hsz, hP, hE, hD0, hV⟩ := hv
  have hx := B.exec
  have hb := B.bytes
  have hr := B.returns
  have hts := atoms_spec (ws := wsX12_chosen) B.pre
  have hown : s.vm.findClass RX12 = some m.cls := findClass_of_methodNamed B.named
  have hlocks := B.notSynchronized
  subst hsz
  have hD := hD0.self (sz := s.heap.size)
  generalize hAe : va_A [(h0, .inr (9, fs0)), (wo, .inr (8, [.ref la, .ref cl, .ref p0, .ref p1, .ref p4, .int n])), (la, .inr (5, [.int (l9 0), .int (l9 1), .int (l9 2), .int (l9 3), .int (l9 4), .int (l9 5), .int (l9 6)])), (cl, .inr (1, [.int n0, .ref c1, .ref c2, .ref c3, .ref c4, .ref c5, .ref c6, .ref c7])), (c1, .inl (T 0, 24, .inl f1)), (c2, .inl (T 0, 24, .inl f2)), (c3, .inl (T 0, 24, .inl f3)), (c4, .inl (T 0, 24, .inl f4)), (c5, .inl (T 0, 24, .inl f5)), (p0, .inl (T 1, 676, .inr (.inl g0))), (p1, .inl (T 1, 676, .inr (.inl g1))), (p4, .inl (T 0, 672, .inl g4))] s.heap.size = A at hD hV ⊢
  have hA : ∀ q : Nat, s.heap.size ≤ q → A q := fun q h => by rw [← hAe]; exact Or.inr h
  have hS : va_S A s.heap s.heap [] := va_S.rf
  have hP : va_P D vwCl [(h0, .inr (9, fs0)), (wo, .inr (8, [.ref la, .ref cl, .ref p0, .ref p1, .ref p4, .int n])), (la, .inr (5, [.int (l9 0), .int (l9 1), .int (l9 2), .int (l9 3), .int (l9 4), .int (l9 5), .int (l9 6)])), (cl, .inr (1, [.int n0, .ref c1, .ref c2, .ref c3, .ref c4, .ref c5, .ref c6, .ref c7])), (c1, .inl (T 0, 24, .inl f1)), (c2, .inl (T 0, 24, .inl f2)), (c3, .inl (T 0, 24, .inl f3)), (c4, .inl (T 0, 24, .inl f4)), (c5, .inl (T 0, 24, .inl f5)), (p0, .inl (T 1, 676, .inr (.inl g0))), (p1, .inl (T 1, 676, .inr (.inl g1))), (p4, .inl (T 0, 672, .inl g4))] s.heap := hP
  have hl := lv_entry ([.ref h0, .int x1, .int x2, .int x3]) (n := 5) (Nat.le_of_ble_eq_true rfl)
  rw [lg_entry_eq]
  generalize (lg_sl ([.ref h0, .int x1, .int x2, .int x3]) ++ List.replicate (5 - (lg_sl ([.ref h0, .int x1, .int x2, .int x3])).length) Slot.unset).toArray = ls at hl ⊢
  have hl : lv_has ls 5 [(0, .ref h0), (1, .int x1), (2, .int x2), (3, .int x3)] := hl
  clear hD0
  have hst : stW (VALW l9 f1 f2 f3 f4 f5) n0 n (fun _ => True) g0 g1 g4 g0 g1 g4 := stW_rf hmm
  refine lv_aload_n hx hb dX12_chosen_0 rfl (lv_at hl 0 rfl) ?_
  refine va_get (D := D) (ci := 9) (v := .ref cl) (C := RX12) (T := TX12) (N := 11) hx hb hts in_X12_chosen_X12 hown hE.1 hP 0 rfl rfl 4 (by decide +kernel) (hts (.fieldLink RX12 32 "ClauseBook" "clauses" "LClauseBook$Clauses;") (List.mem_of_getElem? (i := 1) rfl)) (fun _ h9 => h9) e0_4 dX12_chosen_1 ?_
  refine lv_iload_n hx hb dX12_chosen_4 rfl (lv_at hl 1 rfl) ?_
  refine vp_callSi (W.runV (As := [.int x1]) (rest := []) ⟨hx, hb, hml, hown, hts⟩ (c_X2_has l D T cl [.int n0, .ref c1, .ref c2, .ref c3, .ref c4, .ref c5, .ref c6, .ref c7] x1 n0 rfl (by omega)) (cwV 1 hts gX12_chosen_X2_has rfl rfl rfl hv_X2_has ⟨Nat.le_of_ble_eq_true rfl, Nat.le_of_ble_eq_true rfl⟩) (pR_V (q := (RX2, TX2, 8)) (ci := 1) (q0 := 3) hP hE rfl rfl [3] rfl) rfl rfl hl.1 rfl (lv_room (Nat.le_of_ble_eq_true rfl)) dX12_chosen_5 ⟨Nat.le_of_ble_eq_true rfl, Nat.le_of_ble_eq_true rfl⟩) (fun r_1 hr_1 => ?_)
  rcases bool_post hr_1 with ⟨c_2, rfl⟩ | ⟨c_2, rfl⟩
  · refine lv_if_eq (tgt := 19) hx hb dX12_chosen_8 (by decide +kernel) (fun c9 => absurd c9 (by decide +kernel)) (fun _ => ?_)
    refine lv_iload_n hx hb dX12_chosen_11 rfl (lv_at hl 2 rfl) ?_
    refine lv_iload_n hx hb dX12_chosen_12 rfl (lv_at hl 3 rfl) ?_
    refine vp_callSi (W.runS (As := [.int x2, .int x3]) (rest := []) ⟨hx, hb, hml, hown, hts⟩ (c_X12_isSpot l D T x2 x3) (va_cwS 2 hts gX12_chosen_X12_isSpot rfl rfl rfl hs_X12_isSpot ⟨Nat.le_of_ble_eq_true rfl, Nat.le_of_ble_eq_true rfl⟩) (pR_S hP hE [] rfl) rfl rfl hl.1 rfl (lv_room (Nat.le_of_ble_eq_true rfl)) dX12_chosen_13 ⟨Nat.le_of_ble_eq_true rfl, Nat.le_of_ble_eq_true rfl⟩) (fun r_3 hr_3 => ?_)
    rcases bool_post hr_3 with ⟨c_4, rfl⟩ | ⟨c_4, rfl⟩
    · refine lv_if_ne (tgt := 22) hx hb dX12_chosen_16 (by decide +kernel) (fun _ => ?_) (fun c9 => absurd c9 (by decide +kernel))
      refine lv_aload_n hx hb dX12_chosen_22 rfl (lv_at hl 0 rfl) ?_
      refine va_get (D := D) (ci := 9) (v := .ref cl) (C := RX12) (T := TX12) (N := 11) hx hb hts in_X12_chosen_X12 hown hE.1 hP 0 rfl rfl 4 (by decide +kernel) (hts (.fieldLink RX12 32 "ClauseBook" "clauses" "LClauseBook$Clauses;") (List.mem_of_getElem? (i := 1) rfl)) (fun _ h9 => h9) e0_4 dX12_chosen_23 ?_
      refine lv_iload_n hx hb dX12_chosen_26 rfl (lv_at hl 1 rfl) ?_
      refine va_cse (W.runV (As := [.int x1]) (rest := []) ⟨hx, hb, hml, hown, hts⟩ (c_X2_kindOf l D T ad sa av ta cl [.int n0, .ref c1, .ref c2, .ref c3, .ref c4, .ref c5, .ref c6, .ref c7] c1 f1 x1 rfl (by omega) ((hok _ (in24 (x := x1) (by omega)).1).1)) (cwV 1 hts gX12_chosen_X2_kindOf rfl rfl rfl hv_X2_kindOf ⟨Nat.le_of_ble_eq_true rfl, Nat.le_of_ble_eq_true rfl⟩) (pRk_V (q := (RX2, TX2, 8)) (ci := 1) (q0 := 3) hP hE hV hS rfl rfl [3, 4] rfl) rfl rfl hl.1 rfl (lv_room (Nat.le_of_ble_eq_true rfl)) dX12_chosen_27 ⟨Nat.le_of_ble_eq_true rfl, Nat.le_of_ble_eq_true rfl⟩) (fun r_5 hr_5 => ?_)
      subst hr_5
      refine W.eq (g2 := F0 m 30 ls [.ref (ad ((f1 (x1.toNatClampNeg)).toNatClampNeg))]) rfl ?_
      refine lv_astore (lv' := [(4, .ref (ad ((f1 (x1.toNatClampNeg)).toNatClampNeg))), (0, .ref h0), (1, .int x1), (2, .int x2), (3, .int x3)]) hx hb dX12_chosen_30 hl (by decide +kernel) rfl (fun ls hl => ?_)
      refine lv_aload hx hb dX12_chosen_32 (lv_at hl 0 rfl) ?_
      refine va_gets (v := .ref (ad 6)) hx hb (hV.1.1.1 6 (by decide +kernel)).1 hS hown (hts (.fieldLink RX12 231 "ClauseBook$Kind" "BETTER" "LClauseBook$Kind;") (List.mem_of_getElem? (i := 2) rfl)) (fun _ h9 => h9) dX12_chosen_34 ?_
      refine lv_acmp_eq (rx := some (ad ((f1 (x1.toNatClampNeg)).toNatClampNeg))) (ry := some (ad 6)) (tgt := 51) hx hb dX12_chosen_37 (by decide +kernel) (fun c_6 => ?_) (fun c_6 => ?_)
      · have hkc : ((f1 (x1.toNatClampNeg)).toNatClampNeg) = 6 := (hV.1.1.2 _ 6 (in13c ((hok _ (in24 (x := x1) (by omega)).1).1)) (by decide +kernel) (Option.some.inj c_6))
        refine lv_iload_n hx hb dX12_chosen_51 rfl (lv_at hl 3 rfl) ?_
        refine lv_aload_n hx hb dX12_chosen_52 rfl (lv_at hl 1 rfl) ?_
        refine va_get (D := D) (ci := 9) (v := .ref cl) (C := RX12) (T := TX12) (N := 11) hx hb hts in_X12_chosen_X12 hown hE.1 hP 0 rfl rfl 4 (by decide +kernel) (hts (.fieldLink RX12 32 "ClauseBook" "clauses" "LClauseBook$Clauses;") (List.mem_of_getElem? (i := 1) rfl)) (fun _ h9 => h9) e0_4 dX12_chosen_53 ?_
        refine va_get (D := D) (ci := 1) (v := .ref c5) (C := RX2) (T := TX2) (N := 8) hx hb hts in_X12_chosen_X2 hown hE.1 hP 3 rfl rfl 5 (by decide +kernel) (hts (.fieldLink RX12 166 "ClauseBook$Clauses" "end" "[I") (List.mem_of_getElem? (i := 4) rfl)) (fun _ h9 => h9) rfl dX12_chosen_56 ?_
        refine lv_iload_n hx hb dX12_chosen_59 rfl (lv_at hl 2 rfl) ?_
        refine va_iald hx hb hE.1 hP 8 0 rfl rfl (by rw [vp_in_iff]; first | omega | (subst_vars; omega)) dX12_chosen_60 ?_
        refine lv_topi (fun z_7 ez_7 => ?_)
        have hzz_7 : z_7.toInt = (f5 (x1.toNatClampNeg)).toInt := by rw [ez_7]
        refine lv_icmp_le (tgt := 67) hx hb dX12_chosen_61 (by decide +kernel) (fun c_8 => ?_) (fun c_8 => ?_)
        · rw [fa_le] at c_8
          refine lv_aload_n hx hb dX12_chosen_67 rfl (lv_at hl 1 rfl) ?_
          refine va_get (D := D) (ci := 9) (v := .ref wo) (C := RX12) (T := TX12) (N := 11) hx hb hts in_X12_chosen_X12 hown hE.1 hP 0 rfl rfl 6 (by decide +kernel) (hts (.fieldLink RX12 43 "ClauseBook" "worth" "LClauseBook$Worth;") (List.mem_of_getElem? (i := 5) rfl)) (fun _ h9 => h9) e0_6 dX12_chosen_68 ?_
          refine lv_iload_n hx hb dX12_chosen_71 rfl (lv_at hl 2 rfl) ?_
          refine lv_iload_n hx hb dX12_chosen_72 rfl (lv_at hl 3 rfl) ?_
          refine lv_iload_n hx hb dX12_chosen_73 rfl (lv_at hl 4 rfl) ?_
          have hFc := va_free (wc := [(wo, .inr (8, [.ref la, .ref cl, .ref p0, .ref p1, .ref p4, .int n])), (la, .inr (5, [.int (l9 0), .int (l9 1), .int (l9 2), .int (l9 3), .int (l9 4), .int (l9 5), .int (l9 6)])), (cl, .inr (1, [.int n0, .ref c1, .ref c2, .ref c3, .ref c4, .ref c5, .ref c6, .ref c7])), (c1, .inl (T 0, 24, .inl f1)), (c2, .inl (T 0, 24, .inl f2)), (c3, .inl (T 0, 24, .inl f3)), (c4, .inl (T 0, 24, .inl f4)), (c5, .inl (T 0, 24, .inl f5)), (p0, .inl (T 1, 676, .inr (.inl g0))), (p1, .inl (T 1, 676, .inr (.inl g1))), (p4, .inl (T 0, 672, .inl g4))]) hD hS hA [1, 2, 3, 4, 5, 6, 7, 8, 9, 10, 11] rfl
          refine va_calli (va_runV (As := [.int x1, .int x2, .int x3]) (rest := []) ⟨hx, hb, hml, hown, hts⟩ (s_X11_picked l D T ad sa av ta _ wo la cl p0 p1 p4 n l9 n0 c1 c2 c3 c4 c5 c6 c7 f1 f2 f3 f4 f5 g0 g1 g4 30 x1 x2 x3 (by omega) (by omega) (by omega) hok (by omega) hmm hlq (by omega) (by rw [hkc]; decide) (cS_all l D T ad sa av ta 30)) (cwV 3 hts gX12_chosen_X11_picked rfl rfl rfl hv_X11_picked ⟨Nat.le_of_ble_eq_true rfl, Nat.le_of_ble_eq_true rfl⟩) (pWk_V (q := (RX11, TX11, 6)) (ci := 8) (q0 := 1) hP hE hD hV hS hFc rfl rfl [1, 2, 3, 4, 5, 6, 7, 8, 9, 10, 11] (by decide +kernel) rfl rfl) rfl rfl hl.1 rfl (lv_room (Nat.le_of_ble_eq_true rfl)) dX12_chosen_74 ⟨Nat.le_of_ble_eq_true rfl, Nat.le_of_ble_eq_true rfl⟩) hS (fun q _ h => hFc q h) hFc (fun r_9 u_10 t H1 locs ht hvm hr_9 hB hz1 hk1 hS => ?_)
          obtain ⟨f_11, f_12, f_13⟩ := u_10
          obtain ⟨hqr_9, hpk_r_9, hstr_9⟩ := hr_9
          have hqr_9 : r_9.toInt = -5 ∨ (0 ≤ r_9.toInt ∧ r_9.toInt < x1.toInt) := hqr_9
          have hpk_r_9 : r_9 = pickW l9 f1 f2 f3 f4 f5 (VALW l9 f1 f2 f3 f4 f5) x1 x2 x3 := hpk_r_9
          have hsr_9 : stW (VALW l9 f1 f2 f3 f4 f5) n0 n (rgP x1) g0 g1 g4 f_11 f_12 f_13 := hstr_9
          have hst : stW (VALW l9 f1 f2 f3 f4 f5) n0 n (fun _ => True) g0 g1 g4 f_11 f_12 f_13 := hst.tr hsr_9 (fun _ _ => trivial)
          have hmm : memW (VALW l9 f1 f2 f3 f4 f5) n0 n f_11 f_12 f_13 := hst.1
          obtain ⟨hP1, hD1⟩ := hB
          rw [ht] at hP1
          obtain ⟨hP, hD⟩ := va_repl [(h0, .inr (9, fs0)), (wo, .inr (8, [.ref la, .ref cl, .ref p0, .ref p1, .ref p4, .int n])), (la, .inr (5, [.int (l9 0), .int (l9 1), .int (l9 2), .int (l9 3), .int (l9 4), .int (l9 5), .int (l9 6)])), (cl, .inr (1, [.int n0, .ref c1, .ref c2, .ref c3, .ref c4, .ref c5, .ref c6, .ref c7])), (c1, .inl (T 0, 24, .inl f1)), (c2, .inl (T 0, 24, .inl f2)), (c3, .inl (T 0, 24, .inl f3)), (c4, .inl (T 0, 24, .inl f4)), (c5, .inl (T 0, 24, .inl f5)), (p0, .inl (T 1, 676, .inr (.inl f_11))), (p1, .inl (T 1, 676, .inr (.inl f_12))), (p4, .inl (T 0, 672, .inl f_13))] hP hD [1, 2, 3, 4, 5, 6, 7, 8, 9, 10, 11] [1, 2, 3, 4, 5, 6, 7, 8, 9, 10, 11] rfl (by decide +kernel) rfl rfl rfl hk1 hP1
          clear hP1 hD1 hFc
          generalize H1 = H at hP hS ⊢
          exact W.iret hx hb hr (fun t ht hW => ⟨⟨_, (f_11, f_12, f_13), rfl, ⟨(show chQ l9 f1 f2 f3 f4 f5 (VALW l9 f1 f2 f3 f4 f5) n0 x1 x2 x3 r_9 from (Or.inr ⟨⟨⟨(by omega), (by omega), (by omega)⟩, (by rw [hkc]; decide)⟩, Or.inr ⟨(by omega), hpk_r_9⟩⟩)), hst⟩, by rw [ht]; exact hP.sub [0, 1, 2, 3, 4, 5, 6, 7, 8, 9, 10, 11] rfl, hD.sub [0, 1, 2, 3, 4, 5, 6, 7, 8, 9, 10, 11] (by decide +kernel) rfl⟩, hS.F ht⟩) hS.2.2 dX12_chosen_77
        · rw [fa_le] at c_8
          refine lv_bipush (v := (-3)) hx hb dX12_chosen_64 (by decide +kernel) ?_
          exact W.iret hx hb hr (fun t ht hW => ⟨⟨_, (g0, g1, g4), rfl, ⟨(show chQ l9 f1 f2 f3 f4 f5 (VALW l9 f1 f2 f3 f4 f5) n0 x1 x2 x3 ((-3) : Int32) from (Or.inr ⟨⟨⟨(by omega), (by omega), (by omega)⟩, (by rw [hkc]; decide)⟩, Or.inl ⟨(by omega), (by decide +kernel)⟩⟩)), hst⟩, by rw [ht]; exact hP.sub [0, 1, 2, 3, 4, 5, 6, 7, 8, 9, 10, 11] rfl, hD.sub [0, 1, 2, 3, 4, 5, 6, 7, 8, 9, 10, 11] (by decide +kernel) rfl⟩, hS.F ht⟩) hS.2.2 dX12_chosen_66
      · refine lv_aload hx hb dX12_chosen_40 (lv_at hl 0 rfl) ?_
        refine va_gets (v := .ref (ad 7)) hx hb (hV.1.1.1 7 (by decide +kernel)).1 hS hown (hts (.fieldLink RX12 235 "ClauseBook$Kind" "WORSE" "LClauseBook$Kind;") (List.mem_of_getElem? (i := 3) rfl)) (fun _ h9 => h9) dX12_chosen_42 ?_
        refine lv_acmp_eq (rx := some (ad ((f1 (x1.toNatClampNeg)).toNatClampNeg))) (ry := some (ad 7)) (tgt := 51) hx hb dX12_chosen_45 (by decide +kernel) (fun c_14 => ?_) (fun c_14 => ?_)
        · have hkc : ((f1 (x1.toNatClampNeg)).toNatClampNeg) = 7 := (hV.1.1.2 _ 7 (in13c ((hok _ (in24 (x := x1) (by omega)).1).1)) (by decide +kernel) (Option.some.inj c_14))
          refine lv_iload_n hx hb dX12_chosen_51 rfl (lv_at hl 3 rfl) ?_
          refine lv_aload_n hx hb dX12_chosen_52 rfl (lv_at hl 1 rfl) ?_
          refine va_get (D := D) (ci := 9) (v := .ref cl) (C := RX12) (T := TX12) (N := 11) hx hb hts in_X12_chosen_X12 hown hE.1 hP 0 rfl rfl 4 (by decide +kernel) (hts (.fieldLink RX12 32 "ClauseBook" "clauses" "LClauseBook$Clauses;") (List.mem_of_getElem? (i := 1) rfl)) (fun _ h9 => h9) e0_4 dX12_chosen_53 ?_
          refine va_get (D := D) (ci := 1) (v := .ref c5) (C := RX2) (T := TX2) (N := 8) hx hb hts in_X12_chosen_X2 hown hE.1 hP 3 rfl rfl 5 (by decide +kernel) (hts (.fieldLink RX12 166 "ClauseBook$Clauses" "end" "[I") (List.mem_of_getElem? (i := 4) rfl)) (fun _ h9 => h9) rfl dX12_chosen_56 ?_
          refine lv_iload_n hx hb dX12_chosen_59 rfl (lv_at hl 2 rfl) ?_
          refine va_iald hx hb hE.1 hP 8 0 rfl rfl (by rw [vp_in_iff]; first | omega | (subst_vars; omega)) dX12_chosen_60 ?_
          refine lv_topi (fun z_15 ez_15 => ?_)
          have hzz_15 : z_15.toInt = (f5 (x1.toNatClampNeg)).toInt := by rw [ez_15]
          refine lv_icmp_le (tgt := 67) hx hb dX12_chosen_61 (by decide +kernel) (fun c_16 => ?_) (fun c_16 => ?_)
          · rw [fa_le] at c_16
            refine lv_aload_n hx hb dX12_chosen_67 rfl (lv_at hl 1 rfl) ?_
            refine va_get (D := D) (ci := 9) (v := .ref wo) (C := RX12) (T := TX12) (N := 11) hx hb hts in_X12_chosen_X12 hown hE.1 hP 0 rfl rfl 6 (by decide +kernel) (hts (.fieldLink RX12 43 "ClauseBook" "worth" "LClauseBook$Worth;") (List.mem_of_getElem? (i := 5) rfl)) (fun _ h9 => h9) e0_6 dX12_chosen_68 ?_
            refine lv_iload_n hx hb dX12_chosen_71 rfl (lv_at hl 2 rfl) ?_
            refine lv_iload_n hx hb dX12_chosen_72 rfl (lv_at hl 3 rfl) ?_
            refine lv_iload_n hx hb dX12_chosen_73 rfl (lv_at hl 4 rfl) ?_
            have hFc := va_free (wc := [(wo, .inr (8, [.ref la, .ref cl, .ref p0, .ref p1, .ref p4, .int n])), (la, .inr (5, [.int (l9 0), .int (l9 1), .int (l9 2), .int (l9 3), .int (l9 4), .int (l9 5), .int (l9 6)])), (cl, .inr (1, [.int n0, .ref c1, .ref c2, .ref c3, .ref c4, .ref c5, .ref c6, .ref c7])), (c1, .inl (T 0, 24, .inl f1)), (c2, .inl (T 0, 24, .inl f2)), (c3, .inl (T 0, 24, .inl f3)), (c4, .inl (T 0, 24, .inl f4)), (c5, .inl (T 0, 24, .inl f5)), (p0, .inl (T 1, 676, .inr (.inl g0))), (p1, .inl (T 1, 676, .inr (.inl g1))), (p4, .inl (T 0, 672, .inl g4))]) hD hS hA [1, 2, 3, 4, 5, 6, 7, 8, 9, 10, 11] rfl
            refine va_calli (va_runV (As := [.int x1, .int x2, .int x3]) (rest := []) ⟨hx, hb, hml, hown, hts⟩ (s_X11_picked l D T ad sa av ta _ wo la cl p0 p1 p4 n l9 n0 c1 c2 c3 c4 c5 c6 c7 f1 f2 f3 f4 f5 g0 g1 g4 30 x1 x2 x3 (by omega) (by omega) (by omega) hok (by omega) hmm hlq (by omega) (by rw [hkc]; decide) (cS_all l D T ad sa av ta 30)) (cwV 3 hts gX12_chosen_X11_picked rfl rfl rfl hv_X11_picked ⟨Nat.le_of_ble_eq_true rfl, Nat.le_of_ble_eq_true rfl⟩) (pWk_V (q := (RX11, TX11, 6)) (ci := 8) (q0 := 1) hP hE hD hV hS hFc rfl rfl [1, 2, 3, 4, 5, 6, 7, 8, 9, 10, 11] (by decide +kernel) rfl rfl) rfl rfl hl.1 rfl (lv_room (Nat.le_of_ble_eq_true rfl)) dX12_chosen_74 ⟨Nat.le_of_ble_eq_true rfl, Nat.le_of_ble_eq_true rfl⟩) hS (fun q _ h => hFc q h) hFc (fun r_17 u_18 t H1 locs ht hvm hr_17 hB hz1 hk1 hS => ?_)
            obtain ⟨f_19, f_20, f_21⟩ := u_18
            obtain ⟨hqr_17, hpk_r_17, hstr_17⟩ := hr_17
            have hqr_17 : r_17.toInt = -5 ∨ (0 ≤ r_17.toInt ∧ r_17.toInt < x1.toInt) := hqr_17
            have hpk_r_17 : r_17 = pickW l9 f1 f2 f3 f4 f5 (VALW l9 f1 f2 f3 f4 f5) x1 x2 x3 := hpk_r_17
            have hsr_17 : stW (VALW l9 f1 f2 f3 f4 f5) n0 n (rgP x1) g0 g1 g4 f_19 f_20 f_21 := hstr_17
            have hst : stW (VALW l9 f1 f2 f3 f4 f5) n0 n (fun _ => True) g0 g1 g4 f_19 f_20 f_21 := hst.tr hsr_17 (fun _ _ => trivial)
            have hmm : memW (VALW l9 f1 f2 f3 f4 f5) n0 n f_19 f_20 f_21 := hst.1
            obtain ⟨hP1, hD1⟩ := hB
            rw [ht] at hP1
            obtain ⟨hP, hD⟩ := va_repl [(h0, .inr (9, fs0)), (wo, .inr (8, [.ref la, .ref cl, .ref p0, .ref p1, .ref p4, .int n])), (la, .inr (5, [.int (l9 0), .int (l9 1), .int (l9 2), .int (l9 3), .int (l9 4), .int (l9 5), .int (l9 6)])), (cl, .inr (1, [.int n0, .ref c1, .ref c2, .ref c3, .ref c4, .ref c5, .ref c6, .ref c7])), (c1, .inl (T 0, 24, .inl f1)), (c2, .inl (T 0, 24, .inl f2)), (c3, .inl (T 0, 24, .inl f3)), (c4, .inl (T 0, 24, .inl f4)), (c5, .inl (T 0, 24, .inl f5)), (p0, .inl (T 1, 676, .inr (.inl f_19))), (p1, .inl (T 1, 676, .inr (.inl f_20))), (p4, .inl (T 0, 672, .inl f_21))] hP hD [1, 2, 3, 4, 5, 6, 7, 8, 9, 10, 11] [1, 2, 3, 4, 5, 6, 7, 8, 9, 10, 11] rfl (by decide +kernel) rfl rfl rfl hk1 hP1
            clear hP1 hD1 hFc
            generalize H1 = H at hP hS ⊢
            exact W.iret hx hb hr (fun t ht hW => ⟨⟨_, (f_19, f_20, f_21), rfl, ⟨(show chQ l9 f1 f2 f3 f4 f5 (VALW l9 f1 f2 f3 f4 f5) n0 x1 x2 x3 r_17 from (Or.inr ⟨⟨⟨(by omega), (by omega), (by omega)⟩, (by rw [hkc]; decide)⟩, Or.inr ⟨(by omega), hpk_r_17⟩⟩)), hst⟩, by rw [ht]; exact hP.sub [0, 1, 2, 3, 4, 5, 6, 7, 8, 9, 10, 11] rfl, hD.sub [0, 1, 2, 3, 4, 5, 6, 7, 8, 9, 10, 11] (by decide +kernel) rfl⟩, hS.F ht⟩) hS.2.2 dX12_chosen_77
          · rw [fa_le] at c_16
            refine lv_bipush (v := (-3)) hx hb dX12_chosen_64 (by decide +kernel) ?_
            exact W.iret hx hb hr (fun t ht hW => ⟨⟨_, (g0, g1, g4), rfl, ⟨(show chQ l9 f1 f2 f3 f4 f5 (VALW l9 f1 f2 f3 f4 f5) n0 x1 x2 x3 ((-3) : Int32) from (Or.inr ⟨⟨⟨(by omega), (by omega), (by omega)⟩, (by rw [hkc]; decide)⟩, Or.inl ⟨(by omega), (by decide +kernel)⟩⟩)), hst⟩, by rw [ht]; exact hP.sub [0, 1, 2, 3, 4, 5, 6, 7, 8, 9, 10, 11] rfl, hD.sub [0, 1, 2, 3, 4, 5, 6, 7, 8, 9, 10, 11] (by decide +kernel) rfl⟩, hS.F ht⟩) hS.2.2 dX12_chosen_66
        · refine lv_bipush (v := (-2)) hx hb dX12_chosen_48 (by decide +kernel) ?_
          exact W.iret hx hb hr (fun t ht hW => ⟨⟨_, (g0, g1, g4), rfl, ⟨(show chQ l9 f1 f2 f3 f4 f5 (VALW l9 f1 f2 f3 f4 f5) n0 x1 x2 x3 ((-2) : Int32) from (Or.inl ⟨(fun h9 => by obtain ⟨_, h4⟩ := h9; rcases h4 with h4 | h4 <;> first | exact c_6 (congrArg (fun K9 => some (ad K9)) h4) | exact c_14 (congrArg (fun K9 => some (ad K9)) h4)), (by decide +kernel)⟩)), hst⟩, by rw [ht]; exact hP.sub [0, 1, 2, 3, 4, 5, 6, 7, 8, 9, 10, 11] rfl, hD.sub [0, 1, 2, 3, 4, 5, 6, 7, 8, 9, 10, 11] (by decide +kernel) rfl⟩, hS.F ht⟩) hS.2.2 dX12_chosen_50
    · refine lv_if_ne (tgt := 22) hx hb dX12_chosen_16 (by decide +kernel) (fun c9 => absurd c9 (by decide +kernel)) (fun _ => ?_)
      refine lv_bipush (v := (-2)) hx hb dX12_chosen_19 (by decide +kernel) ?_
      exact W.iret hx hb hr (fun t ht hW => ⟨⟨_, (g0, g1, g4), rfl, ⟨(show chQ l9 f1 f2 f3 f4 f5 (VALW l9 f1 f2 f3 f4 f5) n0 x1 x2 x3 ((-2) : Int32) from (Or.inl ⟨(fun h9 => by obtain ⟨⟨h1, h2, h3⟩, h4⟩ := h9; omega), (by decide +kernel)⟩)), hst⟩, by rw [ht]; exact hP.sub [0, 1, 2, 3, 4, 5, 6, 7, 8, 9, 10, 11] rfl, hD.sub [0, 1, 2, 3, 4, 5, 6, 7, 8, 9, 10, 11] (by decide +kernel) rfl⟩, hS.F ht⟩) hS.2.2 dX12_chosen_21
  · refine lv_if_eq (tgt := 19) hx hb dX12_chosen_8 (by decide +kernel) (fun _ => ?_) (fun c9 => absurd c9 (by decide +kernel))
    refine lv_bipush (v := (-2)) hx hb dX12_chosen_19 (by decide +kernel) ?_
    exact W.iret hx hb hr (fun t ht hW => ⟨⟨_, (g0, g1, g4), rfl, ⟨(show chQ l9 f1 f2 f3 f4 f5 (VALW l9 f1 f2 f3 f4 f5) n0 x1 x2 x3 ((-2) : Int32) from (Or.inl ⟨(fun h9 => by obtain ⟨⟨h1, h2, h3⟩, h4⟩ := h9; omega), (by decide +kernel)⟩)), hst⟩, by rw [ht]; exact hP.sub [0, 1, 2, 3, 4, 5, 6, 7, 8, 9, 10, 11] rfl, hD.sub [0, 1, 2, 3, 4, 5, 6, 7, 8, 9, 10, 11] (by decide +kernel) rfl⟩, hS.F ht⟩) hS.2.2 dX12_chosen_21
theorem dX12_taken_0 : decode cX12_taken 0 = .ok (.aload_n 0, 1) := by decide +kernel
theorem dX12_taken_1 : decode cX12_taken 1 = .ok (.getfield 32, 3) := by decide +kernel
theorem dX12_taken_11 : decode cX12_taken 11 = .ok (.iload_n 2, 1) := by decide +kernel
theorem dX12_taken_12 : decode cX12_taken 12 = .ok (.invokestatic 120, 3) := by decide +kernel
theorem dX12_taken_15 : decode cX12_taken 15 = .ok (.ifCond .eq 10, 3) := by decide +kernel
theorem dX12_taken_18 : decode cX12_taken 18 = .ok (.iload_n 3, 1) := by decide +kernel
theorem dX12_taken_19 : decode cX12_taken 19 = .ok (.invokestatic 116, 3) := by decide +kernel
theorem dX12_taken_22 : decode cX12_taken 22 = .ok (.ifCond .ne 6, 3) := by decide +kernel
theorem dX12_taken_25 : decode cX12_taken 25 = .ok (.bipush (-2), 2) := by decide +kernel
theorem dX12_taken_27 : decode cX12_taken 27 = .ok (.ireturn, 1) := by decide +kernel
theorem dX12_taken_28 : decode cX12_taken 28 = .ok (.aload_n 0, 1) := by decide +kernel
theorem dX12_taken_29 : decode cX12_taken 29 = .ok (.getfield 32, 3) := by decide +kernel
theorem dX12_taken_32 : decode cX12_taken 32 = .ok (.iload_n 1, 1) := by decide +kernel
theorem dX12_taken_33 : decode cX12_taken 33 = .ok (.invokevirtual 175, 3) := by decide +kernel
theorem dX12_taken_36 : decode cX12_taken 36 = .ok (.getstatic 241, 3) := by decide +kernel
theorem dX12_taken_39 : decode cX12_taken 39 = .ok (.if_acmp .eq 6, 3) := by decide +kernel
theorem dX12_taken_4 : decode cX12_taken 4 = .ok (.iload_n 1, 1) := by decide +kernel
theorem dX12_taken_42 : decode cX12_taken 42 = .ok (.bipush (-2), 2) := by decide +kernel
theorem dX12_taken_44 : decode cX12_taken 44 = .ok (.ireturn, 1) := by decide +kernel
theorem dX12_taken_45 : decode cX12_taken 45 = .ok (.iload_n 2, 1) := by decide +kernel
theorem dX12_taken_46 : decode cX12_taken 46 = .ok (.aload_n 0, 1) := by decide +kernel
theorem dX12_taken_47 : decode cX12_taken 47 = .ok (.getfield 32, 3) := by decide +kernel
theorem dX12_taken_5 : decode cX12_taken 5 = .ok (.invokevirtual 150, 3) := by decide +kernel
theorem dX12_taken_50 : decode cX12_taken 50 = .ok (.getfield 166, 3) := by decide +kernel
theorem dX12_taken_53 : decode cX12_taken 53 = .ok (.iload_n 1, 1) := by decide +kernel
theorem dX12_taken_54 : decode cX12_taken 54 = .ok (.iaload, 1) := by decide +kernel
theorem dX12_taken_55 : decode cX12_taken 55 = .ok (.if_icmp .le 6, 3) := by decide +kernel
theorem dX12_taken_58 : decode cX12_taken 58 = .ok (.bipush (-3), 2) := by decide +kernel
theorem dX12_taken_60 : decode cX12_taken 60 = .ok (.ireturn, 1) := by decide +kernel
theorem dX12_taken_61 : decode cX12_taken 61 = .ok (.aload_n 0, 1) := by decide +kernel
theorem dX12_taken_62 : decode cX12_taken 62 = .ok (.getfield 43, 3) := by decide +kernel
theorem dX12_taken_65 : decode cX12_taken 65 = .ok (.iload_n 1, 1) := by decide +kernel
theorem dX12_taken_66 : decode cX12_taken 66 = .ok (.iload_n 2, 1) := by decide +kernel
theorem dX12_taken_67 : decode cX12_taken 67 = .ok (.iload_n 3, 1) := by decide +kernel
theorem dX12_taken_68 : decode cX12_taken 68 = .ok (.invokevirtual 244, 3) := by decide +kernel
theorem dX12_taken_71 : decode cX12_taken 71 = .ok (.ireturn, 1) := by decide +kernel
theorem dX12_taken_8 : decode cX12_taken 8 = .ok (.ifCond .eq 17, 3) := by decide +kernel
set_option maxRecDepth 40000 in
theorem ggX12_taken_X11_takenOn_0 : GoodIn wsX12_taken [.code yX11_takenOn cX11_takenOn 9 (some .int)] := goodIn_r _ [30] rfl (by decide +kernel)
set_option maxRecDepth 40000 in
theorem ggX12_taken_X11_takenOn_1 : GoodIn wsX12_taken wsX11_takenOn_r1 := goodIn_r _ [31, 32, 33, 34, 35, 36, 37, 38, 39, 40, 41, 42, 43, 44, 45, 46, 47, 29, 48, 49, 50, 51, 52, 53] rfl (by decide +kernel)
set_option maxRecDepth 40000 in
theorem ggX12_taken_X11_takenOn_2 : GoodIn wsX12_taken wsX11_takenOn_r2 := goodIn_r _ [54, 55, 56, 57, 58, 22, 23, 8, 24, 25, 59, 60, 61, 62, 63, 64, 65, 66, 67, 68, 69, 70, 71, 72] rfl (by decide +kernel)
set_option maxRecDepth 40000 in
theorem ggX12_taken_X11_takenOn_3 : GoodIn wsX12_taken wsX11_takenOn_r3 := goodIn_r _ [73, 74, 75, 76, 77, 78, 79, 80, 81, 82, 83, 84, 85, 86, 87, 88, 89, 90, 91, 92, 93, 94, 95, 96] rfl (by decide +kernel)
set_option maxRecDepth 40000 in
theorem ggX12_taken_X11_takenOn_4 : GoodIn wsX12_taken wsX11_takenOn_r4 := goodIn_r _ [97, 98, 99, 100, 101, 102, 103, 104, 105, 106, 107, 108, 109, 110, 111, 112, 113, 114, 115, 116, 117, 118, 119, 120] rfl (by decide +kernel)
set_option maxRecDepth 40000 in
theorem ggX12_taken_X11_takenOn_5 : GoodIn wsX12_taken wsX11_takenOn_r5 := goodIn_r _ [121, 122, 123, 124, 125, 126, 127, 128, 129, 130, 131, 132, 133, 134, 135, 136, 137, 138, 139, 140] rfl (by decide +kernel)
set_option maxRecDepth 40000 in
theorem ggX12_taken_X11_takenOn_6 : GoodIn wsX12_taken wsX110 := goodIn_r _ [160, 161, 162, 163, 164, 165] rfl (by decide +kernel)
set_option maxRecDepth 40000 in
theorem ggX12_taken_X11_takenOn_7 : GoodIn wsX12_taken wsX20 := goodIn_r _ [152, 153, 154, 155, 156, 157, 158, 159] rfl (by decide +kernel)
set_option maxRecDepth 40000 in
theorem ggX12_taken_X11_takenOn_8 : GoodIn wsX12_taken wsX80 := goodIn_r _ [166, 167, 168, 169, 170, 171, 172] rfl (by decide +kernel)
set_option maxRecDepth 40000 in
theorem ggX12_taken_X11_takenOn : GoodIn wsX12_taken wsX11_takenOn := (goodIn_app ggX12_taken_X11_takenOn_0 (goodIn_app (goodIn_app (goodIn_app (goodIn_app ggX12_taken_X11_takenOn_1 (goodIn_app ggX12_taken_X11_takenOn_2 (goodIn_app ggX12_taken_X11_takenOn_3 (goodIn_app ggX12_taken_X11_takenOn_4 ggX12_taken_X11_takenOn_5)))) ggX12_taken_X11_takenOn_6) ggX12_taken_X11_takenOn_7) ggX12_taken_X11_takenOn_8))
set_option maxRecDepth 20000 in
theorem ggX12_taken_X12_isDay : GoodIn wsX12_taken wsX12_isDay := goodIn_r _ [16, 17, 11, 12, 13] rfl (by decide +kernel)
set_option maxRecDepth 20000 in
theorem ggX12_taken_X12_isPath : GoodIn wsX12_taken wsX12_isPath := goodIn_r _ [20, 17, 11, 12, 13] rfl (by decide +kernel)
set_option maxRecDepth 20000 in
theorem ggX12_taken_X2_has : GoodIn wsX12_taken wsX2_has := goodIn_r _ [9, 10, 11, 12, 13, 152, 153, 154, 155, 156, 157, 158, 159] rfl (by decide +kernel)
set_option maxRecDepth 20000 in
theorem ggX12_taken_X2_kindOf : GoodIn wsX12_taken wsX2_kindOf := goodIn_r _ [24, 25, 152, 153, 154, 155, 156, 157, 158, 159] rfl (by decide +kernel)
set_option maxRecDepth 20000 in
theorem gX12_taken_X11_takenOn : GoodIn wsX12_taken (wsV RX12 244 RX11 yX11_takenOn wsX11_takenOn) := goodIn_app (goodIn_r _ [26, 27, 28, 29] rfl (by decide +kernel)) ggX12_taken_X11_takenOn
set_option maxRecDepth 20000 in
theorem gX12_taken_X12_isDay : GoodIn wsX12_taken (va_wsS RX12 120 yX12_isDay wsX12_isDay) := goodIn_app (goodIn_of _ (by decide +kernel)) ggX12_taken_X12_isDay
set_option maxRecDepth 20000 in
theorem gX12_taken_X12_isPath : GoodIn wsX12_taken (va_wsS RX12 116 yX12_isPath wsX12_isPath) := goodIn_app (goodIn_of _ (by decide +kernel)) ggX12_taken_X12_isPath
set_option maxRecDepth 20000 in
theorem gX12_taken_X2_has : GoodIn wsX12_taken (wsV RX12 150 RX2 yX2_has wsX2_has) := goodIn_app (goodIn_r _ [5, 6, 7, 8] rfl (by decide +kernel)) ggX12_taken_X2_has
set_option maxRecDepth 20000 in
theorem gX12_taken_X2_kindOf : GoodIn wsX12_taken (wsV RX12 175 RX2 yX2_kindOf wsX2_kindOf) := goodIn_app (goodIn_r _ [21, 22, 23, 8] rfl (by decide +kernel)) ggX12_taken_X2_kindOf
set_option maxRecDepth 20000 in
theorem in_X12_taken_X12 : ∀ w ∈ wsX120, w ∈ wsX12_taken := sub_r [141, 142, 143, 144, 145, 146, 147, 148, 149, 150, 151] rfl
set_option maxRecDepth 20000 in
theorem in_X12_taken_X2 : ∀ w ∈ wsX20, w ∈ wsX12_taken := sub_r [152, 153, 154, 155, 156, 157, 158, 159] rfl
set_option maxHeartbeats 4000000 in
set_option maxRecDepth 100000 in
theorem c_X12_taken (l : Launch) (D : va_G) (T : Nat → ClassId) (ad sa av : Nat → Nat) (ta : Nat) (sz : Nat) (h0 : Nat) (wo : Nat) (fs0 : List Value) (la : Nat) (cl : Nat) (p0 : Nat) (p1 : Nat) (p4 : Nat) (n : Int32) (l9 : Nat → Int32) (n0 : Int32) (c1 : Nat) (c2 : Nat) (c3 : Nat) (c4 : Nat) (c5 : Nat) (c6 : Nat) (c7 : Nat) (f1 : Nat → Int32) (f2 : Nat → Int32) (f3 : Nat → Int32) (f4 : Nat → Int32) (f5 : Nat → Int32) (g0 : Nat → Int64) (g1 : Nat → Int64) (g4 : Nat → Int32) (x1 : Int32) (x2 : Int32) (x3 : Int32) (e0_4 : fs0[4]? = some (.ref cl)) (e0_6 : fs0[6]? = some (.ref wo)) (hn0 : 0 ≤ n0.toInt ∧ n0.toInt ≤ 24) (hok : okC f1 f3 f4 f5) (hmm : memW (VALW l9 f1 f2 f3 f4 f5) n0 n g0 g1 g4) (hlq : (1 ≤ (l9 4).toInt ∧ (l9 4).toInt ≤ 9) ∧ 1 ≤ (l9 6).toInt ∧ (l9 6).toInt ≤ 9) : Met l yX12_taken wsX12_taken ({ frames := 69, cells := 0, slots := 0, locals := 2254 }) (pWk [.ref h0, .int x1, .int x2, .int x3] D T [(h0, .inr (9, fs0)), (wo, .inr (8, [.ref la, .ref cl, .ref p0, .ref p1, .ref p4, .int n])), (la, .inr (5, [.int (l9 0), .int (l9 1), .int (l9 2), .int (l9 3), .int (l9 4), .int (l9 5), .int (l9 6)])), (cl, .inr (1, [.int n0, .ref c1, .ref c2, .ref c3, .ref c4, .ref c5, .ref c6, .ref c7])), (c1, .inl (T 0, 24, .inl f1)), (c2, .inl (T 0, 24, .inl f2)), (c3, .inl (T 0, 24, .inl f3)), (c4, .inl (T 0, 24, .inl f4)), (c5, .inl (T 0, 24, .inl f5)), (p0, .inl (T 1, 676, .inr (.inl g0))), (p1, .inl (T 1, 676, .inr (.inl g1))), (p4, .inl (T 0, 672, .inl g4))] sz ad sa av ta) (va_Qi (fun (r : Int32) (u : (Nat → Int64) × (Nat → Int64) × (Nat → Int32)) => tkQ l9 f1 f3 f5 (VALW l9 f1 f2 f3 f4 f5) n0 x1 x2 x3 r ∧ stW (VALW l9 f1 f2 f3 f4 f5) n0 n (fun _ => True) g0 g1 g4 u.1 u.2.1 u.2.2) (bW D (va_A [(h0, .inr (9, fs0)), (wo, .inr (8, [.ref la, .ref cl, .ref p0, .ref p1, .ref p4, .int n])), (la, .inr (5, [.int (l9 0), .int (l9 1), .int (l9 2), .int (l9 3), .int (l9 4), .int (l9 5), .int (l9 6)])), (cl, .inr (1, [.int n0, .ref c1, .ref c2, .ref c3, .ref c4, .ref c5, .ref c6, .ref c7])), (c1, .inl (T 0, 24, .inl f1)), (c2, .inl (T 0, 24, .inl f2)), (c3, .inl (T 0, 24, .inl f3)), (c4, .inl (T 0, 24, .inl f4)), (c5, .inl (T 0, 24, .inl f5)), (p0, .inl (T 1, 676, .inr (.inl g0))), (p1, .inl (T 1, 676, .inr (.inl g1))), (p4, .inl (T 0, 672, .inl g4))] sz) (fun (u : (Nat → Int64) × (Nat → Int64) × (Nat → Int32)) => [(h0, .inr (9, fs0)), (wo, .inr (8, [.ref la, .ref cl, .ref p0, .ref p1, .ref p4, .int n])), (la, .inr (5, [.int (l9 0), .int (l9 1), .int (l9 2), .int (l9 3), .int (l9 4), .int (l9 5), .int (l9 6)])), (cl, .inr (1, [.int n0, .ref c1, .ref c2, .ref c3, .ref c4, .ref c5, .ref c6, .ref c7])), (c1, .inl (T 0, 24, .inl f1)), (c2, .inl (T 0, 24, .inl f2)), (c3, .inl (T 0, 24, .inl f3)), (c4, .inl (T 0, 24, .inl f4)), (c5, .inl (T 0, 24, .inl f5)), (p0, .inl (T 1, 676, .inr (.inl u.1))), (p1, .inl (T 1, 676, .inr (.inl u.2.1))), (p4, .inl (T 0, 672, .inl u.2.2))])) (va_A [(h0, .inr (9, fs0)), (wo, .inr (8, [.ref la, .ref cl, .ref p0, .ref p1, .ref p4, .int n])), (la, .inr (5, [.int (l9 0), .int (l9 1), .int (l9 2), .int (l9 3), .int (l9 4), .int (l9 5), .int (l9 6)])), (cl, .inr (1, [.int n0, .ref c1, .ref c2, .ref c3, .ref c4, .ref c5, .ref c6, .ref c7])), (c1, .inl (T 0, 24, .inl f1)), (c2, .inl (T 0, 24, .inl f2)), (c3, .inl (T 0, 24, .inl f3)), (c4, .inl (T 0, 24, .inl f4)), (c5, .inl (T 0, 24, .inl f5)), (p0, .inl (T 1, 676, .inr (.inl g0))), (p1, .inl (T 1, 676, .inr (.inl g1))), (p4, .inl (T 0, 672, .inl g4))] sz)) 0 0 (va_A [(h0, .inr (9, fs0)), (wo, .inr (8, [.ref la, .ref cl, .ref p0, .ref p1, .ref p4, .int n])), (la, .inr (5, [.int (l9 0), .int (l9 1), .int (l9 2), .int (l9 3), .int (l9 4), .int (l9 5), .int (l9 6)])), (cl, .inr (1, [.int n0, .ref c1, .ref c2, .ref c3, .ref c4, .ref c5, .ref c6, .ref c7])), (c1, .inl (T 0, 24, .inl f1)), (c2, .inl (T 0, 24, .inl f2)), (c3, .inl (T 0, 24, .inl f3)), (c4, .inl (T 0, 24, .inl f4)), (c5, .inl (T 0, 24, .inl f5)), (p0, .inl (T 1, 676, .inr (.inl g0))), (p1, .inl (T 1, 676, .inr (.inl g1))), (p4, .inl (T 0, 672, .inl g4))] sz) := by
  refine Met.ofW (cc := cX12_taken) (maxL := 4) (ret := (some .int)) (by decide +kernel) rfl ?_
  intro p e s m args below meth c s₁ B hml hv
  obtain ⟨rfl, hsz, hP, hE, hD0, hV⟩ := hv
  have hx := B.exec
  have hb := B.bytes
  have hr := B.returns
  have hts := atoms_spec (ws := wsX12_taken) B.pre
  have hown : s.vm.findClass RX12 = some m.cls := findClass_of_methodNamed B.named
  have hlocks := B.notSynchronized
  subst hsz
  have hD := hD0.self (sz := s.heap.size)
  generalize hAe : va_A [(h0, .inr (9, fs0)), (wo, .inr (8, [.ref la, .ref cl, .ref p0, .ref p1, .ref p4, .int n])), (la, .inr (5, [.int (l9 0), .int (l9 1), .int (l9 2), .int (l9 3), .int (l9 4), .int (l9 5), .int (l9 6)])), (cl, .inr (1, [.int n0, .ref c1, .ref c2, .ref c3, .ref c4, .ref c5, .ref c6, .ref c7])), (c1, .inl (T 0, 24, .inl f1)), (c2, .inl (T 0, 24, .inl f2)), (c3, .inl (T 0, 24, .inl f3)), (c4, .inl (T 0, 24, .inl f4)), (c5, .inl (T 0, 24, .inl f5)), (p0, .inl (T 1, 676, .inr (.inl g0))), (p1, .inl (T 1, 676, .inr (.inl g1))), (p4, .inl (T 0, 672, .inl g4))] s.heap.size = A at hD hV ⊢
  have hA : ∀ q : Nat, s.heap.size ≤ q → A q := fun q h => by rw [← hAe]; exact Or.inr h
  have hS : va_S A s.heap s.heap [] := va_S.rf
  have hP : va_P D vwCl [(h0, .inr (9, fs0)), (wo, .inr (8, [.ref la, .ref cl, .ref p0, .ref p1, .ref p4, .int n])), (la, .inr (5, [.int (l9 0), .int (l9 1), .int (l9 2), .int (l9 3), .int (l9 4), .int (l9 5), .int (l9 6)])), (cl, .inr (1, [.int n0, .ref c1, .ref c2, .ref c3, .ref c4, .ref c5, .ref c6, .ref c7])), (c1, .inl (T 0, 24, .inl f1)), (c2, .inl (T 0, 24, .inl f2)), (c3, .inl (T 0, 24, .inl f3)), (c4, .inl (T 0, 24, .inl f4)), (c5, .inl (T 0, 24, .inl f5)), (p0, .inl (T 1, 676, .inr (.inl g0))), (p1, .inl (T 1, 676, .inr (.inl g1))), (p4, .inl (T 0, 672, .inl g4))] s.heap := hP
  have hl := lv_entry ([.ref h0, .int x1, .int x2, .int x3]) (n := 4) (Nat.le_of_ble_eq_true rfl)
  rw [lg_entry_eq]
  generalize (lg_sl ([.ref h0, .int x1, .int x2, .int x3]) ++ List.replicate (4 - (lg_sl ([.ref h0, .int x1, .int x2, .int x3])).length) Slot.unset).toArray = ls at hl ⊢
  have hl : lv_has ls 4 [(0, .ref h0), (1, .int x1), (2, .int x2), (3, .int x3)] := hl
  clear hD0
  have hst : stW (VALW l9 f1 f2 f3 f4 f5) n0 n (fun _ => True) g0 g1 g4 g0 g1 g4 := stW_rf hmm
  refine lv_aload_n hx hb dX12_taken_0 rfl (lv_at hl 0 rfl) ?_
  refine va_get (D := D) (ci := 9) (v := .ref cl) (C := RX12) (T := TX12) (N := 11) hx hb hts in_X12_taken_X12 hown hE.1 hP 0 rfl rfl 4 (by decide +kernel) (hts (.fieldLink RX12 32 "ClauseBook" "clauses" "LClauseBook$Clauses;") (List.mem_of_getElem? (i := 1) rfl)) (fun _ h9 => h9) e0_4 dX12_taken_1 ?_
  refine lv_iload_n hx hb dX12_taken_4 rfl (lv_at hl 1 rfl) ?_
  refine vp_callSi (W.runV (As := [.int x1]) (rest := []) ⟨hx, hb, hml, hown, hts⟩ (c_X2_has l D T cl [.int n0, .ref c1, .ref c2, .ref c3, .ref c4, .ref c5, .ref c6, .ref c7] x1 n0 rfl (by omega)) (cwV 1 hts gX12_taken_X2_has rfl rfl rfl hv_X2_has ⟨Nat.le_of_ble_eq_true rfl, Nat.le_of_ble_eq_true rfl⟩) (pR_V (q := (RX2, TX2, 8)) (ci := 1) (q0 := 3) hP hE rfl rfl [3] rfl) rfl rfl hl.1 rfl (lv_room (Nat.le_of_ble_eq_true rfl)) dX12_taken_5 ⟨Nat.le_of_ble_eq_true rfl, Nat.le_of_ble_eq_true rfl⟩) (fun r_1 hr_1 => ?_)
  rcases bool_post hr_1 with ⟨c_2, rfl⟩ | ⟨c_2, rfl⟩
  · refine lv_if_eq (tgt := 25) hx hb dX12_taken_8 (by decide +kernel) (fun c9 => absurd c9 (by decide +kernel)) (fun _ => ?_)
    refine lv_iload_n hx hb dX12_taken_11 rfl (lv_at hl 2 rfl) ?_
    refine vp_callSi (W.runS (As := [.int x2]) (rest := []) ⟨hx, hb, hml, hown, hts⟩ (c_X12_isDay l D T x2) (va_cwS 1 hts gX12_taken_X12_isDay rfl rfl rfl hs_X12_isDay ⟨Nat.le_of_ble_eq_true rfl, Nat.le_of_ble_eq_true rfl⟩) (pR_S hP hE [] rfl) rfl rfl hl.1 rfl (lv_room (Nat.le_of_ble_eq_true rfl)) dX12_taken_12 ⟨Nat.le_of_ble_eq_true rfl, Nat.le_of_ble_eq_true rfl⟩) (fun r_3 hr_3 => ?_)
    rcases bool_post hr_3 with ⟨c_4, rfl⟩ | ⟨c_4, rfl⟩
    · refine lv_if_eq (tgt := 25) hx hb dX12_taken_15 (by decide +kernel) (fun c9 => absurd c9 (by decide +kernel)) (fun _ => ?_)
      refine lv_iload_n hx hb dX12_taken_18 rfl (lv_at hl 3 rfl) ?_
      refine vp_callSi (W.runS (As := [.int x3]) (rest := []) ⟨hx, hb, hml, hown, hts⟩ (c_X12_isPath l D T x3) (va_cwS 1 hts gX12_taken_X12_isPath rfl rfl rfl hs_X12_isPath ⟨Nat.le_of_ble_eq_true rfl, Nat.le_of_ble_eq_true rfl⟩) (pR_S hP hE [] rfl) rfl rfl hl.1 rfl (lv_room (Nat.le_of_ble_eq_true rfl)) dX12_taken_19 ⟨Nat.le_of_ble_eq_true rfl, Nat.le_of_ble_eq_true rfl⟩) (fun r_5 hr_5 => ?_)
      rcases bool_post hr_5 with ⟨c_6, rfl⟩ | ⟨c_6, rfl⟩
      · refine lv_if_ne (tgt := 28) hx hb dX12_taken_22 (by decide +kernel) (fun _ => ?_) (fun c9 => absurd c9 (by decide +kernel))
        refine lv_aload_n hx hb dX12_taken_28 rfl (lv_at hl 0 rfl) ?_
        refine va_get (D := D) (ci := 9) (v := .ref cl) (C := RX12) (T := TX12) (N := 11) hx hb hts in_X12_taken_X12 hown hE.1 hP 0 rfl rfl 4 (by decide +kernel) (hts (.fieldLink RX12 32 "ClauseBook" "clauses" "LClauseBook$Clauses;") (List.mem_of_getElem? (i := 1) rfl)) (fun _ h9 => h9) e0_4 dX12_taken_29 ?_
        refine lv_iload_n hx hb dX12_taken_32 rfl (lv_at hl 1 rfl) ?_
        refine va_cse (W.runV (As := [.int x1]) (rest := []) ⟨hx, hb, hml, hown, hts⟩ (c_X2_kindOf l D T ad sa av ta cl [.int n0, .ref c1, .ref c2, .ref c3, .ref c4, .ref c5, .ref c6, .ref c7] c1 f1 x1 rfl (by omega) ((hok _ (in24 (x := x1) (by omega)).1).1)) (cwV 1 hts gX12_taken_X2_kindOf rfl rfl rfl hv_X2_kindOf ⟨Nat.le_of_ble_eq_true rfl, Nat.le_of_ble_eq_true rfl⟩) (pRk_V (q := (RX2, TX2, 8)) (ci := 1) (q0 := 3) hP hE hV hS rfl rfl [3, 4] rfl) rfl rfl hl.1 rfl (lv_room (Nat.le_of_ble_eq_true rfl)) dX12_taken_33 ⟨Nat.le_of_ble_eq_true rfl, Nat.le_of_ble_eq_true rfl⟩) (fun r_7 hr_7 => ?_)
        subst hr_7
        refine W.eq (g2 := F0 m 36 ls [.ref (ad ((f1 (x1.toNatClampNeg)).toNatClampNeg))]) rfl ?_
        refine va_gets (v := .ref (ad 11)) hx hb (hV.1.1.1 11 (by decide +kernel)).1 hS hown (hts (.fieldLink RX12 241 "ClauseBook$Kind" "FREE" "LClauseBook$Kind;") (List.mem_of_getElem? (i := 2) rfl)) (fun _ h9 => h9) dX12_taken_36 ?_
        refine lv_acmp_eq (rx := some (ad ((f1 (x1.toNatClampNeg)).toNatClampNeg))) (ry := some (ad 11)) (tgt := 45) hx hb dX12_taken_39 (by decide +kernel) (fun c_8 => ?_) (fun c_8 => ?_)
        · have hkc : ((f1 (x1.toNatClampNeg)).toNatClampNeg) = 11 := (hV.1.1.2 _ 11 (in13c ((hok _ (in24 (x := x1) (by omega)).1).1)) (by decide +kernel) (Option.some.inj c_8))
          refine lv_iload_n hx hb dX12_taken_45 rfl (lv_at hl 2 rfl) ?_
          refine lv_aload_n hx hb dX12_taken_46 rfl (lv_at hl 0 rfl) ?_
          refine va_get (D := D) (ci := 9) (v := .ref cl) (C := RX12) (T := TX12) (N := 11) hx hb hts in_X12_taken_X12 hown hE.1 hP 0 rfl rfl 4 (by decide +kernel) (hts (.fieldLink RX12 32 "ClauseBook" "clauses" "LClauseBook$Clauses;") (List.mem_of_getElem? (i := 1) rfl)) (fun _ h9 => h9) e0_4 dX12_taken_47 ?_
          refine va_get (D := D) (ci := 1) (v := .ref c5) (C := RX2) (T := TX2) (N := 8) hx hb hts in_X12_taken_X2 hown hE.1 hP 3 rfl rfl 5 (by decide +kernel) (hts (.fieldLink RX12 166 "ClauseBook$Clauses" "end" "[I") (List.mem_of_getElem? (i := 3) rfl)) (fun _ h9 => h9) rfl dX12_taken_50 ?_
          refine lv_iload_n hx hb dX12_taken_53 rfl (lv_at hl 1 rfl) ?_
          refine va_iald hx hb hE.1 hP 8 0 rfl rfl (by rw [vp_in_iff]; first | omega | (subst_vars; omega)) dX12_taken_54 ?_
          refine lv_topi (fun z_9 ez_9 => ?_)
          have hzz_9 : z_9.toInt = (f5 (x1.toNatClampNeg)).toInt := by rw [ez_9]
          refine lv_icmp_le (tgt := 61) hx hb dX12_taken_55 (by decide +kernel) (fun c_10 => ?_) (fun c_10 => ?_)
          · rw [fa_le] at c_10
            refine lv_aload_n hx hb dX12_taken_61 rfl (lv_at hl 0 rfl) ?_
            refine va_get (D := D) (ci := 9) (v := .ref wo) (C := RX12) (T := TX12) (N := 11) hx hb hts in_X12_taken_X12 hown hE.1 hP 0 rfl rfl 6 (by decide +kernel) (hts (.fieldLink RX12 43 "ClauseBook" "worth" "LClauseBook$Worth;") (List.mem_of_getElem? (i := 4) rfl)) (fun _ h9 => h9) e0_6 dX12_taken_62 ?_
            refine lv_iload_n hx hb dX12_taken_65 rfl (lv_at hl 1 rfl) ?_
            refine lv_iload_n hx hb dX12_taken_66 rfl (lv_at hl 2 rfl) ?_
            refine lv_iload_n hx hb dX12_taken_67 rfl (lv_at hl 3 rfl) ?_
            have hFc := va_free (wc := [(wo, .inr (8, [.ref la, .ref cl, .ref p0, .ref p1, .ref p4, .int n])), (la, .inr (5, [.int (l9 0), .int (l9 1), .int (l9 2), .int (l9 3), .int (l9 4), .int (l9 5), .int (l9 6)])), (cl, .inr (1, [.int n0, .ref c1, .ref c2, .ref c3, .ref c4, .ref c5, .ref c6, .ref c7])), (c1, .inl (T 0, 24, .inl f1)), (c2, .inl (T 0, 24, .inl f2)), (c3, .inl (T 0, 24, .inl f3)), (c4, .inl (T 0, 24, .inl f4)), (c5, .inl (T 0, 24, .inl f5)), (p0, .inl (T 1, 676, .inr (.inl g0))), (p1, .inl (T 1, 676, .inr (.inl g1))), (p4, .inl (T 0, 672, .inl g4))]) hD hS hA [1, 2, 3, 4, 5, 6, 7, 8, 9, 10, 11] rfl
            refine va_calli (va_runV (As := [.int x1, .int x2, .int x3]) (rest := []) ⟨hx, hb, hml, hown, hts⟩ (c_X11_takenOn l D T ad sa av ta _ wo la cl p0 p1 p4 n l9 n0 c1 c2 c3 c4 c5 c6 c7 f1 f2 f3 f4 f5 g0 g1 g4 x1 x2 x3 (by omega) (by omega) (by omega) hok hkc (by omega) (by omega) hmm hlq) (cwV 3 hts gX12_taken_X11_takenOn rfl rfl rfl hv_X11_takenOn ⟨Nat.le_of_ble_eq_true rfl, Nat.le_of_ble_eq_true rfl⟩) (pWk_V (q := (RX11, TX11, 6)) (ci := 8) (q0 := 1) hP hE hD hV hS hFc rfl rfl [1, 2, 3, 4, 5, 6, 7, 8, 9, 10, 11] (by decide +kernel) rfl rfl) rfl rfl hl.1 rfl (lv_room (Nat.le_of_ble_eq_true rfl)) dX12_taken_68 ⟨Nat.le_of_ble_eq_true rfl, Nat.le_of_ble_eq_true rfl⟩) hS (fun q _ h => hFc q h) hFc (fun r_11 u_12 t H1 locs ht hvm hr_11 hB hz1 hk1 hS => ?_)
            obtain ⟨f_13, f_14, f_15⟩ := u_12
            obtain ⟨hqr_11, htk_r_11, hstr_11⟩ := hr_11
            have hqr_11 : r_11.toInt = -5 ∨ (0 ≤ r_11.toInt ∧ r_11.toInt ≤ 6) := hqr_11
            have htk_r_11 : takQ l9 f3 (VALW l9 f1 f2 f3 f4 f5) (f5 (x1.toNatClampNeg)).toInt x1 x3 x2 r_11 := htk_r_11
            have hsr_11 : stW (VALW l9 f1 f2 f3 f4 f5) n0 n (fun _ => True) g0 g1 g4 f_13 f_14 f_15 := hstr_11
            have hst : stW (VALW l9 f1 f2 f3 f4 f5) n0 n (fun _ => True) g0 g1 g4 f_13 f_14 f_15 := hst.tr hsr_11 (fun _ _ => trivial)
            have hmm : memW (VALW l9 f1 f2 f3 f4 f5) n0 n f_13 f_14 f_15 := hst.1
            obtain ⟨hP1, hD1⟩ := hB
            rw [ht] at hP1
            obtain ⟨hP, hD⟩ := va_repl [(h0, .inr (9, fs0)), (wo, .inr (8, [.ref la, .ref cl, .ref p0, .ref p1, .ref p4, .int n])), (la, .inr (5, [.int (l9 0), .int (l9 1), .int (l9 2), .int (l9 3), .int (l9 4), .int (l9 5), .int (l9 6)])), (cl, .inr (1, [.int n0, .ref c1, .ref c2, .ref c3, .ref c4, .ref c5, .ref c6, .ref c7])), (c1, .inl (T 0, 24, .inl f1)), (c2, .inl (T 0, 24, .inl f2)), (c3, .inl (T 0, 24, .inl f3)), (c4, .inl (T 0, 24, .inl f4)), (c5, .inl (T 0, 24, .inl f5)), (p0, .inl (T 1, 676, .inr (.inl f_13))), (p1, .inl (T 1, 676, .inr (.inl f_14))), (p4, .inl (T 0, 672, .inl f_15))] hP hD [1, 2, 3, 4, 5, 6, 7, 8, 9, 10, 11] [1, 2, 3, 4, 5, 6, 7, 8, 9, 10, 11] rfl (by decide +kernel) rfl rfl rfl hk1 hP1
            clear hP1 hD1 hFc
            generalize H1 = H at hP hS ⊢
            exact W.iret hx hb hr (fun t ht hW => ⟨⟨_, (f_13, f_14, f_15), rfl, ⟨(show tkQ l9 f1 f3 f5 (VALW l9 f1 f2 f3 f4 f5) n0 x1 x2 x3 r_11 from (Or.inr ⟨⟨⟨(by omega), (by omega), (by omega)⟩, hkc⟩, Or.inr ⟨(by omega), htk_r_11⟩⟩)), hst⟩, by rw [ht]; exact hP.sub [0, 1, 2, 3, 4, 5, 6, 7, 8, 9, 10, 11] rfl, hD.sub [0, 1, 2, 3, 4, 5, 6, 7, 8, 9, 10, 11] (by decide +kernel) rfl⟩, hS.F ht⟩) hS.2.2 dX12_taken_71
          · rw [fa_le] at c_10
            refine lv_bipush (v := (-3)) hx hb dX12_taken_58 (by decide +kernel) ?_
            exact W.iret hx hb hr (fun t ht hW => ⟨⟨_, (g0, g1, g4), rfl, ⟨(show tkQ l9 f1 f3 f5 (VALW l9 f1 f2 f3 f4 f5) n0 x1 x2 x3 ((-3) : Int32) from (Or.inr ⟨⟨⟨(by omega), (by omega), (by omega)⟩, hkc⟩, Or.inl ⟨(by omega), (by decide +kernel)⟩⟩)), hst⟩, by rw [ht]; exact hP.sub [0, 1, 2, 3, 4, 5, 6, 7, 8, 9, 10, 11] rfl, hD.sub [0, 1, 2, 3, 4, 5, 6, 7, 8, 9, 10, 11] (by decide +kernel) rfl⟩, hS.F ht⟩) hS.2.2 dX12_taken_60
        · refine lv_bipush (v := (-2)) hx hb dX12_taken_42 (by decide +kernel) ?_
          exact W.iret hx hb hr (fun t ht hW => ⟨⟨_, (g0, g1, g4), rfl, ⟨(show tkQ l9 f1 f3 f5 (VALW l9 f1 f2 f3 f4 f5) n0 x1 x2 x3 ((-2) : Int32) from (Or.inl ⟨(fun h9 => by obtain ⟨_, h4⟩ := h9; first | exact c_8 (congrArg (fun K9 => some (ad K9)) h4)), (by decide +kernel)⟩)), hst⟩, by rw [ht]; exact hP.sub [0, 1, 2, 3, 4, 5, 6, 7, 8, 9, 10, 11] rfl, hD.sub [0, 1, 2, 3, 4, 5, 6, 7, 8, 9, 10, 11] (by decide +kernel) rfl⟩, hS.F ht⟩) hS.2.2 dX12_taken_44
      · refine lv_if_ne (tgt := 28) hx hb dX12_taken_22 (by decide +kernel) (fun c9 => absurd c9 (by decide +kernel)) (fun _ => ?_)
        refine lv_bipush (v := (-2)) hx hb dX12_taken_25 (by decide +kernel) ?_
        exact W.iret hx hb hr (fun t ht hW => ⟨⟨_, (g0, g1, g4), rfl, ⟨(show tkQ l9 f1 f3 f5 (VALW l9 f1 f2 f3 f4 f5) n0 x1 x2 x3 ((-2) : Int32) from (Or.inl ⟨(fun h9 => by obtain ⟨⟨h1, h2, h3⟩, h4⟩ := h9; omega), (by decide +kernel)⟩)), hst⟩, by rw [ht]; exact hP.sub [0, 1, 2, 3, 4, 5, 6, 7, 8, 9, 10, 11] rfl, hD.sub [0, 1, 2, 3, 4, 5, 6, 7, 8, 9, 10, 11] (by decide +kernel) rfl⟩, hS.F ht⟩) hS.2.2 dX12_taken_27
    · refine lv_if_eq (tgt := 25) hx hb dX12_taken_15 (by decide +kernel) (fun _ => ?_) (fun c9 => absurd c9 (by decide +kernel))
      refine lv_bipush (v := (-2)) hx hb dX12_taken_25 (by decide +kernel) ?_
      exact W.iret hx hb hr (fun t ht hW => ⟨⟨_, (g0, g1, g4), rfl, ⟨(show tkQ l9 f1 f3 f5 (VALW l9 f1 f2 f3 f4 f5) n0 x1 x2 x3 ((-2) : Int32) from (Or.inl ⟨(fun h9 => by obtain ⟨⟨h1, h2, h3⟩, h4⟩ := h9; omega), (by decide +kernel)⟩)), hst⟩, by rw [ht]; exact hP.sub [0, 1, 2, 3, 4, 5, 6, 7, 8, 9, 10, 11] rfl, hD.sub [0, 1, 2, 3, 4, 5, 6, 7, 8, 9, 10, 11] (by decide +kernel) rfl⟩, hS.F ht⟩) hS.2.2 dX12_taken_27
  · refine lv_if_eq (tgt := 25) hx hb dX12_taken_8 (by decide +kernel) (fun _ => ?_) (fun c9 => absurd c9 (by decide +kernel))
    refine lv_bipush (v := (-2)) hx hb dX12_taken_25 (by decide +kernel) ?_
    exact W.iret hx hb hr (fun t ht hW => ⟨⟨_, (g0, g1, g4), rfl, ⟨(show tkQ l9 f1 f3 f5 (VALW l9 f1 f2 f3 f4 f5) n0 x1 x2 x3 ((-2) : Int32) from (Or.inl ⟨(fun h9 => by obtain ⟨⟨h1, h2, h3⟩, h4⟩ := h9; omega), (by decide +kernel)⟩)), hst⟩, by rw [ht]; exact hP.sub [0, 1, 2, 3, 4, 5, 6, 7, 8, 9, 10, 11] rfl, hD.sub [0, 1, 2, 3, 4, 5, 6, 7, 8, 9, 10, 11] (by decide +kernel) rfl⟩, hS.F ht⟩) hS.2.2 dX12_taken_27
